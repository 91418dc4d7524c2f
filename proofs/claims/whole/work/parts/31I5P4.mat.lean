set_option maxRecDepth 100000 in
set_option maxHeartbeats 4000000 in
theorem z_PW_match {X : ab_X} {d : Nat} {o : Nat → Nat} {G : ab_G} {w_ : Nat} {f_ready : Nat} {f_tape : Nat} {f_reader : Nat} {f_programs : Nat} {f_subject : Nat} {f_spans : Nat} {f_threads : Nat} {f_marks : Nat} {f_oneMind : Nat} {f_states : Nat} {f_latest : Nat} {f_matches : Nat} {f_pieces : Nat} {f_template : Nat} {f_result : Nat} {f_spare : Nat} {cmp : Int} {ovs : Int} {sb : Int} {PG : Nat → Option Nat} {NR : Nat → Nat} {cv : Int → Int} {on : Nat} {nm : Nat} {ns : Nat} {nt : Nat} {n : Int} {m : Nat} {SP : Int → Int} {f : Int → Int} {LA : Int → Int} {sl : Int} {hw : Int} {mch : Int} {p : Int} {k_ : Nat} (hw_ : cc o G w_ 18 (ab_ob 0 [vR f_ready, vR f_tape, vR f_reader, vR f_programs, vR f_subject, vR f_spans, vR f_threads, vR f_marks, vR f_oneMind, vR f_states, vR f_latest, vR f_matches, vR f_pieces, vR f_template, vR f_result, vR f_spare, vz cmp, vz ovs])) (hf_spans : cc o G f_spans 31 (za 20 SP)) (h17 : cc o G 17 17 (za 12 zFC)) (hf_latest : cc o G f_latest 70 (za 20 LA)) (hf_programs : cc o G f_programs 81 (ab_rr 6 PG)) (pthI_f_threads : thI o G f_threads 0) (pmkI_f_marks : mkI o G f_marks nm ns 0) (pomI_f_oneMind : omI o G f_oneMind on nt 0) (pstI_f_states : stI o G f_states cv cmp 0 sb) (psuI_f_subject : suI o G f_subject n m f) (ppgI_0 : pgI o G 0 PG NR cv cmp on) (n18 : ab_n0 = 18) (hkq : kq6 sl k_) (cr : -2147483648 ≤ sl ∧ sl ≤ 2147483647 ∧ -2147483648 ≤ hw ∧ hw ≤ 2147483647 ∧ -2147483648 ≤ mch ∧ mch ≤ 2147483647 ∧ -2147483648 ≤ p ∧ p ≤ 2147483647) (jsp : rgs SP 20 (-1) 2000) (rc : 64 * G.length + 4600000 ≤ 64 * (ab_n0 + room_1.cells) + (64 * nm + 64 * stC ns + nt + onPQ on)) (rs : ab_slots G + 2360000 ≤ room_1.slots + (zT nm 52026 + stT ns + 2 * nt + onSQ on)) (csb9 : 0 ≤ sb ∧ sb ≤ 1000000000) (hd : 16 ≤ d) : ab_F X d y_PW_match (.code y_PW_match b_PW_match 7 (some (.int))) [vR w_, vz sl, vz hw, vz mch, vz p] G (fun oc G2 => (∃ o2 : Nat → Nat, ∃ b : Nat, oc = .threw b ∧ fx o o2 [18, 70, 31, 32, 33, 35, 36, 37, 38, 39, 40, 44, 45, 46, 47, 50, 51, 52, 53, 54, 55, 56, 57, 60, 61, 62, 63, 64, 65, 66, 67, 68, (100 + 10 * k_)] G G2 ∧ cc o2 G2 w_ 18 (ab_ob 0 [vR f_ready, vR f_tape, vR f_reader, vR f_programs, vR f_subject, vR f_spans, vR f_threads, vR f_marks, vR f_oneMind, vR f_states, vR f_latest, vR f_matches, vR f_pieces, vR f_template, vR f_result, vR f_spare, vz cmp, vz ovs]) ∧ cc o2 G2 f_spans 31 (za 20 SP) ∧ cc o2 G2 f_latest 70 (za 20 LA) ∧ thI o2 G2 f_threads 0 ∧ mkI o2 G2 f_marks nm ns 0 ∧ omI o2 G2 f_oneMind on nt 0 ∧ stI o2 G2 f_states cv cmp 0 sb ∧ suI o2 G2 f_subject n m f ∧ pgI o2 G2 0 PG NR cv cmp on ∧ (G2[b]? = some (.inr (13, []))) ∧ (G2.length = G.length + 1) ∧ (ab_slots G2 = ab_slots G + 6) ∧ (mtT PG sl n hw mch p)) ∨ (∃ o2 : Nat → Nat, ∃ nm2 : Nat, ∃ ns2 : Nat, ∃ on2 : Nat, ∃ nt2 : Nat, ∃ SP2 : Int → Int, ∃ LA2 : Int → Int, ∃ r : Int, ∃ sb2 : Int, oc = .returned (some (vz r)) ∧ fx o o2 [18, 70, 31, 32, 33, 35, 36, 37, 38, 39, 40, 44, 45, 46, 47, 50, 51, 52, 53, 54, 55, 56, 57, 60, 61, 62, 63, 64, 65, 66, 67, 68, (100 + 10 * k_)] G G2 ∧ cc o2 G2 w_ 18 (ab_ob 0 [vR f_ready, vR f_tape, vR f_reader, vR f_programs, vR f_subject, vR f_spans, vR f_threads, vR f_marks, vR f_oneMind, vR f_states, vR f_latest, vR f_matches, vR f_pieces, vR f_template, vR f_result, vR f_spare, vz cmp, vz ovs]) ∧ cc o2 G2 f_spans 31 (za 20 SP2) ∧ cc o2 G2 f_latest 70 (za 20 LA2) ∧ thI o2 G2 f_threads 0 ∧ mkI o2 G2 f_marks nm2 ns2 0 ∧ omI o2 G2 f_oneMind on2 nt2 0 ∧ stI o2 G2 f_states cv cmp 0 sb2 ∧ suI o2 G2 f_subject n m f ∧ pgI o2 G2 0 PG NR cv cmp on2 ∧ (mtP PG cv sl f n hw mch p r LA2) ∧ (sb ≤ sb2 ∧ sb2 ≤ sb + 2003) ∧ (rgs SP2 20 (-1) 2000) ∧ (64 * G2.length + (64 * nm + 64 * stC ns + nt + onPQ on) ≤ 64 * G.length + (64 * nm2 + 64 * stC ns2 + nt2 + onPQ on2)) ∧ (ab_slots G2 + (zT nm 52026 + stT ns + 2 * nt + onSQ on) ≤ ab_slots G + (zT nm2 52026 + stT ns2 + 2 * nt2 + onSQ on2)) ∧ (onL on on2))) := by
  refine ab_F_of (by decide +kernel) (Nat.le_of_ble_eq_true rfl) ?_
  obtain ⟨Q, hQ⟩ : ∃ z : Outcome → ab_G → Prop, z = (fun oc G2 => (∃ o2 : Nat → Nat, ∃ b : Nat, oc = .threw b ∧ fx o o2 [18, 70, 31, 32, 33, 35, 36, 37, 38, 39, 40, 44, 45, 46, 47, 50, 51, 52, 53, 54, 55, 56, 57, 60, 61, 62, 63, 64, 65, 66, 67, 68, (100 + 10 * k_)] G G2 ∧ cc o2 G2 w_ 18 (ab_ob 0 [vR f_ready, vR f_tape, vR f_reader, vR f_programs, vR f_subject, vR f_spans, vR f_threads, vR f_marks, vR f_oneMind, vR f_states, vR f_latest, vR f_matches, vR f_pieces, vR f_template, vR f_result, vR f_spare, vz cmp, vz ovs]) ∧ cc o2 G2 f_spans 31 (za 20 SP) ∧ cc o2 G2 f_latest 70 (za 20 LA) ∧ thI o2 G2 f_threads 0 ∧ mkI o2 G2 f_marks nm ns 0 ∧ omI o2 G2 f_oneMind on nt 0 ∧ stI o2 G2 f_states cv cmp 0 sb ∧ suI o2 G2 f_subject n m f ∧ pgI o2 G2 0 PG NR cv cmp on ∧ (G2[b]? = some (.inr (13, []))) ∧ (G2.length = G.length + 1) ∧ (ab_slots G2 = ab_slots G + 6) ∧ (mtT PG sl n hw mch p)) ∨ (∃ o2 : Nat → Nat, ∃ nm2 : Nat, ∃ ns2 : Nat, ∃ on2 : Nat, ∃ nt2 : Nat, ∃ SP2 : Int → Int, ∃ LA2 : Int → Int, ∃ r : Int, ∃ sb2 : Int, oc = .returned (some (vz r)) ∧ fx o o2 [18, 70, 31, 32, 33, 35, 36, 37, 38, 39, 40, 44, 45, 46, 47, 50, 51, 52, 53, 54, 55, 56, 57, 60, 61, 62, 63, 64, 65, 66, 67, 68, (100 + 10 * k_)] G G2 ∧ cc o2 G2 w_ 18 (ab_ob 0 [vR f_ready, vR f_tape, vR f_reader, vR f_programs, vR f_subject, vR f_spans, vR f_threads, vR f_marks, vR f_oneMind, vR f_states, vR f_latest, vR f_matches, vR f_pieces, vR f_template, vR f_result, vR f_spare, vz cmp, vz ovs]) ∧ cc o2 G2 f_spans 31 (za 20 SP2) ∧ cc o2 G2 f_latest 70 (za 20 LA2) ∧ thI o2 G2 f_threads 0 ∧ mkI o2 G2 f_marks nm2 ns2 0 ∧ omI o2 G2 f_oneMind on2 nt2 0 ∧ stI o2 G2 f_states cv cmp 0 sb2 ∧ suI o2 G2 f_subject n m f ∧ pgI o2 G2 0 PG NR cv cmp on2 ∧ (mtP PG cv sl f n hw mch p r LA2) ∧ (sb ≤ sb2 ∧ sb2 ≤ sb + 2003) ∧ (rgs SP2 20 (-1) 2000) ∧ (64 * G2.length + (64 * nm + 64 * stC ns + nt + onPQ on) ≤ 64 * G.length + (64 * nm2 + 64 * stC ns2 + nt2 + onPQ on2)) ∧ (ab_slots G2 + (zT nm 52026 + stT ns + 2 * nt + onSQ on) ≤ ab_slots G + (zT nm2 52026 + stT ns2 + 2 * nt2 + onSQ on2)) ∧ (onL on on2))) := ⟨_, rfl⟩
  rw [← hQ]
  change ab_W X (ab_pl y_PW_match b_PW_match 7 (some (.int))) d G 0 [some (vR w_), some (vz sl), some (vz hw), some (vz mch), some (vz p), none, none] [] Q
  have hfr : fx o o [18, 70, 31, 32, 33, 35, 36, 37, 38, 39, 40, 44, 45, 46, 47, 50, 51, 52, 53, 54, 55, 56, 57, 60, 61, 62, 63, 64, 65, 66, 67, 68, (100 + 10 * k_)] G G := fx.rf
  have hq1 := stT_le ns
  have hq2 := stC_le ns
  have hq3 := onPQ_le on
  have hq4 := onSQ_le on
  have hnt_ := pomI_f_oneMind.nt
  have hnm_ := pmkI_f_marks.b
  have hzt_ : zT nm 52026 ≤ 156078 := zT_le (c := 52026) (by omega) rfl
  refine ab_aload_n d_PW_match_0 rfl ?_
  refine ab_iload_n d_PW_match_1 rfl ?_
  refine ab_callV (d' := d - 1) (as := [vz sl]) (st := []) (r := _) (z_PW_programAt (o := o) (w_ := w_) (f_ready := f_ready) (f_tape := f_tape) (f_reader := f_reader) (f_programs := f_programs) (f_subject := f_subject) (f_spans := f_spans) (f_threads := f_threads) (f_marks := f_marks) (f_oneMind := f_oneMind) (f_states := f_states) (f_latest := f_latest) (f_matches := f_matches) (f_pieces := f_pieces) (f_template := f_template) (f_result := f_result) (f_spare := f_spare) (cmp := cmp) (ovs := ovs) (PG := PG) (k := sl) hw_ hf_programs (by omega)) (fun oc G2 h => by rcases h with ⟨h, _⟩ | ⟨_, h, _⟩ <;> exact ⟨_, h⟩) (by omega) m_PW_programAt ml_PW_148 im_PW_programAt se_PW_programAt c_PW hw_.2.2 (Nat.le_of_ble_eq_true rfl) d_PW_match_2 rfl ?_
  intro v G5 hq
  rcases hq with ⟨hv, hGe, hq6⟩ | ⟨b7, hv, hGe, hq8, hq9⟩
  · cases hv
    rw [hGe]
    change ab_W _ _ _ G 5 [some (vR w_), some (vz sl), some (vz hw), some (vz mch), some (vz p), none, none] [vN] _
    refine ab_astoreN d_PW_match_5 (Nat.le_of_ble_eq_true rfl) (Nat.le_of_ble_eq_true rfl) rfl ?_
    change ab_W _ _ _ G 7 [some (vR w_), some (vz sl), some (vz hw), some (vz mch), some (vz p), some (vN), none] [] _
    refine ab_aloadN d_PW_match_7 rfl ?_
    refine ab_ifnullN (tgt := 30) d_PW_match_9 (by decide) ?_
    refine ab_throw (tx := "no pattern there, or no such how or machine") (by decide) (fun c h => h) cl_PW_109 inst_IA ini_IA tw_PW_113 d_PW_match_30 d_PW_match_33 d_PW_match_34 d_PW_match_36 d_PW_match_39 (by omega) (by omega) (by omega) ?_
    obtain ⟨G10, eG10⟩ : ∃ z : ab_G, z = G ++ [.inr (13, [])] := ⟨_, rfl⟩
    obtain ⟨o11, eo11⟩ : ∃ z : Nat → Nat, z = ol o G.length 99 := ⟨_, rfl⟩
    obtain ⟨a12, ea12⟩ : ∃ z : Nat, z = G.length := ⟨_, rfl⟩
    have hq13 := hf_programs.n0 (by first | decide | omega)
    have ne_a12_w_ : nq a12 w_ := by have hlt := hw_.lt; unfold nq; omega
    have ne_a12_f_spans : nq a12 f_spans := by have hlt := hf_spans.lt; unfold nq; omega
    have ne_a12_17 : nq a12 17 := by have hlt := h17.lt; unfold nq; omega
    have ne_a12_f_latest : nq a12 f_latest := by have hlt := hf_latest.lt; unfold nq; omega
    have ne_a12_f_programs : nq a12 f_programs := by have hlt := hf_programs.lt; unfold nq; omega
    have hw_ := hw_.akeep (k := 99) eG10
    rw [← eo11] at hw_
    have hf_spans := hf_spans.akeep (k := 99) eG10
    rw [← eo11] at hf_spans
    have h17 := h17.akeep (k := 99) eG10
    rw [← eo11] at h17
    have hf_latest := hf_latest.akeep (k := 99) eG10
    rw [← eo11] at hf_latest
    have hf_programs := hf_programs.akeep (k := 99) eG10
    rw [← eo11] at hf_programs
    have hst := (fx.rf (o := o) (S := []) (G := G)).ap (k := 99) eG10
    rw [← eo11] at hst
    have pthI_f_threads := thI.fr hst pthI_f_threads (by decide) (by decide) (by decide) (by decide) (by decide) (by decide) (by decide) (by decide)
    have pmkI_f_marks := mkI.fr hst pmkI_f_marks (by decide) (by decide) (by decide) (by decide)
    have pomI_f_oneMind := omI.fr hst pomI_f_oneMind (by decide) (by decide) (by decide) (by decide) (by decide) (by decide) (by decide) (by decide)
    have pstI_f_states := stI.fr hst pstI_f_states (by decide) (by decide) (by decide) (by decide) (by decide) (by decide) (by decide) (by decide) (by decide)
    have psuI_f_subject := suI.fr hst psuI_f_subject (by decide) (by decide) (by decide) (by decide) (by decide)
    have ppgI_0 := pgI.fr hst ppgI_0  (by simp)
    have ha12 := cc.anew (o := o) 99 eG10 hq13
    rw [← eo11, ← ea12] at ha12
    have hfr := hfr.ap (k := 99) eG10
    rw [← eo11] at hfr
    have hq14 := z_alen eG10
    have hq15 : ab_slots G10 = ab_slots G + 6 := z_asl eG10 hq13
    rw [← ea12, ← eG10]
    rw [hQ]; exact (Or.inl ⟨_, _, rfl, hfr, hw_, hf_spans, hf_latest, pthI_f_threads, pmkI_f_marks, pomI_f_oneMind, pstI_f_states, psuI_f_subject, ppgI_0, (by exact ha12.2.2), (by omega), (by omega), (by exact Or.inl hq6)⟩)
  · cases hv
    rw [hGe]
    change ab_W _ _ _ G 5 [some (vR w_), some (vz sl), some (vz hw), some (vz mch), some (vz p), none, none] [vR b7] _
    refine ab_astore d_PW_match_5 (Nat.le_of_ble_eq_true rfl) (Nat.le_of_ble_eq_true rfl) rfl ?_
    change ab_W _ _ _ G 7 [some (vR w_), some (vz sl), some (vz hw), some (vz mch), some (vz p), some (vR b7), none] [] _
    refine ab_aload d_PW_match_7 rfl ?_
    refine ab_ifnull d_PW_match_9 ?_
    refine ab_iload_n d_PW_match_12 rfl ?_
    refine zz_if_lt (tgt := 30) d_PW_match_13 (by decide) (by omega) (fun c16 => ?_) (fun c16 => ?_)
    · refine ab_throw (tx := "no pattern there, or no such how or machine") (by decide) (fun c h => h) cl_PW_109 inst_IA ini_IA tw_PW_113 d_PW_match_30 d_PW_match_33 d_PW_match_34 d_PW_match_36 d_PW_match_39 (by omega) (by omega) (by omega) ?_
      obtain ⟨G17, eG17⟩ : ∃ z : ab_G, z = G ++ [.inr (13, [])] := ⟨_, rfl⟩
      obtain ⟨o18, eo18⟩ : ∃ z : Nat → Nat, z = ol o G.length 99 := ⟨_, rfl⟩
      obtain ⟨a19, ea19⟩ : ∃ z : Nat, z = G.length := ⟨_, rfl⟩
      have hq20 := hf_programs.n0 (by first | decide | omega)
      have ne_a19_w_ : nq a19 w_ := by have hlt := hw_.lt; unfold nq; omega
      have ne_a19_f_spans : nq a19 f_spans := by have hlt := hf_spans.lt; unfold nq; omega
      have ne_a19_17 : nq a19 17 := by have hlt := h17.lt; unfold nq; omega
      have ne_a19_f_latest : nq a19 f_latest := by have hlt := hf_latest.lt; unfold nq; omega
      have ne_a19_f_programs : nq a19 f_programs := by have hlt := hf_programs.lt; unfold nq; omega
      have hw_ := hw_.akeep (k := 99) eG17
      rw [← eo18] at hw_
      have hf_spans := hf_spans.akeep (k := 99) eG17
      rw [← eo18] at hf_spans
      have h17 := h17.akeep (k := 99) eG17
      rw [← eo18] at h17
      have hf_latest := hf_latest.akeep (k := 99) eG17
      rw [← eo18] at hf_latest
      have hf_programs := hf_programs.akeep (k := 99) eG17
      rw [← eo18] at hf_programs
      have hst := (fx.rf (o := o) (S := []) (G := G)).ap (k := 99) eG17
      rw [← eo18] at hst
      have pthI_f_threads := thI.fr hst pthI_f_threads (by decide) (by decide) (by decide) (by decide) (by decide) (by decide) (by decide) (by decide)
      have pmkI_f_marks := mkI.fr hst pmkI_f_marks (by decide) (by decide) (by decide) (by decide)
      have pomI_f_oneMind := omI.fr hst pomI_f_oneMind (by decide) (by decide) (by decide) (by decide) (by decide) (by decide) (by decide) (by decide)
      have pstI_f_states := stI.fr hst pstI_f_states (by decide) (by decide) (by decide) (by decide) (by decide) (by decide) (by decide) (by decide) (by decide)
      have psuI_f_subject := suI.fr hst psuI_f_subject (by decide) (by decide) (by decide) (by decide) (by decide)
      have ppgI_0 := pgI.fr hst ppgI_0  (by simp)
      have ha19 := cc.anew (o := o) 99 eG17 hq20
      rw [← eo18, ← ea19] at ha19
      have hfr := hfr.ap (k := 99) eG17
      rw [← eo18] at hfr
      have hq21 := z_alen eG17
      have hq22 : ab_slots G17 = ab_slots G + 6 := z_asl eG17 hq20
      rw [← ea19, ← eG17]
      rw [hQ]; exact (Or.inl ⟨_, _, rfl, hfr, hw_, hf_spans, hf_latest, pthI_f_threads, pmkI_f_marks, pomI_f_oneMind, pstI_f_states, psuI_f_subject, ppgI_0, (by exact ha19.2.2), (by omega), (by omega), (by exact Or.inr (by omega))⟩)
    · refine ab_iload_n d_PW_match_16 rfl ?_
      refine zz_iconst d_PW_match_17 ?_
      refine zz_icmp_gt (tgt := 30) d_PW_match_18 (by decide) (by omega) (by decide) (fun c23 => ?_) (fun c23 => ?_)
      · refine ab_throw (tx := "no pattern there, or no such how or machine") (by decide) (fun c h => h) cl_PW_109 inst_IA ini_IA tw_PW_113 d_PW_match_30 d_PW_match_33 d_PW_match_34 d_PW_match_36 d_PW_match_39 (by omega) (by omega) (by omega) ?_
        obtain ⟨G24, eG24⟩ : ∃ z : ab_G, z = G ++ [.inr (13, [])] := ⟨_, rfl⟩
        obtain ⟨o25, eo25⟩ : ∃ z : Nat → Nat, z = ol o G.length 99 := ⟨_, rfl⟩
        obtain ⟨a26, ea26⟩ : ∃ z : Nat, z = G.length := ⟨_, rfl⟩
        have hq27 := hf_programs.n0 (by first | decide | omega)
        have ne_a26_w_ : nq a26 w_ := by have hlt := hw_.lt; unfold nq; omega
        have ne_a26_f_spans : nq a26 f_spans := by have hlt := hf_spans.lt; unfold nq; omega
        have ne_a26_17 : nq a26 17 := by have hlt := h17.lt; unfold nq; omega
        have ne_a26_f_latest : nq a26 f_latest := by have hlt := hf_latest.lt; unfold nq; omega
        have ne_a26_f_programs : nq a26 f_programs := by have hlt := hf_programs.lt; unfold nq; omega
        have hw_ := hw_.akeep (k := 99) eG24
        rw [← eo25] at hw_
        have hf_spans := hf_spans.akeep (k := 99) eG24
        rw [← eo25] at hf_spans
        have h17 := h17.akeep (k := 99) eG24
        rw [← eo25] at h17
        have hf_latest := hf_latest.akeep (k := 99) eG24
        rw [← eo25] at hf_latest
        have hf_programs := hf_programs.akeep (k := 99) eG24
        rw [← eo25] at hf_programs
        have hst := (fx.rf (o := o) (S := []) (G := G)).ap (k := 99) eG24
        rw [← eo25] at hst
        have pthI_f_threads := thI.fr hst pthI_f_threads (by decide) (by decide) (by decide) (by decide) (by decide) (by decide) (by decide) (by decide)
        have pmkI_f_marks := mkI.fr hst pmkI_f_marks (by decide) (by decide) (by decide) (by decide)
        have pomI_f_oneMind := omI.fr hst pomI_f_oneMind (by decide) (by decide) (by decide) (by decide) (by decide) (by decide) (by decide) (by decide)
        have pstI_f_states := stI.fr hst pstI_f_states (by decide) (by decide) (by decide) (by decide) (by decide) (by decide) (by decide) (by decide) (by decide)
        have psuI_f_subject := suI.fr hst psuI_f_subject (by decide) (by decide) (by decide) (by decide) (by decide)
        have ppgI_0 := pgI.fr hst ppgI_0  (by simp)
        have ha26 := cc.anew (o := o) 99 eG24 hq27
        rw [← eo25, ← ea26] at ha26
        have hfr := hfr.ap (k := 99) eG24
        rw [← eo25] at hfr
        have hq28 := z_alen eG24
        have hq29 : ab_slots G24 = ab_slots G + 6 := z_asl eG24 hq27
        rw [← ea26, ← eG24]
        rw [hQ]; exact (Or.inl ⟨_, _, rfl, hfr, hw_, hf_spans, hf_latest, pthI_f_threads, pmkI_f_marks, pomI_f_oneMind, pstI_f_states, psuI_f_subject, ppgI_0, (by exact ha26.2.2), (by omega), (by omega), (by exact Or.inr (by omega))⟩)
      · refine ab_iload_n d_PW_match_21 rfl ?_
        refine zz_if_lt (tgt := 30) d_PW_match_22 (by decide) (by omega) (fun c30 => ?_) (fun c30 => ?_)
        · refine ab_throw (tx := "no pattern there, or no such how or machine") (by decide) (fun c h => h) cl_PW_109 inst_IA ini_IA tw_PW_113 d_PW_match_30 d_PW_match_33 d_PW_match_34 d_PW_match_36 d_PW_match_39 (by omega) (by omega) (by omega) ?_
          obtain ⟨G31, eG31⟩ : ∃ z : ab_G, z = G ++ [.inr (13, [])] := ⟨_, rfl⟩
          obtain ⟨o32, eo32⟩ : ∃ z : Nat → Nat, z = ol o G.length 99 := ⟨_, rfl⟩
          obtain ⟨a33, ea33⟩ : ∃ z : Nat, z = G.length := ⟨_, rfl⟩
          have hq34 := hf_programs.n0 (by first | decide | omega)
          have ne_a33_w_ : nq a33 w_ := by have hlt := hw_.lt; unfold nq; omega
          have ne_a33_f_spans : nq a33 f_spans := by have hlt := hf_spans.lt; unfold nq; omega
          have ne_a33_17 : nq a33 17 := by have hlt := h17.lt; unfold nq; omega
          have ne_a33_f_latest : nq a33 f_latest := by have hlt := hf_latest.lt; unfold nq; omega
          have ne_a33_f_programs : nq a33 f_programs := by have hlt := hf_programs.lt; unfold nq; omega
          have hw_ := hw_.akeep (k := 99) eG31
          rw [← eo32] at hw_
          have hf_spans := hf_spans.akeep (k := 99) eG31
          rw [← eo32] at hf_spans
          have h17 := h17.akeep (k := 99) eG31
          rw [← eo32] at h17
          have hf_latest := hf_latest.akeep (k := 99) eG31
          rw [← eo32] at hf_latest
          have hf_programs := hf_programs.akeep (k := 99) eG31
          rw [← eo32] at hf_programs
          have hst := (fx.rf (o := o) (S := []) (G := G)).ap (k := 99) eG31
          rw [← eo32] at hst
          have pthI_f_threads := thI.fr hst pthI_f_threads (by decide) (by decide) (by decide) (by decide) (by decide) (by decide) (by decide) (by decide)
          have pmkI_f_marks := mkI.fr hst pmkI_f_marks (by decide) (by decide) (by decide) (by decide)
          have pomI_f_oneMind := omI.fr hst pomI_f_oneMind (by decide) (by decide) (by decide) (by decide) (by decide) (by decide) (by decide) (by decide)
          have pstI_f_states := stI.fr hst pstI_f_states (by decide) (by decide) (by decide) (by decide) (by decide) (by decide) (by decide) (by decide) (by decide)
          have psuI_f_subject := suI.fr hst psuI_f_subject (by decide) (by decide) (by decide) (by decide) (by decide)
          have ppgI_0 := pgI.fr hst ppgI_0  (by simp)
          have ha33 := cc.anew (o := o) 99 eG31 hq34
          rw [← eo32, ← ea33] at ha33
          have hfr := hfr.ap (k := 99) eG31
          rw [← eo32] at hfr
          have hq35 := z_alen eG31
          have hq36 : ab_slots G31 = ab_slots G + 6 := z_asl eG31 hq34
          rw [← ea33, ← eG31]
          rw [hQ]; exact (Or.inl ⟨_, _, rfl, hfr, hw_, hf_spans, hf_latest, pthI_f_threads, pmkI_f_marks, pomI_f_oneMind, pstI_f_states, psuI_f_subject, ppgI_0, (by exact ha33.2.2), (by omega), (by omega), (by exact Or.inr (by omega))⟩)
        · refine ab_iload_n d_PW_match_25 rfl ?_
          refine zz_iconst d_PW_match_26 ?_
          refine zz_icmp_le (tgt := 40) d_PW_match_27 (by decide) (by omega) (by decide) (fun c37 => ?_) (fun c37 => ?_)
          · refine ab_iload d_PW_match_40 rfl ?_
            refine zz_if_lt (tgt := 57) d_PW_match_42 (by decide) (by omega) (fun c38 => ?_) (fun c38 => ?_)
            · refine ab_throw (tx := "no such place") (by decide) (fun c h => h) cl_PW_109 inst_IA ini_IA tw_PW_113 d_PW_match_57 d_PW_match_60 d_PW_match_61 d_PW_match_63 d_PW_match_66 (by omega) (by omega) (by omega) ?_
              obtain ⟨G39, eG39⟩ : ∃ z : ab_G, z = G ++ [.inr (13, [])] := ⟨_, rfl⟩
              obtain ⟨o40, eo40⟩ : ∃ z : Nat → Nat, z = ol o G.length 99 := ⟨_, rfl⟩
              obtain ⟨a41, ea41⟩ : ∃ z : Nat, z = G.length := ⟨_, rfl⟩
              have hq42 := hf_programs.n0 (by first | decide | omega)
              have ne_a41_w_ : nq a41 w_ := by have hlt := hw_.lt; unfold nq; omega
              have ne_a41_f_spans : nq a41 f_spans := by have hlt := hf_spans.lt; unfold nq; omega
              have ne_a41_17 : nq a41 17 := by have hlt := h17.lt; unfold nq; omega
              have ne_a41_f_latest : nq a41 f_latest := by have hlt := hf_latest.lt; unfold nq; omega
              have ne_a41_f_programs : nq a41 f_programs := by have hlt := hf_programs.lt; unfold nq; omega
              have hw_ := hw_.akeep (k := 99) eG39
              rw [← eo40] at hw_
              have hf_spans := hf_spans.akeep (k := 99) eG39
              rw [← eo40] at hf_spans
              have h17 := h17.akeep (k := 99) eG39
              rw [← eo40] at h17
              have hf_latest := hf_latest.akeep (k := 99) eG39
              rw [← eo40] at hf_latest
              have hf_programs := hf_programs.akeep (k := 99) eG39
              rw [← eo40] at hf_programs
              have hst := (fx.rf (o := o) (S := []) (G := G)).ap (k := 99) eG39
              rw [← eo40] at hst
              have pthI_f_threads := thI.fr hst pthI_f_threads (by decide) (by decide) (by decide) (by decide) (by decide) (by decide) (by decide) (by decide)
              have pmkI_f_marks := mkI.fr hst pmkI_f_marks (by decide) (by decide) (by decide) (by decide)
              have pomI_f_oneMind := omI.fr hst pomI_f_oneMind (by decide) (by decide) (by decide) (by decide) (by decide) (by decide) (by decide) (by decide)
              have pstI_f_states := stI.fr hst pstI_f_states (by decide) (by decide) (by decide) (by decide) (by decide) (by decide) (by decide) (by decide) (by decide)
              have psuI_f_subject := suI.fr hst psuI_f_subject (by decide) (by decide) (by decide) (by decide) (by decide)
              have ppgI_0 := pgI.fr hst ppgI_0  (by simp)
              have ha41 := cc.anew (o := o) 99 eG39 hq42
              rw [← eo40, ← ea41] at ha41
              have hfr := hfr.ap (k := 99) eG39
              rw [← eo40] at hfr
              have hq43 := z_alen eG39
              have hq44 : ab_slots G39 = ab_slots G + 6 := z_asl eG39 hq42
              rw [← ea41, ← eG39]
              rw [hQ]; exact (Or.inl ⟨_, _, rfl, hfr, hw_, hf_spans, hf_latest, pthI_f_threads, pmkI_f_marks, pomI_f_oneMind, pstI_f_states, psuI_f_subject, ppgI_0, (by exact ha41.2.2), (by omega), (by omega), (by exact Or.inr (by omega))⟩)
            · refine ab_iload d_PW_match_45 rfl ?_
              obtain ⟨by_, co, re, ho, C, Rs, H, mc, hf_subject, hby_, hco, hre, hho, csu, hsu⟩ := psuI_f_subject
              refine ab_aload_n d_PW_match_47 rfl ?_
              refine ab_getf (fs := [vR f_ready, vR f_tape, vR f_reader, vR f_programs, vR f_subject, vR f_spans, vR f_threads, vR f_marks, vR f_oneMind, vR f_states, vR f_latest, vR f_matches, vR f_pieces, vR f_template, vR f_result, vR f_spare, vz cmp, vz ovs]) f_PW_38 d_PW_match_48 hw_.2.2 rfl ?_
              refine ab_getf (fs := [vR by_, vR co, vR re, vR ho, vz n]) f_PW_164 d_PW_match_51 hf_subject.2.2 rfl ?_
              refine zz_icmp_le (tgt := 67) d_PW_match_54 (by decide) (by omega) (by omega) (fun c45 => ?_) (fun c45 => ?_)
              · have psuI_f_subject : suI o G f_subject n m f := ⟨by_, co, re, ho, C, Rs, H, mc, hf_subject, hby_, hco, hre, hho, (by omega), hsu⟩
                have hk_ := hkq.2 (by omega) (by omega)
                rw [← hk_] at hq8
                have hk6_ : k_ < 6 := by omega
                obtain ⟨⟨mi_, sz_, ppgB_b7⟩, ppgX_0⟩ := ppgI_0.opn hk6_ hq8
                refine ab_aload_n d_PW_match_67 rfl ?_
                refine ab_aload d_PW_match_68 rfl ?_
                refine ab_iload_n d_PW_match_70 rfl ?_
                refine ab_iload_n d_PW_match_71 rfl ?_
                refine ab_iload d_PW_match_72 rfl ?_
                refine ab_callV (d' := d - 1) (as := [vR b7, vz hw, vz mch, vz p]) (st := []) (r := _) (z_PW_run (o := o) (w_ := w_) (f_ready := f_ready) (f_tape := f_tape) (f_reader := f_reader) (f_programs := f_programs) (f_subject := f_subject) (f_spans := f_spans) (f_threads := f_threads) (f_marks := f_marks) (f_oneMind := f_oneMind) (f_states := f_states) (f_latest := f_latest) (f_matches := f_matches) (f_pieces := f_pieces) (f_template := f_template) (f_result := f_result) (f_spare := f_spare) (cmp := cmp) (ovs := ovs) (sb := sb) (q := b7) (lq := (100 + 10 * k_)) (nr := (NR k_)) (cv := cv) (on := on) (mi := mi_) (nm := nm) (ns := ns) (nt := nt) (n := n) (m := m) (SP := SP) (f := f) (hw := hw) (mch := mch) (p := p) (stt := 0) (stm := 0) (sto := 0) (sts := 0) (sz := sz_) hw_ hf_spans h17 pthI_f_threads pmkI_f_marks pomI_f_oneMind pstI_f_states psuI_f_subject ppgB_b7 (by omega) (by omega) jsp (by omega) (by omega) (by omega) (by omega)) (fun oc G2 h => by rcases h with ⟨_, _, _, _, _, _, _, _, _, _, _, _, _, h, _⟩ <;> exact ⟨_, h⟩) (by omega) m_PW_run ml_PW_171 im_PW_run se_PW_run c_PW hw_.2.2 (Nat.le_of_ble_eq_true rfl) d_PW_match_74 rfl ?_
                intro v G46 hq
                rcases hq with ⟨o47, nm248, ns249, on250, nt251, mi252, SP253, r54, s1_55, s2_56, s3_57, s4_58, sb259, hv, hfk, hNf_spans, pNthI_f_threads, pNmkI_f_marks, pNomI_f_oneMind, pNstI_f_states, pNsuI_f_subject, pNpgB_b7, hq60, hq61, hq62, hq63, hq64, hq65, hq66, hq67⟩
                cases hv
                have hw_ := hfk.get hw_ (by simp only [List.mem_cons, List.not_mem_nil, or_false]; omega)
                have h17 := hfk.get h17 (by simp only [List.mem_cons, List.not_mem_nil, or_false]; omega)
                have hf_latest := hfk.get hf_latest (by simp only [List.mem_cons, List.not_mem_nil, or_false]; omega)
                have hf_programs := hfk.get hf_programs (by simp only [List.mem_cons, List.not_mem_nil, or_false]; omega)
                have ppgX_0 := pgX.fr hfk ppgX_0  (by intro xx hx; simp only [List.mem_cons, List.not_mem_nil, or_false] at hx; omega)
                have pthI_f_threads := pNthI_f_threads
                have pmkI_f_marks := pNmkI_f_marks
                have pomI_f_oneMind := pNomI_f_oneMind
                have pstI_f_states := pNstI_f_states
                have psuI_f_subject := pNsuI_f_subject
                have ppgB_b7 := pNpgB_b7
                have hfr := hfr.tr hfk (by simp)
                have hq68 := hfk.1
                have hf_spans := hNf_spans
                change ab_W _ _ _ G46 77 [some (vR w_), some (vz sl), some (vz hw), some (vz mch), some (vz p), some (vR b7), none] [vz r54] _
                have ppgX_0 := ppgX_0.ong hq67
                refine ab_istore d_PW_match_77 (Nat.le_of_ble_eq_true rfl) (Nat.le_of_ble_eq_true rfl) rfl ?_
                change ab_W _ _ _ G46 79 [some (vR w_), some (vz sl), some (vz hw), some (vz mch), some (vz p), some (vR b7), some (vz r54)] [] _
                obtain ⟨ki_g, ne_g, ot_g, cnt_g, fi_g, la_g, ra_g, ru_g, gr_g, wi_g, fl_g, ve_g, na_g, nl_g, K_g, N_g, O_g, RR_g, NA_g, NL_g, hb7, hki_g, hne_g, hot_g, hra_g, hna_g, hnl_g, cq_g, hpu_g, hp_g, hr_g, hch_g, cru_g, ck9_g, cfi_g, cgr_g, cfl_g, hpo_g, hmi_g, hvc_g, cve_g, jnl_g, hiv_g, hmn_g, jna_g, hla_g, hpv_g, cv1_g, hkk_g, hoc_g, csz_g⟩ := ppgB_b7
                refine ab_aload_n d_PW_match_79 rfl ?_
                refine ab_aload d_PW_match_80 rfl ?_
                refine ab_getf (fs := [vR ki_g, vR ne_g, vR ot_g, vz cnt_g, vz fi_g, vz la_g, vR ra_g, vz ru_g, vz gr_g, vz wi_g, vz sz_, vz fl_g, vz ve_g, vz mi252, vR na_g, vR nl_g]) f_PW_152 d_PW_match_82 hb7.2.2 rfl ?_
                refine zz_iconst d_PW_match_85 ?_
                refine ab_callV (d' := d - 1) (as := [vz sz_, vz 1]) (st := []) (r := _) (z_PW_settle (o := o47) (w_ := w_) (f_ready := f_ready) (f_tape := f_tape) (f_reader := f_reader) (f_programs := f_programs) (f_subject := f_subject) (f_spans := f_spans) (f_threads := f_threads) (f_marks := f_marks) (f_oneMind := f_oneMind) (f_states := f_states) (f_latest := f_latest) (f_matches := f_matches) (f_pieces := f_pieces) (f_template := f_template) (f_result := f_result) (f_spare := f_spare) (cmp := cmp) (ovs := ovs) (sb := sb259) (cv := cv) (on := on250) (nm := nm248) (ns := ns249) (nt := nt251) (n := n) (m := m) (f := f) (z1 := sz_) (z2 := 1) (stt := s1_55) (stm := s2_56) (sto := s3_57) (sts := s4_58) hw_ pthI_f_threads pmkI_f_marks pomI_f_oneMind pstI_f_states psuI_f_subject (by omega) (by omega) (cmo_1 (by omega) (by omega) (by omega)) (by omega)) (fun oc G2 h => by rcases h with ⟨h, _⟩ <;> exact ⟨_, h⟩) (by omega) m_PW_settle ml_PW_175 im_PW_settle se_PW_settle c_PW hw_.2.2 (Nat.le_of_ble_eq_true rfl) d_PW_match_86 rfl ?_
                intro v G69 hq
                rcases hq with ⟨hv, hfk, hlk, hsk, hNw_, pNthI_f_threads, pNmkI_f_marks, pNomI_f_oneMind, pNstI_f_states, pNsuI_f_subject⟩
                cases hv
                have hf_spans := hfk.get hf_spans (by decide)
                have h17 := hfk.get h17 (by decide)
                have hf_latest := hfk.get hf_latest (by decide)
                have hf_programs := hfk.get hf_programs (by decide)
                have hb7 := hfk.get hb7 (by simp only [List.mem_cons, List.not_mem_nil, or_false]; omega)
                have hki_g := hfk.get hki_g (by simp only [List.mem_cons, List.not_mem_nil, or_false]; omega)
                have hne_g := hfk.get hne_g (by simp only [List.mem_cons, List.not_mem_nil, or_false]; omega)
                have hot_g := hfk.get hot_g (by simp only [List.mem_cons, List.not_mem_nil, or_false]; omega)
                have hra_g := hfk.get hra_g (by simp only [List.mem_cons, List.not_mem_nil, or_false]; omega)
                have hna_g := hfk.get hna_g (by simp only [List.mem_cons, List.not_mem_nil, or_false]; omega)
                have hnl_g := hfk.get hnl_g (by simp only [List.mem_cons, List.not_mem_nil, or_false]; omega)
                have ppgX_0 := pgX.fr hfk ppgX_0 (fun xx hx => Or.inl ((show ∀ y ∈ ([18, 32, 44, 50, 60] : List Nat), y < 100 by decide) xx hx))
                have pthI_f_threads := pNthI_f_threads
                have pmkI_f_marks := pNmkI_f_marks
                have pomI_f_oneMind := pNomI_f_oneMind
                have pstI_f_states := pNstI_f_states
                have psuI_f_subject := pNsuI_f_subject
                have hfr := hfr.tr hfk (by simp)
                have hq70 := hlk
                have hq71 := hsk
                have hw_ := hNw_
                change ab_W _ _ _ G69 89 [some (vR w_), some (vz sl), some (vz hw), some (vz mch), some (vz p), some (vR b7), some (vz r54)] [] _
                refine ab_aload_n d_PW_match_89 rfl ?_
                refine ab_getf (fs := [vR f_ready, vR f_tape, vR f_reader, vR f_programs, vR f_subject, vR f_spans, vR f_threads, vR f_marks, vR f_oneMind, vR f_states, vR f_latest, vR f_matches, vR f_pieces, vR f_template, vR f_result, vR f_spare, vz cmp, vz ovs]) f_PW_73 d_PW_match_90 hw_.2.2 rfl ?_
                refine zz_iconst d_PW_match_93 ?_
                refine ab_callS (d' := d - 1) (as := [vR f_latest, vz (-1)]) (st := []) (z_AR_fill (o := o47) (a := f_latest) (l := 70) (n := 20) (f := LA) (v := (-1)) hf_latest (by have h18 : ab_n0 = 18 := rfl; omega)) (fun oc G2 h => by rcases h with ⟨h, _⟩ <;> exact ⟨_, h⟩) (by omega) m_AR_fill ml_PW_91 st_AR_fill (Nat.le_of_ble_eq_true rfl) d_PW_match_94 rfl ?_
                intro v G72 hq
                rcases hq with ⟨hv, hfk, hlk, hsk, hNf_latest⟩
                cases hv
                have hw_ := hfk.get hw_ (by decide)
                have hf_spans := hfk.get hf_spans (by decide)
                have h17 := hfk.get h17 (by decide)
                have hf_programs := hfk.get hf_programs (by decide)
                have hb7 := hfk.get hb7 (by simp only [List.mem_cons, List.not_mem_nil, or_false]; omega)
                have hki_g := hfk.get hki_g (by simp only [List.mem_cons, List.not_mem_nil, or_false]; omega)
                have hne_g := hfk.get hne_g (by simp only [List.mem_cons, List.not_mem_nil, or_false]; omega)
                have hot_g := hfk.get hot_g (by simp only [List.mem_cons, List.not_mem_nil, or_false]; omega)
                have hra_g := hfk.get hra_g (by simp only [List.mem_cons, List.not_mem_nil, or_false]; omega)
                have hna_g := hfk.get hna_g (by simp only [List.mem_cons, List.not_mem_nil, or_false]; omega)
                have hnl_g := hfk.get hnl_g (by simp only [List.mem_cons, List.not_mem_nil, or_false]; omega)
                have pthI_f_threads := thI.fr hfk pthI_f_threads (by decide) (by decide) (by decide) (by decide) (by decide) (by decide) (by decide) (by decide)
                have pmkI_f_marks := mkI.fr hfk pmkI_f_marks (by decide) (by decide) (by decide) (by decide)
                have pomI_f_oneMind := omI.fr hfk pomI_f_oneMind (by decide) (by decide) (by decide) (by decide) (by decide) (by decide) (by decide) (by decide)
                have pstI_f_states := stI.fr hfk pstI_f_states (by decide) (by decide) (by decide) (by decide) (by decide) (by decide) (by decide) (by decide) (by decide)
                have psuI_f_subject := suI.fr hfk psuI_f_subject (by decide) (by decide) (by decide) (by decide) (by decide)
                have ppgX_0 := pgX.fr hfk ppgX_0 (fun xx hx => Or.inl ((show ∀ y ∈ ([70] : List Nat), y < 100 by decide) xx hx))
                have hfr := hfr.tr hfk (by simp)
                have hq73 := hlk
                have hq74 := hsk
                have hf_latest := hNf_latest
                change ab_W _ _ _ G72 97 [some (vR w_), some (vz sl), some (vz hw), some (vz mch), some (vz p), some (vR b7), some (vz r54)] [] _
                refine ab_iload d_PW_match_97 rfl ?_
                refine zz_iconst d_PW_match_99 ?_
                refine zz_icmp_eq (tgt := 121) d_PW_match_100 (by decide) (by omega) (by decide) (fun c75 => ?_) (fun c75 => ?_)
                · have hmq_ : onq mi252 on250 := hmi_g
                  have ppgB_b7 : pgB o47 G72 b7 (100 + 10 * k_) (NR k_) cv cmp on250 mi252 sz_ := ⟨ki_g, ne_g, ot_g, cnt_g, fi_g, la_g, ra_g, ru_g, gr_g, wi_g, fl_g, ve_g, na_g, nl_g, K_g, N_g, O_g, RR_g, NA_g, NL_g, hb7, hki_g, hne_g, hot_g, hra_g, hna_g, hnl_g, (by omega), hpu_g, hp_g, hr_g, hch_g, (by omega), (by omega), (by omega), (by omega), (by omega), hpo_g, hmq_, (by omega), (by omega), jnl_g, hiv_g, hmn_g, jna_g, hla_g, hpv_g, (by omega), hkk_g, hoc_g, (by omega)⟩
                  have ppgI_0 := ppgX_0.cls hq8 ppgB_b7
                  refine ab_iload d_PW_match_121 rfl ?_
                  refine zz_iret rfl d_PW_match_123 ?_
                  rw [hQ]; exact (Or.inr ⟨_, _, _, _, _, _, _, _, _, rfl, hfr, hw_, hf_spans, hf_latest, pthI_f_threads, pmkI_f_marks, pomI_f_oneMind, pstI_f_states, psuI_f_subject, ppgI_0, (by exact mtP_n hk_ hq8 (by omega) (by omega) hq60 (by omega) (by omega)), (by omega), (by exact hq64), (by omega), (by omega), (by exact hq67)⟩)
                · refine ab_aload_n d_PW_match_103 rfl ?_
                  refine ab_getf (fs := [vR f_ready, vR f_tape, vR f_reader, vR f_programs, vR f_subject, vR f_spans, vR f_threads, vR f_marks, vR f_oneMind, vR f_states, vR f_latest, vR f_matches, vR f_pieces, vR f_template, vR f_result, vR f_spare, vz cmp, vz ovs]) f_PW_42 d_PW_match_104 hw_.2.2 rfl ?_
                  refine zz_iconst d_PW_match_107 ?_
                  refine ab_aload_n d_PW_match_108 rfl ?_
                  refine ab_getf (fs := [vR f_ready, vR f_tape, vR f_reader, vR f_programs, vR f_subject, vR f_spans, vR f_threads, vR f_marks, vR f_oneMind, vR f_states, vR f_latest, vR f_matches, vR f_pieces, vR f_template, vR f_result, vR f_spare, vz cmp, vz ovs]) f_PW_73 d_PW_match_109 hw_.2.2 rfl ?_
                  refine zz_iconst d_PW_match_112 ?_
                  refine ab_aload d_PW_match_113 rfl ?_
                  refine ab_getf (fs := [vR ki_g, vR ne_g, vR ot_g, vz cnt_g, vz fi_g, vz la_g, vR ra_g, vz ru_g, vz gr_g, vz wi_g, vz sz_, vz fl_g, vz ve_g, vz mi252, vR na_g, vR nl_g]) f_PW_178 d_PW_match_115 hb7.2.2 rfl ?_
                  refine zz_copy mj_PW_181 d_PW_match_118 hf_spans hf_latest (hf_latest.2.1 (by decide)) (by omega) (Nat.le_of_ble_eq_true rfl) (by omega) ?_
                  obtain ⟨G76, eG76⟩ : ∃ z : ab_G, z = List.set G72 f_latest (za 20 (zcpy SP253 (zfill LA 0 ↑20 (-1)) 0 0 wi_g)) := ⟨_, rfl⟩
                  have hw_ := hw_.keep hf_latest eG76 (by decide)
                  have hf_spans := hf_spans.keep hf_latest eG76 (by decide)
                  have h17 := h17.keep hf_latest eG76 (by decide)
                  have hf_programs := hf_programs.keep hf_latest eG76 (by decide)
                  have hb7 := hb7.keep hf_latest eG76 (by omega)
                  have hki_g := hki_g.keep hf_latest eG76 (by omega)
                  have hne_g := hne_g.keep hf_latest eG76 (by omega)
                  have hot_g := hot_g.keep hf_latest eG76 (by omega)
                  have hra_g := hra_g.keep hf_latest eG76 (by omega)
                  have hna_g := hna_g.keep hf_latest eG76 (by omega)
                  have hnl_g := hnl_g.keep hf_latest eG76 (by omega)
                  have hst := (fx.rf (o := o47) (S := [70]) (G := G72)).wr hf_latest eG76 (List.mem_singleton.mpr rfl)
                  have pthI_f_threads := thI.fr hst pthI_f_threads (by decide) (by decide) (by decide) (by decide) (by decide) (by decide) (by decide) (by decide)
                  have pmkI_f_marks := mkI.fr hst pmkI_f_marks (by decide) (by decide) (by decide) (by decide)
                  have pomI_f_oneMind := omI.fr hst pomI_f_oneMind (by decide) (by decide) (by decide) (by decide) (by decide) (by decide) (by decide) (by decide)
                  have pstI_f_states := stI.fr hst pstI_f_states (by decide) (by decide) (by decide) (by decide) (by decide) (by decide) (by decide) (by decide) (by decide)
                  have psuI_f_subject := suI.fr hst psuI_f_subject (by decide) (by decide) (by decide) (by decide) (by decide)
                  have ppgX_0 := pgX.fr hst ppgX_0 (fun xx hx => Or.inl ((show ∀ y ∈ ([70] : List Nat), y < 100 by decide) xx hx))
                  have hq77 := z_len eG76
                  have hq78 := z_sl hf_latest eG76 rfl
                  have hfr := hfr.wr hf_latest eG76 (by simp)
                  have hf_latest := hf_latest.kept eG76
                  change ab_W _ _ _ (List.set G72 f_latest (za 20 (zcpy SP253 (zfill LA 0 ↑20 (-1)) 0 0 wi_g))) 121 [some (vR w_), some (vz sl), some (vz hw), some (vz mch), some (vz p), some (vR b7), some (vz r54)] [] _
                  rw [← eG76]
                  have hmq_ : onq mi252 on250 := hmi_g
                  have ppgB_b7 : pgB o47 G76 b7 (100 + 10 * k_) (NR k_) cv cmp on250 mi252 sz_ := ⟨ki_g, ne_g, ot_g, cnt_g, fi_g, la_g, ra_g, ru_g, gr_g, wi_g, fl_g, ve_g, na_g, nl_g, K_g, N_g, O_g, RR_g, NA_g, NL_g, hb7, hki_g, hne_g, hot_g, hra_g, hna_g, hnl_g, (by omega), hpu_g, hp_g, hr_g, hch_g, (by omega), (by omega), (by omega), (by omega), (by omega), hpo_g, hmq_, (by omega), (by omega), jnl_g, hiv_g, hmn_g, jna_g, hla_g, hpv_g, (by omega), hkk_g, hoc_g, (by omega)⟩
                  have ppgI_0 := ppgX_0.cls hq8 ppgB_b7
                  refine ab_iload d_PW_match_121 rfl ?_
                  refine zz_iret rfl d_PW_match_123 ?_
                  rw [hQ]; exact (Or.inr ⟨_, _, _, _, _, _, _, _, _, rfl, hfr, hw_, hf_spans, hf_latest, pthI_f_threads, pmkI_f_marks, pomI_f_oneMind, pstI_f_states, psuI_f_subject, ppgI_0, (by exact mtP_y hk_ hq8 (by omega) (by omega) hq60 hiv_g.1 (by omega) (by omega) (by omega)), (by omega), (by exact hq64), (by omega), (by omega), (by exact hq67)⟩)
              · have psuI_f_subject : suI o G f_subject n m f := ⟨by_, co, re, ho, C, Rs, H, mc, hf_subject, hby_, hco, hre, hho, (by omega), hsu⟩
                refine ab_throw (tx := "no such place") (by decide) (fun c h => h) cl_PW_109 inst_IA ini_IA tw_PW_113 d_PW_match_57 d_PW_match_60 d_PW_match_61 d_PW_match_63 d_PW_match_66 (by omega) (by omega) (by omega) ?_
                obtain ⟨G79, eG79⟩ : ∃ z : ab_G, z = G ++ [.inr (13, [])] := ⟨_, rfl⟩
                obtain ⟨o80, eo80⟩ : ∃ z : Nat → Nat, z = ol o G.length 99 := ⟨_, rfl⟩
                obtain ⟨a81, ea81⟩ : ∃ z : Nat, z = G.length := ⟨_, rfl⟩
                have hq82 := hf_programs.n0 (by first | decide | omega)
                have ne_a81_w_ : nq a81 w_ := by have hlt := hw_.lt; unfold nq; omega
                have ne_a81_f_spans : nq a81 f_spans := by have hlt := hf_spans.lt; unfold nq; omega
                have ne_a81_17 : nq a81 17 := by have hlt := h17.lt; unfold nq; omega
                have ne_a81_f_latest : nq a81 f_latest := by have hlt := hf_latest.lt; unfold nq; omega
                have ne_a81_f_programs : nq a81 f_programs := by have hlt := hf_programs.lt; unfold nq; omega
                have hw_ := hw_.akeep (k := 99) eG79
                rw [← eo80] at hw_
                have hf_spans := hf_spans.akeep (k := 99) eG79
                rw [← eo80] at hf_spans
                have h17 := h17.akeep (k := 99) eG79
                rw [← eo80] at h17
                have hf_latest := hf_latest.akeep (k := 99) eG79
                rw [← eo80] at hf_latest
                have hf_programs := hf_programs.akeep (k := 99) eG79
                rw [← eo80] at hf_programs
                have hst := (fx.rf (o := o) (S := []) (G := G)).ap (k := 99) eG79
                rw [← eo80] at hst
                have pthI_f_threads := thI.fr hst pthI_f_threads (by decide) (by decide) (by decide) (by decide) (by decide) (by decide) (by decide) (by decide)
                have pmkI_f_marks := mkI.fr hst pmkI_f_marks (by decide) (by decide) (by decide) (by decide)
                have pomI_f_oneMind := omI.fr hst pomI_f_oneMind (by decide) (by decide) (by decide) (by decide) (by decide) (by decide) (by decide) (by decide)
                have pstI_f_states := stI.fr hst pstI_f_states (by decide) (by decide) (by decide) (by decide) (by decide) (by decide) (by decide) (by decide) (by decide)
                have ppgI_0 := pgI.fr hst ppgI_0  (by simp)
                have psuI_f_subject := suI.fr hst psuI_f_subject (by decide) (by decide) (by decide) (by decide) (by decide)
                have ha81 := cc.anew (o := o) 99 eG79 hq82
                rw [← eo80, ← ea81] at ha81
                have hfr := hfr.ap (k := 99) eG79
                rw [← eo80] at hfr
                have hq83 := z_alen eG79
                have hq84 : ab_slots G79 = ab_slots G + 6 := z_asl eG79 hq82
                rw [← ea81, ← eG79]
                rw [hQ]; exact (Or.inl ⟨_, _, rfl, hfr, hw_, hf_spans, hf_latest, pthI_f_threads, pmkI_f_marks, pomI_f_oneMind, pstI_f_states, psuI_f_subject, ppgI_0, (by exact ha81.2.2), (by omega), (by omega), (by exact Or.inr (by omega))⟩)
          · refine ab_throw (tx := "no pattern there, or no such how or machine") (by decide) (fun c h => h) cl_PW_109 inst_IA ini_IA tw_PW_113 d_PW_match_30 d_PW_match_33 d_PW_match_34 d_PW_match_36 d_PW_match_39 (by omega) (by omega) (by omega) ?_
            obtain ⟨G85, eG85⟩ : ∃ z : ab_G, z = G ++ [.inr (13, [])] := ⟨_, rfl⟩
            obtain ⟨o86, eo86⟩ : ∃ z : Nat → Nat, z = ol o G.length 99 := ⟨_, rfl⟩
            obtain ⟨a87, ea87⟩ : ∃ z : Nat, z = G.length := ⟨_, rfl⟩
            have hq88 := hf_programs.n0 (by first | decide | omega)
            have ne_a87_w_ : nq a87 w_ := by have hlt := hw_.lt; unfold nq; omega
            have ne_a87_f_spans : nq a87 f_spans := by have hlt := hf_spans.lt; unfold nq; omega
            have ne_a87_17 : nq a87 17 := by have hlt := h17.lt; unfold nq; omega
            have ne_a87_f_latest : nq a87 f_latest := by have hlt := hf_latest.lt; unfold nq; omega
            have ne_a87_f_programs : nq a87 f_programs := by have hlt := hf_programs.lt; unfold nq; omega
            have hw_ := hw_.akeep (k := 99) eG85
            rw [← eo86] at hw_
            have hf_spans := hf_spans.akeep (k := 99) eG85
            rw [← eo86] at hf_spans
            have h17 := h17.akeep (k := 99) eG85
            rw [← eo86] at h17
            have hf_latest := hf_latest.akeep (k := 99) eG85
            rw [← eo86] at hf_latest
            have hf_programs := hf_programs.akeep (k := 99) eG85
            rw [← eo86] at hf_programs
            have hst := (fx.rf (o := o) (S := []) (G := G)).ap (k := 99) eG85
            rw [← eo86] at hst
            have pthI_f_threads := thI.fr hst pthI_f_threads (by decide) (by decide) (by decide) (by decide) (by decide) (by decide) (by decide) (by decide)
            have pmkI_f_marks := mkI.fr hst pmkI_f_marks (by decide) (by decide) (by decide) (by decide)
            have pomI_f_oneMind := omI.fr hst pomI_f_oneMind (by decide) (by decide) (by decide) (by decide) (by decide) (by decide) (by decide) (by decide)
            have pstI_f_states := stI.fr hst pstI_f_states (by decide) (by decide) (by decide) (by decide) (by decide) (by decide) (by decide) (by decide) (by decide)
            have psuI_f_subject := suI.fr hst psuI_f_subject (by decide) (by decide) (by decide) (by decide) (by decide)
            have ppgI_0 := pgI.fr hst ppgI_0  (by simp)
            have ha87 := cc.anew (o := o) 99 eG85 hq88
            rw [← eo86, ← ea87] at ha87
            have hfr := hfr.ap (k := 99) eG85
            rw [← eo86] at hfr
            have hq89 := z_alen eG85
            have hq90 : ab_slots G85 = ab_slots G + 6 := z_asl eG85 hq88
            rw [← ea87, ← eG85]
            rw [hQ]; exact (Or.inl ⟨_, _, rfl, hfr, hw_, hf_spans, hf_latest, pthI_f_threads, pmkI_f_marks, pomI_f_oneMind, pstI_f_states, psuI_f_subject, ppgI_0, (by exact ha87.2.2), (by omega), (by omega), (by exact Or.inr (by omega))⟩)
set_option maxRecDepth 100000 in
set_option maxHeartbeats 4000000 in
theorem z_PW_hunt {X : ab_X} {d : Nat} {o : Nat → Nat} {G : ab_G} {w_ : Nat} {f_ready : Nat} {f_tape : Nat} {f_reader : Nat} {f_programs : Nat} {f_subject : Nat} {f_spans : Nat} {f_threads : Nat} {f_marks : Nat} {f_oneMind : Nat} {f_states : Nat} {f_latest : Nat} {f_matches : Nat} {f_pieces : Nat} {f_template : Nat} {f_result : Nat} {f_spare : Nat} {cmp : Int} {ovs : Int} {q : Nat} {lq : Nat} {ki : Nat} {ne : Nat} {ot : Nat} {cnt : Int} {fi : Int} {la : Int} {ra : Nat} {ru : Int} {gr : Int} {wi : Int} {sz : Int} {fl : Int} {ve : Int} {mi : Int} {K : Int → Int} {N : Int → Int} {O : Int → Int} {RR : Int → Int} {nr : Nat} {na : Nat} {nl : Nat} {nm : Nat} {ns : Nat} {n : Int} {m : Nat} {SP : Int → Int} {f : Int → Int} {by_ : Nat} {co : Nat} {re : Nat} {ho : Nat} {C : Int → Int} {Rs : Int → Int} {H : Int → Int} {mc : Nat} {bf : Int} {dd : Int} {fy : Int} {hw : Int} {v9 : Sn} {stm : Int} {un : Int} (hw_ : cc o G w_ 18 (ab_ob 0 [vR f_ready, vR f_tape, vR f_reader, vR f_programs, vR f_subject, vR f_spans, vR f_threads, vR f_marks, vR f_oneMind, vR f_states, vR f_latest, vR f_matches, vR f_pieces, vR f_template, vR f_result, vR f_spare, vz cmp, vz ovs])) (hf_spans : cc o G f_spans 31 (za 20 SP)) (hq : cc o G q lq (ab_ob 5 [vR ki, vR ne, vR ot, vz cnt, vz fi, vz la, vR ra, vz ru, vz gr, vz wi, vz sz, vz fl, vz ve, vz mi, vR na, vR nl])) (hki : cc o G ki (lq + 1) (za 808 K)) (hne : cc o G ne (lq + 2) (za 808 N)) (hot : cc o G ot (lq + 3) (za 808 O)) (hra : cc o G ra (lq + 4) (za nr RR)) (hf_subject : cc o G f_subject 26 (ab_ob 9 [vR by_, vR co, vR re, vR ho, vz n])) (hco : cc o G co 28 (za mc C)) (hre : cc o G re 29 (za mc Rs)) (hho : cc o G ho 30 (za mc H)) (pmkB_f_marks : mkB o G f_marks q f_subject f_spans nm ns cnt n stm un K N O RR f dd fy hw) (n18 : ab_n0 = 18) (cq : 100 ≤ lq ∧ 2 ≤ cnt ∧ cnt ≤ 808 ∧ ↑nr ≤ (100000 : Int)) (hp : prok K N O RR cnt ↑nr wi) (hr : ∀ k : Int, 0 ≤ k → k < ↑nr → 0 ≤ RR k ∧ RR k ≤ 1114111) (cfi : 0 ≤ fi ∧ fi < cnt) (cwi : 2 ≤ wi ∧ wi ≤ 20) (csu : 0 ≤ n ∧ n ≤ ↑m ∧ 32 ≤ m ∧ m ≤ 2000 ∧ mc = m + 1) (hsu : suok f C Rs H n) (jsp : rgs SP 20 (-1) 2000) (cbf : -1 ≤ bf ∧ bf ≤ n) (rc : G.length + 5 ≤ ab_n0 + room_1.cells + stC ns) (rs : ab_slots G + 1916393 ≤ room_1.slots + stT ns) (jpm : prM K N O RR fi v9) (chw0 : hw = 0) (cmx : mxA dd bf) (hd : 10 ≤ d) : ab_F X d y_PW_hunt (.code y_PW_hunt b_PW_hunt 3 (some (.boolean))) [vR w_, vz bf] G (fun oc G2 => (∃ o2 : Nat → Nat, ∃ ns2 : Nat, ∃ SP2 : Int → Int, ∃ dd2 : Int, ∃ sm2 : Int, ∃ un2 : Int, oc = .returned (some (vz 0)) ∧ fx o o2 [31, 44, 45, 46, 47] G G2 ∧ cc o2 G2 f_spans 31 (za 20 SP2) ∧ mkB o2 G2 f_marks q f_subject f_spans nm ns2 cnt n sm2 un2 K N O RR f dd2 fy hw ∧ (stm ≤ sm2 ∧ sm2 + 2 * un2 ≤ stm + 2 * un + 2 * n + 3330) ∧ (rgs SP2 20 (-1) 2000) ∧ (G2.length + stC ns = G.length + stC ns2) ∧ (ab_slots G2 + stT ns = ab_slots G + stT ns2) ∧ (nxC v9 f n fy bf wi 0 SP2)) ∨ (∃ o2 : Nat → Nat, ∃ ns2 : Nat, ∃ SP2 : Int → Int, ∃ dd2 : Int, ∃ sm2 : Int, ∃ un2 : Int, oc = .returned (some (vz 1)) ∧ fx o o2 [31, 44, 45, 46, 47] G G2 ∧ cc o2 G2 f_spans 31 (za 20 SP2) ∧ mkB o2 G2 f_marks q f_subject f_spans nm ns2 cnt n sm2 un2 K N O RR f dd2 fy hw ∧ (stm ≤ sm2 ∧ sm2 + 2 * un2 ≤ stm + 2 * un + 2 * n + 3330) ∧ (rgs SP2 20 (-1) 2000) ∧ (G2.length + stC ns = G.length + stC ns2) ∧ (ab_slots G2 + stT ns = ab_slots G + stT ns2) ∧ (rgs SP2 wi (-1) n) ∧ (0 ≤ SP2 0 ∧ SP2 1 ≤ n ∧ 0 ≤ SP2 1) ∧ (dd2 = SP2 1) ∧ (nxC v9 f n fy bf wi 1 SP2))) := by
  refine ab_F_of (by decide +kernel) (Nat.le_of_ble_eq_true rfl) ?_
  obtain ⟨Q, hQ⟩ : ∃ z : Outcome → ab_G → Prop, z = (fun oc G2 => (∃ o2 : Nat → Nat, ∃ ns2 : Nat, ∃ SP2 : Int → Int, ∃ dd2 : Int, ∃ sm2 : Int, ∃ un2 : Int, oc = .returned (some (vz 0)) ∧ fx o o2 [31, 44, 45, 46, 47] G G2 ∧ cc o2 G2 f_spans 31 (za 20 SP2) ∧ mkB o2 G2 f_marks q f_subject f_spans nm ns2 cnt n sm2 un2 K N O RR f dd2 fy hw ∧ (stm ≤ sm2 ∧ sm2 + 2 * un2 ≤ stm + 2 * un + 2 * n + 3330) ∧ (rgs SP2 20 (-1) 2000) ∧ (G2.length + stC ns = G.length + stC ns2) ∧ (ab_slots G2 + stT ns = ab_slots G + stT ns2) ∧ (nxC v9 f n fy bf wi 0 SP2)) ∨ (∃ o2 : Nat → Nat, ∃ ns2 : Nat, ∃ SP2 : Int → Int, ∃ dd2 : Int, ∃ sm2 : Int, ∃ un2 : Int, oc = .returned (some (vz 1)) ∧ fx o o2 [31, 44, 45, 46, 47] G G2 ∧ cc o2 G2 f_spans 31 (za 20 SP2) ∧ mkB o2 G2 f_marks q f_subject f_spans nm ns2 cnt n sm2 un2 K N O RR f dd2 fy hw ∧ (stm ≤ sm2 ∧ sm2 + 2 * un2 ≤ stm + 2 * un + 2 * n + 3330) ∧ (rgs SP2 20 (-1) 2000) ∧ (G2.length + stC ns = G.length + stC ns2) ∧ (ab_slots G2 + stT ns = ab_slots G + stT ns2) ∧ (rgs SP2 wi (-1) n) ∧ (0 ≤ SP2 0 ∧ SP2 1 ≤ n ∧ 0 ≤ SP2 1) ∧ (dd2 = SP2 1) ∧ (nxC v9 f n fy bf wi 1 SP2))) := ⟨_, rfl⟩
  rw [← hQ]
  change ab_W X (ab_pl y_PW_hunt b_PW_hunt 3 (some (.boolean))) d G 0 [some (vR w_), some (vz bf), none] [] Q
  have hfr : fx o o [31, 44, 45, 46, 47] G G := fx.rf
  refine ab_aload_n d_PW_hunt_0 rfl ?_
  refine ab_getf (fs := [vR f_ready, vR f_tape, vR f_reader, vR f_programs, vR f_subject, vR f_spans, vR f_threads, vR f_marks, vR f_oneMind, vR f_states, vR f_latest, vR f_matches, vR f_pieces, vR f_template, vR f_result, vR f_spare, vz cmp, vz ovs]) f_PW_55 d_PW_hunt_1 hw_.2.2 rfl ?_
  refine ab_iload_n d_PW_hunt_4 rfl ?_
  refine zz_iconst d_PW_hunt_5 ?_
  refine zz_mmax2 mj_PW_213 d_PW_hunt_6 (by omega) (by decide) (Nat.le_of_ble_eq_true rfl) (by omega) (fun c1 => ?_) (fun c1 => ?_)
  · obtain ⟨wk_k, mk_k, stk_k, w_k, df_k, dp_k, fo_k, WK_k, M_k, SK_k, hf_marks, hwk_k, hmk_k, hstk_k, cn_k, hst_k, cf_k, cw_k, cm_k, cd_k, hdd_k, cst0_k, hun_k⟩ := pmkB_f_marks
    refine ab_callV (d' := d - 1) (as := [vz 0]) (st := []) (r := _) (z_MK_find (o := o) (q := q) (lq := lq) (ki := ki) (ne := ne) (ot := ot) (cnt := cnt) (fi := fi) (la := la) (ra := ra) (ru := ru) (gr := gr) (wi := wi) (sz := sz) (fl := fl) (ve := ve) (mi := mi) (na := na) (nl := nl) (K := K) (N := N) (O := O) (RR := RR) (nr := nr) (s := f_subject) (by_ := by_) (co := co) (re := re) (ho := ho) (n := n) (C := C) (Rs := Rs) (H := H) (mc := mc) (a := f_marks) (sp := f_spans) (wk := wk_k) (mk := mk_k) (stk := stk_k) (w := w_k) (df := df_k) (dp := dp_k) (fo := fo_k) (fy := fy) (hw := hw) (stp := stm) (SP := SP) (WK := WK_k) (M := M_k) (SK := SK_k) (nm := nm) (ns := ns) (p := 0) (v9 := v9) hf_marks hf_spans hwk_k hmk_k hstk_k hq hki hne hot hra hf_subject hco hre hho (by omega) hp hr (by omega) hsu (by omega) (by omega) (by omega) (by omega) (by omega) (by omega) hst_k (by omega) (by omega) jsp (by omega) (by omega) jpm (hdd_k.up (by have t_ := cmx; unfold mxA at t_; omega)) (by omega)) (fun oc G2 h => by rcases h with ⟨_, _, _, _, _, _, _, _, _, _, _, h, _⟩ | ⟨_, _, _, _, _, _, _, _, _, _, _, _, h, _⟩ <;> exact ⟨_, h⟩) (by omega) m_MK_find ml_PW_251 im_MK_find se_MK_find c_MK hf_marks.2.2 (Nat.le_of_ble_eq_true rfl) d_PW_hunt_9 rfl ?_
    intro v G2 hq
    rcases hq with ⟨o3, df24, dp25, fo26, st27, sk28, ns29, WK210, M211, SK212, SP213, hv, hfk, hNf_marks, hNf_spans, hNwk_k, hNmk_k, hNsk28, hq14, hq15, hq16, hq17, hq18, hq19, hq20, hq21, hq22⟩ | ⟨o23, df224, dp225, fo226, st227, sk228, ns229, WK230, M231, SK232, SP233, r34, hv, hfk, hNf_marks, hNf_spans, hNwk_k, hNmk_k, hNsk228, hq35, hq36, hq37, hq38, hq39, hq40, hq41, hq42, hq43, hq44, hq45, hq46, hq47, hq48⟩
    · cases hv
      have hw_ := hfk.get hw_ (by decide)
      have hq := hfk.get hq (by simp only [List.mem_cons, List.not_mem_nil, or_false]; omega)
      have hki := hfk.get hki (by simp only [List.mem_cons, List.not_mem_nil, or_false]; omega)
      have hne := hfk.get hne (by simp only [List.mem_cons, List.not_mem_nil, or_false]; omega)
      have hot := hfk.get hot (by simp only [List.mem_cons, List.not_mem_nil, or_false]; omega)
      have hra := hfk.get hra (by simp only [List.mem_cons, List.not_mem_nil, or_false]; omega)
      have hf_subject := hfk.get hf_subject (by decide)
      have hco := hfk.get hco (by decide)
      have hre := hfk.get hre (by decide)
      have hho := hfk.get hho (by decide)
      have hfr := hfr.tr hfk (by decide)
      have hq49 := hfk.1
      have hf_marks := hNf_marks
      have hf_spans := hNf_spans
      have hwk_k := hNwk_k
      have hmk_k := hNmk_k
      have hsk28 := hNsk28
      change ab_W _ _ _ G2 12 [some (vR w_), some (vz bf), none] [vz (-1)] _
      refine ab_istore_n d_PW_hunt_12 (Nat.le_of_ble_eq_true rfl) (Nat.le_of_ble_eq_true rfl) rfl ?_
      change ab_W _ _ _ G2 13 [some (vR w_), some (vz bf), some (vz (-1))] [] _
      refine ab_iload_n d_PW_hunt_13 rfl ?_
      refine zz_iconst d_PW_hunt_14 ?_
      refine zz_icmp_eq (tgt := 59) d_PW_hunt_15 (by decide) (by decide) (by decide) (fun c51 => ?_) (fun c51 => absurd c51 (by decide))
      refine ab_iload_n d_PW_hunt_59 rfl ?_
      refine zz_iconst d_PW_hunt_60 ?_
      refine zz_icmp_eq (tgt := 68) d_PW_hunt_61 (by decide) (by decide) (by decide) (fun c52 => ?_) (fun c52 => absurd c52 (by decide))
      refine zz_iconst d_PW_hunt_68 ?_
      have pmkB_f_marks : mkB o3 G2 f_marks q f_subject f_spans nm ns29 cnt n st27 (ucn M211 w_k df24 n) K N O RR f (n + 1) fy hw := ⟨wk_k, mk_k, sk28, w_k, df24, dp25, fo26, WK210, M211, SK212, hf_marks, hwk_k, hmk_k, hsk28, (by omega), hq15, (by omega), (by omega), (by omega), (by omega), (ddC_n (by omega)), (by omega), (by omega)⟩
      refine zz_bret rfl (by decide) d_PW_hunt_69 ?_
      rw [hQ]; exact (Or.inl ⟨_, _, _, _, _, _, rfl, hfr, hf_spans, pmkB_f_marks, (by omega), (by exact hq17), (by omega), (by omega), (by exact nxC_n (nxI_0 (by omega)) (hq22.f0 (by omega)) chw0 (by omega))⟩)
    · cases hv
      have hw_ := hfk.get hw_ (by decide)
      have hq := hfk.get hq (by simp only [List.mem_cons, List.not_mem_nil, or_false]; omega)
      have hki := hfk.get hki (by simp only [List.mem_cons, List.not_mem_nil, or_false]; omega)
      have hne := hfk.get hne (by simp only [List.mem_cons, List.not_mem_nil, or_false]; omega)
      have hot := hfk.get hot (by simp only [List.mem_cons, List.not_mem_nil, or_false]; omega)
      have hra := hfk.get hra (by simp only [List.mem_cons, List.not_mem_nil, or_false]; omega)
      have hf_subject := hfk.get hf_subject (by decide)
      have hco := hfk.get hco (by decide)
      have hre := hfk.get hre (by decide)
      have hho := hfk.get hho (by decide)
      have hfr := hfr.tr hfk (by decide)
      have hq50 := hfk.1
      have hf_marks := hNf_marks
      have hf_spans := hNf_spans
      have hwk_k := hNwk_k
      have hmk_k := hNmk_k
      have hsk228 := hNsk228
      change ab_W _ _ _ G2 12 [some (vR w_), some (vz bf), none] [vz r34] _
      refine ab_istore_n d_PW_hunt_12 (Nat.le_of_ble_eq_true rfl) (Nat.le_of_ble_eq_true rfl) rfl ?_
      change ab_W _ _ _ G2 13 [some (vR w_), some (vz bf), some (vz r34)] [] _
      refine ab_iload_n d_PW_hunt_13 rfl ?_
      refine zz_iconst d_PW_hunt_14 ?_
      refine zz_icmp_eq (tgt := 59) d_PW_hunt_15 (by decide) (by omega) (by decide) (fun c53 => absurd c53 (by omega)) (fun c53 => ?_)
      refine ab_iload_n d_PW_hunt_18 rfl ?_
      refine ab_iload_n d_PW_hunt_19 rfl ?_
      refine zz_icmp_ne (tgt := 59) d_PW_hunt_20 (by decide) (by omega) (by omega) (fun c54 => ?_) (fun c54 => ?_)
      · refine ab_iload_n d_PW_hunt_59 rfl ?_
        refine zz_iconst d_PW_hunt_60 ?_
        refine zz_icmp_eq (tgt := 68) d_PW_hunt_61 (by decide) (by omega) (by decide) (fun c55 => absurd c55 (by omega)) (fun c55 => ?_)
        refine zz_iconst d_PW_hunt_64 ?_
        refine ab_goto (tgt := 69) d_PW_hunt_65 (by decide) ?_
        have pmkB_f_marks : mkB o23 G2 f_marks q f_subject f_spans nm ns229 cnt n st227 (ucn M231 w_k df224 n) K N O RR f r34 fy hw := ⟨wk_k, mk_k, sk228, w_k, df224, dp225, fo226, WK230, M231, SK232, hf_marks, hwk_k, hmk_k, hsk228, (by omega), hq36, (by omega), (by omega), (by omega), (by omega), hq48, (by omega), (by omega)⟩
        refine zz_bret rfl (by decide) d_PW_hunt_69 ?_
        rw [hQ]; exact (Or.inr ⟨_, _, _, _, _, _, rfl, hfr, hf_spans, pmkB_f_marks, (by omega), (by exact hq38), (by omega), (by omega), (by exact hq45), (by have t1 := hq45 1 (by omega) (by omega); have t2 := hq46; omega), (by omega), (by exact nxC_y (nxI_0 (by omega)) (hq47.f1 (by omega)) chw0 (by omega) (fun h => by omega))⟩)
      · have hs0_ := hq38 0 (by omega) (by omega)
        refine ab_aload_n d_PW_hunt_23 rfl ?_
        refine ab_getf (fs := [vR f_ready, vR f_tape, vR f_reader, vR f_programs, vR f_subject, vR f_spans, vR f_threads, vR f_marks, vR f_oneMind, vR f_states, vR f_latest, vR f_matches, vR f_pieces, vR f_template, vR f_result, vR f_spare, vz cmp, vz ovs]) f_PW_42 d_PW_hunt_24 hw_.2.2 rfl ?_
        refine zz_iconst d_PW_hunt_27 ?_
        refine zz_iald d_PW_hunt_28 hf_spans (by omega) ?_
        refine ab_iload_n d_PW_hunt_29 rfl ?_
        refine zz_icmp_ne (tgt := 59) d_PW_hunt_30 (by decide) (by omega) (by omega) (fun c56 => ?_) (fun c56 => ?_)
        · refine ab_iload_n d_PW_hunt_59 rfl ?_
          refine zz_iconst d_PW_hunt_60 ?_
          refine zz_icmp_eq (tgt := 68) d_PW_hunt_61 (by decide) (by omega) (by decide) (fun c57 => absurd c57 (by omega)) (fun c57 => ?_)
          refine zz_iconst d_PW_hunt_64 ?_
          refine ab_goto (tgt := 69) d_PW_hunt_65 (by decide) ?_
          have pmkB_f_marks : mkB o23 G2 f_marks q f_subject f_spans nm ns229 cnt n st227 (ucn M231 w_k df224 n) K N O RR f r34 fy hw := ⟨wk_k, mk_k, sk228, w_k, df224, dp225, fo226, WK230, M231, SK232, hf_marks, hwk_k, hmk_k, hsk228, (by omega), hq36, (by omega), (by omega), (by omega), (by omega), hq48, (by omega), (by omega)⟩
          refine zz_bret rfl (by decide) d_PW_hunt_69 ?_
          rw [hQ]; exact (Or.inr ⟨_, _, _, _, _, _, rfl, hfr, hf_spans, pmkB_f_marks, (by omega), (by exact hq38), (by omega), (by omega), (by exact hq45), (by have t1 := hq45 1 (by omega) (by omega); have t2 := hq46; omega), (by omega), (by exact nxC_y (nxI_0 (by omega)) (hq47.f1 (by omega)) chw0 (by omega) (fun h => by omega))⟩)
        · refine ab_iload_n d_PW_hunt_33 rfl ?_
          refine ab_aload_n d_PW_hunt_34 rfl ?_
          refine ab_getf (fs := [vR f_ready, vR f_tape, vR f_reader, vR f_programs, vR f_subject, vR f_spans, vR f_threads, vR f_marks, vR f_oneMind, vR f_states, vR f_latest, vR f_matches, vR f_pieces, vR f_template, vR f_result, vR f_spare, vz cmp, vz ovs]) f_PW_38 d_PW_hunt_35 hw_.2.2 rfl ?_
          refine ab_getf (fs := [vR by_, vR co, vR re, vR ho, vz n]) f_PW_164 d_PW_hunt_38 hf_subject.2.2 rfl ?_
          refine zz_icmp_ge (tgt := 57) d_PW_hunt_41 (by decide) (by omega) (by omega) (fun c58 => ?_) (fun c58 => ?_)
          · refine zz_iconst d_PW_hunt_57 ?_
            refine ab_istore_n d_PW_hunt_58 (Nat.le_of_ble_eq_true rfl) (Nat.le_of_ble_eq_true rfl) rfl ?_
            change ab_W _ _ _ G2 59 [some (vR w_), some (vz bf), some (vz (-1))] [] _
            refine ab_iload_n d_PW_hunt_59 rfl ?_
            refine zz_iconst d_PW_hunt_60 ?_
            refine zz_icmp_eq (tgt := 68) d_PW_hunt_61 (by decide) (by decide) (by decide) (fun c59 => ?_) (fun c59 => absurd c59 (by decide))
            refine zz_iconst d_PW_hunt_68 ?_
            have pmkB_f_marks : mkB o23 G2 f_marks q f_subject f_spans nm ns229 cnt n st227 (ucn M231 w_k df224 n) K N O RR f r34 fy hw := ⟨wk_k, mk_k, sk228, w_k, df224, dp225, fo226, WK230, M231, SK232, hf_marks, hwk_k, hmk_k, hsk228, (by omega), hq36, (by omega), (by omega), (by omega), (by omega), hq48, (by omega), (by omega)⟩
            refine zz_bret rfl (by decide) d_PW_hunt_69 ?_
            rw [hQ]; exact (Or.inl ⟨_, _, _, _, _, _, rfl, hfr, hf_spans, pmkB_f_marks, (by omega), (by exact hq38), (by omega), (by omega), (by exact nxC_e (af := bf + 1) ((nxI_s (nxI_0 (by omega)) (hq47.f1 (by omega)) chw0 (by omega) (by omega) (by omega)).e (by omega)) (by omega) (by omega) (by omega))⟩)
          · refine ab_aload_n d_PW_hunt_44 rfl ?_
            refine ab_getf (fs := [vR f_ready, vR f_tape, vR f_reader, vR f_programs, vR f_subject, vR f_spans, vR f_threads, vR f_marks, vR f_oneMind, vR f_states, vR f_latest, vR f_matches, vR f_pieces, vR f_template, vR f_result, vR f_spare, vz cmp, vz ovs]) f_PW_55 d_PW_hunt_45 hw_.2.2 rfl ?_
            refine ab_iload_n d_PW_hunt_48 rfl ?_
            refine zz_iconst d_PW_hunt_49 ?_
            refine zz_iadd d_PW_hunt_50 ?_
            refine ab_callV (d' := d - 1) (as := [vz (bf + 1)]) (st := []) (r := _) (z_MK_find (o := o23) (q := q) (lq := lq) (ki := ki) (ne := ne) (ot := ot) (cnt := cnt) (fi := fi) (la := la) (ra := ra) (ru := ru) (gr := gr) (wi := wi) (sz := sz) (fl := fl) (ve := ve) (mi := mi) (na := na) (nl := nl) (K := K) (N := N) (O := O) (RR := RR) (nr := nr) (s := f_subject) (by_ := by_) (co := co) (re := re) (ho := ho) (n := n) (C := C) (Rs := Rs) (H := H) (mc := mc) (a := f_marks) (sp := f_spans) (wk := wk_k) (mk := mk_k) (stk := sk228) (w := w_k) (df := df224) (dp := dp225) (fo := fo226) (fy := fy) (hw := hw) (stp := st227) (SP := SP233) (WK := WK230) (M := M231) (SK := SK232) (nm := nm) (ns := ns229) (p := (bf + 1)) (v9 := v9) hf_marks hf_spans hwk_k hmk_k hsk228 hq hki hne hot hra hf_subject hco hre hho (by omega) hp hr (by omega) hsu (by omega) (by omega) (by omega) (by omega) (by omega) (by omega) hq36 (by omega) (by omega) hq38 (by omega) (by omega) jpm (hq48.up (by omega)) (by omega)) (fun oc G2 h => by rcases h with ⟨_, _, _, _, _, _, _, _, _, _, _, h, _⟩ | ⟨_, _, _, _, _, _, _, _, _, _, _, _, h, _⟩ <;> exact ⟨_, h⟩) (by omega) m_MK_find ml_PW_251 im_MK_find se_MK_find c_MK hf_marks.2.2 (Nat.le_of_ble_eq_true rfl) d_PW_hunt_51 rfl ?_
            intro v G60 hq
            rcases hq with ⟨o61, df262, dp263, fo264, st265, sk266, ns267, WK268, M269, SK270, SP271, hv, hfk, hNf_marks, hNf_spans, hNwk_k, hNmk_k, hNsk266, hq72, hq73, hq74, hq75, hq76, hq77, hq78, hq79, hq80⟩ | ⟨o81, df282, dp283, fo284, st285, sk286, ns287, WK288, M289, SK290, SP291, r92, hv, hfk, hNf_marks, hNf_spans, hNwk_k, hNmk_k, hNsk286, hq93, hq94, hq95, hq96, hq97, hq98, hq99, hq100, hq101, hq102, hq103, hq104, hq105, hq106⟩
            · cases hv
              have hw_ := hfk.get hw_ (by decide)
              have hq := hfk.get hq (by simp only [List.mem_cons, List.not_mem_nil, or_false]; omega)
              have hki := hfk.get hki (by simp only [List.mem_cons, List.not_mem_nil, or_false]; omega)
              have hne := hfk.get hne (by simp only [List.mem_cons, List.not_mem_nil, or_false]; omega)
              have hot := hfk.get hot (by simp only [List.mem_cons, List.not_mem_nil, or_false]; omega)
              have hra := hfk.get hra (by simp only [List.mem_cons, List.not_mem_nil, or_false]; omega)
              have hf_subject := hfk.get hf_subject (by decide)
              have hco := hfk.get hco (by decide)
              have hre := hfk.get hre (by decide)
              have hho := hfk.get hho (by decide)
              have hfr := hfr.tr hfk (by decide)
              have hq107 := hfk.1
              have hf_marks := hNf_marks
              have hf_spans := hNf_spans
              have hwk_k := hNwk_k
              have hmk_k := hNmk_k
              have hsk266 := hNsk266
              change ab_W _ _ _ G60 54 [some (vR w_), some (vz bf), some (vz r34)] [vz (-1)] _
              refine ab_goto (tgt := 58) d_PW_hunt_54 (by decide) ?_
              refine ab_istore_n d_PW_hunt_58 (Nat.le_of_ble_eq_true rfl) (Nat.le_of_ble_eq_true rfl) rfl ?_
              change ab_W _ _ _ G60 59 [some (vR w_), some (vz bf), some (vz (-1))] [] _
              refine ab_iload_n d_PW_hunt_59 rfl ?_
              refine zz_iconst d_PW_hunt_60 ?_
              refine zz_icmp_eq (tgt := 68) d_PW_hunt_61 (by decide) (by decide) (by decide) (fun c109 => ?_) (fun c109 => absurd c109 (by decide))
              refine zz_iconst d_PW_hunt_68 ?_
              have pmkB_f_marks : mkB o61 G60 f_marks q f_subject f_spans nm ns267 cnt n st265 (ucn M269 w_k df262 n) K N O RR f (n + 1) fy hw := ⟨wk_k, mk_k, sk266, w_k, df262, dp263, fo264, WK268, M269, SK270, hf_marks, hwk_k, hmk_k, hsk266, (by omega), hq73, (by omega), (by omega), (by omega), (by omega), (ddC_n (by omega)), (by omega), (by omega)⟩
              refine zz_bret rfl (by decide) d_PW_hunt_69 ?_
              rw [hQ]; exact (Or.inl ⟨_, _, _, _, _, _, rfl, hfr, hf_spans, pmkB_f_marks, (by omega), (by exact hq75), (by omega), (by omega), (by exact nxC_n ((nxI_s (nxI_0 (by omega)) (hq47.f1 (by omega)) chw0 (by omega) (by omega) (by omega)).e (by omega)) (hq80.f0 (by omega)) chw0 (by omega))⟩)
            · cases hv
              have hw_ := hfk.get hw_ (by decide)
              have hq := hfk.get hq (by simp only [List.mem_cons, List.not_mem_nil, or_false]; omega)
              have hki := hfk.get hki (by simp only [List.mem_cons, List.not_mem_nil, or_false]; omega)
              have hne := hfk.get hne (by simp only [List.mem_cons, List.not_mem_nil, or_false]; omega)
              have hot := hfk.get hot (by simp only [List.mem_cons, List.not_mem_nil, or_false]; omega)
              have hra := hfk.get hra (by simp only [List.mem_cons, List.not_mem_nil, or_false]; omega)
              have hf_subject := hfk.get hf_subject (by decide)
              have hco := hfk.get hco (by decide)
              have hre := hfk.get hre (by decide)
              have hho := hfk.get hho (by decide)
              have hfr := hfr.tr hfk (by decide)
              have hq108 := hfk.1
              have hf_marks := hNf_marks
              have hf_spans := hNf_spans
              have hwk_k := hNwk_k
              have hmk_k := hNmk_k
              have hsk286 := hNsk286
              change ab_W _ _ _ G60 54 [some (vR w_), some (vz bf), some (vz r34)] [vz r92] _
              refine ab_goto (tgt := 58) d_PW_hunt_54 (by decide) ?_
              refine ab_istore_n d_PW_hunt_58 (Nat.le_of_ble_eq_true rfl) (Nat.le_of_ble_eq_true rfl) rfl ?_
              change ab_W _ _ _ G60 59 [some (vR w_), some (vz bf), some (vz r92)] [] _
              refine ab_iload_n d_PW_hunt_59 rfl ?_
              refine zz_iconst d_PW_hunt_60 ?_
              refine zz_icmp_eq (tgt := 68) d_PW_hunt_61 (by decide) (by omega) (by decide) (fun c110 => absurd c110 (by omega)) (fun c110 => ?_)
              refine zz_iconst d_PW_hunt_64 ?_
              refine ab_goto (tgt := 69) d_PW_hunt_65 (by decide) ?_
              have pmkB_f_marks : mkB o81 G60 f_marks q f_subject f_spans nm ns287 cnt n st285 (ucn M289 w_k df282 n) K N O RR f r92 fy hw := ⟨wk_k, mk_k, sk286, w_k, df282, dp283, fo284, WK288, M289, SK290, hf_marks, hwk_k, hmk_k, hsk286, (by omega), hq94, (by omega), (by omega), (by omega), (by omega), hq106, (by omega), (by omega)⟩
              refine zz_bret rfl (by decide) d_PW_hunt_69 ?_
              rw [hQ]; exact (Or.inr ⟨_, _, _, _, _, _, rfl, hfr, hf_spans, pmkB_f_marks, (by omega), (by exact hq96), (by omega), (by omega), (by exact hq103), (by have t1 := hq103 1 (by omega) (by omega); have t2 := hq104; omega), (by omega), (by exact nxC_y ((nxI_s (nxI_0 (by omega)) (hq47.f1 (by omega)) chw0 (by omega) (by omega) (by omega)).e (by omega)) (hq105.f1 (by omega)) chw0 (by omega) (fun h => by have t_ := fdC.ge (hq105.f1 (by omega)); omega))⟩)
  · obtain ⟨wk_k, mk_k, stk_k, w_k, df_k, dp_k, fo_k, WK_k, M_k, SK_k, hf_marks, hwk_k, hmk_k, hstk_k, cn_k, hst_k, cf_k, cw_k, cm_k, cd_k, hdd_k, cst0_k, hun_k⟩ := pmkB_f_marks
    refine ab_callV (d' := d - 1) (as := [vz bf]) (st := []) (r := _) (z_MK_find (o := o) (q := q) (lq := lq) (ki := ki) (ne := ne) (ot := ot) (cnt := cnt) (fi := fi) (la := la) (ra := ra) (ru := ru) (gr := gr) (wi := wi) (sz := sz) (fl := fl) (ve := ve) (mi := mi) (na := na) (nl := nl) (K := K) (N := N) (O := O) (RR := RR) (nr := nr) (s := f_subject) (by_ := by_) (co := co) (re := re) (ho := ho) (n := n) (C := C) (Rs := Rs) (H := H) (mc := mc) (a := f_marks) (sp := f_spans) (wk := wk_k) (mk := mk_k) (stk := stk_k) (w := w_k) (df := df_k) (dp := dp_k) (fo := fo_k) (fy := fy) (hw := hw) (stp := stm) (SP := SP) (WK := WK_k) (M := M_k) (SK := SK_k) (nm := nm) (ns := ns) (p := bf) (v9 := v9) hf_marks hf_spans hwk_k hmk_k hstk_k hq hki hne hot hra hf_subject hco hre hho (by omega) hp hr (by omega) hsu (by omega) (by omega) (by omega) (by omega) (by omega) (by omega) hst_k (by omega) (by omega) jsp (by omega) (by omega) jpm (hdd_k.up (by have t_ := cmx; unfold mxA at t_; omega)) (by omega)) (fun oc G2 h => by rcases h with ⟨_, _, _, _, _, _, _, _, _, _, _, h, _⟩ | ⟨_, _, _, _, _, _, _, _, _, _, _, _, h, _⟩ <;> exact ⟨_, h⟩) (by omega) m_MK_find ml_PW_251 im_MK_find se_MK_find c_MK hf_marks.2.2 (Nat.le_of_ble_eq_true rfl) d_PW_hunt_9 rfl ?_
    intro v G111 hq
    rcases hq with ⟨o112, df2113, dp2114, fo2115, st2116, sk2117, ns2118, WK2119, M2120, SK2121, SP2122, hv, hfk, hNf_marks, hNf_spans, hNwk_k, hNmk_k, hNsk2117, hq123, hq124, hq125, hq126, hq127, hq128, hq129, hq130, hq131⟩ | ⟨o132, df2133, dp2134, fo2135, st2136, sk2137, ns2138, WK2139, M2140, SK2141, SP2142, r143, hv, hfk, hNf_marks, hNf_spans, hNwk_k, hNmk_k, hNsk2137, hq144, hq145, hq146, hq147, hq148, hq149, hq150, hq151, hq152, hq153, hq154, hq155, hq156, hq157⟩
    · cases hv
      have hw_ := hfk.get hw_ (by decide)
      have hq := hfk.get hq (by simp only [List.mem_cons, List.not_mem_nil, or_false]; omega)
      have hki := hfk.get hki (by simp only [List.mem_cons, List.not_mem_nil, or_false]; omega)
      have hne := hfk.get hne (by simp only [List.mem_cons, List.not_mem_nil, or_false]; omega)
      have hot := hfk.get hot (by simp only [List.mem_cons, List.not_mem_nil, or_false]; omega)
      have hra := hfk.get hra (by simp only [List.mem_cons, List.not_mem_nil, or_false]; omega)
      have hf_subject := hfk.get hf_subject (by decide)
      have hco := hfk.get hco (by decide)
      have hre := hfk.get hre (by decide)
      have hho := hfk.get hho (by decide)
      have hfr := hfr.tr hfk (by decide)
      have hq158 := hfk.1
      have hf_marks := hNf_marks
      have hf_spans := hNf_spans
      have hwk_k := hNwk_k
      have hmk_k := hNmk_k
      have hsk2117 := hNsk2117
      change ab_W _ _ _ G111 12 [some (vR w_), some (vz bf), none] [vz (-1)] _
      refine ab_istore_n d_PW_hunt_12 (Nat.le_of_ble_eq_true rfl) (Nat.le_of_ble_eq_true rfl) rfl ?_
      change ab_W _ _ _ G111 13 [some (vR w_), some (vz bf), some (vz (-1))] [] _
      refine ab_iload_n d_PW_hunt_13 rfl ?_
      refine zz_iconst d_PW_hunt_14 ?_
      refine zz_icmp_eq (tgt := 59) d_PW_hunt_15 (by decide) (by decide) (by decide) (fun c160 => ?_) (fun c160 => absurd c160 (by decide))
      refine ab_iload_n d_PW_hunt_59 rfl ?_
      refine zz_iconst d_PW_hunt_60 ?_
      refine zz_icmp_eq (tgt := 68) d_PW_hunt_61 (by decide) (by decide) (by decide) (fun c161 => ?_) (fun c161 => absurd c161 (by decide))
      refine zz_iconst d_PW_hunt_68 ?_
      have pmkB_f_marks : mkB o112 G111 f_marks q f_subject f_spans nm ns2118 cnt n st2116 (ucn M2120 w_k df2113 n) K N O RR f (n + 1) fy hw := ⟨wk_k, mk_k, sk2117, w_k, df2113, dp2114, fo2115, WK2119, M2120, SK2121, hf_marks, hwk_k, hmk_k, hsk2117, (by omega), hq124, (by omega), (by omega), (by omega), (by omega), (ddC_n (by omega)), (by omega), (by omega)⟩
      refine zz_bret rfl (by decide) d_PW_hunt_69 ?_
      rw [hQ]; exact (Or.inl ⟨_, _, _, _, _, _, rfl, hfr, hf_spans, pmkB_f_marks, (by omega), (by exact hq126), (by omega), (by omega), (by exact nxC_n (nxI_0 (by omega)) (hq131.f0 (by omega)) chw0 (by omega))⟩)
    · cases hv
      have hw_ := hfk.get hw_ (by decide)
      have hq := hfk.get hq (by simp only [List.mem_cons, List.not_mem_nil, or_false]; omega)
      have hki := hfk.get hki (by simp only [List.mem_cons, List.not_mem_nil, or_false]; omega)
      have hne := hfk.get hne (by simp only [List.mem_cons, List.not_mem_nil, or_false]; omega)
      have hot := hfk.get hot (by simp only [List.mem_cons, List.not_mem_nil, or_false]; omega)
      have hra := hfk.get hra (by simp only [List.mem_cons, List.not_mem_nil, or_false]; omega)
      have hf_subject := hfk.get hf_subject (by decide)
      have hco := hfk.get hco (by decide)
      have hre := hfk.get hre (by decide)
      have hho := hfk.get hho (by decide)
      have hfr := hfr.tr hfk (by decide)
      have hq159 := hfk.1
      have hf_marks := hNf_marks
      have hf_spans := hNf_spans
      have hwk_k := hNwk_k
      have hmk_k := hNmk_k
      have hsk2137 := hNsk2137
      change ab_W _ _ _ G111 12 [some (vR w_), some (vz bf), none] [vz r143] _
      refine ab_istore_n d_PW_hunt_12 (Nat.le_of_ble_eq_true rfl) (Nat.le_of_ble_eq_true rfl) rfl ?_
      change ab_W _ _ _ G111 13 [some (vR w_), some (vz bf), some (vz r143)] [] _
      refine ab_iload_n d_PW_hunt_13 rfl ?_
      refine zz_iconst d_PW_hunt_14 ?_
      refine zz_icmp_eq (tgt := 59) d_PW_hunt_15 (by decide) (by omega) (by decide) (fun c162 => absurd c162 (by omega)) (fun c162 => ?_)
      refine ab_iload_n d_PW_hunt_18 rfl ?_
      refine ab_iload_n d_PW_hunt_19 rfl ?_
      refine zz_icmp_ne (tgt := 59) d_PW_hunt_20 (by decide) (by omega) (by omega) (fun c163 => ?_) (fun c163 => ?_)
      · refine ab_iload_n d_PW_hunt_59 rfl ?_
        refine zz_iconst d_PW_hunt_60 ?_
        refine zz_icmp_eq (tgt := 68) d_PW_hunt_61 (by decide) (by omega) (by decide) (fun c164 => absurd c164 (by omega)) (fun c164 => ?_)
        refine zz_iconst d_PW_hunt_64 ?_
        refine ab_goto (tgt := 69) d_PW_hunt_65 (by decide) ?_
        have pmkB_f_marks : mkB o132 G111 f_marks q f_subject f_spans nm ns2138 cnt n st2136 (ucn M2140 w_k df2133 n) K N O RR f r143 fy hw := ⟨wk_k, mk_k, sk2137, w_k, df2133, dp2134, fo2135, WK2139, M2140, SK2141, hf_marks, hwk_k, hmk_k, hsk2137, (by omega), hq145, (by omega), (by omega), (by omega), (by omega), hq157, (by omega), (by omega)⟩
        refine zz_bret rfl (by decide) d_PW_hunt_69 ?_
        rw [hQ]; exact (Or.inr ⟨_, _, _, _, _, _, rfl, hfr, hf_spans, pmkB_f_marks, (by omega), (by exact hq147), (by omega), (by omega), (by exact hq154), (by have t1 := hq154 1 (by omega) (by omega); have t2 := hq155; omega), (by omega), (by exact nxC_y (nxI_0 (by omega)) (hq156.f1 (by omega)) chw0 (by omega) (fun h => by omega))⟩)
      · have hs0_ := hq147 0 (by omega) (by omega)
        refine ab_aload_n d_PW_hunt_23 rfl ?_
        refine ab_getf (fs := [vR f_ready, vR f_tape, vR f_reader, vR f_programs, vR f_subject, vR f_spans, vR f_threads, vR f_marks, vR f_oneMind, vR f_states, vR f_latest, vR f_matches, vR f_pieces, vR f_template, vR f_result, vR f_spare, vz cmp, vz ovs]) f_PW_42 d_PW_hunt_24 hw_.2.2 rfl ?_
        refine zz_iconst d_PW_hunt_27 ?_
        refine zz_iald d_PW_hunt_28 hf_spans (by omega) ?_
        refine ab_iload_n d_PW_hunt_29 rfl ?_
        refine zz_icmp_ne (tgt := 59) d_PW_hunt_30 (by decide) (by omega) (by omega) (fun c165 => ?_) (fun c165 => ?_)
        · refine ab_iload_n d_PW_hunt_59 rfl ?_
          refine zz_iconst d_PW_hunt_60 ?_
          refine zz_icmp_eq (tgt := 68) d_PW_hunt_61 (by decide) (by omega) (by decide) (fun c166 => absurd c166 (by omega)) (fun c166 => ?_)
          refine zz_iconst d_PW_hunt_64 ?_
          refine ab_goto (tgt := 69) d_PW_hunt_65 (by decide) ?_
          have pmkB_f_marks : mkB o132 G111 f_marks q f_subject f_spans nm ns2138 cnt n st2136 (ucn M2140 w_k df2133 n) K N O RR f r143 fy hw := ⟨wk_k, mk_k, sk2137, w_k, df2133, dp2134, fo2135, WK2139, M2140, SK2141, hf_marks, hwk_k, hmk_k, hsk2137, (by omega), hq145, (by omega), (by omega), (by omega), (by omega), hq157, (by omega), (by omega)⟩
          refine zz_bret rfl (by decide) d_PW_hunt_69 ?_
          rw [hQ]; exact (Or.inr ⟨_, _, _, _, _, _, rfl, hfr, hf_spans, pmkB_f_marks, (by omega), (by exact hq147), (by omega), (by omega), (by exact hq154), (by have t1 := hq154 1 (by omega) (by omega); have t2 := hq155; omega), (by omega), (by exact nxC_y (nxI_0 (by omega)) (hq156.f1 (by omega)) chw0 (by omega) (fun h => by omega))⟩)
        · refine ab_iload_n d_PW_hunt_33 rfl ?_
          refine ab_aload_n d_PW_hunt_34 rfl ?_
          refine ab_getf (fs := [vR f_ready, vR f_tape, vR f_reader, vR f_programs, vR f_subject, vR f_spans, vR f_threads, vR f_marks, vR f_oneMind, vR f_states, vR f_latest, vR f_matches, vR f_pieces, vR f_template, vR f_result, vR f_spare, vz cmp, vz ovs]) f_PW_38 d_PW_hunt_35 hw_.2.2 rfl ?_
          refine ab_getf (fs := [vR by_, vR co, vR re, vR ho, vz n]) f_PW_164 d_PW_hunt_38 hf_subject.2.2 rfl ?_
          refine zz_icmp_ge (tgt := 57) d_PW_hunt_41 (by decide) (by omega) (by omega) (fun c167 => ?_) (fun c167 => ?_)
          · refine zz_iconst d_PW_hunt_57 ?_
            refine ab_istore_n d_PW_hunt_58 (Nat.le_of_ble_eq_true rfl) (Nat.le_of_ble_eq_true rfl) rfl ?_
            change ab_W _ _ _ G111 59 [some (vR w_), some (vz bf), some (vz (-1))] [] _
            refine ab_iload_n d_PW_hunt_59 rfl ?_
            refine zz_iconst d_PW_hunt_60 ?_
            refine zz_icmp_eq (tgt := 68) d_PW_hunt_61 (by decide) (by decide) (by decide) (fun c168 => ?_) (fun c168 => absurd c168 (by decide))
            refine zz_iconst d_PW_hunt_68 ?_
            have pmkB_f_marks : mkB o132 G111 f_marks q f_subject f_spans nm ns2138 cnt n st2136 (ucn M2140 w_k df2133 n) K N O RR f r143 fy hw := ⟨wk_k, mk_k, sk2137, w_k, df2133, dp2134, fo2135, WK2139, M2140, SK2141, hf_marks, hwk_k, hmk_k, hsk2137, (by omega), hq145, (by omega), (by omega), (by omega), (by omega), hq157, (by omega), (by omega)⟩
            refine zz_bret rfl (by decide) d_PW_hunt_69 ?_
            rw [hQ]; exact (Or.inl ⟨_, _, _, _, _, _, rfl, hfr, hf_spans, pmkB_f_marks, (by omega), (by exact hq147), (by omega), (by omega), (by exact nxC_e (af := bf + 1) ((nxI_s (nxI_0 (by omega)) (hq156.f1 (by omega)) chw0 (by omega) (by omega) (by omega)).e (by omega)) (by omega) (by omega) (by omega))⟩)
          · refine ab_aload_n d_PW_hunt_44 rfl ?_
            refine ab_getf (fs := [vR f_ready, vR f_tape, vR f_reader, vR f_programs, vR f_subject, vR f_spans, vR f_threads, vR f_marks, vR f_oneMind, vR f_states, vR f_latest, vR f_matches, vR f_pieces, vR f_template, vR f_result, vR f_spare, vz cmp, vz ovs]) f_PW_55 d_PW_hunt_45 hw_.2.2 rfl ?_
            refine ab_iload_n d_PW_hunt_48 rfl ?_
            refine zz_iconst d_PW_hunt_49 ?_
            refine zz_iadd d_PW_hunt_50 ?_
            refine ab_callV (d' := d - 1) (as := [vz (bf + 1)]) (st := []) (r := _) (z_MK_find (o := o132) (q := q) (lq := lq) (ki := ki) (ne := ne) (ot := ot) (cnt := cnt) (fi := fi) (la := la) (ra := ra) (ru := ru) (gr := gr) (wi := wi) (sz := sz) (fl := fl) (ve := ve) (mi := mi) (na := na) (nl := nl) (K := K) (N := N) (O := O) (RR := RR) (nr := nr) (s := f_subject) (by_ := by_) (co := co) (re := re) (ho := ho) (n := n) (C := C) (Rs := Rs) (H := H) (mc := mc) (a := f_marks) (sp := f_spans) (wk := wk_k) (mk := mk_k) (stk := sk2137) (w := w_k) (df := df2133) (dp := dp2134) (fo := fo2135) (fy := fy) (hw := hw) (stp := st2136) (SP := SP2142) (WK := WK2139) (M := M2140) (SK := SK2141) (nm := nm) (ns := ns2138) (p := (bf + 1)) (v9 := v9) hf_marks hf_spans hwk_k hmk_k hsk2137 hq hki hne hot hra hf_subject hco hre hho (by omega) hp hr (by omega) hsu (by omega) (by omega) (by omega) (by omega) (by omega) (by omega) hq145 (by omega) (by omega) hq147 (by omega) (by omega) jpm (hq157.up (by omega)) (by omega)) (fun oc G2 h => by rcases h with ⟨_, _, _, _, _, _, _, _, _, _, _, h, _⟩ | ⟨_, _, _, _, _, _, _, _, _, _, _, _, h, _⟩ <;> exact ⟨_, h⟩) (by omega) m_MK_find ml_PW_251 im_MK_find se_MK_find c_MK hf_marks.2.2 (Nat.le_of_ble_eq_true rfl) d_PW_hunt_51 rfl ?_
            intro v G169 hq
            rcases hq with ⟨o170, df2171, dp2172, fo2173, st2174, sk2175, ns2176, WK2177, M2178, SK2179, SP2180, hv, hfk, hNf_marks, hNf_spans, hNwk_k, hNmk_k, hNsk2175, hq181, hq182, hq183, hq184, hq185, hq186, hq187, hq188, hq189⟩ | ⟨o190, df2191, dp2192, fo2193, st2194, sk2195, ns2196, WK2197, M2198, SK2199, SP2200, r201, hv, hfk, hNf_marks, hNf_spans, hNwk_k, hNmk_k, hNsk2195, hq202, hq203, hq204, hq205, hq206, hq207, hq208, hq209, hq210, hq211, hq212, hq213, hq214, hq215⟩
            · cases hv
              have hw_ := hfk.get hw_ (by decide)
              have hq := hfk.get hq (by simp only [List.mem_cons, List.not_mem_nil, or_false]; omega)
              have hki := hfk.get hki (by simp only [List.mem_cons, List.not_mem_nil, or_false]; omega)
              have hne := hfk.get hne (by simp only [List.mem_cons, List.not_mem_nil, or_false]; omega)
              have hot := hfk.get hot (by simp only [List.mem_cons, List.not_mem_nil, or_false]; omega)
              have hra := hfk.get hra (by simp only [List.mem_cons, List.not_mem_nil, or_false]; omega)
              have hf_subject := hfk.get hf_subject (by decide)
              have hco := hfk.get hco (by decide)
              have hre := hfk.get hre (by decide)
              have hho := hfk.get hho (by decide)
              have hfr := hfr.tr hfk (by decide)
              have hq216 := hfk.1
              have hf_marks := hNf_marks
              have hf_spans := hNf_spans
              have hwk_k := hNwk_k
              have hmk_k := hNmk_k
              have hsk2175 := hNsk2175
              change ab_W _ _ _ G169 54 [some (vR w_), some (vz bf), some (vz r143)] [vz (-1)] _
              refine ab_goto (tgt := 58) d_PW_hunt_54 (by decide) ?_
              refine ab_istore_n d_PW_hunt_58 (Nat.le_of_ble_eq_true rfl) (Nat.le_of_ble_eq_true rfl) rfl ?_
              change ab_W _ _ _ G169 59 [some (vR w_), some (vz bf), some (vz (-1))] [] _
              refine ab_iload_n d_PW_hunt_59 rfl ?_
              refine zz_iconst d_PW_hunt_60 ?_
              refine zz_icmp_eq (tgt := 68) d_PW_hunt_61 (by decide) (by decide) (by decide) (fun c218 => ?_) (fun c218 => absurd c218 (by decide))
              refine zz_iconst d_PW_hunt_68 ?_
              have pmkB_f_marks : mkB o170 G169 f_marks q f_subject f_spans nm ns2176 cnt n st2174 (ucn M2178 w_k df2171 n) K N O RR f (n + 1) fy hw := ⟨wk_k, mk_k, sk2175, w_k, df2171, dp2172, fo2173, WK2177, M2178, SK2179, hf_marks, hwk_k, hmk_k, hsk2175, (by omega), hq182, (by omega), (by omega), (by omega), (by omega), (ddC_n (by omega)), (by omega), (by omega)⟩
              refine zz_bret rfl (by decide) d_PW_hunt_69 ?_
              rw [hQ]; exact (Or.inl ⟨_, _, _, _, _, _, rfl, hfr, hf_spans, pmkB_f_marks, (by omega), (by exact hq184), (by omega), (by omega), (by exact nxC_n ((nxI_s (nxI_0 (by omega)) (hq156.f1 (by omega)) chw0 (by omega) (by omega) (by omega)).e (by omega)) (hq189.f0 (by omega)) chw0 (by omega))⟩)
            · cases hv
              have hw_ := hfk.get hw_ (by decide)
              have hq := hfk.get hq (by simp only [List.mem_cons, List.not_mem_nil, or_false]; omega)
              have hki := hfk.get hki (by simp only [List.mem_cons, List.not_mem_nil, or_false]; omega)
              have hne := hfk.get hne (by simp only [List.mem_cons, List.not_mem_nil, or_false]; omega)
              have hot := hfk.get hot (by simp only [List.mem_cons, List.not_mem_nil, or_false]; omega)
              have hra := hfk.get hra (by simp only [List.mem_cons, List.not_mem_nil, or_false]; omega)
              have hf_subject := hfk.get hf_subject (by decide)
              have hco := hfk.get hco (by decide)
              have hre := hfk.get hre (by decide)
              have hho := hfk.get hho (by decide)
              have hfr := hfr.tr hfk (by decide)
              have hq217 := hfk.1
              have hf_marks := hNf_marks
              have hf_spans := hNf_spans
              have hwk_k := hNwk_k
              have hmk_k := hNmk_k
              have hsk2195 := hNsk2195
              change ab_W _ _ _ G169 54 [some (vR w_), some (vz bf), some (vz r143)] [vz r201] _
              refine ab_goto (tgt := 58) d_PW_hunt_54 (by decide) ?_
              refine ab_istore_n d_PW_hunt_58 (Nat.le_of_ble_eq_true rfl) (Nat.le_of_ble_eq_true rfl) rfl ?_
              change ab_W _ _ _ G169 59 [some (vR w_), some (vz bf), some (vz r201)] [] _
              refine ab_iload_n d_PW_hunt_59 rfl ?_
              refine zz_iconst d_PW_hunt_60 ?_
              refine zz_icmp_eq (tgt := 68) d_PW_hunt_61 (by decide) (by omega) (by decide) (fun c219 => absurd c219 (by omega)) (fun c219 => ?_)
              refine zz_iconst d_PW_hunt_64 ?_
              refine ab_goto (tgt := 69) d_PW_hunt_65 (by decide) ?_
              have pmkB_f_marks : mkB o190 G169 f_marks q f_subject f_spans nm ns2196 cnt n st2194 (ucn M2198 w_k df2191 n) K N O RR f r201 fy hw := ⟨wk_k, mk_k, sk2195, w_k, df2191, dp2192, fo2193, WK2197, M2198, SK2199, hf_marks, hwk_k, hmk_k, hsk2195, (by omega), hq203, (by omega), (by omega), (by omega), (by omega), hq215, (by omega), (by omega)⟩
              refine zz_bret rfl (by decide) d_PW_hunt_69 ?_
              rw [hQ]; exact (Or.inr ⟨_, _, _, _, _, _, rfl, hfr, hf_spans, pmkB_f_marks, (by omega), (by exact hq205), (by omega), (by omega), (by exact hq212), (by have t1 := hq212 1 (by omega) (by omega); have t2 := hq213; omega), (by omega), (by exact nxC_y ((nxI_s (nxI_0 (by omega)) (hq156.f1 (by omega)) chw0 (by omega) (by omega) (by omega)).e (by omega)) (hq214.f1 (by omega)) chw0 (by omega) (fun h => by have t_ := fdC.ge (hq214.f1 (by omega)); omega))⟩)
set_option maxRecDepth 100000 in
set_option maxHeartbeats 4000000 in
theorem y_PW_all_50 {X : ab_X} {d : Nat} {Q : Outcome → ab_G → Prop} {o0 : Nat → Nat} {G0 : ab_G} {w_ : Nat} {f_ready : Nat} {f_tape : Nat} {f_reader : Nat} {f_programs : Nat} {f_subject : Nat} {f_spans : Nat} {f_threads : Nat} {f_marks : Nat} {f_oneMind : Nat} {f_states : Nat} {f_latest : Nat} {f_matches : Nat} {f_pieces : Nat} {f_template : Nat} {f_result : Nat} {f_spare : Nat} {cmp : Int} {ovs : Int} {q : Nat} {lq : Nat} {ki : Nat} {ne : Nat} {ot : Nat} {cnt : Int} {fi : Int} {la : Int} {ra : Nat} {ru : Int} {gr : Int} {wi : Int} {sz : Int} {fl : Int} {ve : Int} {mi : Int} {K : Int → Int} {N : Int → Int} {O : Int → Int} {RR : Int → Int} {nr : Nat} {na : Nat} {nl : Nat} {nm : Nat} {n : Int} {m : Nat} {f : Int → Int} {by_ : Nat} {co : Nat} {re : Nat} {ho : Nat} {C : Int → Int} {Rs : Int → Int} {H : Int → Int} {mc : Nat} {ns0 : Nat} {mr0 : Nat} {fy : Int} {hw : Int} {v9 : Sn} {st0 : Int} {un0 : Int} (n18 : ab_n0 = 18) (cq : 100 ≤ lq ∧ 2 ≤ cnt ∧ cnt ≤ 808 ∧ ↑nr ≤ (100000 : Int)) (hp : prok K N O RR cnt ↑nr wi) (hr : ∀ k : Int, 0 ≤ k → k < ↑nr → 0 ≤ RR k ∧ RR k ≤ 1114111) (cfi : 0 ≤ fi ∧ fi < cnt) (cwi : 2 ≤ wi ∧ wi ≤ 20) (csu : 0 ≤ n ∧ n ≤ ↑m ∧ 32 ≤ m ∧ m ≤ 2000 ∧ mc = m + 1) (hsu : suok f C Rs H n) (jpm : prM K N O RR fi v9) (chw0 : hw = 0) (rc : G0.length + 4500 ≤ ab_n0 + room_1.cells) (rs : ab_slots G0 + 1940000 ≤ room_1.slots + stT ns0 + zT mr0 4002) (hd : 11 ≤ d) : ∀ (mz : Nat) {G : ab_G} {o : Nat → Nat} {ns : Nat} {SP : Int → Int} {it_a : Nat} {sz_a : Int} {mr_a : Nat} {F_a : Int → Int} {bf : Int} {tu : Int} {dd : Int} {stm : Int} {un : Int}, (cc o G w_ 18 (ab_ob 0 [vR f_ready, vR f_tape, vR f_reader, vR f_programs, vR f_subject, vR f_spans, vR f_threads, vR f_marks, vR f_oneMind, vR f_states, vR f_latest, vR f_matches, vR f_pieces, vR f_template, vR f_result, vR f_spare, vz cmp, vz ovs])) → (cc o G f_spans 31 (za 20 SP)) → (cc o G q lq (ab_ob 5 [vR ki, vR ne, vR ot, vz cnt, vz fi, vz la, vR ra, vz ru, vz gr, vz wi, vz sz, vz fl, vz ve, vz mi, vR na, vR nl])) → (cc o G ki (lq + 1) (za 808 K)) → (cc o G ne (lq + 2) (za 808 N)) → (cc o G ot (lq + 3) (za 808 O)) → (cc o G ra (lq + 4) (za nr RR)) → (cc o G f_subject 26 (ab_ob 9 [vR by_, vR co, vR re, vR ho, vz n])) → (cc o G co 28 (za mc C)) → (cc o G re 29 (za mc Rs)) → (cc o G ho 30 (za mc H)) → (cc o G f_matches 71 (ab_ob 7 [vz 4002, vR it_a, vz sz_a])) → (cc o G it_a 72 (za mr_a F_a)) → (mkB o G f_marks q f_subject f_spans nm ns cnt n stm un K N O RR f dd fy hw) → (0 ≤ tu ∧ tu ≤ n + 1 ∧ -1 ≤ bf ∧ bf ≤ n ∧ tu ≤ bf + 1) → (rgs SP 20 (-1) 2000) → (0 ≤ sz_a ∧ sz_a ≤ ↑mr_a ∧ ↑mr_a ≤ (4002 : Int) ∧ 32 ≤ mr_a) → (G.length + stC ns0 + mr0 ≤ G0.length + stC ns + mr_a) → (ab_slots G + stT ns0 + zT mr0 4002 ≤ ab_slots G0 + stT ns + zT mr_a 4002) → (sz_a = 2 * tu) → (mxA dd bf) → (alK v9 f n fy tu bf F_a) → (st0 ≤ stm ∧ stm + 2 * un ≤ st0 + 2 * un0 + 7340 * tu) → (sz_a = 2 * tu) → (fx o0 o [31, 44, 45, 46, 47, 71, 72] G0 G) → (Int.toNat (n + 1 - tu) < mz) → (∀ (G2 : ab_G) (o2 : Nat → Nat) (ns2 : Nat) (SP2 : Int → Int) (it2 : Nat) (sz2 : Int) (mr2 : Nat) (F2 : Int → Int) (dd2 : Int) (sm2 : Int) (un2 : Int), (cc o2 G2 f_spans 31 (za 20 SP2)) → (cc o2 G2 f_matches 71 (ab_ob 7 [vz 4002, vR it2, vz sz2])) → (cc o2 G2 it2 72 (za mr2 F2)) → (mkB o2 G2 f_marks q f_subject f_spans nm ns2 cnt n sm2 un2 K N O RR f dd2 fy hw) → (alH v9 f n fy sz2 F2) → (st0 ≤ sm2 ∧ sm2 + 2 * un2 ≤ st0 + 2 * un0 + 7340 + 3670 * sz2) → (sz2 % 2 = 0) → (rgs SP2 20 (-1) 2000) → (0 ≤ sz2 ∧ sz2 ≤ ↑mr2 ∧ ↑mr2 ≤ (4002 : Int) ∧ 32 ≤ mr2) → (G2.length + stC ns0 + mr0 ≤ G0.length + stC ns2 + mr2) → (ab_slots G2 + stT ns0 + zT mr0 4002 ≤ ab_slots G0 + stT ns2 + zT mr2 4002) → (fx o0 o2 [31, 44, 45, 46, 47, 71, 72] G0 G2) → ab_W X (ab_pl y_PW_all b_PW_all 5 (some (.int))) d G2 111 [some (vR w_), none, some (vR q), none, none] [] Q) → ab_W X (ab_pl y_PW_all b_PW_all 5 (some (.int))) d G 50 [some (vR w_), none, some (vR q), some (vz bf), some (vz tu)] [] Q := by
  intro mz
  induction mz with
  | zero => intro G o ns SP it_a sz_a mr_a F_a bf tu dd stm un hw_ hf_spans hq hki hne hot hra hf_subject hco hre hho hf_matches hit_a pmkB_f_marks ci jsp crw_a hg hs cnt9 cmx jal hst9 cnt8 hfr hm hk0; exact absurd hm (Nat.not_lt_zero _)
  | succ mz ih =>
    intro G o ns SP it_a sz_a mr_a F_a bf tu dd stm un hw_ hf_spans hq hki hne hot hra hf_subject hco hre hho hf_matches hit_a pmkB_f_marks ci jsp crw_a hg hs cnt9 cmx jal hst9 cnt8 hfr hm hk0
    have hq1 := stT_le ns
    have hq2 := stC_le ns
    have hza_ : zT mr_a 4002 ≤ 12006 := zT_le (c := 4002) (by omega) rfl
    refine ab_iload d_PW_all_50 rfl ?_
    refine ab_aload_n d_PW_all_52 rfl ?_
    refine ab_getf (fs := [vR f_ready, vR f_tape, vR f_reader, vR f_programs, vR f_subject, vR f_spans, vR f_threads, vR f_marks, vR f_oneMind, vR f_states, vR f_latest, vR f_matches, vR f_pieces, vR f_template, vR f_result, vR f_spare, vz cmp, vz ovs]) f_PW_38 d_PW_all_53 hw_.2.2 rfl ?_
    refine ab_getf (fs := [vR by_, vR co, vR re, vR ho, vz n]) f_PW_164 d_PW_all_56 hf_subject.2.2 rfl ?_
    refine zz_icmp_gt (tgt := 111) d_PW_all_59 (by decide) (by omega) (by omega) (fun c3 => ?_) (fun c3 => ?_)
    · refine ab_less (L' := [some (vR w_), none, some (vR q), none, none]) (fun i v h => by rcases i with _ | _ | _ | _ | _ | i <;> first | exact h | (simp at h)) ?_
      exact hk0 _ _ _ _ _ _ _ _ _ _ _ hf_spans hf_matches hit_a pmkB_f_marks (by exact alH_n jal hsu.1 (by omega) (by omega) cnt9) (by omega) (by omega) (by exact jsp) (by omega) (by omega) (by omega) hfr
    · refine ab_aload_n d_PW_all_62 rfl ?_
      refine ab_iload_n d_PW_all_63 rfl ?_
      refine ab_callV (d' := d - 1) (as := [vz bf]) (st := []) (r := _) (z_PW_hunt (o := o) (w_ := w_) (f_ready := f_ready) (f_tape := f_tape) (f_reader := f_reader) (f_programs := f_programs) (f_subject := f_subject) (f_spans := f_spans) (f_threads := f_threads) (f_marks := f_marks) (f_oneMind := f_oneMind) (f_states := f_states) (f_latest := f_latest) (f_matches := f_matches) (f_pieces := f_pieces) (f_template := f_template) (f_result := f_result) (f_spare := f_spare) (cmp := cmp) (ovs := ovs) (q := q) (lq := lq) (ki := ki) (ne := ne) (ot := ot) (cnt := cnt) (fi := fi) (la := la) (ra := ra) (ru := ru) (gr := gr) (wi := wi) (sz := sz) (fl := fl) (ve := ve) (mi := mi) (K := K) (N := N) (O := O) (RR := RR) (nr := nr) (na := na) (nl := nl) (nm := nm) (ns := ns) (n := n) (SP := SP) (f := f) (by_ := by_) (co := co) (re := re) (ho := ho) (C := C) (Rs := Rs) (H := H) (mc := mc) (bf := bf) (dd := dd) (fy := fy) (hw := hw) (v9 := v9) (stm := stm) (un := un) hw_ hf_spans hq hki hne hot hra hf_subject hco hre hho pmkB_f_marks (by omega) (by omega) hp hr (by omega) (by omega) (by omega) hsu jsp (by omega) (by omega) (by omega) jpm (by omega) cmx (by omega)) (fun oc G2 h => by rcases h with ⟨_, _, _, _, _, _, h, _⟩ | ⟨_, _, _, _, _, _, h, _⟩ <;> exact ⟨_, h⟩) (by omega) m_PW_hunt ml_PW_193 im_PW_hunt se_PW_hunt c_PW hw_.2.2 (Nat.le_of_ble_eq_true rfl) d_PW_all_64 rfl ?_
      intro v G4 hq
      rcases hq with ⟨o5, ns26, SP27, dd28, sm29, un210, hv, hfk, hNf_spans, pNmkB_f_marks, hq11, hq12, hq13, hq14, hq15⟩ | ⟨o16, ns217, SP218, dd219, sm220, un221, hv, hfk, hNf_spans, pNmkB_f_marks, hq22, hq23, hq24, hq25, hq26, hq27, hq28, hq29⟩
      · cases hv
        have hw_ := hfk.get hw_ (by decide)
        have hq := hfk.get hq (by simp only [List.mem_cons, List.not_mem_nil, or_false]; omega)
        have hki := hfk.get hki (by simp only [List.mem_cons, List.not_mem_nil, or_false]; omega)
        have hne := hfk.get hne (by simp only [List.mem_cons, List.not_mem_nil, or_false]; omega)
        have hot := hfk.get hot (by simp only [List.mem_cons, List.not_mem_nil, or_false]; omega)
        have hra := hfk.get hra (by simp only [List.mem_cons, List.not_mem_nil, or_false]; omega)
        have hf_subject := hfk.get hf_subject (by decide)
        have hco := hfk.get hco (by decide)
        have hre := hfk.get hre (by decide)
        have hho := hfk.get hho (by decide)
        have hf_matches := hfk.get hf_matches (by decide)
        have hit_a := hfk.get hit_a (by decide)
        have pmkB_f_marks := pNmkB_f_marks
        have hfr := hfr.tr hfk (by decide)
        have hq30 := hfk.1
        have hf_spans := hNf_spans
        change ab_W _ _ _ G4 67 [some (vR w_), none, some (vR q), some (vz bf), some (vz tu)] [vz 0] _
        refine zz_if_eq (tgt := 111) d_PW_all_67 (by decide) (by decide) (fun c32 => ?_) (fun c32 => absurd c32 (by decide))
        refine ab_less (L' := [some (vR w_), none, some (vR q), none, none]) (fun i v h => by rcases i with _ | _ | _ | _ | _ | i <;> first | exact h | (simp at h)) ?_
        exact hk0 _ _ _ _ _ _ _ _ _ _ _ hf_spans hf_matches hit_a pmkB_f_marks (by exact alH_of jal hq15 cnt9) (by omega) (by omega) (by exact hq12) (by omega) (by omega) (by omega) hfr
      · cases hv
        have hw_ := hfk.get hw_ (by decide)
        have hq := hfk.get hq (by simp only [List.mem_cons, List.not_mem_nil, or_false]; omega)
        have hki := hfk.get hki (by simp only [List.mem_cons, List.not_mem_nil, or_false]; omega)
        have hne := hfk.get hne (by simp only [List.mem_cons, List.not_mem_nil, or_false]; omega)
        have hot := hfk.get hot (by simp only [List.mem_cons, List.not_mem_nil, or_false]; omega)
        have hra := hfk.get hra (by simp only [List.mem_cons, List.not_mem_nil, or_false]; omega)
        have hf_subject := hfk.get hf_subject (by decide)
        have hco := hfk.get hco (by decide)
        have hre := hfk.get hre (by decide)
        have hho := hfk.get hho (by decide)
        have hf_matches := hfk.get hf_matches (by decide)
        have hit_a := hfk.get hit_a (by decide)
        have pmkB_f_marks := pNmkB_f_marks
        have hfr := hfr.tr hfk (by decide)
        have hq31 := hfk.1
        have hf_spans := hNf_spans
        change ab_W _ _ _ G4 67 [some (vR w_), none, some (vR q), some (vz bf), some (vz tu)] [vz 1] _
        refine zz_if_eq (tgt := 111) d_PW_all_67 (by decide) (by decide) (fun c33 => absurd c33 (by decide)) (fun c33 => ?_)
        have hs0_ := hq23 0 (by omega) (by omega)
        have hs1_ := hq23 1 (by omega) (by omega)
        have hq34 := stT_le ns217
        have hq35 := stC_le ns217
        have hlt_ := nxC.lt hq29 hsu.1 (by omega)
        have hle_ := nxC_le hq29 hsu.1 (by omega)
        refine ab_aload_n d_PW_all_70 rfl ?_
        refine ab_getf (fs := [vR f_ready, vR f_tape, vR f_reader, vR f_programs, vR f_subject, vR f_spans, vR f_threads, vR f_marks, vR f_oneMind, vR f_states, vR f_latest, vR f_matches, vR f_pieces, vR f_template, vR f_result, vR f_spare, vz cmp, vz ovs]) f_PW_76 d_PW_all_71 hw_.2.2 rfl ?_
        refine ab_aload_n d_PW_all_74 rfl ?_
        refine ab_getf (fs := [vR f_ready, vR f_tape, vR f_reader, vR f_programs, vR f_subject, vR f_spans, vR f_threads, vR f_marks, vR f_oneMind, vR f_states, vR f_latest, vR f_matches, vR f_pieces, vR f_template, vR f_result, vR f_spare, vz cmp, vz ovs]) f_PW_42 d_PW_all_75 hw_.2.2 rfl ?_
        refine zz_iconst d_PW_all_78 ?_
        refine zz_iald d_PW_all_79 hf_spans (by omega) ?_
        refine ab_callV (d' := d - 1) (as := [vz (SP218 0)]) (st := []) (r := _) (z_RW_add (o := o16) (r := f_matches) (b := it_a) (lr := 71) (lb := 72) (n := mr_a) (lim := 4002) (sz := sz_a) (f := F_a) (x := (SP218 0)) hf_matches hit_a (by omega) (by have h18 : ab_n0 = 18 := rfl; omega) (by omega) (by omega) (by omega)) (fun oc G2 h => by rcases h with ⟨h, _⟩ | ⟨_, _, _, _, h, _⟩ <;> exact ⟨_, h⟩) (by omega) m_RW_add ml_PW_197 im_RW_add se_RW_add c_RW hf_matches.2.2 (Nat.le_of_ble_eq_true rfl) d_PW_all_80 rfl ?_
        intro v G36 hq
        rcases hq with ⟨hv, hGe, hq37⟩ | ⟨o38, b239, n240, f241, hv, hfk, hNf_matches, hNb239, hq42, hq43, hq44, hq45, hq46, hq47⟩
        · cases hv
          rw [hGe]
          change ab_W _ _ _ G4 83 [some (vR w_), none, some (vR q), some (vz bf), some (vz tu)] [vz 0] _
          exfalso; omega
        · cases hv
          have hw_ := hfk.get hw_ (by decide)
          have hf_spans := hfk.get hf_spans (by decide)
          have hq := hfk.get hq (by simp only [List.mem_cons, List.not_mem_nil, or_false]; omega)
          have hki := hfk.get hki (by simp only [List.mem_cons, List.not_mem_nil, or_false]; omega)
          have hne := hfk.get hne (by simp only [List.mem_cons, List.not_mem_nil, or_false]; omega)
          have hot := hfk.get hot (by simp only [List.mem_cons, List.not_mem_nil, or_false]; omega)
          have hra := hfk.get hra (by simp only [List.mem_cons, List.not_mem_nil, or_false]; omega)
          have hf_subject := hfk.get hf_subject (by decide)
          have hco := hfk.get hco (by decide)
          have hre := hfk.get hre (by decide)
          have hho := hfk.get hho (by decide)
          have pmkB_f_marks := mkB.fr hfk pmkB_f_marks (by decide) (by decide) (by decide) (by decide)
          have hfr := hfr.tr hfk (by decide)
          have hq48 := hfk.1
          have hf_matches := hNf_matches
          have hb239 := hNb239
          change ab_W _ _ _ G36 83 [some (vR w_), none, some (vR q), some (vz bf), some (vz tu)] [vz 1] _
          refine ab_pop d_PW_all_83 rfl ?_
          have hz49 : zT n240 4002 ≤ 12006 := zT_le (c := 4002) (by omega) rfl
          refine ab_aload_n d_PW_all_84 rfl ?_
          refine ab_getf (fs := [vR f_ready, vR f_tape, vR f_reader, vR f_programs, vR f_subject, vR f_spans, vR f_threads, vR f_marks, vR f_oneMind, vR f_states, vR f_latest, vR f_matches, vR f_pieces, vR f_template, vR f_result, vR f_spare, vz cmp, vz ovs]) f_PW_76 d_PW_all_85 hw_.2.2 rfl ?_
          refine ab_aload_n d_PW_all_88 rfl ?_
          refine ab_getf (fs := [vR f_ready, vR f_tape, vR f_reader, vR f_programs, vR f_subject, vR f_spans, vR f_threads, vR f_marks, vR f_oneMind, vR f_states, vR f_latest, vR f_matches, vR f_pieces, vR f_template, vR f_result, vR f_spare, vz cmp, vz ovs]) f_PW_42 d_PW_all_89 hw_.2.2 rfl ?_
          refine zz_iconst d_PW_all_92 ?_
          refine zz_iald d_PW_all_93 hf_spans (by omega) ?_
          refine ab_callV (d' := d - 1) (as := [vz (SP218 1)]) (st := []) (r := _) (z_RW_add (o := o38) (r := f_matches) (b := b239) (lr := 71) (lb := 72) (n := n240) (lim := 4002) (sz := (sz_a + 1)) (f := f241) (x := (SP218 1)) hf_matches hb239 (by omega) (by have h18 : ab_n0 = 18 := rfl; omega) (by omega) (by omega) (by omega)) (fun oc G2 h => by rcases h with ⟨h, _⟩ | ⟨_, _, _, _, h, _⟩ <;> exact ⟨_, h⟩) (by omega) m_RW_add ml_PW_197 im_RW_add se_RW_add c_RW hf_matches.2.2 (Nat.le_of_ble_eq_true rfl) d_PW_all_94 rfl ?_
          intro v G50 hq
          rcases hq with ⟨hv, hGe, hq51⟩ | ⟨o52, b253, n254, f255, hv, hfk, hNf_matches, hNb253, hq56, hq57, hq58, hq59, hq60, hq61⟩
          · cases hv
            rw [hGe]
            change ab_W _ _ _ G36 97 [some (vR w_), none, some (vR q), some (vz bf), some (vz tu)] [vz 0] _
            exfalso; omega
          · cases hv
            have hw_ := hfk.get hw_ (by decide)
            have hf_spans := hfk.get hf_spans (by decide)
            have hq := hfk.get hq (by simp only [List.mem_cons, List.not_mem_nil, or_false]; omega)
            have hki := hfk.get hki (by simp only [List.mem_cons, List.not_mem_nil, or_false]; omega)
            have hne := hfk.get hne (by simp only [List.mem_cons, List.not_mem_nil, or_false]; omega)
            have hot := hfk.get hot (by simp only [List.mem_cons, List.not_mem_nil, or_false]; omega)
            have hra := hfk.get hra (by simp only [List.mem_cons, List.not_mem_nil, or_false]; omega)
            have hf_subject := hfk.get hf_subject (by decide)
            have hco := hfk.get hco (by decide)
            have hre := hfk.get hre (by decide)
            have hho := hfk.get hho (by decide)
            have pmkB_f_marks := mkB.fr hfk pmkB_f_marks (by decide) (by decide) (by decide) (by decide)
            have hfr := hfr.tr hfk (by decide)
            have hq62 := hfk.1
            have hf_matches := hNf_matches
            have hb253 := hNb253
            change ab_W _ _ _ G50 97 [some (vR w_), none, some (vR q), some (vz bf), some (vz tu)] [vz 1] _
            refine ab_pop d_PW_all_97 rfl ?_
            refine ab_aload_n d_PW_all_98 rfl ?_
            refine ab_getf (fs := [vR f_ready, vR f_tape, vR f_reader, vR f_programs, vR f_subject, vR f_spans, vR f_threads, vR f_marks, vR f_oneMind, vR f_states, vR f_latest, vR f_matches, vR f_pieces, vR f_template, vR f_result, vR f_spare, vz cmp, vz ovs]) f_PW_42 d_PW_all_99 hw_.2.2 rfl ?_
            refine zz_iconst d_PW_all_102 ?_
            refine zz_iald d_PW_all_103 hf_spans (by omega) ?_
            refine ab_istore_n d_PW_all_104 (Nat.le_of_ble_eq_true rfl) (Nat.le_of_ble_eq_true rfl) rfl ?_
            change ab_W _ _ _ G50 105 [some (vR w_), none, some (vR q), some (vz (SP218 1)), some (vz tu)] [] _
            refine zz_iinc d_PW_all_105 rfl (Nat.le_of_ble_eq_true rfl) (Nat.le_of_ble_eq_true rfl) rfl ?_
            change ab_W _ _ _ G50 108 [some (vR w_), none, some (vR q), some (vz (SP218 1)), some (vz (tu + 1))] [] _
            refine ab_goto (tgt := 50) d_PW_all_108 (by decide) ?_
            exact ih (ns := ns217) (SP := SP218) (it_a := b253) (sz_a := ((sz_a + 1) + 1)) (mr_a := n254) (F_a := f255) (bf := (SP218 1)) (tu := (tu + 1)) (dd := dd219) (stm := sm220) (un := un221) hw_ hf_spans hq hki hne hot hra hf_subject hco hre hho hf_matches hb253 pmkB_f_marks (by omega) hq23 (by omega) (by omega) (by omega) (by omega) (mxA_s (by omega) (by omega)) (alK_c jal hq29 rfl cnt9 hq46 hq47 hq60 hq61 (by omega)) (by omega) (by omega) hfr (by omega) hk0
set_option maxRecDepth 100000 in
set_option maxHeartbeats 4000000 in
theorem z_PW_all {X : ab_X} {d : Nat} {o : Nat → Nat} {G : ab_G} {w_ : Nat} {f_ready : Nat} {f_tape : Nat} {f_reader : Nat} {f_programs : Nat} {f_subject : Nat} {f_spans : Nat} {f_threads : Nat} {f_marks : Nat} {f_oneMind : Nat} {f_states : Nat} {f_latest : Nat} {f_matches : Nat} {f_pieces : Nat} {f_template : Nat} {f_result : Nat} {f_spare : Nat} {cmp : Int} {ovs : Int} {sb : Int} {PG : Nat → Option Nat} {NR : Nat → Nat} {cv : Int → Int} {on : Nat} {nm : Nat} {ns : Nat} {nt : Nat} {n : Int} {m : Nat} {SP : Int → Int} {f : Int → Int} {it_a : Nat} {sz_a : Int} {mr_a : Nat} {F_a : Int → Int} {sl : Int} {k_ : Nat} (hw_ : cc o G w_ 18 (ab_ob 0 [vR f_ready, vR f_tape, vR f_reader, vR f_programs, vR f_subject, vR f_spans, vR f_threads, vR f_marks, vR f_oneMind, vR f_states, vR f_latest, vR f_matches, vR f_pieces, vR f_template, vR f_result, vR f_spare, vz cmp, vz ovs])) (hf_spans : cc o G f_spans 31 (za 20 SP)) (h17 : cc o G 17 17 (za 12 zFC)) (hf_programs : cc o G f_programs 81 (ab_rr 6 PG)) (hf_matches : cc o G f_matches 71 (ab_ob 7 [vz 4002, vR it_a, vz sz_a])) (hit_a : cc o G it_a 72 (za mr_a F_a)) (pthI_f_threads : thI o G f_threads 0) (pmkI_f_marks : mkI o G f_marks nm ns 0) (pomI_f_oneMind : omI o G f_oneMind on nt 0) (pstI_f_states : stI o G f_states cv cmp 0 sb) (psuI_f_subject : suI o G f_subject n m f) (ppgI_0 : pgI o G 0 PG NR cv cmp on) (n18 : ab_n0 = 18) (hkq : kq6 sl k_) (cr : -2147483648 ≤ sl ∧ sl ≤ 2147483647) (jsp : rgs SP 20 (-1) 2000) (crw_a : 0 ≤ sz_a ∧ sz_a ≤ ↑mr_a ∧ ↑mr_a ≤ (4002 : Int) ∧ 32 ≤ mr_a) (rc : 64 * G.length + 4600000 ≤ 64 * (ab_n0 + room_1.cells) + (64 * nm + 64 * stC ns + nt + onPQ on)) (rs : ab_slots G + 2360000 ≤ room_1.slots + (zT nm 52026 + stT ns + 2 * nt + onSQ on)) (hd : 16 ≤ d) : ab_F X d y_PW_all (.code y_PW_all b_PW_all 5 (some (.int))) [vR w_, vz sl] G (fun oc G2 => (∃ o2 : Nat → Nat, ∃ b : Nat, oc = .threw b ∧ fx o o2 [18, 31, 71, 72, 32, 33, 35, 36, 37, 38, 39, 40, 44, 45, 46, 47, 50, 51, 52, 53, 54, 55, 56, 57, 60, 61, 62, 63, 64, 65, 66, 67, 68] G G2 ∧ cc o2 G2 w_ 18 (ab_ob 0 [vR f_ready, vR f_tape, vR f_reader, vR f_programs, vR f_subject, vR f_spans, vR f_threads, vR f_marks, vR f_oneMind, vR f_states, vR f_latest, vR f_matches, vR f_pieces, vR f_template, vR f_result, vR f_spare, vz cmp, vz ovs]) ∧ cc o2 G2 f_spans 31 (za 20 SP) ∧ cc o2 G2 f_matches 71 (ab_ob 7 [vz 4002, vR it_a, vz sz_a]) ∧ cc o2 G2 it_a 72 (za mr_a F_a) ∧ thI o2 G2 f_threads 0 ∧ mkI o2 G2 f_marks nm ns 0 ∧ omI o2 G2 f_oneMind on nt 0 ∧ stI o2 G2 f_states cv cmp 0 sb ∧ suI o2 G2 f_subject n m f ∧ pgI o2 G2 0 PG NR cv cmp on ∧ (G2[b]? = some (.inr (13, []))) ∧ (G2.length = G.length + 1) ∧ (ab_slots G2 = ab_slots G + 6) ∧ (npg PG sl)) ∨ (∃ o2 : Nat → Nat, ∃ nm2 : Nat, ∃ ns2 : Nat, ∃ SP2 : Int → Int, ∃ r : Int, ∃ it2 : Nat, ∃ sz2 : Int, ∃ mr2 : Nat, ∃ F2 : Int → Int, oc = .returned (some (vz r)) ∧ fx o o2 [18, 31, 71, 72, 32, 33, 35, 36, 37, 38, 39, 40, 44, 45, 46, 47, 50, 51, 52, 53, 54, 55, 56, 57, 60, 61, 62, 63, 64, 65, 66, 67, 68] G G2 ∧ cc o2 G2 w_ 18 (ab_ob 0 [vR f_ready, vR f_tape, vR f_reader, vR f_programs, vR f_subject, vR f_spans, vR f_threads, vR f_marks, vR f_oneMind, vR f_states, vR f_latest, vR f_matches, vR f_pieces, vR f_template, vR f_result, vR f_spare, vz cmp, vz ovs]) ∧ cc o2 G2 f_spans 31 (za 20 SP2) ∧ cc o2 G2 f_matches 71 (ab_ob 7 [vz 4002, vR it2, vz sz2]) ∧ cc o2 G2 it2 72 (za mr2 F2) ∧ thI o2 G2 f_threads 0 ∧ mkI o2 G2 f_marks nm2 ns2 0 ∧ omI o2 G2 f_oneMind on nt 0 ∧ stI o2 G2 f_states cv cmp 0 sb ∧ suI o2 G2 f_subject n m f ∧ pgI o2 G2 0 PG NR cv cmp on ∧ (rgs SP2 20 (-1) 2000) ∧ (0 ≤ sz2 ∧ sz2 ≤ ↑mr2 ∧ ↑mr2 ≤ (4002 : Int) ∧ 32 ≤ mr2) ∧ (64 * G2.length + (64 * nm + 64 * stC ns + nt + onPQ on + 64 * mr_a) ≤ 64 * G.length + (64 * nm2 + 64 * stC ns2 + nt + onPQ on + 64 * mr2)) ∧ (ab_slots G2 + (zT nm 52026 + stT ns + 2 * nt + onSQ on + zT mr_a 4002) ≤ ab_slots G + (zT nm2 52026 + stT ns2 + 2 * nt + onSQ on + zT mr2 4002)) ∧ (alP PG cv sl f n r sz2 F2))) := by
  refine ab_F_of (by decide +kernel) (Nat.le_of_ble_eq_true rfl) ?_
  obtain ⟨Q, hQ⟩ : ∃ z : Outcome → ab_G → Prop, z = (fun oc G2 => (∃ o2 : Nat → Nat, ∃ b : Nat, oc = .threw b ∧ fx o o2 [18, 31, 71, 72, 32, 33, 35, 36, 37, 38, 39, 40, 44, 45, 46, 47, 50, 51, 52, 53, 54, 55, 56, 57, 60, 61, 62, 63, 64, 65, 66, 67, 68] G G2 ∧ cc o2 G2 w_ 18 (ab_ob 0 [vR f_ready, vR f_tape, vR f_reader, vR f_programs, vR f_subject, vR f_spans, vR f_threads, vR f_marks, vR f_oneMind, vR f_states, vR f_latest, vR f_matches, vR f_pieces, vR f_template, vR f_result, vR f_spare, vz cmp, vz ovs]) ∧ cc o2 G2 f_spans 31 (za 20 SP) ∧ cc o2 G2 f_matches 71 (ab_ob 7 [vz 4002, vR it_a, vz sz_a]) ∧ cc o2 G2 it_a 72 (za mr_a F_a) ∧ thI o2 G2 f_threads 0 ∧ mkI o2 G2 f_marks nm ns 0 ∧ omI o2 G2 f_oneMind on nt 0 ∧ stI o2 G2 f_states cv cmp 0 sb ∧ suI o2 G2 f_subject n m f ∧ pgI o2 G2 0 PG NR cv cmp on ∧ (G2[b]? = some (.inr (13, []))) ∧ (G2.length = G.length + 1) ∧ (ab_slots G2 = ab_slots G + 6) ∧ (npg PG sl)) ∨ (∃ o2 : Nat → Nat, ∃ nm2 : Nat, ∃ ns2 : Nat, ∃ SP2 : Int → Int, ∃ r : Int, ∃ it2 : Nat, ∃ sz2 : Int, ∃ mr2 : Nat, ∃ F2 : Int → Int, oc = .returned (some (vz r)) ∧ fx o o2 [18, 31, 71, 72, 32, 33, 35, 36, 37, 38, 39, 40, 44, 45, 46, 47, 50, 51, 52, 53, 54, 55, 56, 57, 60, 61, 62, 63, 64, 65, 66, 67, 68] G G2 ∧ cc o2 G2 w_ 18 (ab_ob 0 [vR f_ready, vR f_tape, vR f_reader, vR f_programs, vR f_subject, vR f_spans, vR f_threads, vR f_marks, vR f_oneMind, vR f_states, vR f_latest, vR f_matches, vR f_pieces, vR f_template, vR f_result, vR f_spare, vz cmp, vz ovs]) ∧ cc o2 G2 f_spans 31 (za 20 SP2) ∧ cc o2 G2 f_matches 71 (ab_ob 7 [vz 4002, vR it2, vz sz2]) ∧ cc o2 G2 it2 72 (za mr2 F2) ∧ thI o2 G2 f_threads 0 ∧ mkI o2 G2 f_marks nm2 ns2 0 ∧ omI o2 G2 f_oneMind on nt 0 ∧ stI o2 G2 f_states cv cmp 0 sb ∧ suI o2 G2 f_subject n m f ∧ pgI o2 G2 0 PG NR cv cmp on ∧ (rgs SP2 20 (-1) 2000) ∧ (0 ≤ sz2 ∧ sz2 ≤ ↑mr2 ∧ ↑mr2 ≤ (4002 : Int) ∧ 32 ≤ mr2) ∧ (64 * G2.length + (64 * nm + 64 * stC ns + nt + onPQ on + 64 * mr_a) ≤ 64 * G.length + (64 * nm2 + 64 * stC ns2 + nt + onPQ on + 64 * mr2)) ∧ (ab_slots G2 + (zT nm 52026 + stT ns + 2 * nt + onSQ on + zT mr_a 4002) ≤ ab_slots G + (zT nm2 52026 + stT ns2 + 2 * nt + onSQ on + zT mr2 4002)) ∧ (alP PG cv sl f n r sz2 F2))) := ⟨_, rfl⟩
  rw [← hQ]
  change ab_W X (ab_pl y_PW_all b_PW_all 5 (some (.int))) d G 0 [some (vR w_), some (vz sl), none, none, none] [] Q
  have hfr : fx o o [18, 31, 71, 72, 32, 33, 35, 36, 37, 38, 39, 40, 44, 45, 46, 47, 50, 51, 52, 53, 54, 55, 56, 57, 60, 61, 62, 63, 64, 65, 66, 67, 68] G G := fx.rf
  have hq1 := stT_le ns
  have hq2 := stC_le ns
  have hq3 := onPQ_le on
  have hq4 := onSQ_le on
  have hnt_ := pomI_f_oneMind.nt
  have hnm_ := pmkI_f_marks.b
  have hzt_ : zT nm 52026 ≤ 156078 := zT_le (c := 52026) (by omega) rfl
  refine ab_aload_n d_PW_all_0 rfl ?_
  refine ab_iload_n d_PW_all_1 rfl ?_
  refine ab_callV (d' := d - 1) (as := [vz sl]) (st := []) (r := _) (z_PW_programAt (o := o) (w_ := w_) (f_ready := f_ready) (f_tape := f_tape) (f_reader := f_reader) (f_programs := f_programs) (f_subject := f_subject) (f_spans := f_spans) (f_threads := f_threads) (f_marks := f_marks) (f_oneMind := f_oneMind) (f_states := f_states) (f_latest := f_latest) (f_matches := f_matches) (f_pieces := f_pieces) (f_template := f_template) (f_result := f_result) (f_spare := f_spare) (cmp := cmp) (ovs := ovs) (PG := PG) (k := sl) hw_ hf_programs (by omega)) (fun oc G2 h => by rcases h with ⟨h, _⟩ | ⟨_, h, _⟩ <;> exact ⟨_, h⟩) (by omega) m_PW_programAt ml_PW_148 im_PW_programAt se_PW_programAt c_PW hw_.2.2 (Nat.le_of_ble_eq_true rfl) d_PW_all_2 rfl ?_
  intro v G5 hq
  rcases hq with ⟨hv, hGe, hq6⟩ | ⟨b7, hv, hGe, hq8, hq9⟩
  · cases hv
    rw [hGe]
    change ab_W _ _ _ G 5 [some (vR w_), some (vz sl), none, none, none] [vN] _
    refine ab_astore_nN d_PW_all_5 (Nat.le_of_ble_eq_true rfl) (Nat.le_of_ble_eq_true rfl) rfl ?_
    change ab_W _ _ _ G 6 [some (vR w_), some (vz sl), some (vN), none, none] [] _
    refine ab_aload_nN d_PW_all_6 rfl ?_
    refine ab_ifnonnullN d_PW_all_7 ?_
    refine ab_throw (tx := "no pattern there") (by decide) (fun c h => h) cl_PW_109 inst_IA ini_IA tw_PW_113 d_PW_all_10 d_PW_all_13 d_PW_all_14 d_PW_all_16 d_PW_all_19 (by omega) (by omega) (by omega) ?_
    obtain ⟨G10, eG10⟩ : ∃ z : ab_G, z = G ++ [.inr (13, [])] := ⟨_, rfl⟩
    obtain ⟨o11, eo11⟩ : ∃ z : Nat → Nat, z = ol o G.length 99 := ⟨_, rfl⟩
    obtain ⟨a12, ea12⟩ : ∃ z : Nat, z = G.length := ⟨_, rfl⟩
    have hq13 := hit_a.n0 (by first | decide | omega)
    have ne_a12_w_ : nq a12 w_ := by have hlt := hw_.lt; unfold nq; omega
    have ne_a12_f_spans : nq a12 f_spans := by have hlt := hf_spans.lt; unfold nq; omega
    have ne_a12_17 : nq a12 17 := by have hlt := h17.lt; unfold nq; omega
    have ne_a12_f_programs : nq a12 f_programs := by have hlt := hf_programs.lt; unfold nq; omega
    have ne_a12_f_matches : nq a12 f_matches := by have hlt := hf_matches.lt; unfold nq; omega
    have ne_a12_it_a : nq a12 it_a := by have hlt := hit_a.lt; unfold nq; omega
    have hw_ := hw_.akeep (k := 99) eG10
    rw [← eo11] at hw_
    have hf_spans := hf_spans.akeep (k := 99) eG10
    rw [← eo11] at hf_spans
    have h17 := h17.akeep (k := 99) eG10
    rw [← eo11] at h17
    have hf_programs := hf_programs.akeep (k := 99) eG10
    rw [← eo11] at hf_programs
    have hf_matches := hf_matches.akeep (k := 99) eG10
    rw [← eo11] at hf_matches
    have hit_a := hit_a.akeep (k := 99) eG10
    rw [← eo11] at hit_a
    have hst := (fx.rf (o := o) (S := []) (G := G)).ap (k := 99) eG10
    rw [← eo11] at hst
    have pthI_f_threads := thI.fr hst pthI_f_threads (by decide) (by decide) (by decide) (by decide) (by decide) (by decide) (by decide) (by decide)
    have pmkI_f_marks := mkI.fr hst pmkI_f_marks (by decide) (by decide) (by decide) (by decide)
    have pomI_f_oneMind := omI.fr hst pomI_f_oneMind (by decide) (by decide) (by decide) (by decide) (by decide) (by decide) (by decide) (by decide)
    have pstI_f_states := stI.fr hst pstI_f_states (by decide) (by decide) (by decide) (by decide) (by decide) (by decide) (by decide) (by decide) (by decide)
    have psuI_f_subject := suI.fr hst psuI_f_subject (by decide) (by decide) (by decide) (by decide) (by decide)
    have ppgI_0 := pgI.fr hst ppgI_0  (by simp)
    have ha12 := cc.anew (o := o) 99 eG10 hq13
    rw [← eo11, ← ea12] at ha12
    have hfr := hfr.ap (k := 99) eG10
    rw [← eo11] at hfr
    have hq14 := z_alen eG10
    have hq15 : ab_slots G10 = ab_slots G + 6 := z_asl eG10 hq13
    rw [← ea12, ← eG10]
    rw [hQ]; exact (Or.inl ⟨_, _, rfl, hfr, hw_, hf_spans, hf_matches, hit_a, pthI_f_threads, pmkI_f_marks, pomI_f_oneMind, pstI_f_states, psuI_f_subject, ppgI_0, (by exact ha12.2.2), (by omega), (by omega), (by exact hq6)⟩)
  · cases hv
    rw [hGe]
    change ab_W _ _ _ G 5 [some (vR w_), some (vz sl), none, none, none] [vR b7] _
    refine ab_astore_n d_PW_all_5 (Nat.le_of_ble_eq_true rfl) (Nat.le_of_ble_eq_true rfl) rfl ?_
    change ab_W _ _ _ G 6 [some (vR w_), some (vz sl), some (vR b7), none, none] [] _
    refine ab_aload_n d_PW_all_6 rfl ?_
    refine ab_ifnonnull (tgt := 20) d_PW_all_7 (by decide) ?_
    have hk_ := hkq.2 (by omega) (by omega)
    rw [← hk_] at hq8
    have hk6_ : k_ < 6 := by omega
    obtain ⟨⟨mi_, sz_, ppgB_b7⟩, ppgX_0⟩ := ppgI_0.opn hk6_ hq8
    obtain ⟨ki_g, ne_g, ot_g, cnt_g, fi_g, la_g, ra_g, ru_g, gr_g, wi_g, fl_g, ve_g, na_g, nl_g, K_g, N_g, O_g, RR_g, NA_g, NL_g, hb7, hki_g, hne_g, hot_g, hra_g, hna_g, hnl_g, cq_g, hpu_g, hp_g, hr_g, hch_g, cru_g, ck9_g, cfi_g, cgr_g, cfl_g, hpo_g, hmi_g, hvc_g, cve_g, jnl_g, hiv_g, hmn_g, jna_g, hla_g, hpv_g, cv1_g, hkk_g, hoc_g, csz_g⟩ := ppgB_b7
    have hmn0_ := hmn_g
    obtain ⟨v9_, hmv_, hpm_⟩ := hmn0_
    obtain ⟨by_, co, re, ho, C, Rs, H, mc, hf_subject, hby_, hco, hre, hho, csu, hsu⟩ := psuI_f_subject
    refine ab_aload_n d_PW_all_20 rfl ?_
    refine ab_getf (fs := [vR f_ready, vR f_tape, vR f_reader, vR f_programs, vR f_subject, vR f_spans, vR f_threads, vR f_marks, vR f_oneMind, vR f_states, vR f_latest, vR f_matches, vR f_pieces, vR f_template, vR f_result, vR f_spare, vz cmp, vz ovs]) f_PW_76 d_PW_all_21 hw_.2.2 rfl ?_
    refine ab_callV (d' := d - 1) (as := []) (st := []) (r := _) (z_RW_clear (o := o) (r := f_matches) (b := it_a) (lr := 71) (lim := 4002) (sz := sz_a) hf_matches (by have h18 : ab_n0 = 18 := rfl; omega)) (fun oc G2 h => by rcases h with ⟨h, _⟩ <;> exact ⟨_, h⟩) (by omega) m_RW_clear ml_PW_120 im_RW_clear se_RW_clear c_RW hf_matches.2.2 (Nat.le_of_ble_eq_true rfl) d_PW_all_24 rfl ?_
    intro v G16 hq
    rcases hq with ⟨hv, hfk, hlk, hsk, hNf_matches⟩
    cases hv
    have hw_ := hfk.get hw_ (by decide)
    have hf_spans := hfk.get hf_spans (by decide)
    have h17 := hfk.get h17 (by decide)
    have hf_programs := hfk.get hf_programs (by decide)
    have hit_a := hfk.get hit_a (by decide)
    have hb7 := hfk.get hb7 (by simp only [List.mem_cons, List.not_mem_nil, or_false]; omega)
    have hki_g := hfk.get hki_g (by simp only [List.mem_cons, List.not_mem_nil, or_false]; omega)
    have hne_g := hfk.get hne_g (by simp only [List.mem_cons, List.not_mem_nil, or_false]; omega)
    have hot_g := hfk.get hot_g (by simp only [List.mem_cons, List.not_mem_nil, or_false]; omega)
    have hra_g := hfk.get hra_g (by simp only [List.mem_cons, List.not_mem_nil, or_false]; omega)
    have hna_g := hfk.get hna_g (by simp only [List.mem_cons, List.not_mem_nil, or_false]; omega)
    have hnl_g := hfk.get hnl_g (by simp only [List.mem_cons, List.not_mem_nil, or_false]; omega)
    have hf_subject := hfk.get hf_subject (by decide)
    have hby_ := hfk.get hby_ (by decide)
    have hco := hfk.get hco (by decide)
    have hre := hfk.get hre (by decide)
    have hho := hfk.get hho (by decide)
    have pthI_f_threads := thI.fr hfk pthI_f_threads (by decide) (by decide) (by decide) (by decide) (by decide) (by decide) (by decide) (by decide)
    have pmkI_f_marks := mkI.fr hfk pmkI_f_marks (by decide) (by decide) (by decide) (by decide)
    have pomI_f_oneMind := omI.fr hfk pomI_f_oneMind (by decide) (by decide) (by decide) (by decide) (by decide) (by decide) (by decide) (by decide)
    have pstI_f_states := stI.fr hfk pstI_f_states (by decide) (by decide) (by decide) (by decide) (by decide) (by decide) (by decide) (by decide) (by decide)
    have ppgX_0 := pgX.fr hfk ppgX_0 (fun xx hx => Or.inl ((show ∀ y ∈ ([71] : List Nat), y < 100 by decide) xx hx))
    have hfr := hfr.tr hfk (by decide)
    have hq17 := hlk
    have hq18 := hsk
    have hf_matches := hNf_matches
    change ab_W _ _ _ G16 27 [some (vR w_), some (vz sl), some (vR b7), none, none] [] _
    refine zz_iconst d_PW_all_27 ?_
    refine ab_istore_n d_PW_all_28 (Nat.le_of_ble_eq_true rfl) (Nat.le_of_ble_eq_true rfl) rfl ?_
    change ab_W _ _ _ G16 29 [some (vR w_), some (vz sl), some (vR b7), some (vz (-1)), none] [] _
    refine ab_aload_n d_PW_all_29 rfl ?_
    refine ab_getf (fs := [vR f_ready, vR f_tape, vR f_reader, vR f_programs, vR f_subject, vR f_spans, vR f_threads, vR f_marks, vR f_oneMind, vR f_states, vR f_latest, vR f_matches, vR f_pieces, vR f_template, vR f_result, vR f_spare, vz cmp, vz ovs]) f_PW_55 d_PW_all_30 hw_.2.2 rfl ?_
    refine ab_aload_n d_PW_all_33 rfl ?_
    refine ab_aload_n d_PW_all_34 rfl ?_
    refine ab_getf (fs := [vR f_ready, vR f_tape, vR f_reader, vR f_programs, vR f_subject, vR f_spans, vR f_threads, vR f_marks, vR f_oneMind, vR f_states, vR f_latest, vR f_matches, vR f_pieces, vR f_template, vR f_result, vR f_spare, vz cmp, vz ovs]) f_PW_38 d_PW_all_35 hw_.2.2 rfl ?_
    refine zz_iconst d_PW_all_38 ?_
    refine zz_iconst d_PW_all_39 ?_
    refine ab_aload_n d_PW_all_40 rfl ?_
    refine ab_getf (fs := [vR f_ready, vR f_tape, vR f_reader, vR f_programs, vR f_subject, vR f_spans, vR f_threads, vR f_marks, vR f_oneMind, vR f_states, vR f_latest, vR f_matches, vR f_pieces, vR f_template, vR f_result, vR f_spare, vz cmp, vz ovs]) f_PW_42 d_PW_all_41 hw_.2.2 rfl ?_
    obtain ⟨wk_k, mk_k, stk_k, w_k, df_k, dp_k, fo_k, fy_k, hw_k, WK_k, M_k, SK_k, sp0_k, q0_k, s0_k, hf_marks, hwk_k, hmk_k, hstk_k, cn_k, hst_k, cfo_k, cst0_k⟩ := pmkI_f_marks
    refine ab_callV (d' := d - 1) (as := [vR b7, vR f_subject, vz 0, vz 0, vR f_spans]) (st := []) (r := _) (z_MK_begin (o := o) (q := b7) (lq := (100 + 10 * k_)) (ki := ki_g) (ne := ne_g) (ot := ot_g) (cnt := cnt_g) (fi := fi_g) (la := la_g) (ra := ra_g) (ru := ru_g) (gr := gr_g) (wi := wi_g) (sz := sz_) (fl := fl_g) (ve := ve_g) (mi := mi_) (na := na_g) (nl := nl_g) (s := f_subject) (by_ := by_) (co := co) (re := re) (ho := ho) (n := n) (a := f_marks) (sp := f_spans) (wk := wk_k) (mk := mk_k) (stk := stk_k) (dp := dp_k) (fo := fo_k) (hw := 0) (stp := 0) (M := M_k) (nm := nm) (q0 := q0_k) (s0 := s0_k) (sp0 := sp0_k) (from_ := 0) (hw0 := hw_k) (fy0 := fy_k) (w0 := w_k) (df0 := df_k) hf_marks hmk_k hb7 hf_subject (by omega) (by omega) (by omega) (by omega) (by omega) (by omega) (by omega)) (fun oc G2 h => by rcases h with ⟨_, _, _, _, _, _, h, _⟩ <;> exact ⟨_, h⟩) (by omega) m_MK_begin ml_PW_189 im_MK_begin se_MK_begin c_MK hf_marks.2.2 (Nat.le_of_ble_eq_true rfl) d_PW_all_44 rfl ?_
    intro v G19 hq
    rcases hq with ⟨o20, w221, fy222, mk223, nm224, M225, hv, hfk, hNf_marks, hNmk223, hq26, hq27, hq28, hq29, hq30, hq31, hq32⟩
    cases hv
    have hw_ := hfk.get hw_ (by decide)
    have hf_spans := hfk.get hf_spans (by decide)
    have h17 := hfk.get h17 (by decide)
    have hf_programs := hfk.get hf_programs (by decide)
    have hf_matches := hfk.get hf_matches (by decide)
    have hit_a := hfk.get hit_a (by decide)
    have hb7 := hfk.get hb7 (by simp only [List.mem_cons, List.not_mem_nil, or_false]; omega)
    have hki_g := hfk.get hki_g (by simp only [List.mem_cons, List.not_mem_nil, or_false]; omega)
    have hne_g := hfk.get hne_g (by simp only [List.mem_cons, List.not_mem_nil, or_false]; omega)
    have hot_g := hfk.get hot_g (by simp only [List.mem_cons, List.not_mem_nil, or_false]; omega)
    have hra_g := hfk.get hra_g (by simp only [List.mem_cons, List.not_mem_nil, or_false]; omega)
    have hna_g := hfk.get hna_g (by simp only [List.mem_cons, List.not_mem_nil, or_false]; omega)
    have hnl_g := hfk.get hnl_g (by simp only [List.mem_cons, List.not_mem_nil, or_false]; omega)
    have hf_subject := hfk.get hf_subject (by decide)
    have hby_ := hfk.get hby_ (by decide)
    have hco := hfk.get hco (by decide)
    have hre := hfk.get hre (by decide)
    have hho := hfk.get hho (by decide)
    have hwk_k := hfk.get hwk_k (by decide)
    have hstk_k := hfk.get hstk_k (by decide)
    have pthI_f_threads := thI.fr hfk pthI_f_threads (by decide) (by decide) (by decide) (by decide) (by decide) (by decide) (by decide) (by decide)
    have pomI_f_oneMind := omI.fr hfk pomI_f_oneMind (by decide) (by decide) (by decide) (by decide) (by decide) (by decide) (by decide) (by decide)
    have pstI_f_states := stI.fr hfk pstI_f_states (by decide) (by decide) (by decide) (by decide) (by decide) (by decide) (by decide) (by decide) (by decide)
    have ppgX_0 := pgX.fr hfk ppgX_0 (fun xx hx => Or.inl ((show ∀ y ∈ ([44, 46] : List Nat), y < 100 by decide) xx hx))
    have hfr := hfr.tr hfk (by decide)
    have hq33 := hfk.1
    have hf_marks := hNf_marks
    have hmk223 := hNmk223
    change ab_W _ _ _ G19 47 [some (vR w_), some (vz sl), some (vR b7), some (vz (-1)), none] [] _
    have hub_ := ucn_b (M := M225) (w := w221) (df := 0) (n := n) (by omega) (by omega)
    have pmkB_f_marks : mkB o20 G19 f_marks b7 f_subject f_spans nm224 ns cnt_g n 0 (ucn M225 w221 0 n) K_g N_g O_g RR_g f 0 fy222 0 := ⟨wk_k, mk223, stk_k, w221, 0, dp_k, fo_k, WK_k, M225, SK_k, hf_marks, hwk_k, hmk223, hstk_k, (by omega), hst_k, (by omega), (by omega), (by omega), (by omega), (ddC_0 (by omega)), (by omega), (by omega)⟩
    have hzt2_ : zT nm224 52026 ≤ 156078 := zT_le (c := 52026) (by omega) rfl
    refine zz_iconst d_PW_all_47 ?_
    refine ab_istore d_PW_all_48 (Nat.le_of_ble_eq_true rfl) (Nat.le_of_ble_eq_true rfl) rfl ?_
    change ab_W _ _ _ G19 50 [some (vR w_), some (vz sl), some (vR b7), some (vz (-1)), some (vz 0)] [] _
    refine ab_less (L' := [some (vR w_), none, some (vR b7), some (vz (-1)), some (vz 0)]) (fun i v h => by rcases i with _ | _ | _ | _ | _ | i <;> first | exact h | (simp at h)) ?_
    refine y_PW_all_50 (w_ := w_) (f_ready := f_ready) (f_tape := f_tape) (f_reader := f_reader) (f_programs := f_programs) (f_subject := f_subject) (f_spans := f_spans) (f_threads := f_threads) (f_marks := f_marks) (f_oneMind := f_oneMind) (f_states := f_states) (f_latest := f_latest) (f_matches := f_matches) (f_pieces := f_pieces) (f_template := f_template) (f_result := f_result) (f_spare := f_spare) (cmp := cmp) (ovs := ovs) (q := b7) (lq := (100 + 10 * k_)) (ki := ki_g) (ne := ne_g) (ot := ot_g) (cnt := cnt_g) (fi := fi_g) (la := la_g) (ra := ra_g) (ru := ru_g) (gr := gr_g) (wi := wi_g) (sz := sz_) (fl := fl_g) (ve := ve_g) (mi := mi_) (K := K_g) (N := N_g) (O := O_g) (RR := RR_g) (nr := (NR k_)) (na := na_g) (nl := nl_g) (nm := nm224) (n := n) (f := f) (by_ := by_) (co := co) (re := re) (ho := ho) (C := C) (Rs := Rs) (H := H) (mc := mc) (ns0 := ns) (mr0 := mr_a) (fy := fy222) (hw := 0) (v9 := v9_) (st0 := 0) (un0 := (ucn M225 w221 0 n)) (G0 := G19) (ns := ns) (SP := SP) (it_a := it_a) (sz_a := 0) (mr_a := mr_a) (F_a := F_a) (bf := (-1)) (tu := 0) (dd := 0) (stm := 0) (un := (ucn M225 w221 0 n)) (by omega) (by omega) hp_g hr_g (by omega) (by omega) (by omega) hsu (by omega) (by omega) (by omega) (by omega) (by omega) (Int.toNat (n + 1 - 0) + 1) hw_ hf_spans hb7 hki_g hne_g hot_g hra_g hf_subject hco hre hho hf_matches hit_a pmkB_f_marks (by omega) jsp (by omega) (by omega) (by omega) (by omega) mxA_0 alK_0 (by omega) (by omega) fx.rf (by omega) (fun G34 o35 ns236 SP237 it238 sz239 mr240 F241 dd242 sm243 un244 hNf_spans hNf_matches hNit238 pNmkB_f_marks hq45 hq46 hq47 hq48 hq49 hq50 hq51 hfk => ?_)
    · have hw_ := hfk.get hw_ (by decide)
      have h17 := hfk.get h17 (by decide)
      have hf_programs := hfk.get hf_programs (by decide)
      have hb7 := hfk.get hb7 (by simp only [List.mem_cons, List.not_mem_nil, or_false]; omega)
      have hki_g := hfk.get hki_g (by simp only [List.mem_cons, List.not_mem_nil, or_false]; omega)
      have hne_g := hfk.get hne_g (by simp only [List.mem_cons, List.not_mem_nil, or_false]; omega)
      have hot_g := hfk.get hot_g (by simp only [List.mem_cons, List.not_mem_nil, or_false]; omega)
      have hra_g := hfk.get hra_g (by simp only [List.mem_cons, List.not_mem_nil, or_false]; omega)
      have hna_g := hfk.get hna_g (by simp only [List.mem_cons, List.not_mem_nil, or_false]; omega)
      have hnl_g := hfk.get hnl_g (by simp only [List.mem_cons, List.not_mem_nil, or_false]; omega)
      have hf_subject := hfk.get hf_subject (by decide)
      have hby_ := hfk.get hby_ (by decide)
      have hco := hfk.get hco (by decide)
      have hre := hfk.get hre (by decide)
      have hho := hfk.get hho (by decide)
      have pthI_f_threads := thI.fr hfk pthI_f_threads (by decide) (by decide) (by decide) (by decide) (by decide) (by decide) (by decide) (by decide)
      have pomI_f_oneMind := omI.fr hfk pomI_f_oneMind (by decide) (by decide) (by decide) (by decide) (by decide) (by decide) (by decide) (by decide)
      have pstI_f_states := stI.fr hfk pstI_f_states (by decide) (by decide) (by decide) (by decide) (by decide) (by decide) (by decide) (by decide) (by decide)
      have ppgX_0 := pgX.fr hfk ppgX_0 (fun xx hx => Or.inl ((show ∀ y ∈ ([31, 44, 45, 46, 47, 71, 72] : List Nat), y < 100 by decide) xx hx))
      have hfr := hfr.tr hfk (by decide)
      have hq52 := hfk.1
      have hf_spans := hNf_spans
      have hf_matches := hNf_matches
      have hit238 := hNit238
      have pmkB_f_marks := pNmkB_f_marks
      change ab_W _ _ _ G34 111 [some (vR w_), none, some (vR b7), none, none] [] _
      obtain ⟨wk_e, mk_e, stk_e, w_e, df_e, dp_e, fo_e, WK_e, M_e, SK_e, hf_marks, hwk_e, hmk_e, hstk_e, cn_e, hst_e, cf_e, cw_e, cm_e, cd_e, hdd_e, cst0_e, hun_e⟩ := pmkB_f_marks
      have hub2_ := ucn_b (M := M_e) (w := w_e) (df := df_e) (n := n) (by omega) (by omega)
      have pmkI_f_marks : mkI o35 G34 f_marks nm224 ns236 sm243 := ⟨wk_e, mk_e, stk_e, w_e, df_e, dp_e, fo_e, fy222, 0, WK_e, M_e, SK_e, vR f_spans, vR b7, vR f_subject, hf_marks, hwk_e, hmk_e, hstk_e, (by omega), hst_e, (by omega), (by omega)⟩
      have hq53 := stT_le ns236
      have hq54 := stC_le ns236
      have hq55 := onPQ_le on
      have hq56 := onSQ_le on
      have hz57 : zT mr240 4002 ≤ 12006 := zT_le (c := 4002) (by omega) rfl
      refine ab_aload_n d_PW_all_111 rfl ?_
      refine ab_aload_n d_PW_all_112 rfl ?_
      refine ab_getf (fs := [vR ki_g, vR ne_g, vR ot_g, vz cnt_g, vz fi_g, vz la_g, vR ra_g, vz ru_g, vz gr_g, vz wi_g, vz sz_, vz fl_g, vz ve_g, vz mi_, vR na_g, vR nl_g]) f_PW_152 d_PW_all_113 hb7.2.2 rfl ?_
      refine ab_aload_n d_PW_all_116 rfl ?_
      refine ab_getf (fs := [vR f_ready, vR f_tape, vR f_reader, vR f_programs, vR f_subject, vR f_spans, vR f_threads, vR f_marks, vR f_oneMind, vR f_states, vR f_latest, vR f_matches, vR f_pieces, vR f_template, vR f_result, vR f_spare, vz cmp, vz ovs]) f_PW_76 d_PW_all_117 hw_.2.2 rfl ?_
      refine ab_getf (fs := [vz 4002, vR it238, vz sz239]) f_PW_101 d_PW_all_120 hf_matches.2.2 rfl ?_
      refine zz_iconst d_PW_all_123 ?_
      refine zz_idiv d_PW_all_124 (by omega) ?_
      have psuI_f_subject : suI o35 G34 f_subject n m f := ⟨by_, co, re, ho, C, Rs, H, mc, hf_subject, hby_, hco, hre, hho, (by omega), hsu⟩
      refine ab_callV (d' := d - 1) (as := [vz sz_, vz (sz239 / 2)]) (st := []) (r := _) (z_PW_settle (o := o35) (w_ := w_) (f_ready := f_ready) (f_tape := f_tape) (f_reader := f_reader) (f_programs := f_programs) (f_subject := f_subject) (f_spans := f_spans) (f_threads := f_threads) (f_marks := f_marks) (f_oneMind := f_oneMind) (f_states := f_states) (f_latest := f_latest) (f_matches := f_matches) (f_pieces := f_pieces) (f_template := f_template) (f_result := f_result) (f_spare := f_spare) (cmp := cmp) (ovs := ovs) (sb := sb) (cv := cv) (on := on) (nm := nm224) (ns := ns236) (nt := nt) (n := n) (m := m) (f := f) (z1 := sz_) (z2 := (sz239 / 2)) (stt := 0) (stm := sm243) (sto := 0) (sts := 0) hw_ pthI_f_threads pmkI_f_marks pomI_f_oneMind pstI_f_states psuI_f_subject (by omega) (by omega) (cmo_k (by omega) (by omega) (by omega) (by omega)) (by omega)) (fun oc G2 h => by rcases h with ⟨h, _⟩ <;> exact ⟨_, h⟩) (by omega) m_PW_settle ml_PW_175 im_PW_settle se_PW_settle c_PW hw_.2.2 (Nat.le_of_ble_eq_true rfl) d_PW_all_125 rfl ?_
      intro v G58 hq
      rcases hq with ⟨hv, hfk, hlk, hsk, hNw_, pNthI_f_threads, pNmkI_f_marks, pNomI_f_oneMind, pNstI_f_states, pNsuI_f_subject⟩
      cases hv
      have hf_spans := hfk.get hf_spans (by decide)
      have h17 := hfk.get h17 (by decide)
      have hf_programs := hfk.get hf_programs (by decide)
      have hf_matches := hfk.get hf_matches (by decide)
      have hb7 := hfk.get hb7 (by simp only [List.mem_cons, List.not_mem_nil, or_false]; omega)
      have hki_g := hfk.get hki_g (by simp only [List.mem_cons, List.not_mem_nil, or_false]; omega)
      have hne_g := hfk.get hne_g (by simp only [List.mem_cons, List.not_mem_nil, or_false]; omega)
      have hot_g := hfk.get hot_g (by simp only [List.mem_cons, List.not_mem_nil, or_false]; omega)
      have hra_g := hfk.get hra_g (by simp only [List.mem_cons, List.not_mem_nil, or_false]; omega)
      have hna_g := hfk.get hna_g (by simp only [List.mem_cons, List.not_mem_nil, or_false]; omega)
      have hnl_g := hfk.get hnl_g (by simp only [List.mem_cons, List.not_mem_nil, or_false]; omega)
      have hit238 := hfk.get hit238 (by decide)
      have ppgX_0 := pgX.fr hfk ppgX_0 (fun xx hx => Or.inl ((show ∀ y ∈ ([18, 32, 44, 50, 60] : List Nat), y < 100 by decide) xx hx))
      have pthI_f_threads := pNthI_f_threads
      have pmkI_f_marks := pNmkI_f_marks
      have pomI_f_oneMind := pNomI_f_oneMind
      have pstI_f_states := pNstI_f_states
      have psuI_f_subject := pNsuI_f_subject
      have hfr := hfr.tr hfk (by decide)
      have hq59 := hlk
      have hq60 := hsk
      have hw_ := hNw_
      change ab_W _ _ _ G58 128 [some (vR w_), none, some (vR b7), none, none] [] _
      refine ab_aload_n d_PW_all_128 rfl ?_
      refine ab_getf (fs := [vR f_ready, vR f_tape, vR f_reader, vR f_programs, vR f_subject, vR f_spans, vR f_threads, vR f_marks, vR f_oneMind, vR f_states, vR f_latest, vR f_matches, vR f_pieces, vR f_template, vR f_result, vR f_spare, vz cmp, vz ovs]) f_PW_76 d_PW_all_129 hw_.2.2 rfl ?_
      refine ab_getf (fs := [vz 4002, vR it238, vz sz239]) f_PW_101 d_PW_all_132 hf_matches.2.2 rfl ?_
      refine zz_iconst d_PW_all_135 ?_
      refine zz_idiv d_PW_all_136 (by omega) ?_
      have hmq_ : onq mi_ on := hmi_g
      have ppgB_b7 : pgB o35 G58 b7 (100 + 10 * k_) (NR k_) cv cmp on mi_ sz_ := ⟨ki_g, ne_g, ot_g, cnt_g, fi_g, la_g, ra_g, ru_g, gr_g, wi_g, fl_g, ve_g, na_g, nl_g, K_g, N_g, O_g, RR_g, NA_g, NL_g, hb7, hki_g, hne_g, hot_g, hra_g, hna_g, hnl_g, (by omega), hpu_g, hp_g, hr_g, hch_g, (by omega), (by omega), (by omega), (by omega), (by omega), hpo_g, hmq_, (by omega), (by omega), jnl_g, hiv_g, hmn_g, jna_g, hla_g, hpv_g, (by omega), hkk_g, hoc_g, (by omega)⟩
      have ppgI_0 := ppgX_0.cls hq8 ppgB_b7
      refine zz_iret rfl d_PW_all_137 ?_
      rw [hQ]; exact (Or.inr ⟨_, _, _, _, _, _, _, _, _, rfl, hfr, hw_, hf_spans, hf_matches, hit238, pthI_f_threads, pmkI_f_marks, pomI_f_oneMind, pstI_f_states, psuI_f_subject, ppgI_0, (by exact hq48), (by omega), (by omega), (by omega), (by exact alP_of hk_ hq8 (by omega) hmv_ hpm_ hsu.1 hq30 (by omega) (by omega) hiv_g.2.2.1 hq45 (by omega))⟩)
set_option maxRecDepth 100000 in
set_option maxHeartbeats 4000000 in
theorem y_PW_split_62 {X : ab_X} {d : Nat} {Q : Outcome → ab_G → Prop} {o0 : Nat → Nat} {G0 : ab_G} {w_ : Nat} {f_ready : Nat} {f_tape : Nat} {f_reader : Nat} {f_programs : Nat} {f_subject : Nat} {f_spans : Nat} {f_threads : Nat} {f_marks : Nat} {f_oneMind : Nat} {f_states : Nat} {f_latest : Nat} {f_matches : Nat} {f_pieces : Nat} {f_template : Nat} {f_result : Nat} {f_spare : Nat} {cmp : Int} {ovs : Int} {q : Nat} {lq : Nat} {ki : Nat} {ne : Nat} {ot : Nat} {cnt : Int} {fi : Int} {la : Int} {ra : Nat} {ru : Int} {gr : Int} {wi : Int} {sz : Int} {fl : Int} {ve : Int} {mi : Int} {K : Int → Int} {N : Int → Int} {O : Int → Int} {RR : Int → Int} {nr : Nat} {na : Nat} {nl : Nat} {nm : Nat} {n : Int} {m : Nat} {f : Int → Int} {by_ : Nat} {co : Nat} {re : Nat} {ho : Nat} {C : Int → Int} {Rs : Int → Int} {H : Int → Int} {mc : Nat} {ns0 : Nat} {mr0 : Nat} {fy : Int} {hw : Int} {v9 : Sn} {st0 : Int} {un0 : Int} (n18 : ab_n0 = 18) (cq : 100 ≤ lq ∧ 2 ≤ cnt ∧ cnt ≤ 808 ∧ ↑nr ≤ (100000 : Int)) (hp : prok K N O RR cnt ↑nr wi) (hr : ∀ k : Int, 0 ≤ k → k < ↑nr → 0 ≤ RR k ∧ RR k ≤ 1114111) (cfi : 0 ≤ fi ∧ fi < cnt) (cwi : 2 ≤ wi ∧ wi ≤ 20) (csu : 0 ≤ n ∧ n ≤ ↑m ∧ 32 ≤ m ∧ m ≤ 2000 ∧ mc = m + 1) (hsu : suok f C Rs H n) (jpm : prM K N O RR fi v9) (chw0 : hw = 0) (rc : G0.length + 4500 ≤ ab_n0 + room_1.cells) (rs : ab_slots G0 + 1940000 ≤ room_1.slots + stT ns0 + zT mr0 4004) (hd : 11 ≤ d) : ∀ (mz : Nat) {G : ab_G} {o : Nat → Nat} {ns : Nat} {SP : Int → Int} {it_a : Nat} {sz_a : Int} {mr_a : Nat} {F_a : Int → Int} {bf : Int} {tu : Int} {ct_ : Int} {dd : Int} {stm : Int} {un : Int}, (cc o G w_ 18 (ab_ob 0 [vR f_ready, vR f_tape, vR f_reader, vR f_programs, vR f_subject, vR f_spans, vR f_threads, vR f_marks, vR f_oneMind, vR f_states, vR f_latest, vR f_matches, vR f_pieces, vR f_template, vR f_result, vR f_spare, vz cmp, vz ovs])) → (cc o G f_spans 31 (za 20 SP)) → (cc o G q lq (ab_ob 5 [vR ki, vR ne, vR ot, vz cnt, vz fi, vz la, vR ra, vz ru, vz gr, vz wi, vz sz, vz fl, vz ve, vz mi, vR na, vR nl])) → (cc o G ki (lq + 1) (za 808 K)) → (cc o G ne (lq + 2) (za 808 N)) → (cc o G ot (lq + 3) (za 808 O)) → (cc o G ra (lq + 4) (za nr RR)) → (cc o G f_subject 26 (ab_ob 9 [vR by_, vR co, vR re, vR ho, vz n])) → (cc o G co 28 (za mc C)) → (cc o G re 29 (za mc Rs)) → (cc o G ho 30 (za mc H)) → (cc o G f_pieces 73 (ab_ob 7 [vz 4004, vR it_a, vz sz_a])) → (cc o G it_a 74 (za mr_a F_a)) → (mkB o G f_marks q f_subject f_spans nm ns cnt n stm un K N O RR f dd fy hw) → (0 ≤ tu ∧ tu ≤ n + 1 ∧ -1 ≤ bf ∧ bf ≤ n ∧ tu ≤ bf + 1 ∧ 0 ≤ ct_ ∧ ct_ ≤ tu) → (rgs SP 20 (-1) 2000) → (0 ≤ sz_a ∧ sz_a ≤ ↑mr_a ∧ ↑mr_a ≤ (4004 : Int) ∧ 32 ≤ mr_a) → (G.length + stC ns0 + mr0 ≤ G0.length + stC ns + mr_a) → (ab_slots G + stT ns0 + zT mr0 4004 ≤ ab_slots G0 + stT ns + zT mr_a 4004) → (sz_a ≤ 2 * tu + 1) → (mxA dd bf) → (spK2 v9 f n fy sz_a bf F_a) → (st0 ≤ stm ∧ stm + 2 * un ≤ st0 + 2 * un0 + 7340 * tu) → (ct_ = tu) → (fx o0 o [31, 44, 45, 46, 47, 73, 74] G0 G) → (Int.toNat (n + 1 - tu) < mz) → (∀ (G2 : ab_G) (o2 : Nat → Nat) (ns2 : Nat) (SP2 : Int → Int) (ct2 : Int) (it2 : Nat) (sz2 : Int) (mr2 : Nat) (F2 : Int → Int) (dd2 : Int) (sm2 : Int) (un2 : Int), (cc o2 G2 f_spans 31 (za 20 SP2)) → (cc o2 G2 f_pieces 73 (ab_ob 7 [vz 4004, vR it2, vz sz2])) → (cc o2 G2 it2 74 (za mr2 F2)) → (mkB o2 G2 f_marks q f_subject f_spans nm ns2 cnt n sm2 un2 K N O RR f dd2 fy hw) → (spL v9 f n fy sz2 F2) → (sz2 ≤ 4003) → (st0 ≤ sm2 ∧ sm2 + 2 * un2 ≤ st0 + 2 * un0 + 7340 + 7340 * ct2) → (rgs SP2 20 (-1) 2000) → (0 ≤ sz2 ∧ sz2 ≤ ↑mr2 ∧ ↑mr2 ≤ (4004 : Int) ∧ 32 ≤ mr2) → (G2.length + stC ns0 + mr0 ≤ G0.length + stC ns2 + mr2) → (ab_slots G2 + stT ns0 + zT mr0 4004 ≤ ab_slots G0 + stT ns2 + zT mr2 4004) → (0 ≤ ct2 ∧ ct2 ≤ 2001) → (fx o0 o2 [31, 44, 45, 46, 47, 73, 74] G0 G2) → ab_W X (ab_pl y_PW_split b_PW_split 7 (some (.int))) d G2 178 [some (vR w_), none, some (vR q), none, some (vz ct2), none, none] [] Q) → ab_W X (ab_pl y_PW_split b_PW_split 7 (some (.int))) d G 62 [some (vR w_), none, some (vR q), some (vz bf), some (vz ct_), some (vz tu), none] [] Q := by
  intro mz
  induction mz with
  | zero => intro G o ns SP it_a sz_a mr_a F_a bf tu ct_ dd stm un hw_ hf_spans hq hki hne hot hra hf_subject hco hre hho hf_pieces hit_a pmkB_f_marks ci jsp crw_a hg hs cnt9 cmx jal hst9 cnt8 hfr hm hk0; exact absurd hm (Nat.not_lt_zero _)
  | succ mz ih =>
    intro G o ns SP it_a sz_a mr_a F_a bf tu ct_ dd stm un hw_ hf_spans hq hki hne hot hra hf_subject hco hre hho hf_pieces hit_a pmkB_f_marks ci jsp crw_a hg hs cnt9 cmx jal hst9 cnt8 hfr hm hk0
    have hq1 := stT_le ns
    have hq2 := stC_le ns
    have hza_ : zT mr_a 4004 ≤ 12012 := zT_le (c := 4004) (by omega) rfl
    refine ab_iload d_PW_split_62 rfl ?_
    refine ab_aload_n d_PW_split_64 rfl ?_
    refine ab_getf (fs := [vR f_ready, vR f_tape, vR f_reader, vR f_programs, vR f_subject, vR f_spans, vR f_threads, vR f_marks, vR f_oneMind, vR f_states, vR f_latest, vR f_matches, vR f_pieces, vR f_template, vR f_result, vR f_spare, vz cmp, vz ovs]) f_PW_38 d_PW_split_65 hw_.2.2 rfl ?_
    refine ab_getf (fs := [vR by_, vR co, vR re, vR ho, vz n]) f_PW_164 d_PW_split_68 hf_subject.2.2 rfl ?_
    refine zz_icmp_gt (tgt := 178) d_PW_split_71 (by decide) (by omega) (by omega) (fun c3 => ?_) (fun c3 => ?_)
    · refine ab_less (L' := [some (vR w_), none, some (vR q), none, some (vz ct_), none, none]) (fun i v h => by rcases i with _ | _ | _ | _ | _ | _ | _ | i <;> first | exact h | (simp at h)) ?_
      exact hk0 _ _ _ _ _ _ _ _ _ _ _ _ hf_spans hf_pieces hit_a pmkB_f_marks (by exact spL_n jal hsu.1 (by omega) (by omega)) (by omega) (by omega) (by exact jsp) (by omega) (by omega) (by omega) (by omega) hfr
    · refine ab_aload_n d_PW_split_74 rfl ?_
      refine ab_iload_n d_PW_split_75 rfl ?_
      refine ab_callV (d' := d - 1) (as := [vz bf]) (st := []) (r := _) (z_PW_hunt (o := o) (w_ := w_) (f_ready := f_ready) (f_tape := f_tape) (f_reader := f_reader) (f_programs := f_programs) (f_subject := f_subject) (f_spans := f_spans) (f_threads := f_threads) (f_marks := f_marks) (f_oneMind := f_oneMind) (f_states := f_states) (f_latest := f_latest) (f_matches := f_matches) (f_pieces := f_pieces) (f_template := f_template) (f_result := f_result) (f_spare := f_spare) (cmp := cmp) (ovs := ovs) (q := q) (lq := lq) (ki := ki) (ne := ne) (ot := ot) (cnt := cnt) (fi := fi) (la := la) (ra := ra) (ru := ru) (gr := gr) (wi := wi) (sz := sz) (fl := fl) (ve := ve) (mi := mi) (K := K) (N := N) (O := O) (RR := RR) (nr := nr) (na := na) (nl := nl) (nm := nm) (ns := ns) (n := n) (SP := SP) (f := f) (by_ := by_) (co := co) (re := re) (ho := ho) (C := C) (Rs := Rs) (H := H) (mc := mc) (bf := bf) (dd := dd) (fy := fy) (hw := hw) (v9 := v9) (stm := stm) (un := un) hw_ hf_spans hq hki hne hot hra hf_subject hco hre hho pmkB_f_marks (by omega) (by omega) hp hr (by omega) (by omega) (by omega) hsu jsp (by omega) (by omega) (by omega) jpm (by omega) cmx (by omega)) (fun oc G2 h => by rcases h with ⟨_, _, _, _, _, _, h, _⟩ | ⟨_, _, _, _, _, _, h, _⟩ <;> exact ⟨_, h⟩) (by omega) m_PW_hunt ml_PW_193 im_PW_hunt se_PW_hunt c_PW hw_.2.2 (Nat.le_of_ble_eq_true rfl) d_PW_split_76 rfl ?_
      intro v G4 hq
      rcases hq with ⟨o5, ns26, SP27, dd28, sm29, un210, hv, hfk, hNf_spans, pNmkB_f_marks, hq11, hq12, hq13, hq14, hq15⟩ | ⟨o16, ns217, SP218, dd219, sm220, un221, hv, hfk, hNf_spans, pNmkB_f_marks, hq22, hq23, hq24, hq25, hq26, hq27, hq28, hq29⟩
      · cases hv
        have hw_ := hfk.get hw_ (by decide)
        have hq := hfk.get hq (by simp only [List.mem_cons, List.not_mem_nil, or_false]; omega)
        have hki := hfk.get hki (by simp only [List.mem_cons, List.not_mem_nil, or_false]; omega)
        have hne := hfk.get hne (by simp only [List.mem_cons, List.not_mem_nil, or_false]; omega)
        have hot := hfk.get hot (by simp only [List.mem_cons, List.not_mem_nil, or_false]; omega)
        have hra := hfk.get hra (by simp only [List.mem_cons, List.not_mem_nil, or_false]; omega)
        have hf_subject := hfk.get hf_subject (by decide)
        have hco := hfk.get hco (by decide)
        have hre := hfk.get hre (by decide)
        have hho := hfk.get hho (by decide)
        have hf_pieces := hfk.get hf_pieces (by decide)
        have hit_a := hfk.get hit_a (by decide)
        have pmkB_f_marks := pNmkB_f_marks
        have hfr := hfr.tr hfk (by decide)
        have hq30 := hfk.1
        have hf_spans := hNf_spans
        change ab_W _ _ _ G4 79 [some (vR w_), none, some (vR q), some (vz bf), some (vz ct_), some (vz tu), none] [vz 0] _
        refine zz_if_eq (tgt := 178) d_PW_split_79 (by decide) (by decide) (fun c32 => ?_) (fun c32 => absurd c32 (by decide))
        refine ab_less (L' := [some (vR w_), none, some (vR q), none, some (vz ct_), none, none]) (fun i v h => by rcases i with _ | _ | _ | _ | _ | _ | _ | i <;> first | exact h | (simp at h)) ?_
        exact hk0 _ _ _ _ _ _ _ _ _ _ _ _ hf_spans hf_pieces hit_a pmkB_f_marks (by exact spL_of jal hq15 hsu.1 (by omega)) (by omega) (by omega) (by exact hq12) (by omega) (by omega) (by omega) (by omega) hfr
      · cases hv
        have hw_ := hfk.get hw_ (by decide)
        have hq := hfk.get hq (by simp only [List.mem_cons, List.not_mem_nil, or_false]; omega)
        have hki := hfk.get hki (by simp only [List.mem_cons, List.not_mem_nil, or_false]; omega)
        have hne := hfk.get hne (by simp only [List.mem_cons, List.not_mem_nil, or_false]; omega)
        have hot := hfk.get hot (by simp only [List.mem_cons, List.not_mem_nil, or_false]; omega)
        have hra := hfk.get hra (by simp only [List.mem_cons, List.not_mem_nil, or_false]; omega)
        have hf_subject := hfk.get hf_subject (by decide)
        have hco := hfk.get hco (by decide)
        have hre := hfk.get hre (by decide)
        have hho := hfk.get hho (by decide)
        have hf_pieces := hfk.get hf_pieces (by decide)
        have hit_a := hfk.get hit_a (by decide)
        have pmkB_f_marks := pNmkB_f_marks
        have hfr := hfr.tr hfk (by decide)
        have hq31 := hfk.1
        have hf_spans := hNf_spans
        change ab_W _ _ _ G4 79 [some (vR w_), none, some (vR q), some (vz bf), some (vz ct_), some (vz tu), none] [vz 1] _
        refine zz_if_eq (tgt := 178) d_PW_split_79 (by decide) (by decide) (fun c33 => absurd c33 (by decide)) (fun c33 => ?_)
        have hs0_ := hq23 0 (by omega) (by omega)
        have hs1_ := hq23 1 (by omega) (by omega)
        have hq34 := stT_le ns217
        have hq35 := stC_le ns217
        have hlt_ := nxC.lt hq29 hsu.1 (by omega)
        have hle_ := nxC_le hq29 hsu.1 (by omega)
        refine ab_aload_n d_PW_split_82 rfl ?_
        refine ab_getf (fs := [vR f_ready, vR f_tape, vR f_reader, vR f_programs, vR f_subject, vR f_spans, vR f_threads, vR f_marks, vR f_oneMind, vR f_states, vR f_latest, vR f_matches, vR f_pieces, vR f_template, vR f_result, vR f_spare, vz cmp, vz ovs]) f_PW_42 d_PW_split_83 hw_.2.2 rfl ?_
        refine zz_iconst d_PW_split_86 ?_
        refine zz_iald d_PW_split_87 hf_spans (by omega) ?_
        refine ab_istore_n d_PW_split_88 (Nat.le_of_ble_eq_true rfl) (Nat.le_of_ble_eq_true rfl) rfl ?_
        change ab_W _ _ _ G4 89 [some (vR w_), none, some (vR q), some (vz (SP218 1)), some (vz ct_), some (vz tu), none] [] _
        refine zz_iinc d_PW_split_89 rfl (Nat.le_of_ble_eq_true rfl) (Nat.le_of_ble_eq_true rfl) rfl ?_
        change ab_W _ _ _ G4 92 [some (vR w_), none, some (vR q), some (vz (SP218 1)), some (vz (ct_ + 1)), some (vz tu), none] [] _
        refine ab_aload_n d_PW_split_92 rfl ?_
        refine ab_getf (fs := [vR f_ready, vR f_tape, vR f_reader, vR f_programs, vR f_subject, vR f_spans, vR f_threads, vR f_marks, vR f_oneMind, vR f_states, vR f_latest, vR f_matches, vR f_pieces, vR f_template, vR f_result, vR f_spare, vz cmp, vz ovs]) f_PW_42 d_PW_split_93 hw_.2.2 rfl ?_
        refine zz_iconst d_PW_split_96 ?_
        refine zz_iald d_PW_split_97 hf_spans (by omega) ?_
        refine ab_aload_n d_PW_split_98 rfl ?_
        refine ab_getf (fs := [vR f_ready, vR f_tape, vR f_reader, vR f_programs, vR f_subject, vR f_spans, vR f_threads, vR f_marks, vR f_oneMind, vR f_states, vR f_latest, vR f_matches, vR f_pieces, vR f_template, vR f_result, vR f_spare, vz cmp, vz ovs]) f_PW_42 d_PW_split_99 hw_.2.2 rfl ?_
        refine zz_iconst d_PW_split_102 ?_
        refine zz_iald d_PW_split_103 hf_spans (by omega) ?_
        refine zz_icmp_lt (tgt := 132) d_PW_split_104 (by decide) (by omega) (by omega) (fun c36 => ?_) (fun c36 => ?_)
        · refine zz_iconst d_PW_split_132 ?_
          refine ab_goto (tgt := 137) d_PW_split_133 (by decide) ?_
          refine ab_istore d_PW_split_137 (Nat.le_of_ble_eq_true rfl) (Nat.le_of_ble_eq_true rfl) rfl ?_
          change ab_W _ _ _ G4 139 [some (vR w_), none, some (vR q), some (vz (SP218 1)), some (vz (ct_ + 1)), some (vz tu), some (vz 1)] [] _
          refine ab_iload d_PW_split_139 rfl ?_
          refine zz_if_eq (tgt := 172) d_PW_split_141 (by decide) (by decide) (fun c37 => absurd c37 (by decide)) (fun c37 => ?_)
          refine ab_aload_n d_PW_split_144 rfl ?_
          refine ab_getf (fs := [vR f_ready, vR f_tape, vR f_reader, vR f_programs, vR f_subject, vR f_spans, vR f_threads, vR f_marks, vR f_oneMind, vR f_states, vR f_latest, vR f_matches, vR f_pieces, vR f_template, vR f_result, vR f_spare, vz cmp, vz ovs]) f_PW_79 d_PW_split_145 hw_.2.2 rfl ?_
          refine ab_aload_n d_PW_split_148 rfl ?_
          refine ab_getf (fs := [vR f_ready, vR f_tape, vR f_reader, vR f_programs, vR f_subject, vR f_spans, vR f_threads, vR f_marks, vR f_oneMind, vR f_states, vR f_latest, vR f_matches, vR f_pieces, vR f_template, vR f_result, vR f_spare, vz cmp, vz ovs]) f_PW_42 d_PW_split_149 hw_.2.2 rfl ?_
          refine zz_iconst d_PW_split_152 ?_
          refine zz_iald d_PW_split_153 hf_spans (by omega) ?_
          refine ab_callV (d' := d - 1) (as := [vz (SP218 0)]) (st := []) (r := _) (z_RW_add (o := o16) (r := f_pieces) (b := it_a) (lr := 73) (lb := 74) (n := mr_a) (lim := 4004) (sz := sz_a) (f := F_a) (x := (SP218 0)) hf_pieces hit_a (by omega) (by have h18 : ab_n0 = 18 := rfl; omega) (by omega) (by omega) (by omega)) (fun oc G2 h => by rcases h with ⟨h, _⟩ | ⟨_, _, _, _, h, _⟩ <;> exact ⟨_, h⟩) (by omega) m_RW_add ml_PW_197 im_RW_add se_RW_add c_RW hf_pieces.2.2 (Nat.le_of_ble_eq_true rfl) d_PW_split_154 rfl ?_
          intro v G38 hq
          rcases hq with ⟨hv, hGe, hq39⟩ | ⟨o40, b241, n242, f243, hv, hfk, hNf_pieces, hNb241, hq44, hq45, hq46, hq47, hq48, hq49⟩
          · cases hv
            rw [hGe]
            change ab_W _ _ _ G4 157 [some (vR w_), none, some (vR q), some (vz (SP218 1)), some (vz (ct_ + 1)), some (vz tu), some (vz 1)] [vz 0] _
            exfalso; omega
          · cases hv
            have hw_ := hfk.get hw_ (by decide)
            have hf_spans := hfk.get hf_spans (by decide)
            have hq := hfk.get hq (by simp only [List.mem_cons, List.not_mem_nil, or_false]; omega)
            have hki := hfk.get hki (by simp only [List.mem_cons, List.not_mem_nil, or_false]; omega)
            have hne := hfk.get hne (by simp only [List.mem_cons, List.not_mem_nil, or_false]; omega)
            have hot := hfk.get hot (by simp only [List.mem_cons, List.not_mem_nil, or_false]; omega)
            have hra := hfk.get hra (by simp only [List.mem_cons, List.not_mem_nil, or_false]; omega)
            have hf_subject := hfk.get hf_subject (by decide)
            have hco := hfk.get hco (by decide)
            have hre := hfk.get hre (by decide)
            have hho := hfk.get hho (by decide)
            have pmkB_f_marks := mkB.fr hfk pmkB_f_marks (by decide) (by decide) (by decide) (by decide)
            have hfr := hfr.tr hfk (by decide)
            have hq50 := hfk.1
            have hf_pieces := hNf_pieces
            have hb241 := hNb241
            change ab_W _ _ _ G38 157 [some (vR w_), none, some (vR q), some (vz (SP218 1)), some (vz (ct_ + 1)), some (vz tu), some (vz 1)] [vz 1] _
            refine ab_pop d_PW_split_157 rfl ?_
            have hz51 : zT n242 4004 ≤ 12012 := zT_le (c := 4004) (by omega) rfl
            refine ab_aload_n d_PW_split_158 rfl ?_
            refine ab_getf (fs := [vR f_ready, vR f_tape, vR f_reader, vR f_programs, vR f_subject, vR f_spans, vR f_threads, vR f_marks, vR f_oneMind, vR f_states, vR f_latest, vR f_matches, vR f_pieces, vR f_template, vR f_result, vR f_spare, vz cmp, vz ovs]) f_PW_79 d_PW_split_159 hw_.2.2 rfl ?_
            refine ab_aload_n d_PW_split_162 rfl ?_
            refine ab_getf (fs := [vR f_ready, vR f_tape, vR f_reader, vR f_programs, vR f_subject, vR f_spans, vR f_threads, vR f_marks, vR f_oneMind, vR f_states, vR f_latest, vR f_matches, vR f_pieces, vR f_template, vR f_result, vR f_spare, vz cmp, vz ovs]) f_PW_42 d_PW_split_163 hw_.2.2 rfl ?_
            refine zz_iconst d_PW_split_166 ?_
            refine zz_iald d_PW_split_167 hf_spans (by omega) ?_
            refine ab_callV (d' := d - 1) (as := [vz (SP218 1)]) (st := []) (r := _) (z_RW_add (o := o40) (r := f_pieces) (b := b241) (lr := 73) (lb := 74) (n := n242) (lim := 4004) (sz := (sz_a + 1)) (f := f243) (x := (SP218 1)) hf_pieces hb241 (by omega) (by have h18 : ab_n0 = 18 := rfl; omega) (by omega) (by omega) (by omega)) (fun oc G2 h => by rcases h with ⟨h, _⟩ | ⟨_, _, _, _, h, _⟩ <;> exact ⟨_, h⟩) (by omega) m_RW_add ml_PW_197 im_RW_add se_RW_add c_RW hf_pieces.2.2 (Nat.le_of_ble_eq_true rfl) d_PW_split_168 rfl ?_
            intro v G52 hq
            rcases hq with ⟨hv, hGe, hq53⟩ | ⟨o54, b255, n256, f257, hv, hfk, hNf_pieces, hNb255, hq58, hq59, hq60, hq61, hq62, hq63⟩
            · cases hv
              rw [hGe]
              change ab_W _ _ _ G38 171 [some (vR w_), none, some (vR q), some (vz (SP218 1)), some (vz (ct_ + 1)), some (vz tu), some (vz 1)] [vz 0] _
              exfalso; omega
            · cases hv
              have hw_ := hfk.get hw_ (by decide)
              have hf_spans := hfk.get hf_spans (by decide)
              have hq := hfk.get hq (by simp only [List.mem_cons, List.not_mem_nil, or_false]; omega)
              have hki := hfk.get hki (by simp only [List.mem_cons, List.not_mem_nil, or_false]; omega)
              have hne := hfk.get hne (by simp only [List.mem_cons, List.not_mem_nil, or_false]; omega)
              have hot := hfk.get hot (by simp only [List.mem_cons, List.not_mem_nil, or_false]; omega)
              have hra := hfk.get hra (by simp only [List.mem_cons, List.not_mem_nil, or_false]; omega)
              have hf_subject := hfk.get hf_subject (by decide)
              have hco := hfk.get hco (by decide)
              have hre := hfk.get hre (by decide)
              have hho := hfk.get hho (by decide)
              have pmkB_f_marks := mkB.fr hfk pmkB_f_marks (by decide) (by decide) (by decide) (by decide)
              have hfr := hfr.tr hfk (by decide)
              have hq64 := hfk.1
              have hf_pieces := hNf_pieces
              have hb255 := hNb255
              change ab_W _ _ _ G52 171 [some (vR w_), none, some (vR q), some (vz (SP218 1)), some (vz (ct_ + 1)), some (vz tu), some (vz 1)] [vz 1] _
              refine ab_pop d_PW_split_171 rfl ?_
              refine zz_iinc d_PW_split_172 rfl (Nat.le_of_ble_eq_true rfl) (Nat.le_of_ble_eq_true rfl) rfl ?_
              change ab_W _ _ _ G52 175 [some (vR w_), none, some (vR q), some (vz (SP218 1)), some (vz (ct_ + 1)), some (vz (tu + 1)), some (vz 1)] [] _
              refine ab_goto (tgt := 62) d_PW_split_175 (by decide) ?_
              refine ab_less (L' := [some (vR w_), none, some (vR q), some (vz (SP218 1)), some (vz (ct_ + 1)), some (vz (tu + 1)), none]) (fun i v h => by rcases i with _ | _ | _ | _ | _ | _ | _ | i <;> first | exact h | (simp at h)) ?_
              exact ih (ns := ns217) (SP := SP218) (it_a := b255) (sz_a := ((sz_a + 1) + 1)) (mr_a := n256) (F_a := f257) (bf := (SP218 1)) (tu := (tu + 1)) (ct_ := (ct_ + 1)) (dd := dd219) (stm := sm220) (un := un221) hw_ hf_spans hq hki hne hot hra hf_subject hco hre hho hf_pieces hb255 pmkB_f_marks (by omega) hq23 (by omega) (by omega) (by omega) (by omega) (mxA_s (by omega) (by omega)) (spK2_s jal hq29 rfl (fun h => by omega) hq48 hq49 hq62 hq63 hsu.1 (by omega)) (by omega) (by omega) hfr (by omega) hk0
        · refine ab_aload_n d_PW_split_107 rfl ?_
          refine ab_getf (fs := [vR f_ready, vR f_tape, vR f_reader, vR f_programs, vR f_subject, vR f_spans, vR f_threads, vR f_marks, vR f_oneMind, vR f_states, vR f_latest, vR f_matches, vR f_pieces, vR f_template, vR f_result, vR f_spare, vz cmp, vz ovs]) f_PW_42 d_PW_split_108 hw_.2.2 rfl ?_
          refine zz_iconst d_PW_split_111 ?_
          refine zz_iald d_PW_split_112 hf_spans (by omega) ?_
          refine zz_if_le (tgt := 136) d_PW_split_113 (by decide) (by omega) (fun c65 => ?_) (fun c65 => ?_)
          · refine zz_iconst d_PW_split_136 ?_
            refine ab_istore d_PW_split_137 (Nat.le_of_ble_eq_true rfl) (Nat.le_of_ble_eq_true rfl) rfl ?_
            change ab_W _ _ _ G4 139 [some (vR w_), none, some (vR q), some (vz (SP218 1)), some (vz (ct_ + 1)), some (vz tu), some (vz 0)] [] _
            refine ab_iload d_PW_split_139 rfl ?_
            refine zz_if_eq (tgt := 172) d_PW_split_141 (by decide) (by decide) (fun c66 => ?_) (fun c66 => absurd c66 (by decide))
            refine zz_iinc d_PW_split_172 rfl (Nat.le_of_ble_eq_true rfl) (Nat.le_of_ble_eq_true rfl) rfl ?_
            change ab_W _ _ _ G4 175 [some (vR w_), none, some (vR q), some (vz (SP218 1)), some (vz (ct_ + 1)), some (vz (tu + 1)), some (vz 0)] [] _
            refine ab_goto (tgt := 62) d_PW_split_175 (by decide) ?_
            refine ab_less (L' := [some (vR w_), none, some (vR q), some (vz (SP218 1)), some (vz (ct_ + 1)), some (vz (tu + 1)), none]) (fun i v h => by rcases i with _ | _ | _ | _ | _ | _ | _ | i <;> first | exact h | (simp at h)) ?_
            exact ih (ns := ns217) (SP := SP218) (it_a := it_a) (sz_a := sz_a) (mr_a := mr_a) (F_a := F_a) (bf := (SP218 1)) (tu := (tu + 1)) (ct_ := (ct_ + 1)) (dd := dd219) (stm := sm220) (un := un221) hw_ hf_spans hq hki hne hot hra hf_subject hco hre hho hf_pieces hit_a pmkB_f_marks (by omega) hq23 (by omega) (by omega) (by omega) (by omega) (mxA_s (by omega) (by omega)) (spK2_e jal hq29 rfl (by omega) (by first | (left; omega) | (right; omega))) (by omega) (by omega) hfr (by omega) hk0
          · refine ab_aload_n d_PW_split_116 rfl ?_
            refine ab_getf (fs := [vR f_ready, vR f_tape, vR f_reader, vR f_programs, vR f_subject, vR f_spans, vR f_threads, vR f_marks, vR f_oneMind, vR f_states, vR f_latest, vR f_matches, vR f_pieces, vR f_template, vR f_result, vR f_spare, vz cmp, vz ovs]) f_PW_42 d_PW_split_117 hw_.2.2 rfl ?_
            refine zz_iconst d_PW_split_120 ?_
            refine zz_iald d_PW_split_121 hf_spans (by omega) ?_
            refine ab_aload_n d_PW_split_122 rfl ?_
            refine ab_getf (fs := [vR f_ready, vR f_tape, vR f_reader, vR f_programs, vR f_subject, vR f_spans, vR f_threads, vR f_marks, vR f_oneMind, vR f_states, vR f_latest, vR f_matches, vR f_pieces, vR f_template, vR f_result, vR f_spare, vz cmp, vz ovs]) f_PW_38 d_PW_split_123 hw_.2.2 rfl ?_
            refine ab_getf (fs := [vR by_, vR co, vR re, vR ho, vz n]) f_PW_164 d_PW_split_126 hf_subject.2.2 rfl ?_
            refine zz_icmp_ge (tgt := 136) d_PW_split_129 (by decide) (by omega) (by omega) (fun c67 => ?_) (fun c67 => ?_)
            · refine zz_iconst d_PW_split_136 ?_
              refine ab_istore d_PW_split_137 (Nat.le_of_ble_eq_true rfl) (Nat.le_of_ble_eq_true rfl) rfl ?_
              change ab_W _ _ _ G4 139 [some (vR w_), none, some (vR q), some (vz (SP218 1)), some (vz (ct_ + 1)), some (vz tu), some (vz 0)] [] _
              refine ab_iload d_PW_split_139 rfl ?_
              refine zz_if_eq (tgt := 172) d_PW_split_141 (by decide) (by decide) (fun c68 => ?_) (fun c68 => absurd c68 (by decide))
              refine zz_iinc d_PW_split_172 rfl (Nat.le_of_ble_eq_true rfl) (Nat.le_of_ble_eq_true rfl) rfl ?_
              change ab_W _ _ _ G4 175 [some (vR w_), none, some (vR q), some (vz (SP218 1)), some (vz (ct_ + 1)), some (vz (tu + 1)), some (vz 0)] [] _
              refine ab_goto (tgt := 62) d_PW_split_175 (by decide) ?_
              refine ab_less (L' := [some (vR w_), none, some (vR q), some (vz (SP218 1)), some (vz (ct_ + 1)), some (vz (tu + 1)), none]) (fun i v h => by rcases i with _ | _ | _ | _ | _ | _ | _ | i <;> first | exact h | (simp at h)) ?_
              exact ih (ns := ns217) (SP := SP218) (it_a := it_a) (sz_a := sz_a) (mr_a := mr_a) (F_a := F_a) (bf := (SP218 1)) (tu := (tu + 1)) (ct_ := (ct_ + 1)) (dd := dd219) (stm := sm220) (un := un221) hw_ hf_spans hq hki hne hot hra hf_subject hco hre hho hf_pieces hit_a pmkB_f_marks (by omega) hq23 (by omega) (by omega) (by omega) (by omega) (mxA_s (by omega) (by omega)) (spK2_e jal hq29 rfl (by omega) (by first | (left; omega) | (right; omega))) (by omega) (by omega) hfr (by omega) hk0
            · refine zz_iconst d_PW_split_132 ?_
              refine ab_goto (tgt := 137) d_PW_split_133 (by decide) ?_
              refine ab_istore d_PW_split_137 (Nat.le_of_ble_eq_true rfl) (Nat.le_of_ble_eq_true rfl) rfl ?_
              change ab_W _ _ _ G4 139 [some (vR w_), none, some (vR q), some (vz (SP218 1)), some (vz (ct_ + 1)), some (vz tu), some (vz 1)] [] _
              refine ab_iload d_PW_split_139 rfl ?_
              refine zz_if_eq (tgt := 172) d_PW_split_141 (by decide) (by decide) (fun c69 => absurd c69 (by decide)) (fun c69 => ?_)
              refine ab_aload_n d_PW_split_144 rfl ?_
              refine ab_getf (fs := [vR f_ready, vR f_tape, vR f_reader, vR f_programs, vR f_subject, vR f_spans, vR f_threads, vR f_marks, vR f_oneMind, vR f_states, vR f_latest, vR f_matches, vR f_pieces, vR f_template, vR f_result, vR f_spare, vz cmp, vz ovs]) f_PW_79 d_PW_split_145 hw_.2.2 rfl ?_
              refine ab_aload_n d_PW_split_148 rfl ?_
              refine ab_getf (fs := [vR f_ready, vR f_tape, vR f_reader, vR f_programs, vR f_subject, vR f_spans, vR f_threads, vR f_marks, vR f_oneMind, vR f_states, vR f_latest, vR f_matches, vR f_pieces, vR f_template, vR f_result, vR f_spare, vz cmp, vz ovs]) f_PW_42 d_PW_split_149 hw_.2.2 rfl ?_
              refine zz_iconst d_PW_split_152 ?_
              refine zz_iald d_PW_split_153 hf_spans (by omega) ?_
              refine ab_callV (d' := d - 1) (as := [vz (SP218 0)]) (st := []) (r := _) (z_RW_add (o := o16) (r := f_pieces) (b := it_a) (lr := 73) (lb := 74) (n := mr_a) (lim := 4004) (sz := sz_a) (f := F_a) (x := (SP218 0)) hf_pieces hit_a (by omega) (by have h18 : ab_n0 = 18 := rfl; omega) (by omega) (by omega) (by omega)) (fun oc G2 h => by rcases h with ⟨h, _⟩ | ⟨_, _, _, _, h, _⟩ <;> exact ⟨_, h⟩) (by omega) m_RW_add ml_PW_197 im_RW_add se_RW_add c_RW hf_pieces.2.2 (Nat.le_of_ble_eq_true rfl) d_PW_split_154 rfl ?_
              intro v G70 hq
              rcases hq with ⟨hv, hGe, hq71⟩ | ⟨o72, b273, n274, f275, hv, hfk, hNf_pieces, hNb273, hq76, hq77, hq78, hq79, hq80, hq81⟩
              · cases hv
                rw [hGe]
                change ab_W _ _ _ G4 157 [some (vR w_), none, some (vR q), some (vz (SP218 1)), some (vz (ct_ + 1)), some (vz tu), some (vz 1)] [vz 0] _
                exfalso; omega
              · cases hv
                have hw_ := hfk.get hw_ (by decide)
                have hf_spans := hfk.get hf_spans (by decide)
                have hq := hfk.get hq (by simp only [List.mem_cons, List.not_mem_nil, or_false]; omega)
                have hki := hfk.get hki (by simp only [List.mem_cons, List.not_mem_nil, or_false]; omega)
                have hne := hfk.get hne (by simp only [List.mem_cons, List.not_mem_nil, or_false]; omega)
                have hot := hfk.get hot (by simp only [List.mem_cons, List.not_mem_nil, or_false]; omega)
                have hra := hfk.get hra (by simp only [List.mem_cons, List.not_mem_nil, or_false]; omega)
                have hf_subject := hfk.get hf_subject (by decide)
                have hco := hfk.get hco (by decide)
                have hre := hfk.get hre (by decide)
                have hho := hfk.get hho (by decide)
                have pmkB_f_marks := mkB.fr hfk pmkB_f_marks (by decide) (by decide) (by decide) (by decide)
                have hfr := hfr.tr hfk (by decide)
                have hq82 := hfk.1
                have hf_pieces := hNf_pieces
                have hb273 := hNb273
                change ab_W _ _ _ G70 157 [some (vR w_), none, some (vR q), some (vz (SP218 1)), some (vz (ct_ + 1)), some (vz tu), some (vz 1)] [vz 1] _
                refine ab_pop d_PW_split_157 rfl ?_
                have hz83 : zT n274 4004 ≤ 12012 := zT_le (c := 4004) (by omega) rfl
                refine ab_aload_n d_PW_split_158 rfl ?_
                refine ab_getf (fs := [vR f_ready, vR f_tape, vR f_reader, vR f_programs, vR f_subject, vR f_spans, vR f_threads, vR f_marks, vR f_oneMind, vR f_states, vR f_latest, vR f_matches, vR f_pieces, vR f_template, vR f_result, vR f_spare, vz cmp, vz ovs]) f_PW_79 d_PW_split_159 hw_.2.2 rfl ?_
                refine ab_aload_n d_PW_split_162 rfl ?_
                refine ab_getf (fs := [vR f_ready, vR f_tape, vR f_reader, vR f_programs, vR f_subject, vR f_spans, vR f_threads, vR f_marks, vR f_oneMind, vR f_states, vR f_latest, vR f_matches, vR f_pieces, vR f_template, vR f_result, vR f_spare, vz cmp, vz ovs]) f_PW_42 d_PW_split_163 hw_.2.2 rfl ?_
                refine zz_iconst d_PW_split_166 ?_
                refine zz_iald d_PW_split_167 hf_spans (by omega) ?_
                refine ab_callV (d' := d - 1) (as := [vz (SP218 1)]) (st := []) (r := _) (z_RW_add (o := o72) (r := f_pieces) (b := b273) (lr := 73) (lb := 74) (n := n274) (lim := 4004) (sz := (sz_a + 1)) (f := f275) (x := (SP218 1)) hf_pieces hb273 (by omega) (by have h18 : ab_n0 = 18 := rfl; omega) (by omega) (by omega) (by omega)) (fun oc G2 h => by rcases h with ⟨h, _⟩ | ⟨_, _, _, _, h, _⟩ <;> exact ⟨_, h⟩) (by omega) m_RW_add ml_PW_197 im_RW_add se_RW_add c_RW hf_pieces.2.2 (Nat.le_of_ble_eq_true rfl) d_PW_split_168 rfl ?_
                intro v G84 hq
                rcases hq with ⟨hv, hGe, hq85⟩ | ⟨o86, b287, n288, f289, hv, hfk, hNf_pieces, hNb287, hq90, hq91, hq92, hq93, hq94, hq95⟩
                · cases hv
                  rw [hGe]
                  change ab_W _ _ _ G70 171 [some (vR w_), none, some (vR q), some (vz (SP218 1)), some (vz (ct_ + 1)), some (vz tu), some (vz 1)] [vz 0] _
                  exfalso; omega
                · cases hv
                  have hw_ := hfk.get hw_ (by decide)
                  have hf_spans := hfk.get hf_spans (by decide)
                  have hq := hfk.get hq (by simp only [List.mem_cons, List.not_mem_nil, or_false]; omega)
                  have hki := hfk.get hki (by simp only [List.mem_cons, List.not_mem_nil, or_false]; omega)
                  have hne := hfk.get hne (by simp only [List.mem_cons, List.not_mem_nil, or_false]; omega)
                  have hot := hfk.get hot (by simp only [List.mem_cons, List.not_mem_nil, or_false]; omega)
                  have hra := hfk.get hra (by simp only [List.mem_cons, List.not_mem_nil, or_false]; omega)
                  have hf_subject := hfk.get hf_subject (by decide)
                  have hco := hfk.get hco (by decide)
                  have hre := hfk.get hre (by decide)
                  have hho := hfk.get hho (by decide)
                  have pmkB_f_marks := mkB.fr hfk pmkB_f_marks (by decide) (by decide) (by decide) (by decide)
                  have hfr := hfr.tr hfk (by decide)
                  have hq96 := hfk.1
                  have hf_pieces := hNf_pieces
                  have hb287 := hNb287
                  change ab_W _ _ _ G84 171 [some (vR w_), none, some (vR q), some (vz (SP218 1)), some (vz (ct_ + 1)), some (vz tu), some (vz 1)] [vz 1] _
                  refine ab_pop d_PW_split_171 rfl ?_
                  refine zz_iinc d_PW_split_172 rfl (Nat.le_of_ble_eq_true rfl) (Nat.le_of_ble_eq_true rfl) rfl ?_
                  change ab_W _ _ _ G84 175 [some (vR w_), none, some (vR q), some (vz (SP218 1)), some (vz (ct_ + 1)), some (vz (tu + 1)), some (vz 1)] [] _
                  refine ab_goto (tgt := 62) d_PW_split_175 (by decide) ?_
                  refine ab_less (L' := [some (vR w_), none, some (vR q), some (vz (SP218 1)), some (vz (ct_ + 1)), some (vz (tu + 1)), none]) (fun i v h => by rcases i with _ | _ | _ | _ | _ | _ | _ | i <;> first | exact h | (simp at h)) ?_
                  exact ih (ns := ns217) (SP := SP218) (it_a := b287) (sz_a := ((sz_a + 1) + 1)) (mr_a := n288) (F_a := f289) (bf := (SP218 1)) (tu := (tu + 1)) (ct_ := (ct_ + 1)) (dd := dd219) (stm := sm220) (un := un221) hw_ hf_spans hq hki hne hot hra hf_subject hco hre hho hf_pieces hb287 pmkB_f_marks (by omega) hq23 (by omega) (by omega) (by omega) (by omega) (mxA_s (by omega) (by omega)) (spK2_s jal hq29 rfl (fun h => by omega) hq80 hq81 hq94 hq95 hsu.1 (by omega)) (by omega) (by omega) hfr (by omega) hk0
set_option maxRecDepth 100000 in
set_option maxHeartbeats 4000000 in
theorem z_PW_split {X : ab_X} {d : Nat} {o : Nat → Nat} {G : ab_G} {w_ : Nat} {f_ready : Nat} {f_tape : Nat} {f_reader : Nat} {f_programs : Nat} {f_subject : Nat} {f_spans : Nat} {f_threads : Nat} {f_marks : Nat} {f_oneMind : Nat} {f_states : Nat} {f_latest : Nat} {f_matches : Nat} {f_pieces : Nat} {f_template : Nat} {f_result : Nat} {f_spare : Nat} {cmp : Int} {ovs : Int} {sb : Int} {PG : Nat → Option Nat} {NR : Nat → Nat} {cv : Int → Int} {on : Nat} {nm : Nat} {ns : Nat} {nt : Nat} {n : Int} {m : Nat} {SP : Int → Int} {f : Int → Int} {it_a : Nat} {sz_a : Int} {mr_a : Nat} {F_a : Int → Int} {sl : Int} {k_ : Nat} (hw_ : cc o G w_ 18 (ab_ob 0 [vR f_ready, vR f_tape, vR f_reader, vR f_programs, vR f_subject, vR f_spans, vR f_threads, vR f_marks, vR f_oneMind, vR f_states, vR f_latest, vR f_matches, vR f_pieces, vR f_template, vR f_result, vR f_spare, vz cmp, vz ovs])) (hf_spans : cc o G f_spans 31 (za 20 SP)) (h17 : cc o G 17 17 (za 12 zFC)) (hf_programs : cc o G f_programs 81 (ab_rr 6 PG)) (hf_pieces : cc o G f_pieces 73 (ab_ob 7 [vz 4004, vR it_a, vz sz_a])) (hit_a : cc o G it_a 74 (za mr_a F_a)) (pthI_f_threads : thI o G f_threads 0) (pmkI_f_marks : mkI o G f_marks nm ns 0) (pomI_f_oneMind : omI o G f_oneMind on nt 0) (pstI_f_states : stI o G f_states cv cmp 0 sb) (psuI_f_subject : suI o G f_subject n m f) (ppgI_0 : pgI o G 0 PG NR cv cmp on) (n18 : ab_n0 = 18) (hkq : kq6 sl k_) (cr : -2147483648 ≤ sl ∧ sl ≤ 2147483647) (jsp : rgs SP 20 (-1) 2000) (crw_a : 0 ≤ sz_a ∧ sz_a ≤ ↑mr_a ∧ ↑mr_a ≤ (4004 : Int) ∧ 32 ≤ mr_a) (rc : 64 * G.length + 4600000 ≤ 64 * (ab_n0 + room_1.cells) + (64 * nm + 64 * stC ns + nt + onPQ on)) (rs : ab_slots G + 2360000 ≤ room_1.slots + (zT nm 52026 + stT ns + 2 * nt + onSQ on)) (hd : 16 ≤ d) : ab_F X d y_PW_split (.code y_PW_split b_PW_split 7 (some (.int))) [vR w_, vz sl] G (fun oc G2 => (∃ o2 : Nat → Nat, ∃ b : Nat, oc = .threw b ∧ fx o o2 [18, 31, 73, 74, 32, 33, 35, 36, 37, 38, 39, 40, 44, 45, 46, 47, 50, 51, 52, 53, 54, 55, 56, 57, 60, 61, 62, 63, 64, 65, 66, 67, 68] G G2 ∧ cc o2 G2 w_ 18 (ab_ob 0 [vR f_ready, vR f_tape, vR f_reader, vR f_programs, vR f_subject, vR f_spans, vR f_threads, vR f_marks, vR f_oneMind, vR f_states, vR f_latest, vR f_matches, vR f_pieces, vR f_template, vR f_result, vR f_spare, vz cmp, vz ovs]) ∧ cc o2 G2 f_spans 31 (za 20 SP) ∧ cc o2 G2 f_pieces 73 (ab_ob 7 [vz 4004, vR it_a, vz sz_a]) ∧ cc o2 G2 it_a 74 (za mr_a F_a) ∧ thI o2 G2 f_threads 0 ∧ mkI o2 G2 f_marks nm ns 0 ∧ omI o2 G2 f_oneMind on nt 0 ∧ stI o2 G2 f_states cv cmp 0 sb ∧ suI o2 G2 f_subject n m f ∧ pgI o2 G2 0 PG NR cv cmp on ∧ (G2[b]? = some (.inr (13, []))) ∧ (G2.length = G.length + 1) ∧ (ab_slots G2 = ab_slots G + 6) ∧ (npg PG sl)) ∨ (∃ o2 : Nat → Nat, ∃ nm2 : Nat, ∃ ns2 : Nat, ∃ SP2 : Int → Int, ∃ r : Int, ∃ it2 : Nat, ∃ sz2 : Int, ∃ mr2 : Nat, ∃ F2 : Int → Int, oc = .returned (some (vz r)) ∧ fx o o2 [18, 31, 73, 74, 32, 33, 35, 36, 37, 38, 39, 40, 44, 45, 46, 47, 50, 51, 52, 53, 54, 55, 56, 57, 60, 61, 62, 63, 64, 65, 66, 67, 68] G G2 ∧ cc o2 G2 w_ 18 (ab_ob 0 [vR f_ready, vR f_tape, vR f_reader, vR f_programs, vR f_subject, vR f_spans, vR f_threads, vR f_marks, vR f_oneMind, vR f_states, vR f_latest, vR f_matches, vR f_pieces, vR f_template, vR f_result, vR f_spare, vz cmp, vz ovs]) ∧ cc o2 G2 f_spans 31 (za 20 SP2) ∧ cc o2 G2 f_pieces 73 (ab_ob 7 [vz 4004, vR it2, vz sz2]) ∧ cc o2 G2 it2 74 (za mr2 F2) ∧ thI o2 G2 f_threads 0 ∧ mkI o2 G2 f_marks nm2 ns2 0 ∧ omI o2 G2 f_oneMind on nt 0 ∧ stI o2 G2 f_states cv cmp 0 sb ∧ suI o2 G2 f_subject n m f ∧ pgI o2 G2 0 PG NR cv cmp on ∧ (rgs SP2 20 (-1) 2000) ∧ (0 ≤ sz2 ∧ sz2 ≤ ↑mr2 ∧ ↑mr2 ≤ (4004 : Int) ∧ 32 ≤ mr2) ∧ (64 * G2.length + (64 * nm + 64 * stC ns + nt + onPQ on + 64 * mr_a) ≤ 64 * G.length + (64 * nm2 + 64 * stC ns2 + nt + onPQ on + 64 * mr2)) ∧ (ab_slots G2 + (zT nm 52026 + stT ns + 2 * nt + onSQ on + zT mr_a 4004) ≤ ab_slots G + (zT nm2 52026 + stT ns2 + 2 * nt + onSQ on + zT mr2 4004)) ∧ (spP PG cv sl f n r sz2 F2))) := by
  refine ab_F_of (by decide +kernel) (Nat.le_of_ble_eq_true rfl) ?_
  obtain ⟨Q, hQ⟩ : ∃ z : Outcome → ab_G → Prop, z = (fun oc G2 => (∃ o2 : Nat → Nat, ∃ b : Nat, oc = .threw b ∧ fx o o2 [18, 31, 73, 74, 32, 33, 35, 36, 37, 38, 39, 40, 44, 45, 46, 47, 50, 51, 52, 53, 54, 55, 56, 57, 60, 61, 62, 63, 64, 65, 66, 67, 68] G G2 ∧ cc o2 G2 w_ 18 (ab_ob 0 [vR f_ready, vR f_tape, vR f_reader, vR f_programs, vR f_subject, vR f_spans, vR f_threads, vR f_marks, vR f_oneMind, vR f_states, vR f_latest, vR f_matches, vR f_pieces, vR f_template, vR f_result, vR f_spare, vz cmp, vz ovs]) ∧ cc o2 G2 f_spans 31 (za 20 SP) ∧ cc o2 G2 f_pieces 73 (ab_ob 7 [vz 4004, vR it_a, vz sz_a]) ∧ cc o2 G2 it_a 74 (za mr_a F_a) ∧ thI o2 G2 f_threads 0 ∧ mkI o2 G2 f_marks nm ns 0 ∧ omI o2 G2 f_oneMind on nt 0 ∧ stI o2 G2 f_states cv cmp 0 sb ∧ suI o2 G2 f_subject n m f ∧ pgI o2 G2 0 PG NR cv cmp on ∧ (G2[b]? = some (.inr (13, []))) ∧ (G2.length = G.length + 1) ∧ (ab_slots G2 = ab_slots G + 6) ∧ (npg PG sl)) ∨ (∃ o2 : Nat → Nat, ∃ nm2 : Nat, ∃ ns2 : Nat, ∃ SP2 : Int → Int, ∃ r : Int, ∃ it2 : Nat, ∃ sz2 : Int, ∃ mr2 : Nat, ∃ F2 : Int → Int, oc = .returned (some (vz r)) ∧ fx o o2 [18, 31, 73, 74, 32, 33, 35, 36, 37, 38, 39, 40, 44, 45, 46, 47, 50, 51, 52, 53, 54, 55, 56, 57, 60, 61, 62, 63, 64, 65, 66, 67, 68] G G2 ∧ cc o2 G2 w_ 18 (ab_ob 0 [vR f_ready, vR f_tape, vR f_reader, vR f_programs, vR f_subject, vR f_spans, vR f_threads, vR f_marks, vR f_oneMind, vR f_states, vR f_latest, vR f_matches, vR f_pieces, vR f_template, vR f_result, vR f_spare, vz cmp, vz ovs]) ∧ cc o2 G2 f_spans 31 (za 20 SP2) ∧ cc o2 G2 f_pieces 73 (ab_ob 7 [vz 4004, vR it2, vz sz2]) ∧ cc o2 G2 it2 74 (za mr2 F2) ∧ thI o2 G2 f_threads 0 ∧ mkI o2 G2 f_marks nm2 ns2 0 ∧ omI o2 G2 f_oneMind on nt 0 ∧ stI o2 G2 f_states cv cmp 0 sb ∧ suI o2 G2 f_subject n m f ∧ pgI o2 G2 0 PG NR cv cmp on ∧ (rgs SP2 20 (-1) 2000) ∧ (0 ≤ sz2 ∧ sz2 ≤ ↑mr2 ∧ ↑mr2 ≤ (4004 : Int) ∧ 32 ≤ mr2) ∧ (64 * G2.length + (64 * nm + 64 * stC ns + nt + onPQ on + 64 * mr_a) ≤ 64 * G.length + (64 * nm2 + 64 * stC ns2 + nt + onPQ on + 64 * mr2)) ∧ (ab_slots G2 + (zT nm 52026 + stT ns + 2 * nt + onSQ on + zT mr_a 4004) ≤ ab_slots G + (zT nm2 52026 + stT ns2 + 2 * nt + onSQ on + zT mr2 4004)) ∧ (spP PG cv sl f n r sz2 F2))) := ⟨_, rfl⟩
  rw [← hQ]
  change ab_W X (ab_pl y_PW_split b_PW_split 7 (some (.int))) d G 0 [some (vR w_), some (vz sl), none, none, none, none, none] [] Q
  have hfr : fx o o [18, 31, 73, 74, 32, 33, 35, 36, 37, 38, 39, 40, 44, 45, 46, 47, 50, 51, 52, 53, 54, 55, 56, 57, 60, 61, 62, 63, 64, 65, 66, 67, 68] G G := fx.rf
  have hq1 := stT_le ns
  have hq2 := stC_le ns
  have hq3 := onPQ_le on
  have hq4 := onSQ_le on
  have hnt_ := pomI_f_oneMind.nt
  have hnm_ := pmkI_f_marks.b
  have hzt_ : zT nm 52026 ≤ 156078 := zT_le (c := 52026) (by omega) rfl
  refine ab_aload_n d_PW_split_0 rfl ?_
  refine ab_iload_n d_PW_split_1 rfl ?_
  refine ab_callV (d' := d - 1) (as := [vz sl]) (st := []) (r := _) (z_PW_programAt (o := o) (w_ := w_) (f_ready := f_ready) (f_tape := f_tape) (f_reader := f_reader) (f_programs := f_programs) (f_subject := f_subject) (f_spans := f_spans) (f_threads := f_threads) (f_marks := f_marks) (f_oneMind := f_oneMind) (f_states := f_states) (f_latest := f_latest) (f_matches := f_matches) (f_pieces := f_pieces) (f_template := f_template) (f_result := f_result) (f_spare := f_spare) (cmp := cmp) (ovs := ovs) (PG := PG) (k := sl) hw_ hf_programs (by omega)) (fun oc G2 h => by rcases h with ⟨h, _⟩ | ⟨_, h, _⟩ <;> exact ⟨_, h⟩) (by omega) m_PW_programAt ml_PW_148 im_PW_programAt se_PW_programAt c_PW hw_.2.2 (Nat.le_of_ble_eq_true rfl) d_PW_split_2 rfl ?_
  intro v G5 hq
  rcases hq with ⟨hv, hGe, hq6⟩ | ⟨b7, hv, hGe, hq8, hq9⟩
  · cases hv
    rw [hGe]
    change ab_W _ _ _ G 5 [some (vR w_), some (vz sl), none, none, none, none, none] [vN] _
    refine ab_astore_nN d_PW_split_5 (Nat.le_of_ble_eq_true rfl) (Nat.le_of_ble_eq_true rfl) rfl ?_
    change ab_W _ _ _ G 6 [some (vR w_), some (vz sl), some (vN), none, none, none, none] [] _
    refine ab_aload_nN d_PW_split_6 rfl ?_
    refine ab_ifnonnullN d_PW_split_7 ?_
    refine ab_throw (tx := "no pattern there") (by decide) (fun c h => h) cl_PW_109 inst_IA ini_IA tw_PW_113 d_PW_split_10 d_PW_split_13 d_PW_split_14 d_PW_split_16 d_PW_split_19 (by omega) (by omega) (by omega) ?_
    obtain ⟨G10, eG10⟩ : ∃ z : ab_G, z = G ++ [.inr (13, [])] := ⟨_, rfl⟩
    obtain ⟨o11, eo11⟩ : ∃ z : Nat → Nat, z = ol o G.length 99 := ⟨_, rfl⟩
    obtain ⟨a12, ea12⟩ : ∃ z : Nat, z = G.length := ⟨_, rfl⟩
    have hq13 := hit_a.n0 (by first | decide | omega)
    have ne_a12_w_ : nq a12 w_ := by have hlt := hw_.lt; unfold nq; omega
    have ne_a12_f_spans : nq a12 f_spans := by have hlt := hf_spans.lt; unfold nq; omega
    have ne_a12_17 : nq a12 17 := by have hlt := h17.lt; unfold nq; omega
    have ne_a12_f_programs : nq a12 f_programs := by have hlt := hf_programs.lt; unfold nq; omega
    have ne_a12_f_pieces : nq a12 f_pieces := by have hlt := hf_pieces.lt; unfold nq; omega
    have ne_a12_it_a : nq a12 it_a := by have hlt := hit_a.lt; unfold nq; omega
    have hw_ := hw_.akeep (k := 99) eG10
    rw [← eo11] at hw_
    have hf_spans := hf_spans.akeep (k := 99) eG10
    rw [← eo11] at hf_spans
    have h17 := h17.akeep (k := 99) eG10
    rw [← eo11] at h17
    have hf_programs := hf_programs.akeep (k := 99) eG10
    rw [← eo11] at hf_programs
    have hf_pieces := hf_pieces.akeep (k := 99) eG10
    rw [← eo11] at hf_pieces
    have hit_a := hit_a.akeep (k := 99) eG10
    rw [← eo11] at hit_a
    have hst := (fx.rf (o := o) (S := []) (G := G)).ap (k := 99) eG10
    rw [← eo11] at hst
    have pthI_f_threads := thI.fr hst pthI_f_threads (by decide) (by decide) (by decide) (by decide) (by decide) (by decide) (by decide) (by decide)
    have pmkI_f_marks := mkI.fr hst pmkI_f_marks (by decide) (by decide) (by decide) (by decide)
    have pomI_f_oneMind := omI.fr hst pomI_f_oneMind (by decide) (by decide) (by decide) (by decide) (by decide) (by decide) (by decide) (by decide)
    have pstI_f_states := stI.fr hst pstI_f_states (by decide) (by decide) (by decide) (by decide) (by decide) (by decide) (by decide) (by decide) (by decide)
    have psuI_f_subject := suI.fr hst psuI_f_subject (by decide) (by decide) (by decide) (by decide) (by decide)
    have ppgI_0 := pgI.fr hst ppgI_0  (by simp)
    have ha12 := cc.anew (o := o) 99 eG10 hq13
    rw [← eo11, ← ea12] at ha12
    have hfr := hfr.ap (k := 99) eG10
    rw [← eo11] at hfr
    have hq14 := z_alen eG10
    have hq15 : ab_slots G10 = ab_slots G + 6 := z_asl eG10 hq13
    rw [← ea12, ← eG10]
    rw [hQ]; exact (Or.inl ⟨_, _, rfl, hfr, hw_, hf_spans, hf_pieces, hit_a, pthI_f_threads, pmkI_f_marks, pomI_f_oneMind, pstI_f_states, psuI_f_subject, ppgI_0, (by exact ha12.2.2), (by omega), (by omega), (by exact hq6)⟩)
  · cases hv
    rw [hGe]
    change ab_W _ _ _ G 5 [some (vR w_), some (vz sl), none, none, none, none, none] [vR b7] _
    refine ab_astore_n d_PW_split_5 (Nat.le_of_ble_eq_true rfl) (Nat.le_of_ble_eq_true rfl) rfl ?_
    change ab_W _ _ _ G 6 [some (vR w_), some (vz sl), some (vR b7), none, none, none, none] [] _
    refine ab_aload_n d_PW_split_6 rfl ?_
    refine ab_ifnonnull (tgt := 20) d_PW_split_7 (by decide) ?_
    have hk_ := hkq.2 (by omega) (by omega)
    rw [← hk_] at hq8
    have hk6_ : k_ < 6 := by omega
    obtain ⟨⟨mi_, sz_, ppgB_b7⟩, ppgX_0⟩ := ppgI_0.opn hk6_ hq8
    obtain ⟨ki_g, ne_g, ot_g, cnt_g, fi_g, la_g, ra_g, ru_g, gr_g, wi_g, fl_g, ve_g, na_g, nl_g, K_g, N_g, O_g, RR_g, NA_g, NL_g, hb7, hki_g, hne_g, hot_g, hra_g, hna_g, hnl_g, cq_g, hpu_g, hp_g, hr_g, hch_g, cru_g, ck9_g, cfi_g, cgr_g, cfl_g, hpo_g, hmi_g, hvc_g, cve_g, jnl_g, hiv_g, hmn_g, jna_g, hla_g, hpv_g, cv1_g, hkk_g, hoc_g, csz_g⟩ := ppgB_b7
    have hmn0_ := hmn_g
    obtain ⟨v9_, hmv_, hpm_⟩ := hmn0_
    obtain ⟨by_, co, re, ho, C, Rs, H, mc, hf_subject, hby_, hco, hre, hho, csu, hsu⟩ := psuI_f_subject
    refine ab_aload_n d_PW_split_20 rfl ?_
    refine ab_getf (fs := [vR f_ready, vR f_tape, vR f_reader, vR f_programs, vR f_subject, vR f_spans, vR f_threads, vR f_marks, vR f_oneMind, vR f_states, vR f_latest, vR f_matches, vR f_pieces, vR f_template, vR f_result, vR f_spare, vz cmp, vz ovs]) f_PW_79 d_PW_split_21 hw_.2.2 rfl ?_
    refine ab_callV (d' := d - 1) (as := []) (st := []) (r := _) (z_RW_clear (o := o) (r := f_pieces) (b := it_a) (lr := 73) (lim := 4004) (sz := sz_a) hf_pieces (by have h18 : ab_n0 = 18 := rfl; omega)) (fun oc G2 h => by rcases h with ⟨h, _⟩ <;> exact ⟨_, h⟩) (by omega) m_RW_clear ml_PW_120 im_RW_clear se_RW_clear c_RW hf_pieces.2.2 (Nat.le_of_ble_eq_true rfl) d_PW_split_24 rfl ?_
    intro v G16 hq
    rcases hq with ⟨hv, hfk, hlk, hsk, hNf_pieces⟩
    cases hv
    have hw_ := hfk.get hw_ (by decide)
    have hf_spans := hfk.get hf_spans (by decide)
    have h17 := hfk.get h17 (by decide)
    have hf_programs := hfk.get hf_programs (by decide)
    have hit_a := hfk.get hit_a (by decide)
    have hb7 := hfk.get hb7 (by simp only [List.mem_cons, List.not_mem_nil, or_false]; omega)
    have hki_g := hfk.get hki_g (by simp only [List.mem_cons, List.not_mem_nil, or_false]; omega)
    have hne_g := hfk.get hne_g (by simp only [List.mem_cons, List.not_mem_nil, or_false]; omega)
    have hot_g := hfk.get hot_g (by simp only [List.mem_cons, List.not_mem_nil, or_false]; omega)
    have hra_g := hfk.get hra_g (by simp only [List.mem_cons, List.not_mem_nil, or_false]; omega)
    have hna_g := hfk.get hna_g (by simp only [List.mem_cons, List.not_mem_nil, or_false]; omega)
    have hnl_g := hfk.get hnl_g (by simp only [List.mem_cons, List.not_mem_nil, or_false]; omega)
    have hf_subject := hfk.get hf_subject (by decide)
    have hby_ := hfk.get hby_ (by decide)
    have hco := hfk.get hco (by decide)
    have hre := hfk.get hre (by decide)
    have hho := hfk.get hho (by decide)
    have pthI_f_threads := thI.fr hfk pthI_f_threads (by decide) (by decide) (by decide) (by decide) (by decide) (by decide) (by decide) (by decide)
    have pmkI_f_marks := mkI.fr hfk pmkI_f_marks (by decide) (by decide) (by decide) (by decide)
    have pomI_f_oneMind := omI.fr hfk pomI_f_oneMind (by decide) (by decide) (by decide) (by decide) (by decide) (by decide) (by decide) (by decide)
    have pstI_f_states := stI.fr hfk pstI_f_states (by decide) (by decide) (by decide) (by decide) (by decide) (by decide) (by decide) (by decide) (by decide)
    have ppgX_0 := pgX.fr hfk ppgX_0 (fun xx hx => Or.inl ((show ∀ y ∈ ([73] : List Nat), y < 100 by decide) xx hx))
    have hfr := hfr.tr hfk (by decide)
    have hq17 := hlk
    have hq18 := hsk
    have hf_pieces := hNf_pieces
    change ab_W _ _ _ G16 27 [some (vR w_), some (vz sl), some (vR b7), none, none, none, none] [] _
    refine ab_aload_n d_PW_split_27 rfl ?_
    refine ab_getf (fs := [vR f_ready, vR f_tape, vR f_reader, vR f_programs, vR f_subject, vR f_spans, vR f_threads, vR f_marks, vR f_oneMind, vR f_states, vR f_latest, vR f_matches, vR f_pieces, vR f_template, vR f_result, vR f_spare, vz cmp, vz ovs]) f_PW_79 d_PW_split_28 hw_.2.2 rfl ?_
    refine zz_iconst d_PW_split_31 ?_
    refine ab_callV (d' := d - 1) (as := [vz 0]) (st := []) (r := _) (z_RW_add (o := o) (r := f_pieces) (b := it_a) (lr := 73) (lb := 74) (n := mr_a) (lim := 4004) (sz := 0) (f := F_a) (x := 0) hf_pieces hit_a (by omega) (by have h18 : ab_n0 = 18 := rfl; omega) (by omega) (by omega) (by omega)) (fun oc G2 h => by rcases h with ⟨h, _⟩ | ⟨_, _, _, _, h, _⟩ <;> exact ⟨_, h⟩) (by omega) m_RW_add ml_PW_197 im_RW_add se_RW_add c_RW hf_pieces.2.2 (Nat.le_of_ble_eq_true rfl) d_PW_split_32 rfl ?_
    intro v G19 hq
    rcases hq with ⟨hv, hGe, hq20⟩ | ⟨o21, b222, n223, f224, hv, hfk, hNf_pieces, hNb222, hq25, hq26, hq27, hq28, hq29, hq30⟩
    · cases hv
      rw [hGe]
      change ab_W _ _ _ G16 35 [some (vR w_), some (vz sl), some (vR b7), none, none, none, none] [vz 0] _
      exfalso; omega
    · cases hv
      have hw_ := hfk.get hw_ (by decide)
      have hf_spans := hfk.get hf_spans (by decide)
      have h17 := hfk.get h17 (by decide)
      have hf_programs := hfk.get hf_programs (by decide)
      have hb7 := hfk.get hb7 (by simp only [List.mem_cons, List.not_mem_nil, or_false]; omega)
      have hki_g := hfk.get hki_g (by simp only [List.mem_cons, List.not_mem_nil, or_false]; omega)
      have hne_g := hfk.get hne_g (by simp only [List.mem_cons, List.not_mem_nil, or_false]; omega)
      have hot_g := hfk.get hot_g (by simp only [List.mem_cons, List.not_mem_nil, or_false]; omega)
      have hra_g := hfk.get hra_g (by simp only [List.mem_cons, List.not_mem_nil, or_false]; omega)
      have hna_g := hfk.get hna_g (by simp only [List.mem_cons, List.not_mem_nil, or_false]; omega)
      have hnl_g := hfk.get hnl_g (by simp only [List.mem_cons, List.not_mem_nil, or_false]; omega)
      have hf_subject := hfk.get hf_subject (by decide)
      have hby_ := hfk.get hby_ (by decide)
      have hco := hfk.get hco (by decide)
      have hre := hfk.get hre (by decide)
      have hho := hfk.get hho (by decide)
      have pthI_f_threads := thI.fr hfk pthI_f_threads (by decide) (by decide) (by decide) (by decide) (by decide) (by decide) (by decide) (by decide)
      have pmkI_f_marks := mkI.fr hfk pmkI_f_marks (by decide) (by decide) (by decide) (by decide)
      have pomI_f_oneMind := omI.fr hfk pomI_f_oneMind (by decide) (by decide) (by decide) (by decide) (by decide) (by decide) (by decide) (by decide)
      have pstI_f_states := stI.fr hfk pstI_f_states (by decide) (by decide) (by decide) (by decide) (by decide) (by decide) (by decide) (by decide) (by decide)
      have ppgX_0 := pgX.fr hfk ppgX_0 (fun xx hx => Or.inl ((show ∀ y ∈ ([73, 74] : List Nat), y < 100 by decide) xx hx))
      have hfr := hfr.tr hfk (by decide)
      have hq31 := hfk.1
      have hf_pieces := hNf_pieces
      have hb222 := hNb222
      change ab_W _ _ _ G19 35 [some (vR w_), some (vz sl), some (vR b7), none, none, none, none] [vz 1] _
      refine ab_pop d_PW_split_35 rfl ?_
      have hz32 : zT n223 4004 ≤ 12012 := zT_le (c := 4004) (by omega) rfl
      refine zz_iconst d_PW_split_36 ?_
      refine ab_istore_n d_PW_split_37 (Nat.le_of_ble_eq_true rfl) (Nat.le_of_ble_eq_true rfl) rfl ?_
      change ab_W _ _ _ G19 38 [some (vR w_), some (vz sl), some (vR b7), some (vz (-1)), none, none, none] [] _
      refine zz_iconst d_PW_split_38 ?_
      refine ab_istore d_PW_split_39 (Nat.le_of_ble_eq_true rfl) (Nat.le_of_ble_eq_true rfl) rfl ?_
      change ab_W _ _ _ G19 41 [some (vR w_), some (vz sl), some (vR b7), some (vz (-1)), some (vz 0), none, none] [] _
      refine ab_aload_n d_PW_split_41 rfl ?_
      refine ab_getf (fs := [vR f_ready, vR f_tape, vR f_reader, vR f_programs, vR f_subject, vR f_spans, vR f_threads, vR f_marks, vR f_oneMind, vR f_states, vR f_latest, vR f_matches, vR f_pieces, vR f_template, vR f_result, vR f_spare, vz cmp, vz ovs]) f_PW_55 d_PW_split_42 hw_.2.2 rfl ?_
      refine ab_aload_n d_PW_split_45 rfl ?_
      refine ab_aload_n d_PW_split_46 rfl ?_
      refine ab_getf (fs := [vR f_ready, vR f_tape, vR f_reader, vR f_programs, vR f_subject, vR f_spans, vR f_threads, vR f_marks, vR f_oneMind, vR f_states, vR f_latest, vR f_matches, vR f_pieces, vR f_template, vR f_result, vR f_spare, vz cmp, vz ovs]) f_PW_38 d_PW_split_47 hw_.2.2 rfl ?_
      refine zz_iconst d_PW_split_50 ?_
      refine zz_iconst d_PW_split_51 ?_
      refine ab_aload_n d_PW_split_52 rfl ?_
      refine ab_getf (fs := [vR f_ready, vR f_tape, vR f_reader, vR f_programs, vR f_subject, vR f_spans, vR f_threads, vR f_marks, vR f_oneMind, vR f_states, vR f_latest, vR f_matches, vR f_pieces, vR f_template, vR f_result, vR f_spare, vz cmp, vz ovs]) f_PW_42 d_PW_split_53 hw_.2.2 rfl ?_
      obtain ⟨wk_k, mk_k, stk_k, w_k, df_k, dp_k, fo_k, fy_k, hw_k, WK_k, M_k, SK_k, sp0_k, q0_k, s0_k, hf_marks, hwk_k, hmk_k, hstk_k, cn_k, hst_k, cfo_k, cst0_k⟩ := pmkI_f_marks
      refine ab_callV (d' := d - 1) (as := [vR b7, vR f_subject, vz 0, vz 0, vR f_spans]) (st := []) (r := _) (z_MK_begin (o := o21) (q := b7) (lq := (100 + 10 * k_)) (ki := ki_g) (ne := ne_g) (ot := ot_g) (cnt := cnt_g) (fi := fi_g) (la := la_g) (ra := ra_g) (ru := ru_g) (gr := gr_g) (wi := wi_g) (sz := sz_) (fl := fl_g) (ve := ve_g) (mi := mi_) (na := na_g) (nl := nl_g) (s := f_subject) (by_ := by_) (co := co) (re := re) (ho := ho) (n := n) (a := f_marks) (sp := f_spans) (wk := wk_k) (mk := mk_k) (stk := stk_k) (dp := dp_k) (fo := fo_k) (hw := 0) (stp := 0) (M := M_k) (nm := nm) (q0 := q0_k) (s0 := s0_k) (sp0 := sp0_k) (from_ := 0) (hw0 := hw_k) (fy0 := fy_k) (w0 := w_k) (df0 := df_k) hf_marks hmk_k hb7 hf_subject (by omega) (by omega) (by omega) (by omega) (by omega) (by omega) (by omega)) (fun oc G2 h => by rcases h with ⟨_, _, _, _, _, _, h, _⟩ <;> exact ⟨_, h⟩) (by omega) m_MK_begin ml_PW_189 im_MK_begin se_MK_begin c_MK hf_marks.2.2 (Nat.le_of_ble_eq_true rfl) d_PW_split_56 rfl ?_
      intro v G33 hq
      rcases hq with ⟨o34, w235, fy236, mk237, nm238, M239, hv, hfk, hNf_marks, hNmk237, hq40, hq41, hq42, hq43, hq44, hq45, hq46⟩
      cases hv
      have hw_ := hfk.get hw_ (by decide)
      have hf_spans := hfk.get hf_spans (by decide)
      have h17 := hfk.get h17 (by decide)
      have hf_programs := hfk.get hf_programs (by decide)
      have hf_pieces := hfk.get hf_pieces (by decide)
      have hb7 := hfk.get hb7 (by simp only [List.mem_cons, List.not_mem_nil, or_false]; omega)
      have hki_g := hfk.get hki_g (by simp only [List.mem_cons, List.not_mem_nil, or_false]; omega)
      have hne_g := hfk.get hne_g (by simp only [List.mem_cons, List.not_mem_nil, or_false]; omega)
      have hot_g := hfk.get hot_g (by simp only [List.mem_cons, List.not_mem_nil, or_false]; omega)
      have hra_g := hfk.get hra_g (by simp only [List.mem_cons, List.not_mem_nil, or_false]; omega)
      have hna_g := hfk.get hna_g (by simp only [List.mem_cons, List.not_mem_nil, or_false]; omega)
      have hnl_g := hfk.get hnl_g (by simp only [List.mem_cons, List.not_mem_nil, or_false]; omega)
      have hf_subject := hfk.get hf_subject (by decide)
      have hby_ := hfk.get hby_ (by decide)
      have hco := hfk.get hco (by decide)
      have hre := hfk.get hre (by decide)
      have hho := hfk.get hho (by decide)
      have hb222 := hfk.get hb222 (by decide)
      have hwk_k := hfk.get hwk_k (by decide)
      have hstk_k := hfk.get hstk_k (by decide)
      have pthI_f_threads := thI.fr hfk pthI_f_threads (by decide) (by decide) (by decide) (by decide) (by decide) (by decide) (by decide) (by decide)
      have pomI_f_oneMind := omI.fr hfk pomI_f_oneMind (by decide) (by decide) (by decide) (by decide) (by decide) (by decide) (by decide) (by decide)
      have pstI_f_states := stI.fr hfk pstI_f_states (by decide) (by decide) (by decide) (by decide) (by decide) (by decide) (by decide) (by decide) (by decide)
      have ppgX_0 := pgX.fr hfk ppgX_0 (fun xx hx => Or.inl ((show ∀ y ∈ ([44, 46] : List Nat), y < 100 by decide) xx hx))
      have hfr := hfr.tr hfk (by decide)
      have hq47 := hfk.1
      have hf_marks := hNf_marks
      have hmk237 := hNmk237
      change ab_W _ _ _ G33 59 [some (vR w_), some (vz sl), some (vR b7), some (vz (-1)), some (vz 0), none, none] [] _
      have hub_ := ucn_b (M := M239) (w := w235) (df := 0) (n := n) (by omega) (by omega)
      have pmkB_f_marks : mkB o34 G33 f_marks b7 f_subject f_spans nm238 ns cnt_g n 0 (ucn M239 w235 0 n) K_g N_g O_g RR_g f 0 fy236 0 := ⟨wk_k, mk237, stk_k, w235, 0, dp_k, fo_k, WK_k, M239, SK_k, hf_marks, hwk_k, hmk237, hstk_k, (by omega), hst_k, (by omega), (by omega), (by omega), (by omega), (ddC_0 (by omega)), (by omega), (by omega)⟩
      have hzt2_ : zT nm238 52026 ≤ 156078 := zT_le (c := 52026) (by omega) rfl
      refine zz_iconst d_PW_split_59 ?_
      refine ab_istore d_PW_split_60 (Nat.le_of_ble_eq_true rfl) (Nat.le_of_ble_eq_true rfl) rfl ?_
      change ab_W _ _ _ G33 62 [some (vR w_), some (vz sl), some (vR b7), some (vz (-1)), some (vz 0), some (vz 0), none] [] _
      refine ab_less (L' := [some (vR w_), none, some (vR b7), some (vz (-1)), some (vz 0), some (vz 0), none]) (fun i v h => by rcases i with _ | _ | _ | _ | _ | _ | _ | i <;> first | exact h | (simp at h)) ?_
      refine y_PW_split_62 (w_ := w_) (f_ready := f_ready) (f_tape := f_tape) (f_reader := f_reader) (f_programs := f_programs) (f_subject := f_subject) (f_spans := f_spans) (f_threads := f_threads) (f_marks := f_marks) (f_oneMind := f_oneMind) (f_states := f_states) (f_latest := f_latest) (f_matches := f_matches) (f_pieces := f_pieces) (f_template := f_template) (f_result := f_result) (f_spare := f_spare) (cmp := cmp) (ovs := ovs) (q := b7) (lq := (100 + 10 * k_)) (ki := ki_g) (ne := ne_g) (ot := ot_g) (cnt := cnt_g) (fi := fi_g) (la := la_g) (ra := ra_g) (ru := ru_g) (gr := gr_g) (wi := wi_g) (sz := sz_) (fl := fl_g) (ve := ve_g) (mi := mi_) (K := K_g) (N := N_g) (O := O_g) (RR := RR_g) (nr := (NR k_)) (na := na_g) (nl := nl_g) (nm := nm238) (n := n) (f := f) (by_ := by_) (co := co) (re := re) (ho := ho) (C := C) (Rs := Rs) (H := H) (mc := mc) (ns0 := ns) (mr0 := n223) (fy := fy236) (hw := 0) (v9 := v9_) (st0 := 0) (un0 := (ucn M239 w235 0 n)) (G0 := G33) (ns := ns) (SP := SP) (it_a := b222) (sz_a := (0 + 1)) (mr_a := n223) (F_a := f224) (bf := (-1)) (tu := 0) (ct_ := 0) (dd := 0) (stm := 0) (un := (ucn M239 w235 0 n)) (by omega) (by omega) hp_g hr_g (by omega) (by omega) (by omega) hsu (by omega) (by omega) (by omega) (by omega) (by omega) (Int.toNat (n + 1 - 0) + 1) hw_ hf_spans hb7 hki_g hne_g hot_g hra_g hf_subject hco hre hho hf_pieces hb222 pmkB_f_marks (by omega) jsp (by omega) (by omega) (by omega) (by omega) mxA_0 (spK2_0 hq30 (by omega)) (by omega) (by omega) fx.rf (by omega) (fun G48 o49 ns250 SP251 ct252 it253 sz254 mr255 F256 dd257 sm258 un259 hNf_spans hNf_pieces hNit253 pNmkB_f_marks hq60 hq61 hq62 hq63 hq64 hq65 hq66 hq67 hfk => ?_)
      · have hw_ := hfk.get hw_ (by decide)
        have h17 := hfk.get h17 (by decide)
        have hf_programs := hfk.get hf_programs (by decide)
        have hb7 := hfk.get hb7 (by simp only [List.mem_cons, List.not_mem_nil, or_false]; omega)
        have hki_g := hfk.get hki_g (by simp only [List.mem_cons, List.not_mem_nil, or_false]; omega)
        have hne_g := hfk.get hne_g (by simp only [List.mem_cons, List.not_mem_nil, or_false]; omega)
        have hot_g := hfk.get hot_g (by simp only [List.mem_cons, List.not_mem_nil, or_false]; omega)
        have hra_g := hfk.get hra_g (by simp only [List.mem_cons, List.not_mem_nil, or_false]; omega)
        have hna_g := hfk.get hna_g (by simp only [List.mem_cons, List.not_mem_nil, or_false]; omega)
        have hnl_g := hfk.get hnl_g (by simp only [List.mem_cons, List.not_mem_nil, or_false]; omega)
        have hf_subject := hfk.get hf_subject (by decide)
        have hby_ := hfk.get hby_ (by decide)
        have hco := hfk.get hco (by decide)
        have hre := hfk.get hre (by decide)
        have hho := hfk.get hho (by decide)
        have pthI_f_threads := thI.fr hfk pthI_f_threads (by decide) (by decide) (by decide) (by decide) (by decide) (by decide) (by decide) (by decide)
        have pomI_f_oneMind := omI.fr hfk pomI_f_oneMind (by decide) (by decide) (by decide) (by decide) (by decide) (by decide) (by decide) (by decide)
        have pstI_f_states := stI.fr hfk pstI_f_states (by decide) (by decide) (by decide) (by decide) (by decide) (by decide) (by decide) (by decide) (by decide)
        have ppgX_0 := pgX.fr hfk ppgX_0 (fun xx hx => Or.inl ((show ∀ y ∈ ([31, 44, 45, 46, 47, 73, 74] : List Nat), y < 100 by decide) xx hx))
        have hfr := hfr.tr hfk (by decide)
        have hq68 := hfk.1
        have hf_spans := hNf_spans
        have hf_pieces := hNf_pieces
        have hit253 := hNit253
        have pmkB_f_marks := pNmkB_f_marks
        change ab_W _ _ _ G48 178 [some (vR w_), none, some (vR b7), none, some (vz ct252), none, none] [] _
        obtain ⟨wk_e, mk_e, stk_e, w_e, df_e, dp_e, fo_e, WK_e, M_e, SK_e, hf_marks, hwk_e, hmk_e, hstk_e, cn_e, hst_e, cf_e, cw_e, cm_e, cd_e, hdd_e, cst0_e, hun_e⟩ := pmkB_f_marks
        have hub2_ := ucn_b (M := M_e) (w := w_e) (df := df_e) (n := n) (by omega) (by omega)
        have pmkI_f_marks : mkI o49 G48 f_marks nm238 ns250 sm258 := ⟨wk_e, mk_e, stk_e, w_e, df_e, dp_e, fo_e, fy236, 0, WK_e, M_e, SK_e, vR f_spans, vR b7, vR f_subject, hf_marks, hwk_e, hmk_e, hstk_e, (by omega), hst_e, (by omega), (by omega)⟩
        have hq69 := stT_le ns250
        have hq70 := stC_le ns250
        have hq71 := onPQ_le on
        have hq72 := onSQ_le on
        have hz73 : zT mr255 4004 ≤ 12012 := zT_le (c := 4004) (by omega) rfl
        refine ab_aload_n d_PW_split_178 rfl ?_
        refine ab_getf (fs := [vR f_ready, vR f_tape, vR f_reader, vR f_programs, vR f_subject, vR f_spans, vR f_threads, vR f_marks, vR f_oneMind, vR f_states, vR f_latest, vR f_matches, vR f_pieces, vR f_template, vR f_result, vR f_spare, vz cmp, vz ovs]) f_PW_79 d_PW_split_179 hw_.2.2 rfl ?_
        refine ab_aload_n d_PW_split_182 rfl ?_
        refine ab_getf (fs := [vR f_ready, vR f_tape, vR f_reader, vR f_programs, vR f_subject, vR f_spans, vR f_threads, vR f_marks, vR f_oneMind, vR f_states, vR f_latest, vR f_matches, vR f_pieces, vR f_template, vR f_result, vR f_spare, vz cmp, vz ovs]) f_PW_38 d_PW_split_183 hw_.2.2 rfl ?_
        refine ab_getf (fs := [vR by_, vR co, vR re, vR ho, vz n]) f_PW_164 d_PW_split_186 hf_subject.2.2 rfl ?_
        refine ab_callV (d' := d - 1) (as := [vz n]) (st := []) (r := _) (z_RW_add (o := o49) (r := f_pieces) (b := it253) (lr := 73) (lb := 74) (n := mr255) (lim := 4004) (sz := sz254) (f := F256) (x := n) hf_pieces hit253 (by omega) (by have h18 : ab_n0 = 18 := rfl; omega) (by omega) (by omega) (by omega)) (fun oc G2 h => by rcases h with ⟨h, _⟩ | ⟨_, _, _, _, h, _⟩ <;> exact ⟨_, h⟩) (by omega) m_RW_add ml_PW_197 im_RW_add se_RW_add c_RW hf_pieces.2.2 (Nat.le_of_ble_eq_true rfl) d_PW_split_189 rfl ?_
        intro v G74 hq
        rcases hq with ⟨hv, hGe, hq75⟩ | ⟨o76, b277, n278, f279, hv, hfk, hNf_pieces, hNb277, hq80, hq81, hq82, hq83, hq84, hq85⟩
        · cases hv
          rw [hGe]
          change ab_W _ _ _ G48 192 [some (vR w_), none, some (vR b7), none, some (vz ct252), none, none] [vz 0] _
          exfalso; omega
        · cases hv
          have hw_ := hfk.get hw_ (by decide)
          have hf_spans := hfk.get hf_spans (by decide)
          have h17 := hfk.get h17 (by decide)
          have hf_programs := hfk.get hf_programs (by decide)
          have hb7 := hfk.get hb7 (by simp only [List.mem_cons, List.not_mem_nil, or_false]; omega)
          have hki_g := hfk.get hki_g (by simp only [List.mem_cons, List.not_mem_nil, or_false]; omega)
          have hne_g := hfk.get hne_g (by simp only [List.mem_cons, List.not_mem_nil, or_false]; omega)
          have hot_g := hfk.get hot_g (by simp only [List.mem_cons, List.not_mem_nil, or_false]; omega)
          have hra_g := hfk.get hra_g (by simp only [List.mem_cons, List.not_mem_nil, or_false]; omega)
          have hna_g := hfk.get hna_g (by simp only [List.mem_cons, List.not_mem_nil, or_false]; omega)
          have hnl_g := hfk.get hnl_g (by simp only [List.mem_cons, List.not_mem_nil, or_false]; omega)
          have hf_subject := hfk.get hf_subject (by decide)
          have hby_ := hfk.get hby_ (by decide)
          have hco := hfk.get hco (by decide)
          have hre := hfk.get hre (by decide)
          have hho := hfk.get hho (by decide)
          have pthI_f_threads := thI.fr hfk pthI_f_threads (by decide) (by decide) (by decide) (by decide) (by decide) (by decide) (by decide) (by decide)
          have pomI_f_oneMind := omI.fr hfk pomI_f_oneMind (by decide) (by decide) (by decide) (by decide) (by decide) (by decide) (by decide) (by decide)
          have pstI_f_states := stI.fr hfk pstI_f_states (by decide) (by decide) (by decide) (by decide) (by decide) (by decide) (by decide) (by decide) (by decide)
          have ppgX_0 := pgX.fr hfk ppgX_0 (fun xx hx => Or.inl ((show ∀ y ∈ ([73, 74] : List Nat), y < 100 by decide) xx hx))
          have pmkI_f_marks := mkI.fr hfk pmkI_f_marks (by decide) (by decide) (by decide) (by decide)
          have hfr := hfr.tr hfk (by decide)
          have hq86 := hfk.1
          have hf_pieces := hNf_pieces
          have hb277 := hNb277
          change ab_W _ _ _ G74 192 [some (vR w_), none, some (vR b7), none, some (vz ct252), none, none] [vz 1] _
          refine ab_pop d_PW_split_192 rfl ?_
          refine ab_aload_n d_PW_split_193 rfl ?_
          refine ab_aload_n d_PW_split_194 rfl ?_
          refine ab_getf (fs := [vR ki_g, vR ne_g, vR ot_g, vz cnt_g, vz fi_g, vz la_g, vR ra_g, vz ru_g, vz gr_g, vz wi_g, vz sz_, vz fl_g, vz ve_g, vz mi_, vR na_g, vR nl_g]) f_PW_152 d_PW_split_195 hb7.2.2 rfl ?_
          refine ab_iload d_PW_split_198 rfl ?_
          have psuI_f_subject : suI o76 G74 f_subject n m f := ⟨by_, co, re, ho, C, Rs, H, mc, hf_subject, hby_, hco, hre, hho, (by omega), hsu⟩
          refine ab_callV (d' := d - 1) (as := [vz sz_, vz ct252]) (st := []) (r := _) (z_PW_settle (o := o76) (w_ := w_) (f_ready := f_ready) (f_tape := f_tape) (f_reader := f_reader) (f_programs := f_programs) (f_subject := f_subject) (f_spans := f_spans) (f_threads := f_threads) (f_marks := f_marks) (f_oneMind := f_oneMind) (f_states := f_states) (f_latest := f_latest) (f_matches := f_matches) (f_pieces := f_pieces) (f_template := f_template) (f_result := f_result) (f_spare := f_spare) (cmp := cmp) (ovs := ovs) (sb := sb) (cv := cv) (on := on) (nm := nm238) (ns := ns250) (nt := nt) (n := n) (m := m) (f := f) (z1 := sz_) (z2 := ct252) (stt := 0) (stm := sm258) (sto := 0) (sts := 0) hw_ pthI_f_threads pmkI_f_marks pomI_f_oneMind pstI_f_states psuI_f_subject (by omega) (by omega) (cmo_k (by omega) (by omega) (by omega) (by omega)) (by omega)) (fun oc G2 h => by rcases h with ⟨h, _⟩ <;> exact ⟨_, h⟩) (by omega) m_PW_settle ml_PW_175 im_PW_settle se_PW_settle c_PW hw_.2.2 (Nat.le_of_ble_eq_true rfl) d_PW_split_200 rfl ?_
          intro v G87 hq
          rcases hq with ⟨hv, hfk, hlk, hsk, hNw_, pNthI_f_threads, pNmkI_f_marks, pNomI_f_oneMind, pNstI_f_states, pNsuI_f_subject⟩
          cases hv
          have hf_spans := hfk.get hf_spans (by decide)
          have h17 := hfk.get h17 (by decide)
          have hf_programs := hfk.get hf_programs (by decide)
          have hf_pieces := hfk.get hf_pieces (by decide)
          have hb7 := hfk.get hb7 (by simp only [List.mem_cons, List.not_mem_nil, or_false]; omega)
          have hki_g := hfk.get hki_g (by simp only [List.mem_cons, List.not_mem_nil, or_false]; omega)
          have hne_g := hfk.get hne_g (by simp only [List.mem_cons, List.not_mem_nil, or_false]; omega)
          have hot_g := hfk.get hot_g (by simp only [List.mem_cons, List.not_mem_nil, or_false]; omega)
          have hra_g := hfk.get hra_g (by simp only [List.mem_cons, List.not_mem_nil, or_false]; omega)
          have hna_g := hfk.get hna_g (by simp only [List.mem_cons, List.not_mem_nil, or_false]; omega)
          have hnl_g := hfk.get hnl_g (by simp only [List.mem_cons, List.not_mem_nil, or_false]; omega)
          have hb277 := hfk.get hb277 (by decide)
          have ppgX_0 := pgX.fr hfk ppgX_0 (fun xx hx => Or.inl ((show ∀ y ∈ ([18, 32, 44, 50, 60] : List Nat), y < 100 by decide) xx hx))
          have pthI_f_threads := pNthI_f_threads
          have pmkI_f_marks := pNmkI_f_marks
          have pomI_f_oneMind := pNomI_f_oneMind
          have pstI_f_states := pNstI_f_states
          have psuI_f_subject := pNsuI_f_subject
          have hfr := hfr.tr hfk (by decide)
          have hq88 := hlk
          have hq89 := hsk
          have hw_ := hNw_
          change ab_W _ _ _ G87 203 [some (vR w_), none, some (vR b7), none, some (vz ct252), none, none] [] _
          refine ab_aload_n d_PW_split_203 rfl ?_
          refine ab_getf (fs := [vR f_ready, vR f_tape, vR f_reader, vR f_programs, vR f_subject, vR f_spans, vR f_threads, vR f_marks, vR f_oneMind, vR f_states, vR f_latest, vR f_matches, vR f_pieces, vR f_template, vR f_result, vR f_spare, vz cmp, vz ovs]) f_PW_79 d_PW_split_204 hw_.2.2 rfl ?_
          refine ab_getf (fs := [vz 4004, vR b277, vz (sz254 + 1)]) f_PW_101 d_PW_split_207 hf_pieces.2.2 rfl ?_
          refine zz_iconst d_PW_split_210 ?_
          refine zz_idiv d_PW_split_211 (by omega) ?_
          have hmq_ : onq mi_ on := hmi_g
          have ppgB_b7 : pgB o76 G87 b7 (100 + 10 * k_) (NR k_) cv cmp on mi_ sz_ := ⟨ki_g, ne_g, ot_g, cnt_g, fi_g, la_g, ra_g, ru_g, gr_g, wi_g, fl_g, ve_g, na_g, nl_g, K_g, N_g, O_g, RR_g, NA_g, NL_g, hb7, hki_g, hne_g, hot_g, hra_g, hna_g, hnl_g, (by omega), hpu_g, hp_g, hr_g, hch_g, (by omega), (by omega), (by omega), (by omega), (by omega), hpo_g, hmq_, (by omega), (by omega), jnl_g, hiv_g, hmn_g, jna_g, hla_g, hpv_g, (by omega), hkk_g, hoc_g, (by omega)⟩
          have ppgI_0 := ppgX_0.cls hq8 ppgB_b7
          refine zz_iret rfl d_PW_split_212 ?_
          rw [hQ]; exact (Or.inr ⟨_, _, _, _, _, _, _, _, _, rfl, hfr, hw_, hf_spans, hf_pieces, hb277, pthI_f_threads, pmkI_f_marks, pomI_f_oneMind, pstI_f_states, psuI_f_subject, ppgI_0, (by exact hq63), (by omega), (by omega), (by omega), (by exact spP_of hk_ hq8 (by omega) hmv_ hpm_ hsu.1 hq44 (by omega) (by omega) hiv_g.2.2.1 (spH_of hq60 hq84 hq85) (by omega))⟩)
