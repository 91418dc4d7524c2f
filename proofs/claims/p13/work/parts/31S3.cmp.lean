set_option maxRecDepth 100000 in
set_option maxHeartbeats 4000000 in
theorem z_PW_compile {X : ab_X} {d : Nat} {o : Nat → Nat} {G : ab_G} {w_ : Nat} {f_ready : Nat} {f_tape : Nat} {f_reader : Nat} {f_programs : Nat} {f_subject : Nat} {f_spans : Nat} {f_threads : Nat} {f_marks : Nat} {f_oneMind : Nat} {f_states : Nat} {f_latest : Nat} {f_matches : Nat} {f_pieces : Nat} {f_template : Nat} {f_result : Nat} {f_spare : Nat} {cmp : Int} {ovs : Int} {PG : Nat → Option Nat} {NR : Nat → Nat} {cv : Int → Int} {on : Nat} {it_t : Nat} {sz_t : Int} {mr_t : Nat} {F_t : Int → Int} {sl : Int} {fl0 : Int} {k_ : Nat} {nb : Nat} (hw_ : cc o G w_ 18 (ab_ob 0 [vR f_ready, vR f_tape, vR f_reader, vR f_programs, vR f_subject, vR f_spans, vR f_threads, vR f_marks, vR f_oneMind, vR f_states, vR f_latest, vR f_matches, vR f_pieces, vR f_template, vR f_result, vR f_spare, vz cmp, vz ovs])) (hf_programs : cc o G f_programs 81 (ab_rr 6 PG)) (h15 : cc o G 15 15 (za 18 zAR)) (h16 : cc o G 16 16 (za 20 zAF)) (hf_tape : cc o G f_tape 22 (ab_ob 7 [vz 2000, vR it_t, vz sz_t])) (hit_t : cc o G it_t 23 (za mr_t F_t)) (prdI_f_reader : rdI o G f_reader nb) (ppgI_0 : pgI o G 0 PG NR cv cmp on) (pstI_f_states : stI o G f_states cv cmp) (ptbI_0 : tbI o G 0) (n18 : ab_n0 = 18) (hkq : kq6 sl k_) (cr : -2147483648 ≤ sl ∧ sl ≤ 2147483647 ∧ -2147483648 ≤ fl0 ∧ fl0 ≤ 2147483647) (crw_t : 0 ≤ sz_t ∧ sz_t ≤ ↑mr_t ∧ ↑mr_t ≤ (2000 : Int) ∧ 32 ≤ mr_t) (hbt : bytes F_t sz_t) (hpn : pgN PG NR) (ccm : 0 ≤ cmp ∧ cmp ≤ 10000) (rc : 64 * G.length + 4000000 ≤ 64 * (ab_n0 + room_1.cells) + nb) (rs : ab_slots G + 631000 ≤ room_1.slots + 2 * nb) (rs2 : (↑(ab_slots G) : Int) + 410800 + 100 * sz_t ≤ ↑room_1.slots + 2 * ↑nb + ↑(prS (NR k_))) (hd : 212 ≤ d) : ab_F X d y_PW_compile (.code y_PW_compile b_PW_compile 4 (some (.int))) [vR w_, vz sl, vz fl0] G (fun oc G2 => (∃ o2 : Nat → Nat, ∃ b : Nat, ∃ tz2 : Int, ∃ nb2 : Nat, oc = .threw b ∧ fx o o2 [18, 22, 24, 25, 81, 86, 87, 88, 89, 90, 92, 94, (100 + 10 * k_), ((100 + 10 * k_) + 1), ((100 + 10 * k_) + 2), ((100 + 10 * k_) + 3), ((100 + 10 * k_) + 4), ((100 + 10 * k_) + 5), ((100 + 10 * k_) + 6)] G G2 ∧ cc o2 G2 w_ 18 (ab_ob 0 [vR f_ready, vR f_tape, vR f_reader, vR f_programs, vR f_subject, vR f_spans, vR f_threads, vR f_marks, vR f_oneMind, vR f_states, vR f_latest, vR f_matches, vR f_pieces, vR f_template, vR f_result, vR f_spare, vz cmp, vz ovs]) ∧ cc o2 G2 f_programs 81 (ab_rr 6 PG) ∧ cc o2 G2 f_tape 22 (ab_ob 7 [vz 2000, vR it_t, vz tz2]) ∧ rdI o2 G2 f_reader nb2 ∧ pgI o2 G2 0 PG NR cv cmp on ∧ stI o2 G2 f_states cv cmp ∧ tbI o2 G2 0 ∧ (G2[b]? = some (.inr (13, []))) ∧ (64 * (↑G2.length : Int) + ↑nb + 2 * ↑(sumN prC NR) ≤ 64 * ↑G.length + ↑nb2 + 2 * ↑(sumN prC NR) + 400 * (sz_t - tz2) + 264) ∧ ((↑(ab_slots G2) : Int) + 2 * ↑nb + ↑(sumN prS NR) ≤ ↑(ab_slots G) + 2 * ↑nb2 + ↑(sumN prS NR) + 100 * (sz_t - tz2) + 66) ∧ (0 ≤ tz2 ∧ tz2 ≤ sz_t) ∧ (nb2 ≤ 104000)) ∨ (∃ o2 : Nat → Nat, ∃ r : Int, ∃ tz2 : Int, ∃ nb2 : Nat, ∃ PG2 : Nat → Option Nat, ∃ NR2 : Nat → Nat, ∃ cv2 : Int → Int, oc = .returned (some (vz r)) ∧ fx o o2 [18, 22, 24, 25, 81, 86, 87, 88, 89, 90, 92, 94, (100 + 10 * k_), ((100 + 10 * k_) + 1), ((100 + 10 * k_) + 2), ((100 + 10 * k_) + 3), ((100 + 10 * k_) + 4), ((100 + 10 * k_) + 5), ((100 + 10 * k_) + 6)] G G2 ∧ cc o2 G2 w_ 18 (ab_ob 0 [vR f_ready, vR f_tape, vR f_reader, vR f_programs, vR f_subject, vR f_spans, vR f_threads, vR f_marks, vR f_oneMind, vR f_states, vR f_latest, vR f_matches, vR f_pieces, vR f_template, vR f_result, vR f_spare, vz (cmp + 1), vz ovs]) ∧ cc o2 G2 f_programs 81 (ab_rr 6 PG2) ∧ cc o2 G2 f_tape 22 (ab_ob 7 [vz 2000, vR it_t, vz tz2]) ∧ rdI o2 G2 f_reader nb2 ∧ pgI o2 G2 0 PG2 NR2 cv2 (cmp + 1) on ∧ stI o2 G2 f_states cv2 (cmp + 1) ∧ tbI o2 G2 0 ∧ (pgN PG2 NR2) ∧ (64 * (↑G2.length : Int) + ↑nb + 2 * ↑(sumN prC NR) ≤ 64 * ↑G.length + ↑nb2 + 2 * ↑(sumN prC NR2) + 400 * (sz_t - tz2) + 264) ∧ ((↑(ab_slots G2) : Int) + 2 * ↑nb + ↑(sumN prS NR) ≤ ↑(ab_slots G) + 2 * ↑nb2 + ↑(sumN prS NR2) + 100 * (sz_t - tz2) + 66) ∧ (0 ≤ tz2 ∧ tz2 ≤ sz_t) ∧ (nb2 ≤ 104000))) := by
  refine ab_F_of (by decide +kernel) (Nat.le_of_ble_eq_true rfl) ?_
  obtain ⟨Q, hQ⟩ : ∃ z : Outcome → ab_G → Prop, z = (fun oc G2 => (∃ o2 : Nat → Nat, ∃ b : Nat, ∃ tz2 : Int, ∃ nb2 : Nat, oc = .threw b ∧ fx o o2 [18, 22, 24, 25, 81, 86, 87, 88, 89, 90, 92, 94, (100 + 10 * k_), ((100 + 10 * k_) + 1), ((100 + 10 * k_) + 2), ((100 + 10 * k_) + 3), ((100 + 10 * k_) + 4), ((100 + 10 * k_) + 5), ((100 + 10 * k_) + 6)] G G2 ∧ cc o2 G2 w_ 18 (ab_ob 0 [vR f_ready, vR f_tape, vR f_reader, vR f_programs, vR f_subject, vR f_spans, vR f_threads, vR f_marks, vR f_oneMind, vR f_states, vR f_latest, vR f_matches, vR f_pieces, vR f_template, vR f_result, vR f_spare, vz cmp, vz ovs]) ∧ cc o2 G2 f_programs 81 (ab_rr 6 PG) ∧ cc o2 G2 f_tape 22 (ab_ob 7 [vz 2000, vR it_t, vz tz2]) ∧ rdI o2 G2 f_reader nb2 ∧ pgI o2 G2 0 PG NR cv cmp on ∧ stI o2 G2 f_states cv cmp ∧ tbI o2 G2 0 ∧ (G2[b]? = some (.inr (13, []))) ∧ (64 * (↑G2.length : Int) + ↑nb + 2 * ↑(sumN prC NR) ≤ 64 * ↑G.length + ↑nb2 + 2 * ↑(sumN prC NR) + 400 * (sz_t - tz2) + 264) ∧ ((↑(ab_slots G2) : Int) + 2 * ↑nb + ↑(sumN prS NR) ≤ ↑(ab_slots G) + 2 * ↑nb2 + ↑(sumN prS NR) + 100 * (sz_t - tz2) + 66) ∧ (0 ≤ tz2 ∧ tz2 ≤ sz_t) ∧ (nb2 ≤ 104000)) ∨ (∃ o2 : Nat → Nat, ∃ r : Int, ∃ tz2 : Int, ∃ nb2 : Nat, ∃ PG2 : Nat → Option Nat, ∃ NR2 : Nat → Nat, ∃ cv2 : Int → Int, oc = .returned (some (vz r)) ∧ fx o o2 [18, 22, 24, 25, 81, 86, 87, 88, 89, 90, 92, 94, (100 + 10 * k_), ((100 + 10 * k_) + 1), ((100 + 10 * k_) + 2), ((100 + 10 * k_) + 3), ((100 + 10 * k_) + 4), ((100 + 10 * k_) + 5), ((100 + 10 * k_) + 6)] G G2 ∧ cc o2 G2 w_ 18 (ab_ob 0 [vR f_ready, vR f_tape, vR f_reader, vR f_programs, vR f_subject, vR f_spans, vR f_threads, vR f_marks, vR f_oneMind, vR f_states, vR f_latest, vR f_matches, vR f_pieces, vR f_template, vR f_result, vR f_spare, vz (cmp + 1), vz ovs]) ∧ cc o2 G2 f_programs 81 (ab_rr 6 PG2) ∧ cc o2 G2 f_tape 22 (ab_ob 7 [vz 2000, vR it_t, vz tz2]) ∧ rdI o2 G2 f_reader nb2 ∧ pgI o2 G2 0 PG2 NR2 cv2 (cmp + 1) on ∧ stI o2 G2 f_states cv2 (cmp + 1) ∧ tbI o2 G2 0 ∧ (pgN PG2 NR2) ∧ (64 * (↑G2.length : Int) + ↑nb + 2 * ↑(sumN prC NR) ≤ 64 * ↑G.length + ↑nb2 + 2 * ↑(sumN prC NR2) + 400 * (sz_t - tz2) + 264) ∧ ((↑(ab_slots G2) : Int) + 2 * ↑nb + ↑(sumN prS NR) ≤ ↑(ab_slots G) + 2 * ↑nb2 + ↑(sumN prS NR2) + 100 * (sz_t - tz2) + 66) ∧ (0 ≤ tz2 ∧ tz2 ≤ sz_t) ∧ (nb2 ≤ 104000))) := ⟨_, rfl⟩
  rw [← hQ]
  change ab_W X (ab_pl y_PW_compile b_PW_compile 4 (some (.int))) d G 0 [some (vR w_), some (vz sl), some (vz fl0), none] [] Q
  have hfr : fx o o [18, 22, 24, 25, 81, 86, 87, 88, 89, 90, 92, 94, (100 + 10 * k_), ((100 + 10 * k_) + 1), ((100 + 10 * k_) + 2), ((100 + 10 * k_) + 3), ((100 + 10 * k_) + 4), ((100 + 10 * k_) + 5), ((100 + 10 * k_) + 6)] G G := fx.rf
  have hnb0_ := prdI_f_reader.b
  refine ab_iload_n d_PW_compile_0 rfl ?_
  refine zz_if_lt (tgt := 20) d_PW_compile_1 (by decide) (by omega) (fun c1 => ?_) (fun c1 => ?_)
  · refine ab_throw (tx := "no such slot or flags") (by decide) (fun c h => h) cl_PW_109 inst_IA ini_IA tw_PW_113 d_PW_compile_20 d_PW_compile_23 d_PW_compile_24 d_PW_compile_26 d_PW_compile_29 (by omega) (by omega) (by omega) ?_
    obtain ⟨G2, eG2⟩ : ∃ z : ab_G, z = G ++ [.inr (13, [])] := ⟨_, rfl⟩
    obtain ⟨o3, eo3⟩ : ∃ z : Nat → Nat, z = ol o G.length 99 := ⟨_, rfl⟩
    obtain ⟨a4, ea4⟩ : ∃ z : Nat, z = G.length := ⟨_, rfl⟩
    have hq5 := hit_t.n0 (by first | decide | omega)
    have ne_a4_w_ : nq a4 w_ := by have hlt := hw_.lt; unfold nq; omega
    have ne_a4_f_programs : nq a4 f_programs := by have hlt := hf_programs.lt; unfold nq; omega
    have ne_a4_15 : nq a4 15 := by have hlt := h15.lt; unfold nq; omega
    have ne_a4_16 : nq a4 16 := by have hlt := h16.lt; unfold nq; omega
    have ne_a4_f_tape : nq a4 f_tape := by have hlt := hf_tape.lt; unfold nq; omega
    have ne_a4_it_t : nq a4 it_t := by have hlt := hit_t.lt; unfold nq; omega
    have hw_ := hw_.akeep (k := 99) eG2
    rw [← eo3] at hw_
    have hf_programs := hf_programs.akeep (k := 99) eG2
    rw [← eo3] at hf_programs
    have h15 := h15.akeep (k := 99) eG2
    rw [← eo3] at h15
    have h16 := h16.akeep (k := 99) eG2
    rw [← eo3] at h16
    have hf_tape := hf_tape.akeep (k := 99) eG2
    rw [← eo3] at hf_tape
    have hit_t := hit_t.akeep (k := 99) eG2
    rw [← eo3] at hit_t
    have hst := (fx.rf (o := o) (S := []) (G := G)).ap (k := 99) eG2
    rw [← eo3] at hst
    have prdI_f_reader := rdI.fr hst prdI_f_reader (by decide) (by decide) (by decide) (by decide) (by decide) (by decide)
    have ppgI_0 := pgI.fr hst ppgI_0  (by simp)
    have pstI_f_states := stI.fr hst pstI_f_states (by decide) (by decide) (by decide) (by decide) (by decide) (by decide) (by decide) (by decide) (by decide)
    have ptbI_0 := tbI.fr hst ptbI_0  (by simp)
    have ha4 := cc.anew (o := o) 99 eG2 hq5
    rw [← eo3, ← ea4] at ha4
    have hfr := hfr.ap (k := 99) eG2
    rw [← eo3] at hfr
    have hq6 := z_alen eG2
    have hq7 : ab_slots G2 = ab_slots G + 6 := z_asl eG2 hq5
    rw [← ea4, ← eG2]
    rw [hQ]; exact (Or.inl ⟨_, _, _, _, rfl, hfr, hw_, hf_programs, hf_tape, prdI_f_reader, ppgI_0, pstI_f_states, ptbI_0, (by exact ha4.2.2), (by omega), (by omega), (by omega), (by exact prdI_f_reader.b)⟩)
  · refine ab_iload_n d_PW_compile_4 rfl ?_
    refine zz_bipush d_PW_compile_5 (by decide) ?_
    refine zz_icmp_ge (tgt := 20) d_PW_compile_7 (by decide) (by omega) (by decide) (fun c8 => ?_) (fun c8 => ?_)
    · refine ab_throw (tx := "no such slot or flags") (by decide) (fun c h => h) cl_PW_109 inst_IA ini_IA tw_PW_113 d_PW_compile_20 d_PW_compile_23 d_PW_compile_24 d_PW_compile_26 d_PW_compile_29 (by omega) (by omega) (by omega) ?_
      obtain ⟨G9, eG9⟩ : ∃ z : ab_G, z = G ++ [.inr (13, [])] := ⟨_, rfl⟩
      obtain ⟨o10, eo10⟩ : ∃ z : Nat → Nat, z = ol o G.length 99 := ⟨_, rfl⟩
      obtain ⟨a11, ea11⟩ : ∃ z : Nat, z = G.length := ⟨_, rfl⟩
      have hq12 := hit_t.n0 (by first | decide | omega)
      have ne_a11_w_ : nq a11 w_ := by have hlt := hw_.lt; unfold nq; omega
      have ne_a11_f_programs : nq a11 f_programs := by have hlt := hf_programs.lt; unfold nq; omega
      have ne_a11_15 : nq a11 15 := by have hlt := h15.lt; unfold nq; omega
      have ne_a11_16 : nq a11 16 := by have hlt := h16.lt; unfold nq; omega
      have ne_a11_f_tape : nq a11 f_tape := by have hlt := hf_tape.lt; unfold nq; omega
      have ne_a11_it_t : nq a11 it_t := by have hlt := hit_t.lt; unfold nq; omega
      have hw_ := hw_.akeep (k := 99) eG9
      rw [← eo10] at hw_
      have hf_programs := hf_programs.akeep (k := 99) eG9
      rw [← eo10] at hf_programs
      have h15 := h15.akeep (k := 99) eG9
      rw [← eo10] at h15
      have h16 := h16.akeep (k := 99) eG9
      rw [← eo10] at h16
      have hf_tape := hf_tape.akeep (k := 99) eG9
      rw [← eo10] at hf_tape
      have hit_t := hit_t.akeep (k := 99) eG9
      rw [← eo10] at hit_t
      have hst := (fx.rf (o := o) (S := []) (G := G)).ap (k := 99) eG9
      rw [← eo10] at hst
      have prdI_f_reader := rdI.fr hst prdI_f_reader (by decide) (by decide) (by decide) (by decide) (by decide) (by decide)
      have ppgI_0 := pgI.fr hst ppgI_0  (by simp)
      have pstI_f_states := stI.fr hst pstI_f_states (by decide) (by decide) (by decide) (by decide) (by decide) (by decide) (by decide) (by decide) (by decide)
      have ptbI_0 := tbI.fr hst ptbI_0  (by simp)
      have ha11 := cc.anew (o := o) 99 eG9 hq12
      rw [← eo10, ← ea11] at ha11
      have hfr := hfr.ap (k := 99) eG9
      rw [← eo10] at hfr
      have hq13 := z_alen eG9
      have hq14 : ab_slots G9 = ab_slots G + 6 := z_asl eG9 hq12
      rw [← ea11, ← eG9]
      rw [hQ]; exact (Or.inl ⟨_, _, _, _, rfl, hfr, hw_, hf_programs, hf_tape, prdI_f_reader, ppgI_0, pstI_f_states, ptbI_0, (by exact ha11.2.2), (by omega), (by omega), (by omega), (by exact prdI_f_reader.b)⟩)
    · refine ab_iload_n d_PW_compile_10 rfl ?_
      refine zz_if_lt (tgt := 20) d_PW_compile_11 (by decide) (by omega) (fun c15 => ?_) (fun c15 => ?_)
      · refine ab_throw (tx := "no such slot or flags") (by decide) (fun c h => h) cl_PW_109 inst_IA ini_IA tw_PW_113 d_PW_compile_20 d_PW_compile_23 d_PW_compile_24 d_PW_compile_26 d_PW_compile_29 (by omega) (by omega) (by omega) ?_
        obtain ⟨G16, eG16⟩ : ∃ z : ab_G, z = G ++ [.inr (13, [])] := ⟨_, rfl⟩
        obtain ⟨o17, eo17⟩ : ∃ z : Nat → Nat, z = ol o G.length 99 := ⟨_, rfl⟩
        obtain ⟨a18, ea18⟩ : ∃ z : Nat, z = G.length := ⟨_, rfl⟩
        have hq19 := hit_t.n0 (by first | decide | omega)
        have ne_a18_w_ : nq a18 w_ := by have hlt := hw_.lt; unfold nq; omega
        have ne_a18_f_programs : nq a18 f_programs := by have hlt := hf_programs.lt; unfold nq; omega
        have ne_a18_15 : nq a18 15 := by have hlt := h15.lt; unfold nq; omega
        have ne_a18_16 : nq a18 16 := by have hlt := h16.lt; unfold nq; omega
        have ne_a18_f_tape : nq a18 f_tape := by have hlt := hf_tape.lt; unfold nq; omega
        have ne_a18_it_t : nq a18 it_t := by have hlt := hit_t.lt; unfold nq; omega
        have hw_ := hw_.akeep (k := 99) eG16
        rw [← eo17] at hw_
        have hf_programs := hf_programs.akeep (k := 99) eG16
        rw [← eo17] at hf_programs
        have h15 := h15.akeep (k := 99) eG16
        rw [← eo17] at h15
        have h16 := h16.akeep (k := 99) eG16
        rw [← eo17] at h16
        have hf_tape := hf_tape.akeep (k := 99) eG16
        rw [← eo17] at hf_tape
        have hit_t := hit_t.akeep (k := 99) eG16
        rw [← eo17] at hit_t
        have hst := (fx.rf (o := o) (S := []) (G := G)).ap (k := 99) eG16
        rw [← eo17] at hst
        have prdI_f_reader := rdI.fr hst prdI_f_reader (by decide) (by decide) (by decide) (by decide) (by decide) (by decide)
        have ppgI_0 := pgI.fr hst ppgI_0  (by simp)
        have pstI_f_states := stI.fr hst pstI_f_states (by decide) (by decide) (by decide) (by decide) (by decide) (by decide) (by decide) (by decide) (by decide)
        have ptbI_0 := tbI.fr hst ptbI_0  (by simp)
        have ha18 := cc.anew (o := o) 99 eG16 hq19
        rw [← eo17, ← ea18] at ha18
        have hfr := hfr.ap (k := 99) eG16
        rw [← eo17] at hfr
        have hq20 := z_alen eG16
        have hq21 : ab_slots G16 = ab_slots G + 6 := z_asl eG16 hq19
        rw [← ea18, ← eG16]
        rw [hQ]; exact (Or.inl ⟨_, _, _, _, rfl, hfr, hw_, hf_programs, hf_tape, prdI_f_reader, ppgI_0, pstI_f_states, ptbI_0, (by exact ha18.2.2), (by omega), (by omega), (by omega), (by exact prdI_f_reader.b)⟩)
      · refine ab_iload_n d_PW_compile_14 rfl ?_
        refine zz_bipush d_PW_compile_15 (by decide) ?_
        refine zz_icmp_le (tgt := 30) d_PW_compile_17 (by decide) (by omega) (by decide) (fun c22 => ?_) (fun c22 => ?_)
        · have hk_ := hkq.2 (by omega) (by omega)
          have hk6_ := hkq.1
          obtain ⟨x_r, se_r, by0_r, n9_r, pl_r, fa_r, fp_r, kd_r, kn_r, inn_r, dp_r, flg_r, grp_r, rna_r, rnl_r, lst_r, mst_r, bh_r, RNA_r, RNL_r, ct_r, P_r, hf_reader, hx_r, hrna_r, hrnl_r, pcsI_se_r, ckd_r, hnb_r⟩ := prdI_f_reader
          refine ab_aload_n d_PW_compile_30 rfl ?_
          refine ab_getf (fs := [vR f_ready, vR f_tape, vR f_reader, vR f_programs, vR f_subject, vR f_spans, vR f_threads, vR f_marks, vR f_oneMind, vR f_states, vR f_latest, vR f_matches, vR f_pieces, vR f_template, vR f_result, vR f_spare, vz cmp, vz ovs]) f_PW_25 d_PW_compile_31 hw_.2.2 rfl ?_
          refine ab_aload_n d_PW_compile_34 rfl ?_
          refine ab_getf (fs := [vR f_ready, vR f_tape, vR f_reader, vR f_programs, vR f_subject, vR f_spans, vR f_threads, vR f_marks, vR f_oneMind, vR f_states, vR f_latest, vR f_matches, vR f_pieces, vR f_template, vR f_result, vR f_spare, vz cmp, vz ovs]) f_PW_18 d_PW_compile_35 hw_.2.2 rfl ?_
          refine ab_iload_n d_PW_compile_38 rfl ?_
          refine ab_callV (d' := d - 1) (as := [vR f_tape, vz fl0]) (st := []) (r := _) (z_RD_read (o := o) (d_ := f_reader) (inn := inn_r) (dp := dp_r) (flg := flg_r) (grp := grp_r) (na := rna_r) (nl := rnl_r) (lst := lst_r) (mst := mst_r) (bh := bh_r) (NA := RNA_r) (NL := RNL_r) (x := x_r) (se := se_r) (by0 := by0_r) (n9 := n9_r) (pl := pl_r) (fa := fa_r) (fp := fp_r) (kd := kd_r) (kn := kn_r) (nb := nb) (cnt := ct_r) (P := P_r) (t := f_tape) (lim := 2000) (by_ := it_t) (n := sz_t) (m := mr_t) (f := F_t) (fl0 := fl0) hf_reader hx_r hf_tape hit_t hrna_r hrnl_r h15 h16 pcsI_se_r ptbI_0 (by omega) (by omega) hbt (by omega) (by omega) (by omega) (by omega) (by omega) (by omega)) (fun oc G2 h => by rcases h with ⟨_, _, _, _, _, _, _, _, _, _, _, _, _, _, _, _, _, _, h, _⟩ | ⟨_, _, _, _, _, _, _, _, _, _, _, _, _, _, _, _, _, _, _, _, _, _, _, _, h, _⟩ <;> exact ⟨_, h⟩) (by omega) m_RD_read ml_PW_116 im_RD_read se_RD_read c_RD hf_reader.2.2 (Nat.le_of_ble_eq_true rfl) d_PW_compile_39 rfl ?_
          intro v G23 hq
          rcases hq with ⟨o24, inn225, dp226, flg227, grp228, NA229, NL230, lst231, mst232, bh233, p234, fa235, fp236, kd237, kn238, nb239, c240, P241, hv, hfk, hNf_reader, hNx_r, hNrna_r, hNrnl_r, pNcsI_se_r, hq42, hq43, hq44, hq45, hq46, hq47⟩ | ⟨o48, p49, inn250, dp251, flg252, grp253, NA254, NL255, lst256, mst257, bh258, p259, fa260, fp261, kd262, kn263, nb264, c265, P266, ps267, wt268, bs269, ph270, sz271, hv, hfk, hNf_reader, hNx_r, hNrna_r, hNrnl_r, pNcsI_se_r, pNpaI_0, hq72, hq73, hq74, hq75, hq76, hq77, hq78, hq79, hq80, hq81, hq82⟩
          · cases hv
            have hw_ := hfk.get hw_ (by decide)
            have hf_programs := hfk.get hf_programs (by decide)
            have h15 := hfk.get h15 (by decide)
            have h16 := hfk.get h16 (by decide)
            have hf_tape := hfk.get hf_tape (by decide)
            have hit_t := hfk.get hit_t (by decide)
            have ppgI_0 := pgI.fr hfk ppgI_0  (by decide)
            have pstI_f_states := stI.fr hfk pstI_f_states (by decide) (by decide) (by decide) (by decide) (by decide) (by decide) (by decide) (by decide) (by decide)
            have ptbI_0 := tbI.fr hfk ptbI_0  (by decide)
            have pcsI_se_r := pNcsI_se_r
            have hfr := hfr.tr hfk (by simp)
            have hq83 := hfk.1
            have hf_reader := hNf_reader
            have hx_r := hNx_r
            have hrna_r := hNrna_r
            have hrnl_r := hNrnl_r
            change ab_W _ _ _ G23 42 [some (vR w_), some (vz sl), some (vz fl0), none] [vN] _
            refine ab_astore_nN d_PW_compile_42 (Nat.le_of_ble_eq_true rfl) (Nat.le_of_ble_eq_true rfl) rfl ?_
            change ab_W _ _ _ G23 43 [some (vR w_), some (vz sl), some (vz fl0), some (vN)] [] _
            refine ab_aload_n d_PW_compile_43 rfl ?_
            refine ab_getf (fs := [vR f_ready, vR f_tape, vR f_reader, vR f_programs, vR f_subject, vR f_spans, vR f_threads, vR f_marks, vR f_oneMind, vR f_states, vR f_latest, vR f_matches, vR f_pieces, vR f_template, vR f_result, vR f_spare, vz cmp, vz ovs]) f_PW_18 d_PW_compile_44 hw_.2.2 rfl ?_
            refine ab_callV (d' := d - 1) (as := []) (st := []) (r := _) (z_RW_clear (o := o24) (r := f_tape) (b := it_t) (lr := 22) (lim := 2000) (sz := sz_t) hf_tape (by have h18 : ab_n0 = 18 := rfl; omega)) (fun oc G2 h => by rcases h with ⟨h, _⟩ <;> exact ⟨_, h⟩) (by omega) m_RW_clear ml_PW_120 im_RW_clear se_RW_clear c_RW hf_tape.2.2 (Nat.le_of_ble_eq_true rfl) d_PW_compile_47 rfl ?_
            intro v G85 hq
            rcases hq with ⟨hv, hfk, hlk, hsk, hNf_tape⟩
            cases hv
            have hw_ := hfk.get hw_ (by decide)
            have hf_programs := hfk.get hf_programs (by decide)
            have h15 := hfk.get h15 (by decide)
            have h16 := hfk.get h16 (by decide)
            have hit_t := hfk.get hit_t (by decide)
            have hf_reader := hfk.get hf_reader (by decide)
            have hx_r := hfk.get hx_r (by decide)
            have hrna_r := hfk.get hrna_r (by decide)
            have hrnl_r := hfk.get hrnl_r (by decide)
            have ppgI_0 := pgI.fr hfk ppgI_0  (by decide)
            have pstI_f_states := stI.fr hfk pstI_f_states (by decide) (by decide) (by decide) (by decide) (by decide) (by decide) (by decide) (by decide) (by decide)
            have ptbI_0 := tbI.fr hfk ptbI_0  (by decide)
            have pcsI_se_r := csI.fr hfk pcsI_se_r (by decide) (by decide)
            have hfr := hfr.tr hfk (by simp)
            have hq86 := hlk
            have hq87 := hsk
            have hf_tape := hNf_tape
            change ab_W _ _ _ G85 50 [some (vR w_), some (vz sl), some (vz fl0), some (vN)] [] _
            refine ab_aload_nN d_PW_compile_50 rfl ?_
            refine ab_ifnonnullN d_PW_compile_51 ?_
            have prdI_f_reader : rdI o24 G85 f_reader nb239 := ⟨x_r, se_r, it_t, sz_t, p234, fa235, fp236, kd237, kn238, inn225, dp226, flg227, grp228, rna_r, rnl_r, lst231, mst232, bh233, NA229, NL230, c240, P241, hf_reader, hx_r, hrna_r, hrnl_r, pcsI_se_r, (by omega), (by omega)⟩
            refine ab_throw (tx := "a fault in the pattern") (by decide) (fun c h => h) cl_PW_109 inst_IA ini_IA tw_PW_113 d_PW_compile_54 d_PW_compile_57 d_PW_compile_58 d_PW_compile_60 d_PW_compile_63 (by omega) (by omega) (by omega) ?_
            obtain ⟨G88, eG88⟩ : ∃ z : ab_G, z = G85 ++ [.inr (13, [])] := ⟨_, rfl⟩
            obtain ⟨o89, eo89⟩ : ∃ z : Nat → Nat, z = ol o24 G85.length 99 := ⟨_, rfl⟩
            obtain ⟨a90, ea90⟩ : ∃ z : Nat, z = G85.length := ⟨_, rfl⟩
            have hq91 := hit_t.n0 (by first | decide | omega)
            have ne_a90_w_ : nq a90 w_ := by have hlt := hw_.lt; unfold nq; omega
            have ne_a90_f_programs : nq a90 f_programs := by have hlt := hf_programs.lt; unfold nq; omega
            have ne_a90_15 : nq a90 15 := by have hlt := h15.lt; unfold nq; omega
            have ne_a90_16 : nq a90 16 := by have hlt := h16.lt; unfold nq; omega
            have ne_a90_f_tape : nq a90 f_tape := by have hlt := hf_tape.lt; unfold nq; omega
            have ne_a90_it_t : nq a90 it_t := by have hlt := hit_t.lt; unfold nq; omega
            have hw_ := hw_.akeep (k := 99) eG88
            rw [← eo89] at hw_
            have hf_programs := hf_programs.akeep (k := 99) eG88
            rw [← eo89] at hf_programs
            have h15 := h15.akeep (k := 99) eG88
            rw [← eo89] at h15
            have h16 := h16.akeep (k := 99) eG88
            rw [← eo89] at h16
            have hf_tape := hf_tape.akeep (k := 99) eG88
            rw [← eo89] at hf_tape
            have hit_t := hit_t.akeep (k := 99) eG88
            rw [← eo89] at hit_t
            have hst := (fx.rf (o := o24) (S := []) (G := G85)).ap (k := 99) eG88
            rw [← eo89] at hst
            have ppgI_0 := pgI.fr hst ppgI_0  (by simp)
            have pstI_f_states := stI.fr hst pstI_f_states (by decide) (by decide) (by decide) (by decide) (by decide) (by decide) (by decide) (by decide) (by decide)
            have ptbI_0 := tbI.fr hst ptbI_0  (by simp)
            have prdI_f_reader := rdI.fr hst prdI_f_reader (by decide) (by decide) (by decide) (by decide) (by decide) (by decide)
            have ha90 := cc.anew (o := o24) 99 eG88 hq91
            rw [← eo89, ← ea90] at ha90
            have hfr := hfr.ap (k := 99) eG88
            rw [← eo89] at hfr
            have hq92 := z_alen eG88
            have hq93 : ab_slots G88 = ab_slots G85 + 6 := z_asl eG88 hq91
            rw [← ea90, ← eG88]
            rw [hQ]; exact (Or.inl ⟨_, _, _, _, rfl, hfr, hw_, hf_programs, hf_tape, prdI_f_reader, ppgI_0, pstI_f_states, ptbI_0, (by exact ha90.2.2), (by omega), (by omega), (by omega), (by exact prdI_f_reader.b)⟩)
          · cases hv
            have hw_ := hfk.get hw_ (by decide)
            have hf_programs := hfk.get hf_programs (by decide)
            have h15 := hfk.get h15 (by decide)
            have h16 := hfk.get h16 (by decide)
            have hf_tape := hfk.get hf_tape (by decide)
            have hit_t := hfk.get hit_t (by decide)
            have ppgI_0 := pgI.fr hfk ppgI_0  (by decide)
            have pstI_f_states := stI.fr hfk pstI_f_states (by decide) (by decide) (by decide) (by decide) (by decide) (by decide) (by decide) (by decide) (by decide)
            have ptbI_0 := tbI.fr hfk ptbI_0  (by decide)
            have pcsI_se_r := pNcsI_se_r
            have ppaI_0 := pNpaI_0
            have hfr := hfr.tr hfk (by simp)
            have hq84 := hfk.1
            have hf_reader := hNf_reader
            have hx_r := hNx_r
            have hrna_r := hNrna_r
            have hrnl_r := hNrnl_r
            change ab_W _ _ _ G23 42 [some (vR w_), some (vz sl), some (vz fl0), none] [vR p49] _
            have hph0 : 0 ≤ ph270 := by have t := ppaI_0.2.2.1; omega
            obtain ⟨k_94, v_94, rg_94, pl_94, fl_94, ou_94, ls_94, bf_94, sz_94, mb_94, oe_94, le_94, mo_94, la_94, rc_94, hp49, hn94, hb94, hg94, ho94, hl94, hf94⟩ := ppaI_0.1 p49 hq79
            have hB94 := hb94
            unfold pnB at hB94
            have hK94 := hn94.1
            have hvz_ : sz_94 = sz271 := vzi_inj (by have t := hq81; unfold pf at t; rw [hp49.2.2] at t; exact Option.some.inj t) (by omega) (by omega)
            refine ab_astore_n d_PW_compile_42 (Nat.le_of_ble_eq_true rfl) (Nat.le_of_ble_eq_true rfl) rfl ?_
            change ab_W _ _ _ G23 43 [some (vR w_), some (vz sl), some (vz fl0), some (vR p49)] [] _
            refine ab_aload_n d_PW_compile_43 rfl ?_
            refine ab_getf (fs := [vR f_ready, vR f_tape, vR f_reader, vR f_programs, vR f_subject, vR f_spans, vR f_threads, vR f_marks, vR f_oneMind, vR f_states, vR f_latest, vR f_matches, vR f_pieces, vR f_template, vR f_result, vR f_spare, vz cmp, vz ovs]) f_PW_18 d_PW_compile_44 hw_.2.2 rfl ?_
            refine ab_callV (d' := d - 1) (as := []) (st := []) (r := _) (z_RW_clear (o := o48) (r := f_tape) (b := it_t) (lr := 22) (lim := 2000) (sz := sz_t) hf_tape (by have h18 : ab_n0 = 18 := rfl; omega)) (fun oc G2 h => by rcases h with ⟨h, _⟩ <;> exact ⟨_, h⟩) (by omega) m_RW_clear ml_PW_120 im_RW_clear se_RW_clear c_RW hf_tape.2.2 (Nat.le_of_ble_eq_true rfl) d_PW_compile_47 rfl ?_
            intro v G95 hq
            rcases hq with ⟨hv, hfk, hlk, hsk, hNf_tape⟩
            cases hv
            have hw_ := hfk.get hw_ (by decide)
            have hf_programs := hfk.get hf_programs (by decide)
            have h15 := hfk.get h15 (by decide)
            have h16 := hfk.get h16 (by decide)
            have hit_t := hfk.get hit_t (by decide)
            have hf_reader := hfk.get hf_reader (by decide)
            have hx_r := hfk.get hx_r (by decide)
            have hrna_r := hfk.get hrna_r (by decide)
            have hrnl_r := hfk.get hrnl_r (by decide)
            have hp49 := hfk.get hp49 (by decide)
            have ppgI_0 := pgI.fr hfk ppgI_0  (by decide)
            have pstI_f_states := stI.fr hfk pstI_f_states (by decide) (by decide) (by decide) (by decide) (by decide) (by decide) (by decide) (by decide) (by decide)
            have ptbI_0 := tbI.fr hfk ptbI_0  (by decide)
            have pcsI_se_r := csI.fr hfk pcsI_se_r (by decide) (by decide)
            have ppaI_0 := paI.fr hfk ppaI_0 (by decide) (by decide) (by decide) (by decide)
            have hfr := hfr.tr hfk (by simp)
            have hq96 := hlk
            have hq97 := hsk
            have hf_tape := hNf_tape
            change ab_W _ _ _ G95 50 [some (vR w_), some (vz sl), some (vz fl0), some (vR p49)] [] _
            refine ab_aload_n d_PW_compile_50 rfl ?_
            refine ab_ifnonnull (tgt := 64) d_PW_compile_51 (by decide) ?_
            refine ab_aload_n d_PW_compile_64 rfl ?_
            refine ab_getf (fs := [vR f_ready, vR f_tape, vR f_reader, vR f_programs, vR f_subject, vR f_spans, vR f_threads, vR f_marks, vR f_oneMind, vR f_states, vR f_latest, vR f_matches, vR f_pieces, vR f_template, vR f_result, vR f_spare, vz cmp, vz ovs]) f_PW_31 d_PW_compile_65 hw_.2.2 rfl ?_
            refine ab_iload_n d_PW_compile_68 rfl ?_
            refine zz_aald d_PW_compile_69 hf_programs (by omega) (fun hr98 => ?_) (fun b99 hr98 => ?_)
            · change ab_W _ _ _ G95 70 [some (vR w_), some (vz sl), some (vz fl0), some (vR p49)] [vN] _
              refine ab_ifnonnullN d_PW_compile_70 ?_
              have hnb_ := pcsI_se_r.ok
              have hnb2_ : nb264 ≤ 104000 := by omega
              clear hnb_
              rw [← hk_] at hr98
              have ppgX_0 := ppgI_0.none hr98
              have hnr0 := hpn k_ (by omega) hr98
              have hprS0 : prS (NR k_) = 0 := if_pos hnr0
              have hprC0 : prC (NR k_) = 0 := if_pos hnr0
              refine ab_aload_n d_PW_compile_73 rfl ?_
              refine ab_getf (fs := [vR f_ready, vR f_tape, vR f_reader, vR f_programs, vR f_subject, vR f_spans, vR f_threads, vR f_marks, vR f_oneMind, vR f_states, vR f_latest, vR f_matches, vR f_pieces, vR f_template, vR f_result, vR f_spare, vz cmp, vz ovs]) f_PW_31 d_PW_compile_74 hw_.2.2 rfl ?_
              refine ab_iload_n d_PW_compile_77 rfl ?_
              refine ab_new (fs := [vN, vN, vN, vz 0, vz 0, vz 0, vN, vz 0, vz 0, vz 0, vz 0, vz 0, vz 0, vz 0, vN, vN]) k_PR rfl cl_PW_29 inst_PR ini_PR d_PW_compile_78 (by decide) (fun _ => rfl) (by omega) (by omega) ?_
              obtain ⟨G100, eG100⟩ : ∃ z : ab_G, z = G95 ++ [ab_ob 5 [vN, vN, vN, vz 0, vz 0, vz 0, vN, vz 0, vz 0, vz 0, vz 0, vz 0, vz 0, vz 0, vN, vN]] := ⟨_, rfl⟩
              obtain ⟨o101, eo101⟩ : ∃ z : Nat → Nat, z = ol o48 G95.length (100 + 10 * k_) := ⟨_, rfl⟩
              obtain ⟨a102, ea102⟩ : ∃ z : Nat, z = G95.length := ⟨_, rfl⟩
              have hq103 := hp49.n0 (by first | decide | omega)
              have ne_a102_w_ : nq a102 w_ := by have hlt := hw_.lt; unfold nq; omega
              have ne_a102_f_programs : nq a102 f_programs := by have hlt := hf_programs.lt; unfold nq; omega
              have ne_a102_15 : nq a102 15 := by have hlt := h15.lt; unfold nq; omega
              have ne_a102_16 : nq a102 16 := by have hlt := h16.lt; unfold nq; omega
              have ne_a102_f_tape : nq a102 f_tape := by have hlt := hf_tape.lt; unfold nq; omega
              have ne_a102_it_t : nq a102 it_t := by have hlt := hit_t.lt; unfold nq; omega
              have ne_a102_f_reader : nq a102 f_reader := by have hlt := hf_reader.lt; unfold nq; omega
              have ne_a102_x_r : nq a102 x_r := by have hlt := hx_r.lt; unfold nq; omega
              have ne_a102_rna_r : nq a102 rna_r := by have hlt := hrna_r.lt; unfold nq; omega
              have ne_a102_rnl_r : nq a102 rnl_r := by have hlt := hrnl_r.lt; unfold nq; omega
              have ne_a102_p49 : nq a102 p49 := by have hlt := hp49.lt; unfold nq; omega
              have hw_ := hw_.akeep (k := (100 + 10 * k_)) eG100
              rw [← eo101] at hw_
              have hf_programs := hf_programs.akeep (k := (100 + 10 * k_)) eG100
              rw [← eo101] at hf_programs
              have h15 := h15.akeep (k := (100 + 10 * k_)) eG100
              rw [← eo101] at h15
              have h16 := h16.akeep (k := (100 + 10 * k_)) eG100
              rw [← eo101] at h16
              have hf_tape := hf_tape.akeep (k := (100 + 10 * k_)) eG100
              rw [← eo101] at hf_tape
              have hit_t := hit_t.akeep (k := (100 + 10 * k_)) eG100
              rw [← eo101] at hit_t
              have hf_reader := hf_reader.akeep (k := (100 + 10 * k_)) eG100
              rw [← eo101] at hf_reader
              have hx_r := hx_r.akeep (k := (100 + 10 * k_)) eG100
              rw [← eo101] at hx_r
              have hrna_r := hrna_r.akeep (k := (100 + 10 * k_)) eG100
              rw [← eo101] at hrna_r
              have hrnl_r := hrnl_r.akeep (k := (100 + 10 * k_)) eG100
              rw [← eo101] at hrnl_r
              have hp49 := hp49.akeep (k := (100 + 10 * k_)) eG100
              rw [← eo101] at hp49
              have hst := (fx.rf (o := o48) (S := []) (G := G95)).ap (k := (100 + 10 * k_)) eG100
              rw [← eo101] at hst
              have pstI_f_states := stI.fr hst pstI_f_states (by decide) (by decide) (by decide) (by decide) (by decide) (by decide) (by decide) (by decide) (by decide)
              have ptbI_0 := tbI.fr hst ptbI_0  (by simp)
              have pcsI_se_r := csI.fr hst pcsI_se_r (by decide) (by decide)
              have ppgX_0 := pgX.fr hst ppgX_0  (by simp)
              have ppaI_0 := paI.fr hst ppaI_0 (by decide) (by decide) (by decide) (by simp)
              have ha102 := cc.anew (o := o48) (100 + 10 * k_) eG100 hq103
              rw [← eo101, ← ea102] at ha102
              have hfr := hfr.ap (k := (100 + 10 * k_)) eG100
              rw [← eo101] at hfr
              have hq104 := z_alen eG100
              have hq105 : ab_slots G100 = ab_slots G95 + 16 := z_asl eG100 hq103
              change ab_W _ _ _ (G95 ++ [ab_ob 5 [vN, vN, vN, vz 0, vz 0, vz 0, vN, vz 0, vz 0, vz 0, vz 0, vz 0, vz 0, vz 0, vN, vN]]) 81 [some (vR w_), some (vz sl), some (vz fl0), some (vR p49)] [.ref G95.length, vz sl, vR f_programs] _
              rw [← eG100, ← ea102]
              change ab_W _ _ _ G100 81 [some (vR w_), some (vz sl), some (vz fl0), some (vR p49)] [vR a102, vz sl, vR f_programs] _
              refine ab_dup d_PW_compile_81 rfl ?_
              refine ab_callI (d' := d - 1) (as := []) (st := [vR a102, vz sl, vR f_programs]) (z_PR_init (o := o101) (q := a102) (lq := (100 + 10 * k_)) ha102 (by omega) (by omega) (by omega) (by omega) (by omega)) (fun oc G2 h => by rcases h with ⟨_, _, _, _, _, _, _, h, _⟩ <;> exact ⟨_, h⟩) (by omega) m_PR_init ml_PW_125 im_PR_init rfl (Nat.le_of_ble_eq_true rfl) d_PW_compile_82 rfl ?_
              intro v G106 hq
              rcases hq with ⟨o107, ki108, ne109, ot110, ra111, na112, nl113, hv, hfk, hNa102, hNki108, hNne109, hNot110, hNra111, hNna112, hNnl113, hq114, hq115⟩
              cases hv
              have hw_ := hfk.get hw_ (by simp only [List.mem_cons, List.not_mem_nil, or_false]; omega)
              have hf_programs := hfk.get hf_programs (by simp only [List.mem_cons, List.not_mem_nil, or_false]; omega)
              have h15 := hfk.get h15 (by simp only [List.mem_cons, List.not_mem_nil, or_false]; omega)
              have h16 := hfk.get h16 (by simp only [List.mem_cons, List.not_mem_nil, or_false]; omega)
              have hf_tape := hfk.get hf_tape (by simp only [List.mem_cons, List.not_mem_nil, or_false]; omega)
              have hit_t := hfk.get hit_t (by simp only [List.mem_cons, List.not_mem_nil, or_false]; omega)
              have hf_reader := hfk.get hf_reader (by simp only [List.mem_cons, List.not_mem_nil, or_false]; omega)
              have hx_r := hfk.get hx_r (by simp only [List.mem_cons, List.not_mem_nil, or_false]; omega)
              have hrna_r := hfk.get hrna_r (by simp only [List.mem_cons, List.not_mem_nil, or_false]; omega)
              have hrnl_r := hfk.get hrnl_r (by simp only [List.mem_cons, List.not_mem_nil, or_false]; omega)
              have hp49 := hfk.get hp49 (by simp only [List.mem_cons, List.not_mem_nil, or_false]; omega)
              have pstI_f_states := stI.fr hfk pstI_f_states (by simp only [List.mem_cons, List.not_mem_nil, or_false]; omega) (by simp only [List.mem_cons, List.not_mem_nil, or_false]; omega) (by simp only [List.mem_cons, List.not_mem_nil, or_false]; omega) (by simp only [List.mem_cons, List.not_mem_nil, or_false]; omega) (by simp only [List.mem_cons, List.not_mem_nil, or_false]; omega) (by simp only [List.mem_cons, List.not_mem_nil, or_false]; omega) (by simp only [List.mem_cons, List.not_mem_nil, or_false]; omega) (by simp only [List.mem_cons, List.not_mem_nil, or_false]; omega) (by simp only [List.mem_cons, List.not_mem_nil, or_false]; omega)
              have ptbI_0 := tbI.fr hfk ptbI_0  (by intro xx hx; simp only [List.mem_cons, List.not_mem_nil, or_false] at hx; omega)
              have pcsI_se_r := csI.fr hfk pcsI_se_r (by simp only [List.mem_cons, List.not_mem_nil, or_false]; omega) (by simp only [List.mem_cons, List.not_mem_nil, or_false]; omega)
              have ppgX_0 := pgX.fr hfk ppgX_0  (by intro xx hx; simp only [List.mem_cons, List.not_mem_nil, or_false] at hx; omega)
              have ppaI_0 := paI.fr hfk ppaI_0 (by simp only [List.mem_cons, List.not_mem_nil, or_false]; omega) (by simp only [List.mem_cons, List.not_mem_nil, or_false]; omega) (by simp only [List.mem_cons, List.not_mem_nil, or_false]; omega) (by intro xx hx; simp only [List.mem_cons, List.not_mem_nil, or_false] at hx; omega)
              have hfr := hfr.tr hfk (by simp)
              have hq116 := hfk.1
              have ha102 := hNa102
              have hki108 := hNki108
              have hne109 := hNne109
              have hot110 := hNot110
              have hra111 := hNra111
              have hna112 := hNna112
              have hnl113 := hNnl113
              change ab_W _ _ _ G106 85 [some (vR w_), some (vz sl), some (vz fl0), some (vR p49)] [vR a102, vz sl, vR f_programs] _
              refine zz_aast d_PW_compile_85 hf_programs ha102.2.2 (by omega) (hf_programs.2.1 (by decide)) ?_
              obtain ⟨G117, eG117⟩ : ∃ z : ab_G, z = List.set G106 f_programs (ab_rr 6 (va_up PG (Int.toNat sl) (some a102))) := ⟨_, rfl⟩
              have hw_ := hw_.keep hf_programs eG117 (by decide)
              have h15 := h15.keep hf_programs eG117 (by decide)
              have h16 := h16.keep hf_programs eG117 (by decide)
              have hf_tape := hf_tape.keep hf_programs eG117 (by decide)
              have hit_t := hit_t.keep hf_programs eG117 (by decide)
              have hf_reader := hf_reader.keep hf_programs eG117 (by decide)
              have hx_r := hx_r.keep hf_programs eG117 (by decide)
              have hrna_r := hrna_r.keep hf_programs eG117 (by decide)
              have hrnl_r := hrnl_r.keep hf_programs eG117 (by decide)
              have hp49 := hp49.keep hf_programs eG117 (by decide)
              have ha102 := ha102.keep' eG117 (nq.s ne_a102_f_programs)
              have hki108 := hki108.keep hf_programs eG117 (by omega)
              have hne109 := hne109.keep hf_programs eG117 (by omega)
              have hot110 := hot110.keep hf_programs eG117 (by omega)
              have hra111 := hra111.keep hf_programs eG117 (by omega)
              have hna112 := hna112.keep hf_programs eG117 (by omega)
              have hnl113 := hnl113.keep hf_programs eG117 (by omega)
              have hst := (fx.rf (o := o107) (S := [81]) (G := G106)).wr hf_programs eG117 (List.mem_singleton.mpr rfl)
              have pstI_f_states := stI.fr hst pstI_f_states (by decide) (by decide) (by decide) (by decide) (by decide) (by decide) (by decide) (by decide) (by decide)
              have ptbI_0 := tbI.fr hst ptbI_0  (by decide)
              have pcsI_se_r := csI.fr hst pcsI_se_r (by decide) (by decide)
              have ppgX_0 := pgX.fr hst ppgX_0 (fun xx hx => Or.inl ((show ∀ y ∈ ([81] : List Nat), y < 100 by decide) xx hx))
              have ppaI_0 := paI.fr hst ppaI_0 (by decide) (by decide) (by decide) (by decide)
              have hq118 := z_len eG117
              have hq119 := z_sl hf_programs eG117 rfl
              have hfr := hfr.wr hf_programs eG117 (by simp)
              have hf_programs := hf_programs.kept eG117
              change ab_W _ _ _ (List.set G106 f_programs (ab_rr 6 (va_up PG (Int.toNat sl) (some a102)))) 86 [some (vR w_), some (vz sl), some (vz fl0), some (vR p49)] [] _
              rw [← eG117]
              rw [← hk_] at hf_programs
              have ppgX_0 := ppgX_0.set (q := a102)
              have hsm : (va_up PG k_ (some a102)) k_ = some a102 := if_pos rfl
              refine ab_aload_n d_PW_compile_86 rfl ?_
              refine ab_dup d_PW_compile_87 rfl ?_
              refine ab_getf (fs := [vR f_ready, vR f_tape, vR f_reader, vR f_programs, vR f_subject, vR f_spans, vR f_threads, vR f_marks, vR f_oneMind, vR f_states, vR f_latest, vR f_matches, vR f_pieces, vR f_template, vR f_result, vR f_spare, vz cmp, vz ovs]) f_PW_126 d_PW_compile_88 hw_.2.2 rfl ?_
              refine zz_iconst d_PW_compile_91 ?_
              refine zz_iadd d_PW_compile_92 ?_
              refine ab_putf (fs := [vR f_ready, vR f_tape, vR f_reader, vR f_programs, vR f_subject, vR f_spans, vR f_threads, vR f_marks, vR f_oneMind, vR f_states, vR f_latest, vR f_matches, vR f_pieces, vR f_template, vR f_result, vR f_spare, vz cmp, vz ovs]) f_PW_126 (Or.inl rfl) d_PW_compile_93 hw_.2.2 (Nat.le_of_ble_eq_true rfl) (fun _ => ⟨rfl, rfl⟩) (hw_.2.1 (by decide)) ?_
              obtain ⟨G120, eG120⟩ : ∃ z : ab_G, z = List.set G117 w_ (ab_ob 0 [vR f_ready, vR f_tape, vR f_reader, vR f_programs, vR f_subject, vR f_spans, vR f_threads, vR f_marks, vR f_oneMind, vR f_states, vR f_latest, vR f_matches, vR f_pieces, vR f_template, vR f_result, vR f_spare, vz (cmp + 1), vz ovs]) := ⟨_, rfl⟩
              have hf_programs := hf_programs.keep hw_ eG120 (by decide)
              have h15 := h15.keep hw_ eG120 (by decide)
              have h16 := h16.keep hw_ eG120 (by decide)
              have hf_tape := hf_tape.keep hw_ eG120 (by decide)
              have hit_t := hit_t.keep hw_ eG120 (by decide)
              have hf_reader := hf_reader.keep hw_ eG120 (by decide)
              have hx_r := hx_r.keep hw_ eG120 (by decide)
              have hrna_r := hrna_r.keep hw_ eG120 (by decide)
              have hrnl_r := hrnl_r.keep hw_ eG120 (by decide)
              have hp49 := hp49.keep hw_ eG120 (by decide)
              have ha102 := ha102.keep' eG120 (nq.s ne_a102_w_)
              have hki108 := hki108.keep hw_ eG120 (by omega)
              have hne109 := hne109.keep hw_ eG120 (by omega)
              have hot110 := hot110.keep hw_ eG120 (by omega)
              have hra111 := hra111.keep hw_ eG120 (by omega)
              have hna112 := hna112.keep hw_ eG120 (by omega)
              have hnl113 := hnl113.keep hw_ eG120 (by omega)
              have hst := (fx.rf (o := o107) (S := [18]) (G := G117)).wr hw_ eG120 (List.mem_singleton.mpr rfl)
              have pstI_f_states := stI.fr hst pstI_f_states (by decide) (by decide) (by decide) (by decide) (by decide) (by decide) (by decide) (by decide) (by decide)
              have ptbI_0 := tbI.fr hst ptbI_0  (by decide)
              have pcsI_se_r := csI.fr hst pcsI_se_r (by decide) (by decide)
              have ppgX_0 := pgX.fr hst ppgX_0 (fun xx hx => Or.inl ((show ∀ y ∈ ([18] : List Nat), y < 100 by decide) xx hx))
              have ppaI_0 := paI.fr hst ppaI_0 (by decide) (by decide) (by decide) (by decide)
              have hq121 := z_len eG120
              have hq122 := z_sl hw_ eG120 rfl
              have hfr := hfr.wr hw_ eG120 (by simp)
              have hw_ := hw_.kept eG120
              change ab_W _ _ _ (List.set G117 w_ (ab_ob 0 [vR f_ready, vR f_tape, vR f_reader, vR f_programs, vR f_subject, vR f_spans, vR f_threads, vR f_marks, vR f_oneMind, vR f_states, vR f_latest, vR f_matches, vR f_pieces, vR f_template, vR f_result, vR f_spare, vz (cmp + 1), vz ovs])) 96 [some (vR w_), some (vz sl), some (vz fl0), some (vR p49)] [] _
              rw [← eG120]
              refine ab_aload_n d_PW_compile_96 rfl ?_
              refine ab_getf (fs := [vR f_ready, vR f_tape, vR f_reader, vR f_programs, vR f_subject, vR f_spans, vR f_threads, vR f_marks, vR f_oneMind, vR f_states, vR f_latest, vR f_matches, vR f_pieces, vR f_template, vR f_result, vR f_spare, vz (cmp + 1), vz ovs]) f_PW_31 d_PW_compile_97 hw_.2.2 rfl ?_
              refine ab_iload_n d_PW_compile_100 rfl ?_
              refine zz_aalS d_PW_compile_101 hf_programs (by omega) (by rw [← hk_]; exact hsm) ?_
              change ab_W _ _ _ G120 102 [some (vR w_), some (vz sl), some (vz fl0), some (vR p49)] [vR a102] _
              refine ab_aload_n d_PW_compile_102 rfl ?_
              refine ab_aload_n d_PW_compile_103 rfl ?_
              refine ab_getf (fs := [vR f_ready, vR f_tape, vR f_reader, vR f_programs, vR f_subject, vR f_spans, vR f_threads, vR f_marks, vR f_oneMind, vR f_states, vR f_latest, vR f_matches, vR f_pieces, vR f_template, vR f_result, vR f_spare, vz (cmp + 1), vz ovs]) f_PW_25 d_PW_compile_104 hw_.2.2 rfl ?_
              refine ab_iload_n d_PW_compile_107 rfl ?_
              refine ab_aload_n d_PW_compile_108 rfl ?_
              refine ab_getf (fs := [vR f_ready, vR f_tape, vR f_reader, vR f_programs, vR f_subject, vR f_spans, vR f_threads, vR f_marks, vR f_oneMind, vR f_states, vR f_latest, vR f_matches, vR f_pieces, vR f_template, vR f_result, vR f_spare, vz (cmp + 1), vz ovs]) f_PW_126 d_PW_compile_109 hw_.2.2 rfl ?_
              refine ab_callV (d' := d - 1) (as := [vR p49, vR f_reader, vz fl0, vz (cmp + 1)]) (st := []) (r := _) (z_PR_build (o := o107) (q := a102) (lq := (100 + 10 * k_)) (ki := ki108) (ne := ne109) (ot := ot110) (cnt := 0) (fi := 0) (la := 0) (ra := ra111) (ru := 0) (gr := 0) (wi := 0) (sz := 0) (fl := 0) (ve := 0) (mi := 0) (na := na112) (nl := nl113) (K := (fun _ => 0)) (N := (fun _ => 0)) (O := (fun _ => 0)) (RR := (fun _ => 0)) (NA := (fun _ => 0)) (NL := (fun _ => 0)) (nr := 32) (d_ := f_reader) (inn := inn250) (dp := dp251) (flg := flg252) (grp := grp253) (lst := lst256) (mst := mst257) (bh := bh258) (rna := rna_r) (rnl := rnl_r) (RNA := NA254) (RNL := NL255) (x := x_r) (se := se_r) (by_ := it_t) (m := mr_t) (f := F_t) (n := sz_t) (pl := p259) (fa := fa260) (fp := fp261) (kd := kd262) (kn := kn263) (ps := ps267) (wt := wt268) (bs := bs269) (ph := ph270) (p := p49) (fl0 := fl0) (ve0 := (cmp + 1)) (sz9 := sz_94) ha102 hki108 hne109 hot110 hra111 hna112 hnl113 hf_reader hx_r hit_t hrna_r hrnl_r ppaI_0 (by omega) (by omega) hq78 (by omega) (rgs_c (by omega)) (fun _ _ _ => (by decide : (0 : Int) ≤ 0 ∧ (0 : Int) ≤ 1114111)) (by omega) hq79 (by unfold pf; rw [hp49.2.2]; rfl) (by omega) (by omega) (by omega)) (fun oc G2 h => by rcases h with ⟨_, _, _, _, _, _, _, _, _, _, _, _, _, h, _⟩ <;> exact ⟨_, h⟩) (by omega) m_PR_build ml_PW_129 im_PR_build se_PR_build c_PR ha102.2.2 (Nat.le_of_ble_eq_true rfl) d_PW_compile_112 rfl ?_
              intro v G123 hq
              rcases hq with ⟨o124, cnt2125, la2126, ra2127, nr2128, ru2129, K2130, N2131, O2132, RR2133, fi2134, NA2135, NL2136, hv, hfk, hNa102, hNki108, hNne109, hNot110, hNra2127, hNna112, hNnl113, hq137, hq138, hq139, hq140, hq141, hq142, hq143, hq144, hq145, hq146⟩
              cases hv
              have hw_ := hfk.get hw_ (by simp only [List.mem_cons, List.not_mem_nil, or_false]; omega)
              have hf_programs := hfk.get hf_programs (by simp only [List.mem_cons, List.not_mem_nil, or_false]; omega)
              have h15 := hfk.get h15 (by simp only [List.mem_cons, List.not_mem_nil, or_false]; omega)
              have h16 := hfk.get h16 (by simp only [List.mem_cons, List.not_mem_nil, or_false]; omega)
              have hf_tape := hfk.get hf_tape (by simp only [List.mem_cons, List.not_mem_nil, or_false]; omega)
              have hit_t := hfk.get hit_t (by simp only [List.mem_cons, List.not_mem_nil, or_false]; omega)
              have hf_reader := hfk.get hf_reader (by simp only [List.mem_cons, List.not_mem_nil, or_false]; omega)
              have hx_r := hfk.get hx_r (by simp only [List.mem_cons, List.not_mem_nil, or_false]; omega)
              have hrna_r := hfk.get hrna_r (by simp only [List.mem_cons, List.not_mem_nil, or_false]; omega)
              have hrnl_r := hfk.get hrnl_r (by simp only [List.mem_cons, List.not_mem_nil, or_false]; omega)
              have pstI_f_states := stI.fr hfk pstI_f_states (by simp only [List.mem_cons, List.not_mem_nil, or_false]; omega) (by simp only [List.mem_cons, List.not_mem_nil, or_false]; omega) (by simp only [List.mem_cons, List.not_mem_nil, or_false]; omega) (by simp only [List.mem_cons, List.not_mem_nil, or_false]; omega) (by simp only [List.mem_cons, List.not_mem_nil, or_false]; omega) (by simp only [List.mem_cons, List.not_mem_nil, or_false]; omega) (by simp only [List.mem_cons, List.not_mem_nil, or_false]; omega) (by simp only [List.mem_cons, List.not_mem_nil, or_false]; omega) (by simp only [List.mem_cons, List.not_mem_nil, or_false]; omega)
              have ptbI_0 := tbI.fr hfk ptbI_0  (by intro xx hx; simp only [List.mem_cons, List.not_mem_nil, or_false] at hx; omega)
              have pcsI_se_r := csI.fr hfk pcsI_se_r (by simp only [List.mem_cons, List.not_mem_nil, or_false]; omega) (by simp only [List.mem_cons, List.not_mem_nil, or_false]; omega)
              have ppgX_0 := pgX.fr hfk ppgX_0  (by intro xx hx; simp only [List.mem_cons, List.not_mem_nil, or_false] at hx; omega)
              have hfr := hfr.tr hfk (by simp)
              have hq147 := hfk.1
              have ha102 := hNa102
              have hki108 := hNki108
              have hne109 := hNne109
              have hot110 := hNot110
              have hra2127 := hNra2127
              have hna112 := hNna112
              have hnl113 := hNnl113
              change ab_W _ _ _ G123 115 [some (vR w_), some (vz sl), some (vz fl0), some (vR p49)] [] _
              refine ab_aload_n d_PW_compile_115 rfl ?_
              refine ab_getf (fs := [vR f_ready, vR f_tape, vR f_reader, vR f_programs, vR f_subject, vR f_spans, vR f_threads, vR f_marks, vR f_oneMind, vR f_states, vR f_latest, vR f_matches, vR f_pieces, vR f_template, vR f_result, vR f_spare, vz (cmp + 1), vz ovs]) f_PW_31 d_PW_compile_116 hw_.2.2 rfl ?_
              refine ab_iload_n d_PW_compile_119 rfl ?_
              refine zz_aalS d_PW_compile_120 hf_programs (by omega) (by rw [← hk_]; exact hsm) ?_
              change ab_W _ _ _ G123 121 [some (vR w_), some (vz sl), some (vz fl0), some (vR p49)] [vR a102] _
              refine ab_getf (fs := [vR ki108, vR ne109, vR ot110, vz cnt2125, vz fi2134, vz la2126, vR ra2127, vz ru2129, vz grp253, vz (2 * (grp253 + 1)), vz sz_94, vz fl0, vz (cmp + 1), vz 0, vR na112, vR nl113]) f_PW_133 d_PW_compile_121 ha102.2.2 rfl ?_
              have prdI_f_reader : rdI o124 G123 f_reader nb264 := ⟨x_r, se_r, it_t, sz_t, p259, fa260, fp261, kd262, kn263, inn250, dp251, flg252, grp253, rna_r, rnl_r, lst256, mst257, bh258, NA254, NL255, c265, P266, hf_reader, hx_r, hrna_r, hrnl_r, pcsI_se_r, (by omega), (by omega)⟩
              have ppgB_a102 : pgB o124 G123 a102 (100 + 10 * k_) nr2128 (zu cv (cmp + 1) cnt2125) (cmp + 1) on 0 := ⟨ki108, ne109, ot110, cnt2125, fi2134, la2126, ra2127, ru2129, grp253, (2 * (grp253 + 1)), sz_94, fl0, (cmp + 1), na112, nl113, K2130, N2131, O2132, RR2133, NA2135, NL2136, ha102, hki108, hne109, hot110, hra2127, hna112, hnl113, (by omega), hq140.1, hq139, hq142, hq143.1, (by have t1 := hq140.2; have t2 := hq143.2; omega), (by omega), (by omega), (by omega), (by omega), (fun h => absurd h (by decide)), (fun h => absurd rfl h), (zu_self _ _ _), (by omega), hq144⟩
              have ppgI_0 := ppgX_0.mk hsm (by omega) ppgB_a102
              have pstI_f_states := pstI_f_states.up (w := cnt2125)
              have hprS := sumN_up (f := prS) (NR := NR) (k := k_) (v := nr2128) (by omega)
              have hprC := sumN_up (f := prC) (NR := NR) (k := k_) (v := nr2128) (by omega)
              have hprS1 : prS nr2128 = 2 * nr2128 + 2602 := if_neg (by omega)
              have hprC1 : prC nr2128 = nr2128 + 192 + 32 := if_neg (by omega)
              have hpn2 := pgN_up (k := k_) (v := nr2128) (q := a102) hpn
              refine zz_iret rfl d_PW_compile_124 ?_
              rw [hQ]; exact (Or.inr ⟨_, _, _, _, _, _, _, rfl, hfr, hw_, hf_programs, hf_tape, prdI_f_reader, ppgI_0, pstI_f_states, ptbI_0, (by exact hpn2), (by omega), (by omega), (by omega), (by exact prdI_f_reader.b)⟩)
            · change ab_W _ _ _ G95 70 [some (vR w_), some (vz sl), some (vz fl0), some (vR p49)] [vR b99] _
              refine ab_ifnonnull (tgt := 86) d_PW_compile_70 (by decide) ?_
              have hk_ := hkq.2 (by omega) (by omega)
              rw [← hk_] at hr98
              have hk6_ : k_ < 6 := by omega
              obtain ⟨⟨mi_, ppgB_b99⟩, ppgX_0⟩ := ppgI_0.opn hk6_ hr98
              obtain ⟨ki_g, ne_g, ot_g, cnt_g, fi_g, la_g, ra_g, ru_g, gr_g, wi_g, sz_g, fl_g, ve_g, na_g, nl_g, K_g, N_g, O_g, RR_g, NA_g, NL_g, hb99, hki_g, hne_g, hot_g, hra_g, hna_g, hnl_g, cq_g, hpu_g, hp_g, hr_g, hch_g, cru_g, ck9_g, cfi_g, cgr_g, cfl_g, hpo_g, hmi_g, hvc_g, cve_g, jnl_g⟩ := ppgB_b99
              have hprS0 : prS (NR k_) = 2 * NR k_ + 2602 := if_neg (by omega)
              have hprC0 : prC (NR k_) = NR k_ + 192 + 32 := if_neg (by omega)
              have hnb_ := pcsI_se_r.ok
              have hnb2_ : nb264 ≤ 104000 := by omega
              clear hnb_
              refine ab_aload_n d_PW_compile_86 rfl ?_
              refine ab_dup d_PW_compile_87 rfl ?_
              refine ab_getf (fs := [vR f_ready, vR f_tape, vR f_reader, vR f_programs, vR f_subject, vR f_spans, vR f_threads, vR f_marks, vR f_oneMind, vR f_states, vR f_latest, vR f_matches, vR f_pieces, vR f_template, vR f_result, vR f_spare, vz cmp, vz ovs]) f_PW_126 d_PW_compile_88 hw_.2.2 rfl ?_
              refine zz_iconst d_PW_compile_91 ?_
              refine zz_iadd d_PW_compile_92 ?_
              refine ab_putf (fs := [vR f_ready, vR f_tape, vR f_reader, vR f_programs, vR f_subject, vR f_spans, vR f_threads, vR f_marks, vR f_oneMind, vR f_states, vR f_latest, vR f_matches, vR f_pieces, vR f_template, vR f_result, vR f_spare, vz cmp, vz ovs]) f_PW_126 (Or.inl rfl) d_PW_compile_93 hw_.2.2 (Nat.le_of_ble_eq_true rfl) (fun _ => ⟨rfl, rfl⟩) (hw_.2.1 (by decide)) ?_
              obtain ⟨G148, eG148⟩ : ∃ z : ab_G, z = List.set G95 w_ (ab_ob 0 [vR f_ready, vR f_tape, vR f_reader, vR f_programs, vR f_subject, vR f_spans, vR f_threads, vR f_marks, vR f_oneMind, vR f_states, vR f_latest, vR f_matches, vR f_pieces, vR f_template, vR f_result, vR f_spare, vz (cmp + 1), vz ovs]) := ⟨_, rfl⟩
              have hf_programs := hf_programs.keep hw_ eG148 (by decide)
              have h15 := h15.keep hw_ eG148 (by decide)
              have h16 := h16.keep hw_ eG148 (by decide)
              have hf_tape := hf_tape.keep hw_ eG148 (by decide)
              have hit_t := hit_t.keep hw_ eG148 (by decide)
              have hf_reader := hf_reader.keep hw_ eG148 (by decide)
              have hx_r := hx_r.keep hw_ eG148 (by decide)
              have hrna_r := hrna_r.keep hw_ eG148 (by decide)
              have hrnl_r := hrnl_r.keep hw_ eG148 (by decide)
              have hp49 := hp49.keep hw_ eG148 (by decide)
              have hb99 := hb99.keep hw_ eG148 (by omega)
              have hki_g := hki_g.keep hw_ eG148 (by omega)
              have hne_g := hne_g.keep hw_ eG148 (by omega)
              have hot_g := hot_g.keep hw_ eG148 (by omega)
              have hra_g := hra_g.keep hw_ eG148 (by omega)
              have hna_g := hna_g.keep hw_ eG148 (by omega)
              have hnl_g := hnl_g.keep hw_ eG148 (by omega)
              have hst := (fx.rf (o := o48) (S := [18]) (G := G95)).wr hw_ eG148 (List.mem_singleton.mpr rfl)
              have pstI_f_states := stI.fr hst pstI_f_states (by decide) (by decide) (by decide) (by decide) (by decide) (by decide) (by decide) (by decide) (by decide)
              have ptbI_0 := tbI.fr hst ptbI_0  (by decide)
              have pcsI_se_r := csI.fr hst pcsI_se_r (by decide) (by decide)
              have ppgX_0 := pgX.fr hst ppgX_0 (fun xx hx => Or.inl ((show ∀ y ∈ ([18] : List Nat), y < 100 by decide) xx hx))
              have ppaI_0 := paI.fr hst ppaI_0 (by decide) (by decide) (by decide) (by decide)
              have hq149 := z_len eG148
              have hq150 := z_sl hw_ eG148 rfl
              have hfr := hfr.wr hw_ eG148 (by simp)
              have hw_ := hw_.kept eG148
              change ab_W _ _ _ (List.set G95 w_ (ab_ob 0 [vR f_ready, vR f_tape, vR f_reader, vR f_programs, vR f_subject, vR f_spans, vR f_threads, vR f_marks, vR f_oneMind, vR f_states, vR f_latest, vR f_matches, vR f_pieces, vR f_template, vR f_result, vR f_spare, vz (cmp + 1), vz ovs])) 96 [some (vR w_), some (vz sl), some (vz fl0), some (vR p49)] [] _
              rw [← eG148]
              refine ab_aload_n d_PW_compile_96 rfl ?_
              refine ab_getf (fs := [vR f_ready, vR f_tape, vR f_reader, vR f_programs, vR f_subject, vR f_spans, vR f_threads, vR f_marks, vR f_oneMind, vR f_states, vR f_latest, vR f_matches, vR f_pieces, vR f_template, vR f_result, vR f_spare, vz (cmp + 1), vz ovs]) f_PW_31 d_PW_compile_97 hw_.2.2 rfl ?_
              refine ab_iload_n d_PW_compile_100 rfl ?_
              refine zz_aalS d_PW_compile_101 hf_programs (by omega) (by rw [← hk_]; exact hr98) ?_
              change ab_W _ _ _ G148 102 [some (vR w_), some (vz sl), some (vz fl0), some (vR p49)] [vR b99] _
              refine ab_aload_n d_PW_compile_102 rfl ?_
              refine ab_aload_n d_PW_compile_103 rfl ?_
              refine ab_getf (fs := [vR f_ready, vR f_tape, vR f_reader, vR f_programs, vR f_subject, vR f_spans, vR f_threads, vR f_marks, vR f_oneMind, vR f_states, vR f_latest, vR f_matches, vR f_pieces, vR f_template, vR f_result, vR f_spare, vz (cmp + 1), vz ovs]) f_PW_25 d_PW_compile_104 hw_.2.2 rfl ?_
              refine ab_iload_n d_PW_compile_107 rfl ?_
              refine ab_aload_n d_PW_compile_108 rfl ?_
              refine ab_getf (fs := [vR f_ready, vR f_tape, vR f_reader, vR f_programs, vR f_subject, vR f_spans, vR f_threads, vR f_marks, vR f_oneMind, vR f_states, vR f_latest, vR f_matches, vR f_pieces, vR f_template, vR f_result, vR f_spare, vz (cmp + 1), vz ovs]) f_PW_126 d_PW_compile_109 hw_.2.2 rfl ?_
              refine ab_callV (d' := d - 1) (as := [vR p49, vR f_reader, vz fl0, vz (cmp + 1)]) (st := []) (r := _) (z_PR_build (o := o48) (q := b99) (lq := (100 + 10 * k_)) (ki := ki_g) (ne := ne_g) (ot := ot_g) (cnt := cnt_g) (fi := fi_g) (la := la_g) (ra := ra_g) (ru := ru_g) (gr := gr_g) (wi := wi_g) (sz := sz_g) (fl := fl_g) (ve := ve_g) (mi := mi_) (na := na_g) (nl := nl_g) (K := K_g) (N := N_g) (O := O_g) (RR := RR_g) (NA := NA_g) (NL := NL_g) (nr := (NR k_)) (d_ := f_reader) (inn := inn250) (dp := dp251) (flg := flg252) (grp := grp253) (lst := lst256) (mst := mst257) (bh := bh258) (rna := rna_r) (rnl := rnl_r) (RNA := NA254) (RNL := NL255) (x := x_r) (se := se_r) (by_ := it_t) (m := mr_t) (f := F_t) (n := sz_t) (pl := p259) (fa := fa260) (fp := fp261) (kd := kd262) (kn := kn263) (ps := ps267) (wt := wt268) (bs := bs269) (ph := ph270) (p := p49) (fl0 := fl0) (ve0 := (cmp + 1)) (sz9 := sz_94) hb99 hki_g hne_g hot_g hra_g hna_g hnl_g hf_reader hx_r hit_t hrna_r hrnl_r ppaI_0 (by omega) (by omega) hq78 (by omega) jnl_g hr_g (by omega) hq79 (by unfold pf; rw [hp49.2.2]; rfl) (by omega) (by omega) (by omega)) (fun oc G2 h => by rcases h with ⟨_, _, _, _, _, _, _, _, _, _, _, _, _, h, _⟩ <;> exact ⟨_, h⟩) (by omega) m_PR_build ml_PW_129 im_PR_build se_PR_build c_PR hb99.2.2 (Nat.le_of_ble_eq_true rfl) d_PW_compile_112 rfl ?_
              intro v G151 hq
              rcases hq with ⟨o152, cnt2153, la2154, ra2155, nr2156, ru2157, K2158, N2159, O2160, RR2161, fi2162, NA2163, NL2164, hv, hfk, hNb99, hNki_g, hNne_g, hNot_g, hNra2155, hNna_g, hNnl_g, hq165, hq166, hq167, hq168, hq169, hq170, hq171, hq172, hq173, hq174⟩
              cases hv
              have hw_ := hfk.get hw_ (by simp only [List.mem_cons, List.not_mem_nil, or_false]; omega)
              have hf_programs := hfk.get hf_programs (by simp only [List.mem_cons, List.not_mem_nil, or_false]; omega)
              have h15 := hfk.get h15 (by simp only [List.mem_cons, List.not_mem_nil, or_false]; omega)
              have h16 := hfk.get h16 (by simp only [List.mem_cons, List.not_mem_nil, or_false]; omega)
              have hf_tape := hfk.get hf_tape (by simp only [List.mem_cons, List.not_mem_nil, or_false]; omega)
              have hit_t := hfk.get hit_t (by simp only [List.mem_cons, List.not_mem_nil, or_false]; omega)
              have hf_reader := hfk.get hf_reader (by simp only [List.mem_cons, List.not_mem_nil, or_false]; omega)
              have hx_r := hfk.get hx_r (by simp only [List.mem_cons, List.not_mem_nil, or_false]; omega)
              have hrna_r := hfk.get hrna_r (by simp only [List.mem_cons, List.not_mem_nil, or_false]; omega)
              have hrnl_r := hfk.get hrnl_r (by simp only [List.mem_cons, List.not_mem_nil, or_false]; omega)
              have pstI_f_states := stI.fr hfk pstI_f_states (by simp only [List.mem_cons, List.not_mem_nil, or_false]; omega) (by simp only [List.mem_cons, List.not_mem_nil, or_false]; omega) (by simp only [List.mem_cons, List.not_mem_nil, or_false]; omega) (by simp only [List.mem_cons, List.not_mem_nil, or_false]; omega) (by simp only [List.mem_cons, List.not_mem_nil, or_false]; omega) (by simp only [List.mem_cons, List.not_mem_nil, or_false]; omega) (by simp only [List.mem_cons, List.not_mem_nil, or_false]; omega) (by simp only [List.mem_cons, List.not_mem_nil, or_false]; omega) (by simp only [List.mem_cons, List.not_mem_nil, or_false]; omega)
              have ptbI_0 := tbI.fr hfk ptbI_0  (by intro xx hx; simp only [List.mem_cons, List.not_mem_nil, or_false] at hx; omega)
              have pcsI_se_r := csI.fr hfk pcsI_se_r (by simp only [List.mem_cons, List.not_mem_nil, or_false]; omega) (by simp only [List.mem_cons, List.not_mem_nil, or_false]; omega)
              have ppgX_0 := pgX.fr hfk ppgX_0  (by intro xx hx; simp only [List.mem_cons, List.not_mem_nil, or_false] at hx; omega)
              have hfr := hfr.tr hfk (by simp)
              have hq175 := hfk.1
              have hb99 := hNb99
              have hki_g := hNki_g
              have hne_g := hNne_g
              have hot_g := hNot_g
              have hra2155 := hNra2155
              have hna_g := hNna_g
              have hnl_g := hNnl_g
              change ab_W _ _ _ G151 115 [some (vR w_), some (vz sl), some (vz fl0), some (vR p49)] [] _
              refine ab_aload_n d_PW_compile_115 rfl ?_
              refine ab_getf (fs := [vR f_ready, vR f_tape, vR f_reader, vR f_programs, vR f_subject, vR f_spans, vR f_threads, vR f_marks, vR f_oneMind, vR f_states, vR f_latest, vR f_matches, vR f_pieces, vR f_template, vR f_result, vR f_spare, vz (cmp + 1), vz ovs]) f_PW_31 d_PW_compile_116 hw_.2.2 rfl ?_
              refine ab_iload_n d_PW_compile_119 rfl ?_
              refine zz_aalS d_PW_compile_120 hf_programs (by omega) (by rw [← hk_]; exact hr98) ?_
              change ab_W _ _ _ G151 121 [some (vR w_), some (vz sl), some (vz fl0), some (vR p49)] [vR b99] _
              refine ab_getf (fs := [vR ki_g, vR ne_g, vR ot_g, vz cnt2153, vz fi2162, vz la2154, vR ra2155, vz ru2157, vz grp253, vz (2 * (grp253 + 1)), vz sz_94, vz fl0, vz (cmp + 1), vz 0, vR na_g, vR nl_g]) f_PW_133 d_PW_compile_121 hb99.2.2 rfl ?_
              have prdI_f_reader : rdI o152 G151 f_reader nb264 := ⟨x_r, se_r, it_t, sz_t, p259, fa260, fp261, kd262, kn263, inn250, dp251, flg252, grp253, rna_r, rnl_r, lst256, mst257, bh258, NA254, NL255, c265, P266, hf_reader, hx_r, hrna_r, hrnl_r, pcsI_se_r, (by omega), (by omega)⟩
              have ppgB_b99 : pgB o152 G151 b99 (100 + 10 * k_) nr2156 (zu cv (cmp + 1) cnt2153) (cmp + 1) on 0 := ⟨ki_g, ne_g, ot_g, cnt2153, fi2162, la2154, ra2155, ru2157, grp253, (2 * (grp253 + 1)), sz_94, fl0, (cmp + 1), na_g, nl_g, K2158, N2159, O2160, RR2161, NA2163, NL2164, hb99, hki_g, hne_g, hot_g, hra2155, hna_g, hnl_g, (by omega), hq168.1, hq167, hq170, hq171.1, (by have t1 := hq168.2; have t2 := hq171.2; omega), (by omega), (by omega), (by omega), (by omega), (fun h => absurd h (by decide)), (fun h => absurd rfl h), (zu_self _ _ _), (by omega), hq172⟩
              have ppgI_0 := ppgX_0.mk hr98 (by omega) ppgB_b99
              have pstI_f_states := pstI_f_states.up (w := cnt2153)
              have hprS := sumN_up (f := prS) (NR := NR) (k := k_) (v := nr2156) (by omega)
              have hprC := sumN_up (f := prC) (NR := NR) (k := k_) (v := nr2156) (by omega)
              have hprS1 : prS nr2156 = 2 * nr2156 + 2602 := if_neg (by omega)
              have hprC1 : prC nr2156 = nr2156 + 192 + 32 := if_neg (by omega)
              have hpn2 := pgN_keep (v := nr2156) hpn hr98
              refine zz_iret rfl d_PW_compile_124 ?_
              rw [hQ]; exact (Or.inr ⟨_, _, _, _, _, _, _, rfl, hfr, hw_, hf_programs, hf_tape, prdI_f_reader, ppgI_0, pstI_f_states, ptbI_0, (by exact hpn2), (by omega), (by omega), (by omega), (by exact prdI_f_reader.b)⟩)
        · refine ab_throw (tx := "no such slot or flags") (by decide) (fun c h => h) cl_PW_109 inst_IA ini_IA tw_PW_113 d_PW_compile_20 d_PW_compile_23 d_PW_compile_24 d_PW_compile_26 d_PW_compile_29 (by omega) (by omega) (by omega) ?_
          obtain ⟨G176, eG176⟩ : ∃ z : ab_G, z = G ++ [.inr (13, [])] := ⟨_, rfl⟩
          obtain ⟨o177, eo177⟩ : ∃ z : Nat → Nat, z = ol o G.length 99 := ⟨_, rfl⟩
          obtain ⟨a178, ea178⟩ : ∃ z : Nat, z = G.length := ⟨_, rfl⟩
          have hq179 := hit_t.n0 (by first | decide | omega)
          have ne_a178_w_ : nq a178 w_ := by have hlt := hw_.lt; unfold nq; omega
          have ne_a178_f_programs : nq a178 f_programs := by have hlt := hf_programs.lt; unfold nq; omega
          have ne_a178_15 : nq a178 15 := by have hlt := h15.lt; unfold nq; omega
          have ne_a178_16 : nq a178 16 := by have hlt := h16.lt; unfold nq; omega
          have ne_a178_f_tape : nq a178 f_tape := by have hlt := hf_tape.lt; unfold nq; omega
          have ne_a178_it_t : nq a178 it_t := by have hlt := hit_t.lt; unfold nq; omega
          have hw_ := hw_.akeep (k := 99) eG176
          rw [← eo177] at hw_
          have hf_programs := hf_programs.akeep (k := 99) eG176
          rw [← eo177] at hf_programs
          have h15 := h15.akeep (k := 99) eG176
          rw [← eo177] at h15
          have h16 := h16.akeep (k := 99) eG176
          rw [← eo177] at h16
          have hf_tape := hf_tape.akeep (k := 99) eG176
          rw [← eo177] at hf_tape
          have hit_t := hit_t.akeep (k := 99) eG176
          rw [← eo177] at hit_t
          have hst := (fx.rf (o := o) (S := []) (G := G)).ap (k := 99) eG176
          rw [← eo177] at hst
          have prdI_f_reader := rdI.fr hst prdI_f_reader (by decide) (by decide) (by decide) (by decide) (by decide) (by decide)
          have ppgI_0 := pgI.fr hst ppgI_0  (by simp)
          have pstI_f_states := stI.fr hst pstI_f_states (by decide) (by decide) (by decide) (by decide) (by decide) (by decide) (by decide) (by decide) (by decide)
          have ptbI_0 := tbI.fr hst ptbI_0  (by simp)
          have ha178 := cc.anew (o := o) 99 eG176 hq179
          rw [← eo177, ← ea178] at ha178
          have hfr := hfr.ap (k := 99) eG176
          rw [← eo177] at hfr
          have hq180 := z_alen eG176
          have hq181 : ab_slots G176 = ab_slots G + 6 := z_asl eG176 hq179
          rw [← ea178, ← eG176]
          rw [hQ]; exact (Or.inl ⟨_, _, _, _, rfl, hfr, hw_, hf_programs, hf_tape, prdI_f_reader, ppgI_0, pstI_f_states, ptbI_0, (by exact ha178.2.2), (by omega), (by omega), (by omega), (by exact prdI_f_reader.b)⟩)
