set_option maxRecDepth 100000 in
set_option maxHeartbeats 4000000 in
theorem z_PW_compile {X : ab_X} {d : Nat} {o : Nat → Nat} {G : ab_G} {w_ : Nat} {f_ready : Nat} {f_tape : Nat} {f_reader : Nat} {f_programs : Nat} {f_subject : Nat} {f_spans : Nat} {f_threads : Nat} {f_marks : Nat} {f_oneMind : Nat} {f_states : Nat} {f_latest : Nat} {f_matches : Nat} {f_pieces : Nat} {f_template : Nat} {f_result : Nat} {f_spare : Nat} {cmp : Int} {ovs : Int} {sb : Int} {PG : Nat → Option Nat} {NR : Nat → Nat} {cv : Int → Int} {on : Nat} {it_t : Nat} {sz_t : Int} {mr_t : Nat} {F_t : Int → Int} {sl : Int} {fl0 : Int} {k_ : Nat} {nb : Nat} {fa : Int} {fp : Int} {sts : Int} (hw_ : cc o G w_ 18 (ab_ob 0 [vR f_ready, vR f_tape, vR f_reader, vR f_programs, vR f_subject, vR f_spans, vR f_threads, vR f_marks, vR f_oneMind, vR f_states, vR f_latest, vR f_matches, vR f_pieces, vR f_template, vR f_result, vR f_spare, vz cmp, vz ovs])) (hf_programs : cc o G f_programs 81 (ab_rr 6 PG)) (h15 : cc o G 15 15 (za 18 zAR)) (h16 : cc o G 16 16 (za 20 zAF)) (hf_tape : cc o G f_tape 22 (ab_ob 7 [vz 2000, vR it_t, vz sz_t])) (hit_t : cc o G it_t 23 (za mr_t F_t)) (prdI_f_reader : rdI o G f_reader nb fa fp) (ppgI_0 : pgI o G 0 PG NR cv cmp on) (pstI_f_states : stI o G f_states cv cmp sts sb) (ptbI_0 : tbI o G 0) (n18 : ab_n0 = 18) (hkq : kq6 sl k_) (cr : -2147483648 ≤ sl ∧ sl ≤ 2147483647 ∧ -2147483648 ≤ fl0 ∧ fl0 ≤ 2147483647) (crw_t : 0 ≤ sz_t ∧ sz_t ≤ ↑mr_t ∧ ↑mr_t ≤ (2000 : Int) ∧ 32 ≤ mr_t) (hbt : bytes F_t sz_t) (hpn : pgN PG NR) (ccm : 0 ≤ cmp ∧ cmp ≤ 10000) (rc : 64 * G.length + 4000000 ≤ 64 * (ab_n0 + room_1.cells) + nb) (rs : ab_slots G + 631000 ≤ room_1.slots + 2 * nb) (rs2 : (↑(ab_slots G) : Int) + 410800 + 100 * sz_t ≤ ↑room_1.slots + 2 * ↑nb + ↑(prS (NR k_))) (hd : 212 ≤ d) : ab_F X d y_PW_compile (.code y_PW_compile b_PW_compile 4 (some (.int))) [vR w_, vz sl, vz fl0] G (fun oc G2 => (∃ o2 : Nat → Nat, ∃ b : Nat, ∃ tz2 : Int, ∃ nb2 : Nat, ∃ fa2 : Int, ∃ fp2 : Int, oc = .threw b ∧ fx o o2 [18, 22, 24, 25, 81, 86, 87, 88, 89, 90, 92, 94, (100 + 10 * k_), ((100 + 10 * k_) + 1), ((100 + 10 * k_) + 2), ((100 + 10 * k_) + 3), ((100 + 10 * k_) + 4), ((100 + 10 * k_) + 5), ((100 + 10 * k_) + 6)] G G2 ∧ cc o2 G2 w_ 18 (ab_ob 0 [vR f_ready, vR f_tape, vR f_reader, vR f_programs, vR f_subject, vR f_spans, vR f_threads, vR f_marks, vR f_oneMind, vR f_states, vR f_latest, vR f_matches, vR f_pieces, vR f_template, vR f_result, vR f_spare, vz cmp, vz ovs]) ∧ cc o2 G2 f_programs 81 (ab_rr 6 PG) ∧ cc o2 G2 f_tape 22 (ab_ob 7 [vz 2000, vR it_t, vz tz2]) ∧ rdI o2 G2 f_reader nb2 fa2 fp2 ∧ pgI o2 G2 0 PG NR cv cmp on ∧ stI o2 G2 f_states cv cmp sts sb ∧ tbI o2 G2 0 ∧ (G2[b]? = some (.inr (13, []))) ∧ (64 * (↑G2.length : Int) + ↑nb + 2 * ↑(sumN prC NR) ≤ 64 * ↑G.length + ↑nb2 + 2 * ↑(sumN prC NR) + 400 * (sz_t - tz2) + 264) ∧ ((↑(ab_slots G2) : Int) + 2 * ↑nb + ↑(sumN prS NR) ≤ ↑(ab_slots G) + 2 * ↑nb2 + ↑(sumN prS NR) + 100 * (sz_t - tz2) + 66) ∧ (0 ≤ tz2 ∧ tz2 ≤ sz_t) ∧ (nb2 ≤ 104000) ∧ (ctF F_t sz_t sl fl0 fa fp tz2 fa2 fp2)) ∨ (∃ o2 : Nat → Nat, ∃ r : Int, ∃ tz2 : Int, ∃ nb2 : Nat, ∃ PG2 : Nat → Option Nat, ∃ NR2 : Nat → Nat, ∃ cv2 : Int → Int, ∃ fa2 : Int, ∃ fp2 : Int, oc = .returned (some (vz r)) ∧ fx o o2 [18, 22, 24, 25, 81, 86, 87, 88, 89, 90, 92, 94, (100 + 10 * k_), ((100 + 10 * k_) + 1), ((100 + 10 * k_) + 2), ((100 + 10 * k_) + 3), ((100 + 10 * k_) + 4), ((100 + 10 * k_) + 5), ((100 + 10 * k_) + 6)] G G2 ∧ cc o2 G2 w_ 18 (ab_ob 0 [vR f_ready, vR f_tape, vR f_reader, vR f_programs, vR f_subject, vR f_spans, vR f_threads, vR f_marks, vR f_oneMind, vR f_states, vR f_latest, vR f_matches, vR f_pieces, vR f_template, vR f_result, vR f_spare, vz (cmp + 1), vz ovs]) ∧ cc o2 G2 f_programs 81 (ab_rr 6 PG2) ∧ cc o2 G2 f_tape 22 (ab_ob 7 [vz 2000, vR it_t, vz tz2]) ∧ rdI o2 G2 f_reader nb2 fa2 fp2 ∧ pgI o2 G2 0 PG2 NR2 cv2 (cmp + 1) on ∧ stI o2 G2 f_states cv2 (cmp + 1) sts sb ∧ tbI o2 G2 0 ∧ (pgN PG2 NR2) ∧ (64 * (↑G2.length : Int) + ↑nb + 2 * ↑(sumN prC NR) ≤ 64 * ↑G.length + ↑nb2 + 2 * ↑(sumN prC NR2) + 400 * (sz_t - tz2) + 264) ∧ ((↑(ab_slots G2) : Int) + 2 * ↑nb + ↑(sumN prS NR) ≤ ↑(ab_slots G) + 2 * ↑nb2 + ↑(sumN prS NR2) + 100 * (sz_t - tz2) + 66) ∧ (0 ≤ tz2 ∧ tz2 ≤ sz_t) ∧ (nb2 ≤ 104000) ∧ (tz2 = 0) ∧ (ctK F_t sz_t sl fl0 r cv2) ∧ (cvS cv cv2 (Int.toNat sl)) ∧ (fa2 = 0 ∧ fp2 = -1) ∧ (0 ≤ r ∧ r ≤ 9) ∧ (pgS PG PG2 (Int.toNat sl)))) := by
  refine ab_F_of (by decide +kernel) (Nat.le_of_ble_eq_true rfl) ?_
  obtain ⟨Q, hQ⟩ : ∃ z : Outcome → ab_G → Prop, z = (fun oc G2 => (∃ o2 : Nat → Nat, ∃ b : Nat, ∃ tz2 : Int, ∃ nb2 : Nat, ∃ fa2 : Int, ∃ fp2 : Int, oc = .threw b ∧ fx o o2 [18, 22, 24, 25, 81, 86, 87, 88, 89, 90, 92, 94, (100 + 10 * k_), ((100 + 10 * k_) + 1), ((100 + 10 * k_) + 2), ((100 + 10 * k_) + 3), ((100 + 10 * k_) + 4), ((100 + 10 * k_) + 5), ((100 + 10 * k_) + 6)] G G2 ∧ cc o2 G2 w_ 18 (ab_ob 0 [vR f_ready, vR f_tape, vR f_reader, vR f_programs, vR f_subject, vR f_spans, vR f_threads, vR f_marks, vR f_oneMind, vR f_states, vR f_latest, vR f_matches, vR f_pieces, vR f_template, vR f_result, vR f_spare, vz cmp, vz ovs]) ∧ cc o2 G2 f_programs 81 (ab_rr 6 PG) ∧ cc o2 G2 f_tape 22 (ab_ob 7 [vz 2000, vR it_t, vz tz2]) ∧ rdI o2 G2 f_reader nb2 fa2 fp2 ∧ pgI o2 G2 0 PG NR cv cmp on ∧ stI o2 G2 f_states cv cmp sts sb ∧ tbI o2 G2 0 ∧ (G2[b]? = some (.inr (13, []))) ∧ (64 * (↑G2.length : Int) + ↑nb + 2 * ↑(sumN prC NR) ≤ 64 * ↑G.length + ↑nb2 + 2 * ↑(sumN prC NR) + 400 * (sz_t - tz2) + 264) ∧ ((↑(ab_slots G2) : Int) + 2 * ↑nb + ↑(sumN prS NR) ≤ ↑(ab_slots G) + 2 * ↑nb2 + ↑(sumN prS NR) + 100 * (sz_t - tz2) + 66) ∧ (0 ≤ tz2 ∧ tz2 ≤ sz_t) ∧ (nb2 ≤ 104000) ∧ (ctF F_t sz_t sl fl0 fa fp tz2 fa2 fp2)) ∨ (∃ o2 : Nat → Nat, ∃ r : Int, ∃ tz2 : Int, ∃ nb2 : Nat, ∃ PG2 : Nat → Option Nat, ∃ NR2 : Nat → Nat, ∃ cv2 : Int → Int, ∃ fa2 : Int, ∃ fp2 : Int, oc = .returned (some (vz r)) ∧ fx o o2 [18, 22, 24, 25, 81, 86, 87, 88, 89, 90, 92, 94, (100 + 10 * k_), ((100 + 10 * k_) + 1), ((100 + 10 * k_) + 2), ((100 + 10 * k_) + 3), ((100 + 10 * k_) + 4), ((100 + 10 * k_) + 5), ((100 + 10 * k_) + 6)] G G2 ∧ cc o2 G2 w_ 18 (ab_ob 0 [vR f_ready, vR f_tape, vR f_reader, vR f_programs, vR f_subject, vR f_spans, vR f_threads, vR f_marks, vR f_oneMind, vR f_states, vR f_latest, vR f_matches, vR f_pieces, vR f_template, vR f_result, vR f_spare, vz (cmp + 1), vz ovs]) ∧ cc o2 G2 f_programs 81 (ab_rr 6 PG2) ∧ cc o2 G2 f_tape 22 (ab_ob 7 [vz 2000, vR it_t, vz tz2]) ∧ rdI o2 G2 f_reader nb2 fa2 fp2 ∧ pgI o2 G2 0 PG2 NR2 cv2 (cmp + 1) on ∧ stI o2 G2 f_states cv2 (cmp + 1) sts sb ∧ tbI o2 G2 0 ∧ (pgN PG2 NR2) ∧ (64 * (↑G2.length : Int) + ↑nb + 2 * ↑(sumN prC NR) ≤ 64 * ↑G.length + ↑nb2 + 2 * ↑(sumN prC NR2) + 400 * (sz_t - tz2) + 264) ∧ ((↑(ab_slots G2) : Int) + 2 * ↑nb + ↑(sumN prS NR) ≤ ↑(ab_slots G) + 2 * ↑nb2 + ↑(sumN prS NR2) + 100 * (sz_t - tz2) + 66) ∧ (0 ≤ tz2 ∧ tz2 ≤ sz_t) ∧ (nb2 ≤ 104000) ∧ (tz2 = 0) ∧ (ctK F_t sz_t sl fl0 r cv2) ∧ (cvS cv cv2 (Int.toNat sl)) ∧ (fa2 = 0 ∧ fp2 = -1) ∧ (0 ≤ r ∧ r ≤ 9) ∧ (pgS PG PG2 (Int.toNat sl)))) := ⟨_, rfl⟩
  rw [← hQ]
  change ab_W X (ab_pl y_PW_compile b_PW_compile 4 (some (.int))) d G 0 [some (vR w_), some (vz sl), some (vz fl0), none] [] Q
  have hfr : fx o o [18, 22, 24, 25, 81, 86, 87, 88, 89, 90, 92, 94, (100 + 10 * k_), ((100 + 10 * k_) + 1), ((100 + 10 * k_) + 2), ((100 + 10 * k_) + 3), ((100 + 10 * k_) + 4), ((100 + 10 * k_) + 5), ((100 + 10 * k_) + 6)] G G := fx.rf
  have hnb0_ := prdI_f_reader.b
  refine ab_iload_n d_PW_compile_0 rfl ?_
  refine zz_if_lt (tgt := 20) d_PW_compile_1 (by decide) (by omega) (fun c1 => ?_) (fun c1 => ?_)
  · refine ab_throw (tx := "no such slot or flags") (by decide) (fun c h => h) cl_PW_109 inst_IA ini_IA tw_PW_113 d_PW_compile_20 d_PW_compile_23 d_PW_compile_24 d_PW_compile_26 d_PW_compile_29 (by omega) (by omega) (by omega) ?_
    obtain ⟨G2, eG2⟩ : ∃ z : ab_G, z = G ++ [.inr (13, [])] := ⟨_, rfl⟩
    obtain ⟨o3, eo3⟩ : ∃ z : Nat → Nat, z = ol o G.length 99 := ⟨_, rfl⟩
    obtain ⟨a4, ea4⟩ : ∃ z : Nat, z = G.length := ⟨_, rfl⟩
    have hq5 := hit_t.n0 (by first | decide | omega)
    have ne_a4_w_ : nq a4 w_ := by have hlt := hw_.lt; unfold nq; omega
    have ne_a4_f_programs : nq a4 f_programs := by have hlt := hf_programs.lt; unfold nq; omega
    have ne_a4_15 : nq a4 15 := by have hlt := h15.lt; unfold nq; omega
    have ne_a4_16 : nq a4 16 := by have hlt := h16.lt; unfold nq; omega
    have ne_a4_f_tape : nq a4 f_tape := by have hlt := hf_tape.lt; unfold nq; omega
    have ne_a4_it_t : nq a4 it_t := by have hlt := hit_t.lt; unfold nq; omega
    have hw_ := hw_.akeep (k := 99) eG2
    rw [← eo3] at hw_
    have hf_programs := hf_programs.akeep (k := 99) eG2
    rw [← eo3] at hf_programs
    have h15 := h15.akeep (k := 99) eG2
    rw [← eo3] at h15
    have h16 := h16.akeep (k := 99) eG2
    rw [← eo3] at h16
    have hf_tape := hf_tape.akeep (k := 99) eG2
    rw [← eo3] at hf_tape
    have hit_t := hit_t.akeep (k := 99) eG2
    rw [← eo3] at hit_t
    have hst := (fx.rf (o := o) (S := []) (G := G)).ap (k := 99) eG2
    rw [← eo3] at hst
    have prdI_f_reader := rdI.fr hst prdI_f_reader (by decide) (by decide) (by decide) (by decide) (by decide) (by decide)
    have ppgI_0 := pgI.fr hst ppgI_0  (by simp)
    have pstI_f_states := stI.fr hst pstI_f_states (by decide) (by decide) (by decide) (by decide) (by decide) (by decide) (by decide) (by decide) (by decide)
    have ptbI_0 := tbI.fr hst ptbI_0  (by simp)
    have ha4 := cc.anew (o := o) 99 eG2 hq5
    rw [← eo3, ← ea4] at ha4
    have hfr := hfr.ap (k := 99) eG2
    rw [← eo3] at hfr
    have hq6 := z_alen eG2
    have hq7 : ab_slots G2 = ab_slots G + 6 := z_asl eG2 hq5
    rw [← ea4, ← eG2]
    rw [hQ]; exact (Or.inl ⟨_, _, _, _, _, _, rfl, hfr, hw_, hf_programs, hf_tape, prdI_f_reader, ppgI_0, pstI_f_states, ptbI_0, (by exact ha4.2.2), (by omega), (by omega), (by omega), (by exact prdI_f_reader.b), (by exact Or.inl ⟨by omega, rfl, rfl, rfl⟩)⟩)
  · refine ab_iload_n d_PW_compile_4 rfl ?_
    refine zz_bipush d_PW_compile_5 (by decide) ?_
    refine zz_icmp_ge (tgt := 20) d_PW_compile_7 (by decide) (by omega) (by decide) (fun c8 => ?_) (fun c8 => ?_)
    · refine ab_throw (tx := "no such slot or flags") (by decide) (fun c h => h) cl_PW_109 inst_IA ini_IA tw_PW_113 d_PW_compile_20 d_PW_compile_23 d_PW_compile_24 d_PW_compile_26 d_PW_compile_29 (by omega) (by omega) (by omega) ?_
      obtain ⟨G9, eG9⟩ : ∃ z : ab_G, z = G ++ [.inr (13, [])] := ⟨_, rfl⟩
      obtain ⟨o10, eo10⟩ : ∃ z : Nat → Nat, z = ol o G.length 99 := ⟨_, rfl⟩
      obtain ⟨a11, ea11⟩ : ∃ z : Nat, z = G.length := ⟨_, rfl⟩
      have hq12 := hit_t.n0 (by first | decide | omega)
      have ne_a11_w_ : nq a11 w_ := by have hlt := hw_.lt; unfold nq; omega
      have ne_a11_f_programs : nq a11 f_programs := by have hlt := hf_programs.lt; unfold nq; omega
      have ne_a11_15 : nq a11 15 := by have hlt := h15.lt; unfold nq; omega
      have ne_a11_16 : nq a11 16 := by have hlt := h16.lt; unfold nq; omega
      have ne_a11_f_tape : nq a11 f_tape := by have hlt := hf_tape.lt; unfold nq; omega
      have ne_a11_it_t : nq a11 it_t := by have hlt := hit_t.lt; unfold nq; omega
      have hw_ := hw_.akeep (k := 99) eG9
      rw [← eo10] at hw_
      have hf_programs := hf_programs.akeep (k := 99) eG9
      rw [← eo10] at hf_programs
      have h15 := h15.akeep (k := 99) eG9
      rw [← eo10] at h15
      have h16 := h16.akeep (k := 99) eG9
      rw [← eo10] at h16
      have hf_tape := hf_tape.akeep (k := 99) eG9
      rw [← eo10] at hf_tape
      have hit_t := hit_t.akeep (k := 99) eG9
      rw [← eo10] at hit_t
      have hst := (fx.rf (o := o) (S := []) (G := G)).ap (k := 99) eG9
      rw [← eo10] at hst
      have prdI_f_reader := rdI.fr hst prdI_f_reader (by decide) (by decide) (by decide) (by decide) (by decide) (by decide)
      have ppgI_0 := pgI.fr hst ppgI_0  (by simp)
      have pstI_f_states := stI.fr hst pstI_f_states (by decide) (by decide) (by decide) (by decide) (by decide) (by decide) (by decide) (by decide) (by decide)
      have ptbI_0 := tbI.fr hst ptbI_0  (by simp)
      have ha11 := cc.anew (o := o) 99 eG9 hq12
      rw [← eo10, ← ea11] at ha11
      have hfr := hfr.ap (k := 99) eG9
      rw [← eo10] at hfr
      have hq13 := z_alen eG9
      have hq14 : ab_slots G9 = ab_slots G + 6 := z_asl eG9 hq12
      rw [← ea11, ← eG9]
      rw [hQ]; exact (Or.inl ⟨_, _, _, _, _, _, rfl, hfr, hw_, hf_programs, hf_tape, prdI_f_reader, ppgI_0, pstI_f_states, ptbI_0, (by exact ha11.2.2), (by omega), (by omega), (by omega), (by exact prdI_f_reader.b), (by exact Or.inl ⟨by omega, rfl, rfl, rfl⟩)⟩)
    · refine ab_iload_n d_PW_compile_10 rfl ?_
      refine zz_if_lt (tgt := 20) d_PW_compile_11 (by decide) (by omega) (fun c15 => ?_) (fun c15 => ?_)
      · refine ab_throw (tx := "no such slot or flags") (by decide) (fun c h => h) cl_PW_109 inst_IA ini_IA tw_PW_113 d_PW_compile_20 d_PW_compile_23 d_PW_compile_24 d_PW_compile_26 d_PW_compile_29 (by omega) (by omega) (by omega) ?_
        obtain ⟨G16, eG16⟩ : ∃ z : ab_G, z = G ++ [.inr (13, [])] := ⟨_, rfl⟩
        obtain ⟨o17, eo17⟩ : ∃ z : Nat → Nat, z = ol o G.length 99 := ⟨_, rfl⟩
        obtain ⟨a18, ea18⟩ : ∃ z : Nat, z = G.length := ⟨_, rfl⟩
        have hq19 := hit_t.n0 (by first | decide | omega)
        have ne_a18_w_ : nq a18 w_ := by have hlt := hw_.lt; unfold nq; omega
        have ne_a18_f_programs : nq a18 f_programs := by have hlt := hf_programs.lt; unfold nq; omega
        have ne_a18_15 : nq a18 15 := by have hlt := h15.lt; unfold nq; omega
        have ne_a18_16 : nq a18 16 := by have hlt := h16.lt; unfold nq; omega
        have ne_a18_f_tape : nq a18 f_tape := by have hlt := hf_tape.lt; unfold nq; omega
        have ne_a18_it_t : nq a18 it_t := by have hlt := hit_t.lt; unfold nq; omega
        have hw_ := hw_.akeep (k := 99) eG16
        rw [← eo17] at hw_
        have hf_programs := hf_programs.akeep (k := 99) eG16
        rw [← eo17] at hf_programs
        have h15 := h15.akeep (k := 99) eG16
        rw [← eo17] at h15
        have h16 := h16.akeep (k := 99) eG16
        rw [← eo17] at h16
        have hf_tape := hf_tape.akeep (k := 99) eG16
        rw [← eo17] at hf_tape
        have hit_t := hit_t.akeep (k := 99) eG16
        rw [← eo17] at hit_t
        have hst := (fx.rf (o := o) (S := []) (G := G)).ap (k := 99) eG16
        rw [← eo17] at hst
        have prdI_f_reader := rdI.fr hst prdI_f_reader (by decide) (by decide) (by decide) (by decide) (by decide) (by decide)
        have ppgI_0 := pgI.fr hst ppgI_0  (by simp)
        have pstI_f_states := stI.fr hst pstI_f_states (by decide) (by decide) (by decide) (by decide) (by decide) (by decide) (by decide) (by decide) (by decide)
        have ptbI_0 := tbI.fr hst ptbI_0  (by simp)
        have ha18 := cc.anew (o := o) 99 eG16 hq19
        rw [← eo17, ← ea18] at ha18
        have hfr := hfr.ap (k := 99) eG16
        rw [← eo17] at hfr
        have hq20 := z_alen eG16
        have hq21 : ab_slots G16 = ab_slots G + 6 := z_asl eG16 hq19
        rw [← ea18, ← eG16]
        rw [hQ]; exact (Or.inl ⟨_, _, _, _, _, _, rfl, hfr, hw_, hf_programs, hf_tape, prdI_f_reader, ppgI_0, pstI_f_states, ptbI_0, (by exact ha18.2.2), (by omega), (by omega), (by omega), (by exact prdI_f_reader.b), (by exact Or.inl ⟨by omega, rfl, rfl, rfl⟩)⟩)
      · refine ab_iload_n d_PW_compile_14 rfl ?_
        refine zz_bipush d_PW_compile_15 (by decide) ?_
        refine zz_icmp_le (tgt := 30) d_PW_compile_17 (by decide) (by omega) (by decide) (fun c22 => ?_) (fun c22 => ?_)
        · have hk_ := hkq.2 (by omega) (by omega)
          have hk6_ := hkq.1
          obtain ⟨x_r, se_r, by0_r, n9_r, pl_r, kd_r, kn_r, inn_r, dp_r, flg_r, grp_r, rna_r, rnl_r, lst_r, mst_r, bh_r, RNA_r, RNL_r, ct_r, P_r, hf_reader, hx_r, hrna_r, hrnl_r, pcsI_se_r, ckd_r, hnb_r⟩ := prdI_f_reader
          refine ab_aload_n d_PW_compile_30 rfl ?_
          refine ab_getf (fs := [vR f_ready, vR f_tape, vR f_reader, vR f_programs, vR f_subject, vR f_spans, vR f_threads, vR f_marks, vR f_oneMind, vR f_states, vR f_latest, vR f_matches, vR f_pieces, vR f_template, vR f_result, vR f_spare, vz cmp, vz ovs]) f_PW_25 d_PW_compile_31 hw_.2.2 rfl ?_
          refine ab_aload_n d_PW_compile_34 rfl ?_
          refine ab_getf (fs := [vR f_ready, vR f_tape, vR f_reader, vR f_programs, vR f_subject, vR f_spans, vR f_threads, vR f_marks, vR f_oneMind, vR f_states, vR f_latest, vR f_matches, vR f_pieces, vR f_template, vR f_result, vR f_spare, vz cmp, vz ovs]) f_PW_18 d_PW_compile_35 hw_.2.2 rfl ?_
          refine ab_iload_n d_PW_compile_38 rfl ?_
          refine ab_callV (d' := d - 1) (as := [vR f_tape, vz fl0]) (st := []) (r := _) (z_RD_read (o := o) (d_ := f_reader) (inn := inn_r) (dp := dp_r) (flg := flg_r) (grp := grp_r) (na := rna_r) (nl := rnl_r) (lst := lst_r) (mst := mst_r) (bh := bh_r) (NA := RNA_r) (NL := RNL_r) (x := x_r) (se := se_r) (by0 := by0_r) (n9 := n9_r) (pl := pl_r) (fa := fa) (fp := fp) (kd := kd_r) (kn := kn_r) (nb := nb) (cnt := ct_r) (P := P_r) (t := f_tape) (lim := 2000) (by_ := it_t) (n := sz_t) (m := mr_t) (f := F_t) (fl0 := fl0) hf_reader hx_r hf_tape hit_t hrna_r hrnl_r h15 h16 pcsI_se_r ptbI_0 (by omega) (by omega) hbt (by omega) (by omega) (by omega) (by omega) (by omega) (by omega)) (fun oc G2 h => by rcases h with ⟨_, _, _, _, _, _, _, _, _, _, _, _, _, _, _, _, _, _, h, _⟩ | ⟨_, _, _, _, _, _, _, _, _, _, _, _, _, _, _, _, _, _, _, _, _, _, _, _, _, _, _, h, _⟩ <;> exact ⟨_, h⟩) (by omega) m_RD_read ml_PW_116 im_RD_read se_RD_read c_RD hf_reader.2.2 (Nat.le_of_ble_eq_true rfl) d_PW_compile_39 rfl ?_
          intro v G23 hq
          rcases hq with ⟨o24, inn225, dp226, flg227, grp228, NA229, NL230, lst231, mst232, bh233, p234, fa235, fp236, kd237, kn238, nb239, c240, P241, hv, hfk, hNf_reader, hNx_r, hNrna_r, hNrnl_r, pNcsI_se_r, hq42, hq43, hq44, hq45, hq46, hq47, hq48⟩ | ⟨o49, p50, inn251, dp252, flg253, grp254, NA255, NL256, lst257, mst258, bh259, p260, fa261, fp262, kd263, kn264, nb265, c266, P267, ps268, wt269, bs270, ph271, sz272, cu273, cs274, v275, hv, hfk, hNf_reader, hNx_r, hNrna_r, hNrnl_r, pNcsI_se_r, pNpaI_0, pNszF_0, pNdnF_0, hq76, hq77, hq78, hq79, hq80, hq81, hq82, hq83, hq84, hq85, hq86, hq87, hq88, hq89⟩
          · cases hv
            have hw_ := hfk.get hw_ (by decide)
            have hf_programs := hfk.get hf_programs (by decide)
            have h15 := hfk.get h15 (by decide)
            have h16 := hfk.get h16 (by decide)
            have hf_tape := hfk.get hf_tape (by decide)
            have hit_t := hfk.get hit_t (by decide)
            have ppgI_0 := pgI.fr hfk ppgI_0  (by decide)
            have pstI_f_states := stI.fr hfk pstI_f_states (by decide) (by decide) (by decide) (by decide) (by decide) (by decide) (by decide) (by decide) (by decide)
            have ptbI_0 := tbI.fr hfk ptbI_0  (by decide)
            have pcsI_se_r := pNcsI_se_r
            have hfr := hfr.tr hfk (by simp)
            have hq90 := hfk.1
            have hf_reader := hNf_reader
            have hx_r := hNx_r
            have hrna_r := hNrna_r
            have hrnl_r := hNrnl_r
            change ab_W _ _ _ G23 42 [some (vR w_), some (vz sl), some (vz fl0), none] [vN] _
            refine ab_astore_nN d_PW_compile_42 (Nat.le_of_ble_eq_true rfl) (Nat.le_of_ble_eq_true rfl) rfl ?_
            change ab_W _ _ _ G23 43 [some (vR w_), some (vz sl), some (vz fl0), some (vN)] [] _
            refine ab_aload_n d_PW_compile_43 rfl ?_
            refine ab_getf (fs := [vR f_ready, vR f_tape, vR f_reader, vR f_programs, vR f_subject, vR f_spans, vR f_threads, vR f_marks, vR f_oneMind, vR f_states, vR f_latest, vR f_matches, vR f_pieces, vR f_template, vR f_result, vR f_spare, vz cmp, vz ovs]) f_PW_18 d_PW_compile_44 hw_.2.2 rfl ?_
            refine ab_callV (d' := d - 1) (as := []) (st := []) (r := _) (z_RW_clear (o := o24) (r := f_tape) (b := it_t) (lr := 22) (lim := 2000) (sz := sz_t) hf_tape (by have h18 : ab_n0 = 18 := rfl; omega)) (fun oc G2 h => by rcases h with ⟨h, _⟩ <;> exact ⟨_, h⟩) (by omega) m_RW_clear ml_PW_120 im_RW_clear se_RW_clear c_RW hf_tape.2.2 (Nat.le_of_ble_eq_true rfl) d_PW_compile_47 rfl ?_
            intro v G92 hq
            rcases hq with ⟨hv, hfk, hlk, hsk, hNf_tape⟩
            cases hv
            have hw_ := hfk.get hw_ (by decide)
            have hf_programs := hfk.get hf_programs (by decide)
            have h15 := hfk.get h15 (by decide)
            have h16 := hfk.get h16 (by decide)
            have hit_t := hfk.get hit_t (by decide)
            have hf_reader := hfk.get hf_reader (by decide)
            have hx_r := hfk.get hx_r (by decide)
            have hrna_r := hfk.get hrna_r (by decide)
            have hrnl_r := hfk.get hrnl_r (by decide)
            have ppgI_0 := pgI.fr hfk ppgI_0  (by decide)
            have pstI_f_states := stI.fr hfk pstI_f_states (by decide) (by decide) (by decide) (by decide) (by decide) (by decide) (by decide) (by decide) (by decide)
            have ptbI_0 := tbI.fr hfk ptbI_0  (by decide)
            have pcsI_se_r := csI.fr hfk pcsI_se_r (by decide) (by decide)
            have hfr := hfr.tr hfk (by simp)
            have hq93 := hlk
            have hq94 := hsk
            have hf_tape := hNf_tape
            change ab_W _ _ _ G92 50 [some (vR w_), some (vz sl), some (vz fl0), some (vN)] [] _
            refine ab_aload_nN d_PW_compile_50 rfl ?_
            refine ab_ifnonnullN d_PW_compile_51 ?_
            have prdI_f_reader : rdI o24 G92 f_reader nb239 fa235 fp236 := ⟨x_r, se_r, it_t, sz_t, p234, kd237, kn238, inn225, dp226, flg227, grp228, rna_r, rnl_r, lst231, mst232, bh233, NA229, NL230, c240, P241, hf_reader, hx_r, hrna_r, hrnl_r, pcsI_se_r, (by omega), (by omega)⟩
            refine ab_throw (tx := "a fault in the pattern") (by decide) (fun c h => h) cl_PW_109 inst_IA ini_IA tw_PW_113 d_PW_compile_54 d_PW_compile_57 d_PW_compile_58 d_PW_compile_60 d_PW_compile_63 (by omega) (by omega) (by omega) ?_
            obtain ⟨G95, eG95⟩ : ∃ z : ab_G, z = G92 ++ [.inr (13, [])] := ⟨_, rfl⟩
            obtain ⟨o96, eo96⟩ : ∃ z : Nat → Nat, z = ol o24 G92.length 99 := ⟨_, rfl⟩
            obtain ⟨a97, ea97⟩ : ∃ z : Nat, z = G92.length := ⟨_, rfl⟩
            have hq98 := hit_t.n0 (by first | decide | omega)
            have ne_a97_w_ : nq a97 w_ := by have hlt := hw_.lt; unfold nq; omega
            have ne_a97_f_programs : nq a97 f_programs := by have hlt := hf_programs.lt; unfold nq; omega
            have ne_a97_15 : nq a97 15 := by have hlt := h15.lt; unfold nq; omega
            have ne_a97_16 : nq a97 16 := by have hlt := h16.lt; unfold nq; omega
            have ne_a97_f_tape : nq a97 f_tape := by have hlt := hf_tape.lt; unfold nq; omega
            have ne_a97_it_t : nq a97 it_t := by have hlt := hit_t.lt; unfold nq; omega
            have hw_ := hw_.akeep (k := 99) eG95
            rw [← eo96] at hw_
            have hf_programs := hf_programs.akeep (k := 99) eG95
            rw [← eo96] at hf_programs
            have h15 := h15.akeep (k := 99) eG95
            rw [← eo96] at h15
            have h16 := h16.akeep (k := 99) eG95
            rw [← eo96] at h16
            have hf_tape := hf_tape.akeep (k := 99) eG95
            rw [← eo96] at hf_tape
            have hit_t := hit_t.akeep (k := 99) eG95
            rw [← eo96] at hit_t
            have hst := (fx.rf (o := o24) (S := []) (G := G92)).ap (k := 99) eG95
            rw [← eo96] at hst
            have ppgI_0 := pgI.fr hst ppgI_0  (by simp)
            have pstI_f_states := stI.fr hst pstI_f_states (by decide) (by decide) (by decide) (by decide) (by decide) (by decide) (by decide) (by decide) (by decide)
            have ptbI_0 := tbI.fr hst ptbI_0  (by simp)
            have prdI_f_reader := rdI.fr hst prdI_f_reader (by decide) (by decide) (by decide) (by decide) (by decide) (by decide)
            have ha97 := cc.anew (o := o24) 99 eG95 hq98
            rw [← eo96, ← ea97] at ha97
            have hfr := hfr.ap (k := 99) eG95
            rw [← eo96] at hfr
            have hq99 := z_alen eG95
            have hq100 : ab_slots G95 = ab_slots G92 + 6 := z_asl eG95 hq98
            rw [← ea97, ← eG95]
            rw [hQ]; exact (Or.inl ⟨_, _, _, _, _, _, rfl, hfr, hw_, hf_programs, hf_tape, prdI_f_reader, ppgI_0, pstI_f_states, ptbI_0, (by exact ha97.2.2), (by omega), (by omega), (by omega), (by exact prdI_f_reader.b), (by exact Or.inr ⟨by omega, rfl, hq48⟩)⟩)
          · cases hv
            have hw_ := hfk.get hw_ (by decide)
            have hf_programs := hfk.get hf_programs (by decide)
            have h15 := hfk.get h15 (by decide)
            have h16 := hfk.get h16 (by decide)
            have hf_tape := hfk.get hf_tape (by decide)
            have hit_t := hfk.get hit_t (by decide)
            have ppgI_0 := pgI.fr hfk ppgI_0  (by decide)
            have pstI_f_states := stI.fr hfk pstI_f_states (by decide) (by decide) (by decide) (by decide) (by decide) (by decide) (by decide) (by decide) (by decide)
            have ptbI_0 := tbI.fr hfk ptbI_0  (by decide)
            have pcsI_se_r := pNcsI_se_r
            have ppaI_0 := pNpaI_0
            have pszF_0 := pNszF_0
            have pdnF_0 := pNdnF_0
            have hfr := hfr.tr hfk (by simp)
            have hq91 := hfk.1
            have hf_reader := hNf_reader
            have hx_r := hNx_r
            have hrna_r := hNrna_r
            have hrnl_r := hNrnl_r
            change ab_W _ _ _ G23 42 [some (vR w_), some (vz sl), some (vz fl0), none] [vR p50] _
            have hph0 : 0 ≤ ph271 := by have t := ppaI_0.2.2.1; omega
            obtain ⟨k_101, v_101, rg_101, pl_101, fl_101, ou_101, ls_101, bf_101, sz_101, mb_101, oe_101, le_101, mo_101, la_101, rc_101, hp50, hn101, hb101, hg101, ho101, hl101, hf101⟩ := ppaI_0.1 p50 hq86
            have hB101 := hb101
            unfold pnB at hB101
            have hK101 := hn101.1
            have hvz_ : sz_101 = sz272 := vzi_inj (by have t := hq88; unfold pf at t; rw [hp50.2.2] at t; exact Option.some.inj t) (by omega) (by omega)
            refine ab_astore_n d_PW_compile_42 (Nat.le_of_ble_eq_true rfl) (Nat.le_of_ble_eq_true rfl) rfl ?_
            change ab_W _ _ _ G23 43 [some (vR w_), some (vz sl), some (vz fl0), some (vR p50)] [] _
            refine ab_aload_n d_PW_compile_43 rfl ?_
            refine ab_getf (fs := [vR f_ready, vR f_tape, vR f_reader, vR f_programs, vR f_subject, vR f_spans, vR f_threads, vR f_marks, vR f_oneMind, vR f_states, vR f_latest, vR f_matches, vR f_pieces, vR f_template, vR f_result, vR f_spare, vz cmp, vz ovs]) f_PW_18 d_PW_compile_44 hw_.2.2 rfl ?_
            refine ab_callV (d' := d - 1) (as := []) (st := []) (r := _) (z_RW_clear (o := o49) (r := f_tape) (b := it_t) (lr := 22) (lim := 2000) (sz := sz_t) hf_tape (by have h18 : ab_n0 = 18 := rfl; omega)) (fun oc G2 h => by rcases h with ⟨h, _⟩ <;> exact ⟨_, h⟩) (by omega) m_RW_clear ml_PW_120 im_RW_clear se_RW_clear c_RW hf_tape.2.2 (Nat.le_of_ble_eq_true rfl) d_PW_compile_47 rfl ?_
            intro v G102 hq
            rcases hq with ⟨hv, hfk, hlk, hsk, hNf_tape⟩
            cases hv
            have hw_ := hfk.get hw_ (by decide)
            have hf_programs := hfk.get hf_programs (by decide)
            have h15 := hfk.get h15 (by decide)
            have h16 := hfk.get h16 (by decide)
            have hit_t := hfk.get hit_t (by decide)
            have hf_reader := hfk.get hf_reader (by decide)
            have hx_r := hfk.get hx_r (by decide)
            have hrna_r := hfk.get hrna_r (by decide)
            have hrnl_r := hfk.get hrnl_r (by decide)
            have hp50 := hfk.get hp50 (by decide)
            have ppgI_0 := pgI.fr hfk ppgI_0  (by decide)
            have pstI_f_states := stI.fr hfk pstI_f_states (by decide) (by decide) (by decide) (by decide) (by decide) (by decide) (by decide) (by decide) (by decide)
            have ptbI_0 := tbI.fr hfk ptbI_0  (by decide)
            have pcsI_se_r := csI.fr hfk pcsI_se_r (by decide) (by decide)
            have pszF_0 := szF.fr hfk ppaI_0 pszF_0 (by decide) (by decide)
            have pdnF_0 := dnF.fr hfk ppaI_0 pdnF_0 (by decide) (by decide)
            have ppaI_0 := paI.fr hfk ppaI_0 (by decide) (by decide) (by decide) (by decide)
            have hfr := hfr.tr hfk (by simp)
            have hq103 := hlk
            have hq104 := hsk
            have hf_tape := hNf_tape
            change ab_W _ _ _ G102 50 [some (vR w_), some (vz sl), some (vz fl0), some (vR p50)] [] _
            refine ab_aload_n d_PW_compile_50 rfl ?_
            refine ab_ifnonnull (tgt := 64) d_PW_compile_51 (by decide) ?_
            refine ab_aload_n d_PW_compile_64 rfl ?_
            refine ab_getf (fs := [vR f_ready, vR f_tape, vR f_reader, vR f_programs, vR f_subject, vR f_spans, vR f_threads, vR f_marks, vR f_oneMind, vR f_states, vR f_latest, vR f_matches, vR f_pieces, vR f_template, vR f_result, vR f_spare, vz cmp, vz ovs]) f_PW_31 d_PW_compile_65 hw_.2.2 rfl ?_
            refine ab_iload_n d_PW_compile_68 rfl ?_
            refine zz_aald d_PW_compile_69 hf_programs (by omega) (fun hr105 => ?_) (fun b106 hr105 => ?_)
            · change ab_W _ _ _ G102 70 [some (vR w_), some (vz sl), some (vz fl0), some (vR p50)] [vN] _
              refine ab_ifnonnullN d_PW_compile_70 ?_
              have hnb_ := pcsI_se_r.ok
              have hnb2_ : nb265 ≤ 104000 := by omega
              clear hnb_
              rw [← hk_] at hr105
              have ppgX_0 := ppgI_0.none hr105
              have hnr0 := hpn k_ (by omega) hr105
              have hprS0 : prS (NR k_) = 0 := if_pos hnr0
              have hprC0 : prC (NR k_) = 0 := if_pos hnr0
              refine ab_aload_n d_PW_compile_73 rfl ?_
              refine ab_getf (fs := [vR f_ready, vR f_tape, vR f_reader, vR f_programs, vR f_subject, vR f_spans, vR f_threads, vR f_marks, vR f_oneMind, vR f_states, vR f_latest, vR f_matches, vR f_pieces, vR f_template, vR f_result, vR f_spare, vz cmp, vz ovs]) f_PW_31 d_PW_compile_74 hw_.2.2 rfl ?_
              refine ab_iload_n d_PW_compile_77 rfl ?_
              refine ab_new (fs := [vN, vN, vN, vz 0, vz 0, vz 0, vN, vz 0, vz 0, vz 0, vz 0, vz 0, vz 0, vz 0, vN, vN]) k_PR rfl cl_PW_29 inst_PR ini_PR d_PW_compile_78 (by decide) (fun _ => rfl) (by omega) (by omega) ?_
              obtain ⟨G107, eG107⟩ : ∃ z : ab_G, z = G102 ++ [ab_ob 5 [vN, vN, vN, vz 0, vz 0, vz 0, vN, vz 0, vz 0, vz 0, vz 0, vz 0, vz 0, vz 0, vN, vN]] := ⟨_, rfl⟩
              obtain ⟨o108, eo108⟩ : ∃ z : Nat → Nat, z = ol o49 G102.length (100 + 10 * k_) := ⟨_, rfl⟩
              obtain ⟨a109, ea109⟩ : ∃ z : Nat, z = G102.length := ⟨_, rfl⟩
              have hq110 := hp50.n0 (by first | decide | omega)
              have ne_a109_w_ : nq a109 w_ := by have hlt := hw_.lt; unfold nq; omega
              have ne_a109_f_programs : nq a109 f_programs := by have hlt := hf_programs.lt; unfold nq; omega
              have ne_a109_15 : nq a109 15 := by have hlt := h15.lt; unfold nq; omega
              have ne_a109_16 : nq a109 16 := by have hlt := h16.lt; unfold nq; omega
              have ne_a109_f_tape : nq a109 f_tape := by have hlt := hf_tape.lt; unfold nq; omega
              have ne_a109_it_t : nq a109 it_t := by have hlt := hit_t.lt; unfold nq; omega
              have ne_a109_f_reader : nq a109 f_reader := by have hlt := hf_reader.lt; unfold nq; omega
              have ne_a109_x_r : nq a109 x_r := by have hlt := hx_r.lt; unfold nq; omega
              have ne_a109_rna_r : nq a109 rna_r := by have hlt := hrna_r.lt; unfold nq; omega
              have ne_a109_rnl_r : nq a109 rnl_r := by have hlt := hrnl_r.lt; unfold nq; omega
              have ne_a109_p50 : nq a109 p50 := by have hlt := hp50.lt; unfold nq; omega
              have hw_ := hw_.akeep (k := (100 + 10 * k_)) eG107
              rw [← eo108] at hw_
              have hf_programs := hf_programs.akeep (k := (100 + 10 * k_)) eG107
              rw [← eo108] at hf_programs
              have h15 := h15.akeep (k := (100 + 10 * k_)) eG107
              rw [← eo108] at h15
              have h16 := h16.akeep (k := (100 + 10 * k_)) eG107
              rw [← eo108] at h16
              have hf_tape := hf_tape.akeep (k := (100 + 10 * k_)) eG107
              rw [← eo108] at hf_tape
              have hit_t := hit_t.akeep (k := (100 + 10 * k_)) eG107
              rw [← eo108] at hit_t
              have hf_reader := hf_reader.akeep (k := (100 + 10 * k_)) eG107
              rw [← eo108] at hf_reader
              have hx_r := hx_r.akeep (k := (100 + 10 * k_)) eG107
              rw [← eo108] at hx_r
              have hrna_r := hrna_r.akeep (k := (100 + 10 * k_)) eG107
              rw [← eo108] at hrna_r
              have hrnl_r := hrnl_r.akeep (k := (100 + 10 * k_)) eG107
              rw [← eo108] at hrnl_r
              have hp50 := hp50.akeep (k := (100 + 10 * k_)) eG107
              rw [← eo108] at hp50
              have hst := (fx.rf (o := o49) (S := []) (G := G102)).ap (k := (100 + 10 * k_)) eG107
              rw [← eo108] at hst
              have pstI_f_states := stI.fr hst pstI_f_states (by decide) (by decide) (by decide) (by decide) (by decide) (by decide) (by decide) (by decide) (by decide)
              have ptbI_0 := tbI.fr hst ptbI_0  (by simp)
              have pcsI_se_r := csI.fr hst pcsI_se_r (by decide) (by decide)
              have pszF_0 := szF.fr hst ppaI_0 pszF_0 (by decide) (by decide)
              have pdnF_0 := dnF.fr hst ppaI_0 pdnF_0 (by decide) (by decide)
              have ppgX_0 := pgX.fr hst ppgX_0  (by simp)
              have ppaI_0 := paI.fr hst ppaI_0 (by decide) (by decide) (by decide) (by simp)
              have ha109 := cc.anew (o := o49) (100 + 10 * k_) eG107 hq110
              rw [← eo108, ← ea109] at ha109
              have hfr := hfr.ap (k := (100 + 10 * k_)) eG107
              rw [← eo108] at hfr
              have hq111 := z_alen eG107
              have hq112 : ab_slots G107 = ab_slots G102 + 16 := z_asl eG107 hq110
              change ab_W _ _ _ (G102 ++ [ab_ob 5 [vN, vN, vN, vz 0, vz 0, vz 0, vN, vz 0, vz 0, vz 0, vz 0, vz 0, vz 0, vz 0, vN, vN]]) 81 [some (vR w_), some (vz sl), some (vz fl0), some (vR p50)] [.ref G102.length, vz sl, vR f_programs] _
              rw [← eG107, ← ea109]
              change ab_W _ _ _ G107 81 [some (vR w_), some (vz sl), some (vz fl0), some (vR p50)] [vR a109, vz sl, vR f_programs] _
              refine ab_dup d_PW_compile_81 rfl ?_
              refine ab_callI (d' := d - 1) (as := []) (st := [vR a109, vz sl, vR f_programs]) (z_PR_init (o := o108) (q := a109) (lq := (100 + 10 * k_)) ha109 (by omega) (by omega) (by omega) (by omega) (by omega)) (fun oc G2 h => by rcases h with ⟨_, _, _, _, _, _, _, h, _⟩ <;> exact ⟨_, h⟩) (by omega) m_PR_init ml_PW_125 im_PR_init rfl (Nat.le_of_ble_eq_true rfl) d_PW_compile_82 rfl ?_
              intro v G113 hq
              rcases hq with ⟨o114, ki115, ne116, ot117, ra118, na119, nl120, hv, hfk, hNa109, hNki115, hNne116, hNot117, hNra118, hNna119, hNnl120, hq121, hq122⟩
              cases hv
              have hw_ := hfk.get hw_ (by simp only [List.mem_cons, List.not_mem_nil, or_false]; omega)
              have hf_programs := hfk.get hf_programs (by simp only [List.mem_cons, List.not_mem_nil, or_false]; omega)
              have h15 := hfk.get h15 (by simp only [List.mem_cons, List.not_mem_nil, or_false]; omega)
              have h16 := hfk.get h16 (by simp only [List.mem_cons, List.not_mem_nil, or_false]; omega)
              have hf_tape := hfk.get hf_tape (by simp only [List.mem_cons, List.not_mem_nil, or_false]; omega)
              have hit_t := hfk.get hit_t (by simp only [List.mem_cons, List.not_mem_nil, or_false]; omega)
              have hf_reader := hfk.get hf_reader (by simp only [List.mem_cons, List.not_mem_nil, or_false]; omega)
              have hx_r := hfk.get hx_r (by simp only [List.mem_cons, List.not_mem_nil, or_false]; omega)
              have hrna_r := hfk.get hrna_r (by simp only [List.mem_cons, List.not_mem_nil, or_false]; omega)
              have hrnl_r := hfk.get hrnl_r (by simp only [List.mem_cons, List.not_mem_nil, or_false]; omega)
              have hp50 := hfk.get hp50 (by simp only [List.mem_cons, List.not_mem_nil, or_false]; omega)
              have pstI_f_states := stI.fr hfk pstI_f_states (by simp only [List.mem_cons, List.not_mem_nil, or_false]; omega) (by simp only [List.mem_cons, List.not_mem_nil, or_false]; omega) (by simp only [List.mem_cons, List.not_mem_nil, or_false]; omega) (by simp only [List.mem_cons, List.not_mem_nil, or_false]; omega) (by simp only [List.mem_cons, List.not_mem_nil, or_false]; omega) (by simp only [List.mem_cons, List.not_mem_nil, or_false]; omega) (by simp only [List.mem_cons, List.not_mem_nil, or_false]; omega) (by simp only [List.mem_cons, List.not_mem_nil, or_false]; omega) (by simp only [List.mem_cons, List.not_mem_nil, or_false]; omega)
              have ptbI_0 := tbI.fr hfk ptbI_0  (by intro xx hx; simp only [List.mem_cons, List.not_mem_nil, or_false] at hx; omega)
              have pcsI_se_r := csI.fr hfk pcsI_se_r (by simp only [List.mem_cons, List.not_mem_nil, or_false]; omega) (by simp only [List.mem_cons, List.not_mem_nil, or_false]; omega)
              have pszF_0 := szF.fr hfk ppaI_0 pszF_0 (by simp only [List.mem_cons, List.not_mem_nil, or_false]; omega) (by simp only [List.mem_cons, List.not_mem_nil, or_false]; omega)
              have pdnF_0 := dnF.fr hfk ppaI_0 pdnF_0 (by simp only [List.mem_cons, List.not_mem_nil, or_false]; omega) (by simp only [List.mem_cons, List.not_mem_nil, or_false]; omega)
              have ppgX_0 := pgX.fr hfk ppgX_0  (by intro xx hx; simp only [List.mem_cons, List.not_mem_nil, or_false] at hx; omega)
              have ppaI_0 := paI.fr hfk ppaI_0 (by simp only [List.mem_cons, List.not_mem_nil, or_false]; omega) (by simp only [List.mem_cons, List.not_mem_nil, or_false]; omega) (by simp only [List.mem_cons, List.not_mem_nil, or_false]; omega) (by intro xx hx; simp only [List.mem_cons, List.not_mem_nil, or_false] at hx; omega)
              have hfr := hfr.tr hfk (by simp)
              have hq123 := hfk.1
              have ha109 := hNa109
              have hki115 := hNki115
              have hne116 := hNne116
              have hot117 := hNot117
              have hra118 := hNra118
              have hna119 := hNna119
              have hnl120 := hNnl120
              change ab_W _ _ _ G113 85 [some (vR w_), some (vz sl), some (vz fl0), some (vR p50)] [vR a109, vz sl, vR f_programs] _
              refine zz_aast d_PW_compile_85 hf_programs ha109.2.2 (by omega) (hf_programs.2.1 (by decide)) ?_
              obtain ⟨G124, eG124⟩ : ∃ z : ab_G, z = List.set G113 f_programs (ab_rr 6 (va_up PG (Int.toNat sl) (some a109))) := ⟨_, rfl⟩
              have hw_ := hw_.keep hf_programs eG124 (by decide)
              have h15 := h15.keep hf_programs eG124 (by decide)
              have h16 := h16.keep hf_programs eG124 (by decide)
              have hf_tape := hf_tape.keep hf_programs eG124 (by decide)
              have hit_t := hit_t.keep hf_programs eG124 (by decide)
              have hf_reader := hf_reader.keep hf_programs eG124 (by decide)
              have hx_r := hx_r.keep hf_programs eG124 (by decide)
              have hrna_r := hrna_r.keep hf_programs eG124 (by decide)
              have hrnl_r := hrnl_r.keep hf_programs eG124 (by decide)
              have hp50 := hp50.keep hf_programs eG124 (by decide)
              have ha109 := ha109.keep' eG124 (nq.s ne_a109_f_programs)
              have hki115 := hki115.keep hf_programs eG124 (by omega)
              have hne116 := hne116.keep hf_programs eG124 (by omega)
              have hot117 := hot117.keep hf_programs eG124 (by omega)
              have hra118 := hra118.keep hf_programs eG124 (by omega)
              have hna119 := hna119.keep hf_programs eG124 (by omega)
              have hnl120 := hnl120.keep hf_programs eG124 (by omega)
              have hst := (fx.rf (o := o114) (S := [81]) (G := G113)).wr hf_programs eG124 (List.mem_singleton.mpr rfl)
              have pstI_f_states := stI.fr hst pstI_f_states (by decide) (by decide) (by decide) (by decide) (by decide) (by decide) (by decide) (by decide) (by decide)
              have ptbI_0 := tbI.fr hst ptbI_0  (by decide)
              have pcsI_se_r := csI.fr hst pcsI_se_r (by decide) (by decide)
              have pszF_0 := szF.fr hst ppaI_0 pszF_0 (by decide) (by decide)
              have pdnF_0 := dnF.fr hst ppaI_0 pdnF_0 (by decide) (by decide)
              have ppgX_0 := pgX.fr hst ppgX_0 (fun xx hx => Or.inl ((show ∀ y ∈ ([81] : List Nat), y < 100 by decide) xx hx))
              have ppaI_0 := paI.fr hst ppaI_0 (by decide) (by decide) (by decide) (by decide)
              have hq125 := z_len eG124
              have hq126 := z_sl hf_programs eG124 rfl
              have hfr := hfr.wr hf_programs eG124 (by simp)
              have hf_programs := hf_programs.kept eG124
              change ab_W _ _ _ (List.set G113 f_programs (ab_rr 6 (va_up PG (Int.toNat sl) (some a109)))) 86 [some (vR w_), some (vz sl), some (vz fl0), some (vR p50)] [] _
              rw [← eG124]
              rw [← hk_] at hf_programs
              have ppgX_0 := ppgX_0.set (q := a109)
              have hsm : (va_up PG k_ (some a109)) k_ = some a109 := if_pos rfl
              refine ab_aload_n d_PW_compile_86 rfl ?_
              refine ab_dup d_PW_compile_87 rfl ?_
              refine ab_getf (fs := [vR f_ready, vR f_tape, vR f_reader, vR f_programs, vR f_subject, vR f_spans, vR f_threads, vR f_marks, vR f_oneMind, vR f_states, vR f_latest, vR f_matches, vR f_pieces, vR f_template, vR f_result, vR f_spare, vz cmp, vz ovs]) f_PW_126 d_PW_compile_88 hw_.2.2 rfl ?_
              refine zz_iconst d_PW_compile_91 ?_
              refine zz_iadd d_PW_compile_92 ?_
              refine ab_putf (fs := [vR f_ready, vR f_tape, vR f_reader, vR f_programs, vR f_subject, vR f_spans, vR f_threads, vR f_marks, vR f_oneMind, vR f_states, vR f_latest, vR f_matches, vR f_pieces, vR f_template, vR f_result, vR f_spare, vz cmp, vz ovs]) f_PW_126 (Or.inl rfl) d_PW_compile_93 hw_.2.2 (Nat.le_of_ble_eq_true rfl) (fun _ => ⟨rfl, rfl⟩) (hw_.2.1 (by decide)) ?_
              obtain ⟨G127, eG127⟩ : ∃ z : ab_G, z = List.set G124 w_ (ab_ob 0 [vR f_ready, vR f_tape, vR f_reader, vR f_programs, vR f_subject, vR f_spans, vR f_threads, vR f_marks, vR f_oneMind, vR f_states, vR f_latest, vR f_matches, vR f_pieces, vR f_template, vR f_result, vR f_spare, vz (cmp + 1), vz ovs]) := ⟨_, rfl⟩
              have hf_programs := hf_programs.keep hw_ eG127 (by decide)
              have h15 := h15.keep hw_ eG127 (by decide)
              have h16 := h16.keep hw_ eG127 (by decide)
              have hf_tape := hf_tape.keep hw_ eG127 (by decide)
              have hit_t := hit_t.keep hw_ eG127 (by decide)
              have hf_reader := hf_reader.keep hw_ eG127 (by decide)
              have hx_r := hx_r.keep hw_ eG127 (by decide)
              have hrna_r := hrna_r.keep hw_ eG127 (by decide)
              have hrnl_r := hrnl_r.keep hw_ eG127 (by decide)
              have hp50 := hp50.keep hw_ eG127 (by decide)
              have ha109 := ha109.keep' eG127 (nq.s ne_a109_w_)
              have hki115 := hki115.keep hw_ eG127 (by omega)
              have hne116 := hne116.keep hw_ eG127 (by omega)
              have hot117 := hot117.keep hw_ eG127 (by omega)
              have hra118 := hra118.keep hw_ eG127 (by omega)
              have hna119 := hna119.keep hw_ eG127 (by omega)
              have hnl120 := hnl120.keep hw_ eG127 (by omega)
              have hst := (fx.rf (o := o114) (S := [18]) (G := G124)).wr hw_ eG127 (List.mem_singleton.mpr rfl)
              have pstI_f_states := stI.fr hst pstI_f_states (by decide) (by decide) (by decide) (by decide) (by decide) (by decide) (by decide) (by decide) (by decide)
              have ptbI_0 := tbI.fr hst ptbI_0  (by decide)
              have pcsI_se_r := csI.fr hst pcsI_se_r (by decide) (by decide)
              have pszF_0 := szF.fr hst ppaI_0 pszF_0 (by decide) (by decide)
              have pdnF_0 := dnF.fr hst ppaI_0 pdnF_0 (by decide) (by decide)
              have ppgX_0 := pgX.fr hst ppgX_0 (fun xx hx => Or.inl ((show ∀ y ∈ ([18] : List Nat), y < 100 by decide) xx hx))
              have ppaI_0 := paI.fr hst ppaI_0 (by decide) (by decide) (by decide) (by decide)
              have hq128 := z_len eG127
              have hq129 := z_sl hw_ eG127 rfl
              have hfr := hfr.wr hw_ eG127 (by simp)
              have hw_ := hw_.kept eG127
              change ab_W _ _ _ (List.set G124 w_ (ab_ob 0 [vR f_ready, vR f_tape, vR f_reader, vR f_programs, vR f_subject, vR f_spans, vR f_threads, vR f_marks, vR f_oneMind, vR f_states, vR f_latest, vR f_matches, vR f_pieces, vR f_template, vR f_result, vR f_spare, vz (cmp + 1), vz ovs])) 96 [some (vR w_), some (vz sl), some (vz fl0), some (vR p50)] [] _
              rw [← eG127]
              refine ab_aload_n d_PW_compile_96 rfl ?_
              refine ab_getf (fs := [vR f_ready, vR f_tape, vR f_reader, vR f_programs, vR f_subject, vR f_spans, vR f_threads, vR f_marks, vR f_oneMind, vR f_states, vR f_latest, vR f_matches, vR f_pieces, vR f_template, vR f_result, vR f_spare, vz (cmp + 1), vz ovs]) f_PW_31 d_PW_compile_97 hw_.2.2 rfl ?_
              refine ab_iload_n d_PW_compile_100 rfl ?_
              refine zz_aalS d_PW_compile_101 hf_programs (by omega) (by rw [← hk_]; exact hsm) ?_
              change ab_W _ _ _ G127 102 [some (vR w_), some (vz sl), some (vz fl0), some (vR p50)] [vR a109] _
              refine ab_aload_n d_PW_compile_102 rfl ?_
              refine ab_aload_n d_PW_compile_103 rfl ?_
              refine ab_getf (fs := [vR f_ready, vR f_tape, vR f_reader, vR f_programs, vR f_subject, vR f_spans, vR f_threads, vR f_marks, vR f_oneMind, vR f_states, vR f_latest, vR f_matches, vR f_pieces, vR f_template, vR f_result, vR f_spare, vz (cmp + 1), vz ovs]) f_PW_25 d_PW_compile_104 hw_.2.2 rfl ?_
              refine ab_iload_n d_PW_compile_107 rfl ?_
              refine ab_aload_n d_PW_compile_108 rfl ?_
              refine ab_getf (fs := [vR f_ready, vR f_tape, vR f_reader, vR f_programs, vR f_subject, vR f_spans, vR f_threads, vR f_marks, vR f_oneMind, vR f_states, vR f_latest, vR f_matches, vR f_pieces, vR f_template, vR f_result, vR f_spare, vz (cmp + 1), vz ovs]) f_PW_126 d_PW_compile_109 hw_.2.2 rfl ?_
              refine ab_callV (d' := d - 1) (as := [vR p50, vR f_reader, vz fl0, vz (cmp + 1)]) (st := []) (r := _) (z_PR_build (o := o114) (q := a109) (lq := (100 + 10 * k_)) (ki := ki115) (ne := ne116) (ot := ot117) (cnt := 0) (fi := 0) (la := 0) (ra := ra118) (ru := 0) (gr := 0) (wi := 0) (sz := 0) (fl := 0) (ve := 0) (mi := 0) (na := na119) (nl := nl120) (K := (fun _ => 0)) (N := (fun _ => 0)) (O := (fun _ => 0)) (RR := (fun _ => 0)) (NA := (fun _ => 0)) (NL := (fun _ => 0)) (nr := 32) (d_ := f_reader) (inn := inn251) (dp := dp252) (flg := flg253) (grp := grp254) (lst := lst257) (mst := mst258) (bh := bh259) (rna := rna_r) (rnl := rnl_r) (RNA := NA255) (RNL := NL256) (x := x_r) (se := se_r) (by_ := it_t) (m := mr_t) (f := F_t) (n := sz_t) (pl := p260) (fa := fa261) (fp := fp262) (kd := kd263) (kn := kn264) (ps := ps268) (wt := wt269) (bs := bs270) (ph := ph271) (cu := cu273) (cs := cs274) (v9 := v275) (p := p50) (fl0 := fl0) (ve0 := (cmp + 1)) (sz9 := sz_101) ha109 hki115 hne116 hot117 hra118 hna119 hnl120 hf_reader hx_r hit_t hrna_r hrnl_r ppaI_0 pszF_0 pdnF_0 (by omega) (by omega) hq85 (by omega) (rgs_c (by omega)) (fun _ _ _ => (by decide : (0 : Int) ≤ 0 ∧ (0 : Int) ≤ 1114111)) (by omega) hq86 (by unfold pf; rw [hp50.2.2]; rfl) (rdM_h hq84) (by omega) (by omega) (by omega)) (fun oc G2 h => by rcases h with ⟨_, _, _, _, _, _, _, _, _, _, _, _, _, h, _⟩ <;> exact ⟨_, h⟩) (by omega) m_PR_build ml_PW_129 im_PR_build se_PR_build c_PR ha109.2.2 (Nat.le_of_ble_eq_true rfl) d_PW_compile_112 rfl ?_
              intro v G130 hq
              rcases hq with ⟨o131, cnt2132, la2133, ra2134, nr2135, ru2136, K2137, N2138, O2139, RR2140, fi2141, NA2142, NL2143, hv, hfk, hNa109, hNki115, hNne116, hNot117, hNra2134, hNna119, hNnl120, hq144, hq145, hq146, hq147, hq148, hq149, hq150, hq151, hq152, hq153, hq154, hq155, hq156, hq157⟩
              cases hv
              have hw_ := hfk.get hw_ (by simp only [List.mem_cons, List.not_mem_nil, or_false]; omega)
              have hf_programs := hfk.get hf_programs (by simp only [List.mem_cons, List.not_mem_nil, or_false]; omega)
              have h15 := hfk.get h15 (by simp only [List.mem_cons, List.not_mem_nil, or_false]; omega)
              have h16 := hfk.get h16 (by simp only [List.mem_cons, List.not_mem_nil, or_false]; omega)
              have hf_tape := hfk.get hf_tape (by simp only [List.mem_cons, List.not_mem_nil, or_false]; omega)
              have hit_t := hfk.get hit_t (by simp only [List.mem_cons, List.not_mem_nil, or_false]; omega)
              have hf_reader := hfk.get hf_reader (by simp only [List.mem_cons, List.not_mem_nil, or_false]; omega)
              have hx_r := hfk.get hx_r (by simp only [List.mem_cons, List.not_mem_nil, or_false]; omega)
              have hrna_r := hfk.get hrna_r (by simp only [List.mem_cons, List.not_mem_nil, or_false]; omega)
              have hrnl_r := hfk.get hrnl_r (by simp only [List.mem_cons, List.not_mem_nil, or_false]; omega)
              have pstI_f_states := stI.fr hfk pstI_f_states (by simp only [List.mem_cons, List.not_mem_nil, or_false]; omega) (by simp only [List.mem_cons, List.not_mem_nil, or_false]; omega) (by simp only [List.mem_cons, List.not_mem_nil, or_false]; omega) (by simp only [List.mem_cons, List.not_mem_nil, or_false]; omega) (by simp only [List.mem_cons, List.not_mem_nil, or_false]; omega) (by simp only [List.mem_cons, List.not_mem_nil, or_false]; omega) (by simp only [List.mem_cons, List.not_mem_nil, or_false]; omega) (by simp only [List.mem_cons, List.not_mem_nil, or_false]; omega) (by simp only [List.mem_cons, List.not_mem_nil, or_false]; omega)
              have ptbI_0 := tbI.fr hfk ptbI_0  (by intro xx hx; simp only [List.mem_cons, List.not_mem_nil, or_false] at hx; omega)
              have pcsI_se_r := csI.fr hfk pcsI_se_r (by simp only [List.mem_cons, List.not_mem_nil, or_false]; omega) (by simp only [List.mem_cons, List.not_mem_nil, or_false]; omega)
              have ppgX_0 := pgX.fr hfk ppgX_0  (by intro xx hx; simp only [List.mem_cons, List.not_mem_nil, or_false] at hx; omega)
              have hfr := hfr.tr hfk (by simp)
              have hq158 := hfk.1
              have ha109 := hNa109
              have hki115 := hNki115
              have hne116 := hNne116
              have hot117 := hNot117
              have hra2134 := hNra2134
              have hna119 := hNna119
              have hnl120 := hNnl120
              change ab_W _ _ _ G130 115 [some (vR w_), some (vz sl), some (vz fl0), some (vR p50)] [] _
              refine ab_aload_n d_PW_compile_115 rfl ?_
              refine ab_getf (fs := [vR f_ready, vR f_tape, vR f_reader, vR f_programs, vR f_subject, vR f_spans, vR f_threads, vR f_marks, vR f_oneMind, vR f_states, vR f_latest, vR f_matches, vR f_pieces, vR f_template, vR f_result, vR f_spare, vz (cmp + 1), vz ovs]) f_PW_31 d_PW_compile_116 hw_.2.2 rfl ?_
              refine ab_iload_n d_PW_compile_119 rfl ?_
              refine zz_aalS d_PW_compile_120 hf_programs (by omega) (by rw [← hk_]; exact hsm) ?_
              change ab_W _ _ _ G130 121 [some (vR w_), some (vz sl), some (vz fl0), some (vR p50)] [vR a109] _
              refine ab_getf (fs := [vR ki115, vR ne116, vR ot117, vz cnt2132, vz fi2141, vz la2133, vR ra2134, vz ru2136, vz grp254, vz (2 * (grp254 + 1)), vz sz_101, vz fl0, vz (cmp + 1), vz 0, vR na119, vR nl120]) f_PW_133 d_PW_compile_121 ha109.2.2 rfl ?_
              have prdI_f_reader : rdI o131 G130 f_reader nb265 fa261 fp262 := ⟨x_r, se_r, it_t, sz_t, p260, kd263, kn264, inn251, dp252, flg253, grp254, rna_r, rnl_r, lst257, mst258, bh259, NA255, NL256, c266, P267, hf_reader, hx_r, hrna_r, hrnl_r, pcsI_se_r, (by omega), (by omega)⟩
              have ppgB_a109 : pgB o131 G130 a109 (100 + 10 * k_) nr2135 (cvU cv (cmp + 1) cnt2132 (100 + 10 * k_) (pvW (ivW grp254 sz_101 fl0 NL2143 NA2142 sz_t F_t) K2137 N2138 O2139 RR2140 ru2136 fi2141 la2133)) (cmp + 1) on 0 sz_101 := ⟨ki115, ne116, ot117, cnt2132, fi2141, la2133, ra2134, ru2136, grp254, (2 * (grp254 + 1)), fl0, (cmp + 1), na119, nl120, K2137, N2138, O2139, RR2140, NA2142, NL2143, ha109, hki115, hne116, hot117, hra2134, hna119, hnl120, (by omega), hq150.1, hq149, hq152, hq153.1, (by have t1 := hq150.2; have t2 := hq153.2; omega), (by omega), (by omega), (by omega), (by omega), (fun h => absurd h (by decide)), (fun h => absurd rfl h), cvU_v, (by omega), hq154, (ivR_pw (ivR_s (by omega) (by omega)) (by omega) (by omega)), ⟨_, mnV_s hq84 (ivT_pw (ivT_s (by omega) (by omega)) (by omega) (by omega)) (ivR_pw (ivR_s (by omega) (by omega)) (by omega) (by omega)).2.2.1 (by omega), hq146⟩, (nmB_of hq155 hbt hq85), hq147, (prV_s (by omega) (by omega) (by omega) hq150.2), (by omega), (kkF_of hq147 hq151 (by omega) (by omega)), (momc_0 (by decide)), (by have t_ := tkn_0 (K := K2137) (cnt := cnt2132); omega)⟩
              have ppgI_0 := ppgX_0.mk hsm (by omega) ppgB_a109
              have pstI_f_states : stI o131 G130 f_states (cvU cv (cmp + 1) cnt2132 (100 + 10 * k_) (pvW (ivW grp254 sz_101 fl0 NL2143 NA2142 sz_t F_t) K2137 N2138 O2139 RR2140 ru2136 fi2141 la2133)) (cmp + 1) sts sb := stI.up (by omega) (by omega) pstI_f_states
              have hprS := sumN_up (f := prS) (NR := NR) (k := k_) (v := nr2135) (by omega)
              have hprC := sumN_up (f := prC) (NR := NR) (k := k_) (v := nr2135) (by omega)
              have hprS1 : prS nr2135 = 2 * nr2135 + 2602 := if_neg (by omega)
              have hprC1 : prC nr2135 = nr2135 + 192 + 32 := if_neg (by omega)
              have hpn2 := pgN_up (k := k_) (v := nr2135) (q := a109) hpn
              refine zz_iret rfl d_PW_compile_124 ?_
              rw [hQ]; exact (Or.inr ⟨_, _, _, _, _, _, _, _, _, rfl, hfr, hw_, hf_programs, hf_tape, prdI_f_reader, ppgI_0, pstI_f_states, ptbI_0, (by exact hpn2), (by omega), (by omega), (by omega), (by exact prdI_f_reader.b), (by omega), (by refine ⟨by omega, _, _, _, _, _, hq83, hq85, hq155, ?_, ?_⟩; (rw [← hk_, ← hvz_]; exact (ivR_pw (ivR_s (by omega) (by omega)) (by omega) (by omega))); (rw [← hk_]; exact (ivT_pw (ivT_s (by omega) (by omega)) (by omega) (by omega)))), (by rw [← hk_]; exact cvS_u (by omega) rfl), (by omega), (by omega), (by rw [← hk_]; exact ⟨⟨_, hsm⟩, fun s hs => if_neg hs⟩)⟩)
            · change ab_W _ _ _ G102 70 [some (vR w_), some (vz sl), some (vz fl0), some (vR p50)] [vR b106] _
              refine ab_ifnonnull (tgt := 86) d_PW_compile_70 (by decide) ?_
              have hk_ := hkq.2 (by omega) (by omega)
              rw [← hk_] at hr105
              have hk6_ : k_ < 6 := by omega
              obtain ⟨⟨mi_, sz_, ppgB_b106⟩, ppgX_0⟩ := ppgI_0.opn hk6_ hr105
              obtain ⟨ki_g, ne_g, ot_g, cnt_g, fi_g, la_g, ra_g, ru_g, gr_g, wi_g, fl_g, ve_g, na_g, nl_g, K_g, N_g, O_g, RR_g, NA_g, NL_g, hb106, hki_g, hne_g, hot_g, hra_g, hna_g, hnl_g, cq_g, hpu_g, hp_g, hr_g, hch_g, cru_g, ck9_g, cfi_g, cgr_g, cfl_g, hpo_g, hmi_g, hvc_g, cve_g, jnl_g, hiv_g, hmn_g, jna_g, hla_g, hpv_g, cv1_g, hkk_g, hoc_g, csz_g⟩ := ppgB_b106
              have hprS0 : prS (NR k_) = 2 * NR k_ + 2602 := if_neg (by omega)
              have hprC0 : prC (NR k_) = NR k_ + 192 + 32 := if_neg (by omega)
              have hnb_ := pcsI_se_r.ok
              have hnb2_ : nb265 ≤ 104000 := by omega
              clear hnb_
              refine ab_aload_n d_PW_compile_86 rfl ?_
              refine ab_dup d_PW_compile_87 rfl ?_
              refine ab_getf (fs := [vR f_ready, vR f_tape, vR f_reader, vR f_programs, vR f_subject, vR f_spans, vR f_threads, vR f_marks, vR f_oneMind, vR f_states, vR f_latest, vR f_matches, vR f_pieces, vR f_template, vR f_result, vR f_spare, vz cmp, vz ovs]) f_PW_126 d_PW_compile_88 hw_.2.2 rfl ?_
              refine zz_iconst d_PW_compile_91 ?_
              refine zz_iadd d_PW_compile_92 ?_
              refine ab_putf (fs := [vR f_ready, vR f_tape, vR f_reader, vR f_programs, vR f_subject, vR f_spans, vR f_threads, vR f_marks, vR f_oneMind, vR f_states, vR f_latest, vR f_matches, vR f_pieces, vR f_template, vR f_result, vR f_spare, vz cmp, vz ovs]) f_PW_126 (Or.inl rfl) d_PW_compile_93 hw_.2.2 (Nat.le_of_ble_eq_true rfl) (fun _ => ⟨rfl, rfl⟩) (hw_.2.1 (by decide)) ?_
              obtain ⟨G159, eG159⟩ : ∃ z : ab_G, z = List.set G102 w_ (ab_ob 0 [vR f_ready, vR f_tape, vR f_reader, vR f_programs, vR f_subject, vR f_spans, vR f_threads, vR f_marks, vR f_oneMind, vR f_states, vR f_latest, vR f_matches, vR f_pieces, vR f_template, vR f_result, vR f_spare, vz (cmp + 1), vz ovs]) := ⟨_, rfl⟩
              have hf_programs := hf_programs.keep hw_ eG159 (by decide)
              have h15 := h15.keep hw_ eG159 (by decide)
              have h16 := h16.keep hw_ eG159 (by decide)
              have hf_tape := hf_tape.keep hw_ eG159 (by decide)
              have hit_t := hit_t.keep hw_ eG159 (by decide)
              have hf_reader := hf_reader.keep hw_ eG159 (by decide)
              have hx_r := hx_r.keep hw_ eG159 (by decide)
              have hrna_r := hrna_r.keep hw_ eG159 (by decide)
              have hrnl_r := hrnl_r.keep hw_ eG159 (by decide)
              have hp50 := hp50.keep hw_ eG159 (by decide)
              have hb106 := hb106.keep hw_ eG159 (by omega)
              have hki_g := hki_g.keep hw_ eG159 (by omega)
              have hne_g := hne_g.keep hw_ eG159 (by omega)
              have hot_g := hot_g.keep hw_ eG159 (by omega)
              have hra_g := hra_g.keep hw_ eG159 (by omega)
              have hna_g := hna_g.keep hw_ eG159 (by omega)
              have hnl_g := hnl_g.keep hw_ eG159 (by omega)
              have hst := (fx.rf (o := o49) (S := [18]) (G := G102)).wr hw_ eG159 (List.mem_singleton.mpr rfl)
              have pstI_f_states := stI.fr hst pstI_f_states (by decide) (by decide) (by decide) (by decide) (by decide) (by decide) (by decide) (by decide) (by decide)
              have ptbI_0 := tbI.fr hst ptbI_0  (by decide)
              have pcsI_se_r := csI.fr hst pcsI_se_r (by decide) (by decide)
              have pszF_0 := szF.fr hst ppaI_0 pszF_0 (by decide) (by decide)
              have pdnF_0 := dnF.fr hst ppaI_0 pdnF_0 (by decide) (by decide)
              have ppgX_0 := pgX.fr hst ppgX_0 (fun xx hx => Or.inl ((show ∀ y ∈ ([18] : List Nat), y < 100 by decide) xx hx))
              have ppaI_0 := paI.fr hst ppaI_0 (by decide) (by decide) (by decide) (by decide)
              have hq160 := z_len eG159
              have hq161 := z_sl hw_ eG159 rfl
              have hfr := hfr.wr hw_ eG159 (by simp)
              have hw_ := hw_.kept eG159
              change ab_W _ _ _ (List.set G102 w_ (ab_ob 0 [vR f_ready, vR f_tape, vR f_reader, vR f_programs, vR f_subject, vR f_spans, vR f_threads, vR f_marks, vR f_oneMind, vR f_states, vR f_latest, vR f_matches, vR f_pieces, vR f_template, vR f_result, vR f_spare, vz (cmp + 1), vz ovs])) 96 [some (vR w_), some (vz sl), some (vz fl0), some (vR p50)] [] _
              rw [← eG159]
              refine ab_aload_n d_PW_compile_96 rfl ?_
              refine ab_getf (fs := [vR f_ready, vR f_tape, vR f_reader, vR f_programs, vR f_subject, vR f_spans, vR f_threads, vR f_marks, vR f_oneMind, vR f_states, vR f_latest, vR f_matches, vR f_pieces, vR f_template, vR f_result, vR f_spare, vz (cmp + 1), vz ovs]) f_PW_31 d_PW_compile_97 hw_.2.2 rfl ?_
              refine ab_iload_n d_PW_compile_100 rfl ?_
              refine zz_aalS d_PW_compile_101 hf_programs (by omega) (by rw [← hk_]; exact hr105) ?_
              change ab_W _ _ _ G159 102 [some (vR w_), some (vz sl), some (vz fl0), some (vR p50)] [vR b106] _
              refine ab_aload_n d_PW_compile_102 rfl ?_
              refine ab_aload_n d_PW_compile_103 rfl ?_
              refine ab_getf (fs := [vR f_ready, vR f_tape, vR f_reader, vR f_programs, vR f_subject, vR f_spans, vR f_threads, vR f_marks, vR f_oneMind, vR f_states, vR f_latest, vR f_matches, vR f_pieces, vR f_template, vR f_result, vR f_spare, vz (cmp + 1), vz ovs]) f_PW_25 d_PW_compile_104 hw_.2.2 rfl ?_
              refine ab_iload_n d_PW_compile_107 rfl ?_
              refine ab_aload_n d_PW_compile_108 rfl ?_
              refine ab_getf (fs := [vR f_ready, vR f_tape, vR f_reader, vR f_programs, vR f_subject, vR f_spans, vR f_threads, vR f_marks, vR f_oneMind, vR f_states, vR f_latest, vR f_matches, vR f_pieces, vR f_template, vR f_result, vR f_spare, vz (cmp + 1), vz ovs]) f_PW_126 d_PW_compile_109 hw_.2.2 rfl ?_
              refine ab_callV (d' := d - 1) (as := [vR p50, vR f_reader, vz fl0, vz (cmp + 1)]) (st := []) (r := _) (z_PR_build (o := o49) (q := b106) (lq := (100 + 10 * k_)) (ki := ki_g) (ne := ne_g) (ot := ot_g) (cnt := cnt_g) (fi := fi_g) (la := la_g) (ra := ra_g) (ru := ru_g) (gr := gr_g) (wi := wi_g) (sz := sz_) (fl := fl_g) (ve := ve_g) (mi := mi_) (na := na_g) (nl := nl_g) (K := K_g) (N := N_g) (O := O_g) (RR := RR_g) (NA := NA_g) (NL := NL_g) (nr := (NR k_)) (d_ := f_reader) (inn := inn251) (dp := dp252) (flg := flg253) (grp := grp254) (lst := lst257) (mst := mst258) (bh := bh259) (rna := rna_r) (rnl := rnl_r) (RNA := NA255) (RNL := NL256) (x := x_r) (se := se_r) (by_ := it_t) (m := mr_t) (f := F_t) (n := sz_t) (pl := p260) (fa := fa261) (fp := fp262) (kd := kd263) (kn := kn264) (ps := ps268) (wt := wt269) (bs := bs270) (ph := ph271) (cu := cu273) (cs := cs274) (v9 := v275) (p := p50) (fl0 := fl0) (ve0 := (cmp + 1)) (sz9 := sz_101) hb106 hki_g hne_g hot_g hra_g hna_g hnl_g hf_reader hx_r hit_t hrna_r hrnl_r ppaI_0 pszF_0 pdnF_0 (by omega) (by omega) hq85 (by omega) jnl_g hr_g (by omega) hq86 (by unfold pf; rw [hp50.2.2]; rfl) (rdM_h hq84) (by omega) (by omega) (by omega)) (fun oc G2 h => by rcases h with ⟨_, _, _, _, _, _, _, _, _, _, _, _, _, h, _⟩ <;> exact ⟨_, h⟩) (by omega) m_PR_build ml_PW_129 im_PR_build se_PR_build c_PR hb106.2.2 (Nat.le_of_ble_eq_true rfl) d_PW_compile_112 rfl ?_
              intro v G162 hq
              rcases hq with ⟨o163, cnt2164, la2165, ra2166, nr2167, ru2168, K2169, N2170, O2171, RR2172, fi2173, NA2174, NL2175, hv, hfk, hNb106, hNki_g, hNne_g, hNot_g, hNra2166, hNna_g, hNnl_g, hq176, hq177, hq178, hq179, hq180, hq181, hq182, hq183, hq184, hq185, hq186, hq187, hq188, hq189⟩
              cases hv
              have hw_ := hfk.get hw_ (by simp only [List.mem_cons, List.not_mem_nil, or_false]; omega)
              have hf_programs := hfk.get hf_programs (by simp only [List.mem_cons, List.not_mem_nil, or_false]; omega)
              have h15 := hfk.get h15 (by simp only [List.mem_cons, List.not_mem_nil, or_false]; omega)
              have h16 := hfk.get h16 (by simp only [List.mem_cons, List.not_mem_nil, or_false]; omega)
              have hf_tape := hfk.get hf_tape (by simp only [List.mem_cons, List.not_mem_nil, or_false]; omega)
              have hit_t := hfk.get hit_t (by simp only [List.mem_cons, List.not_mem_nil, or_false]; omega)
              have hf_reader := hfk.get hf_reader (by simp only [List.mem_cons, List.not_mem_nil, or_false]; omega)
              have hx_r := hfk.get hx_r (by simp only [List.mem_cons, List.not_mem_nil, or_false]; omega)
              have hrna_r := hfk.get hrna_r (by simp only [List.mem_cons, List.not_mem_nil, or_false]; omega)
              have hrnl_r := hfk.get hrnl_r (by simp only [List.mem_cons, List.not_mem_nil, or_false]; omega)
              have pstI_f_states := stI.fr hfk pstI_f_states (by simp only [List.mem_cons, List.not_mem_nil, or_false]; omega) (by simp only [List.mem_cons, List.not_mem_nil, or_false]; omega) (by simp only [List.mem_cons, List.not_mem_nil, or_false]; omega) (by simp only [List.mem_cons, List.not_mem_nil, or_false]; omega) (by simp only [List.mem_cons, List.not_mem_nil, or_false]; omega) (by simp only [List.mem_cons, List.not_mem_nil, or_false]; omega) (by simp only [List.mem_cons, List.not_mem_nil, or_false]; omega) (by simp only [List.mem_cons, List.not_mem_nil, or_false]; omega) (by simp only [List.mem_cons, List.not_mem_nil, or_false]; omega)
              have ptbI_0 := tbI.fr hfk ptbI_0  (by intro xx hx; simp only [List.mem_cons, List.not_mem_nil, or_false] at hx; omega)
              have pcsI_se_r := csI.fr hfk pcsI_se_r (by simp only [List.mem_cons, List.not_mem_nil, or_false]; omega) (by simp only [List.mem_cons, List.not_mem_nil, or_false]; omega)
              have ppgX_0 := pgX.fr hfk ppgX_0  (by intro xx hx; simp only [List.mem_cons, List.not_mem_nil, or_false] at hx; omega)
              have hfr := hfr.tr hfk (by simp)
              have hq190 := hfk.1
              have hb106 := hNb106
              have hki_g := hNki_g
              have hne_g := hNne_g
              have hot_g := hNot_g
              have hra2166 := hNra2166
              have hna_g := hNna_g
              have hnl_g := hNnl_g
              change ab_W _ _ _ G162 115 [some (vR w_), some (vz sl), some (vz fl0), some (vR p50)] [] _
              refine ab_aload_n d_PW_compile_115 rfl ?_
              refine ab_getf (fs := [vR f_ready, vR f_tape, vR f_reader, vR f_programs, vR f_subject, vR f_spans, vR f_threads, vR f_marks, vR f_oneMind, vR f_states, vR f_latest, vR f_matches, vR f_pieces, vR f_template, vR f_result, vR f_spare, vz (cmp + 1), vz ovs]) f_PW_31 d_PW_compile_116 hw_.2.2 rfl ?_
              refine ab_iload_n d_PW_compile_119 rfl ?_
              refine zz_aalS d_PW_compile_120 hf_programs (by omega) (by rw [← hk_]; exact hr105) ?_
              change ab_W _ _ _ G162 121 [some (vR w_), some (vz sl), some (vz fl0), some (vR p50)] [vR b106] _
              refine ab_getf (fs := [vR ki_g, vR ne_g, vR ot_g, vz cnt2164, vz fi2173, vz la2165, vR ra2166, vz ru2168, vz grp254, vz (2 * (grp254 + 1)), vz sz_101, vz fl0, vz (cmp + 1), vz 0, vR na_g, vR nl_g]) f_PW_133 d_PW_compile_121 hb106.2.2 rfl ?_
              have prdI_f_reader : rdI o163 G162 f_reader nb265 fa261 fp262 := ⟨x_r, se_r, it_t, sz_t, p260, kd263, kn264, inn251, dp252, flg253, grp254, rna_r, rnl_r, lst257, mst258, bh259, NA255, NL256, c266, P267, hf_reader, hx_r, hrna_r, hrnl_r, pcsI_se_r, (by omega), (by omega)⟩
              have ppgB_b106 : pgB o163 G162 b106 (100 + 10 * k_) nr2167 (cvU cv (cmp + 1) cnt2164 (100 + 10 * k_) (pvW (ivW grp254 sz_101 fl0 NL2175 NA2174 sz_t F_t) K2169 N2170 O2171 RR2172 ru2168 fi2173 la2165)) (cmp + 1) on 0 sz_101 := ⟨ki_g, ne_g, ot_g, cnt2164, fi2173, la2165, ra2166, ru2168, grp254, (2 * (grp254 + 1)), fl0, (cmp + 1), na_g, nl_g, K2169, N2170, O2171, RR2172, NA2174, NL2175, hb106, hki_g, hne_g, hot_g, hra2166, hna_g, hnl_g, (by omega), hq182.1, hq181, hq184, hq185.1, (by have t1 := hq182.2; have t2 := hq185.2; omega), (by omega), (by omega), (by omega), (by omega), (fun h => absurd h (by decide)), (fun h => absurd rfl h), cvU_v, (by omega), hq186, (ivR_pw (ivR_s (by omega) (by omega)) (by omega) (by omega)), ⟨_, mnV_s hq84 (ivT_pw (ivT_s (by omega) (by omega)) (by omega) (by omega)) (ivR_pw (ivR_s (by omega) (by omega)) (by omega) (by omega)).2.2.1 (by omega), hq178⟩, (nmB_of hq187 hbt hq85), hq179, (prV_s (by omega) (by omega) (by omega) hq182.2), (by omega), (kkF_of hq179 hq183 (by omega) (by omega)), (momc_0 (by decide)), (by have t_ := tkn_0 (K := K2169) (cnt := cnt2164); omega)⟩
              have ppgI_0 := ppgX_0.mk hr105 (by omega) ppgB_b106
              have pstI_f_states : stI o163 G162 f_states (cvU cv (cmp + 1) cnt2164 (100 + 10 * k_) (pvW (ivW grp254 sz_101 fl0 NL2175 NA2174 sz_t F_t) K2169 N2170 O2171 RR2172 ru2168 fi2173 la2165)) (cmp + 1) sts sb := stI.up (by omega) (by omega) pstI_f_states
              have hprS := sumN_up (f := prS) (NR := NR) (k := k_) (v := nr2167) (by omega)
              have hprC := sumN_up (f := prC) (NR := NR) (k := k_) (v := nr2167) (by omega)
              have hprS1 : prS nr2167 = 2 * nr2167 + 2602 := if_neg (by omega)
              have hprC1 : prC nr2167 = nr2167 + 192 + 32 := if_neg (by omega)
              have hpn2 := pgN_keep (v := nr2167) hpn hr105
              refine zz_iret rfl d_PW_compile_124 ?_
              rw [hQ]; exact (Or.inr ⟨_, _, _, _, _, _, _, _, _, rfl, hfr, hw_, hf_programs, hf_tape, prdI_f_reader, ppgI_0, pstI_f_states, ptbI_0, (by exact hpn2), (by omega), (by omega), (by omega), (by exact prdI_f_reader.b), (by omega), (by refine ⟨by omega, _, _, _, _, _, hq83, hq85, hq187, ?_, ?_⟩; (rw [← hk_, ← hvz_]; exact (ivR_pw (ivR_s (by omega) (by omega)) (by omega) (by omega))); (rw [← hk_]; exact (ivT_pw (ivT_s (by omega) (by omega)) (by omega) (by omega)))), (by rw [← hk_]; exact cvS_u (by omega) rfl), (by omega), (by omega), (by rw [← hk_]; exact ⟨⟨_, hr105⟩, fun s hs => rfl⟩)⟩)
        · refine ab_throw (tx := "no such slot or flags") (by decide) (fun c h => h) cl_PW_109 inst_IA ini_IA tw_PW_113 d_PW_compile_20 d_PW_compile_23 d_PW_compile_24 d_PW_compile_26 d_PW_compile_29 (by omega) (by omega) (by omega) ?_
          obtain ⟨G191, eG191⟩ : ∃ z : ab_G, z = G ++ [.inr (13, [])] := ⟨_, rfl⟩
          obtain ⟨o192, eo192⟩ : ∃ z : Nat → Nat, z = ol o G.length 99 := ⟨_, rfl⟩
          obtain ⟨a193, ea193⟩ : ∃ z : Nat, z = G.length := ⟨_, rfl⟩
          have hq194 := hit_t.n0 (by first | decide | omega)
          have ne_a193_w_ : nq a193 w_ := by have hlt := hw_.lt; unfold nq; omega
          have ne_a193_f_programs : nq a193 f_programs := by have hlt := hf_programs.lt; unfold nq; omega
          have ne_a193_15 : nq a193 15 := by have hlt := h15.lt; unfold nq; omega
          have ne_a193_16 : nq a193 16 := by have hlt := h16.lt; unfold nq; omega
          have ne_a193_f_tape : nq a193 f_tape := by have hlt := hf_tape.lt; unfold nq; omega
          have ne_a193_it_t : nq a193 it_t := by have hlt := hit_t.lt; unfold nq; omega
          have hw_ := hw_.akeep (k := 99) eG191
          rw [← eo192] at hw_
          have hf_programs := hf_programs.akeep (k := 99) eG191
          rw [← eo192] at hf_programs
          have h15 := h15.akeep (k := 99) eG191
          rw [← eo192] at h15
          have h16 := h16.akeep (k := 99) eG191
          rw [← eo192] at h16
          have hf_tape := hf_tape.akeep (k := 99) eG191
          rw [← eo192] at hf_tape
          have hit_t := hit_t.akeep (k := 99) eG191
          rw [← eo192] at hit_t
          have hst := (fx.rf (o := o) (S := []) (G := G)).ap (k := 99) eG191
          rw [← eo192] at hst
          have prdI_f_reader := rdI.fr hst prdI_f_reader (by decide) (by decide) (by decide) (by decide) (by decide) (by decide)
          have ppgI_0 := pgI.fr hst ppgI_0  (by simp)
          have pstI_f_states := stI.fr hst pstI_f_states (by decide) (by decide) (by decide) (by decide) (by decide) (by decide) (by decide) (by decide) (by decide)
          have ptbI_0 := tbI.fr hst ptbI_0  (by simp)
          have ha193 := cc.anew (o := o) 99 eG191 hq194
          rw [← eo192, ← ea193] at ha193
          have hfr := hfr.ap (k := 99) eG191
          rw [← eo192] at hfr
          have hq195 := z_alen eG191
          have hq196 : ab_slots G191 = ab_slots G + 6 := z_asl eG191 hq194
          rw [← ea193, ← eG191]
          rw [hQ]; exact (Or.inl ⟨_, _, _, _, _, _, rfl, hfr, hw_, hf_programs, hf_tape, prdI_f_reader, ppgI_0, pstI_f_states, ptbI_0, (by exact ha193.2.2), (by omega), (by omega), (by omega), (by exact prdI_f_reader.b), (by exact Or.inl ⟨by omega, rfl, rfl, rfl⟩)⟩)
