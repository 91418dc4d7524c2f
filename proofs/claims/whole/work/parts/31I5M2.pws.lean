set_option maxRecDepth 100000 in
set_option maxHeartbeats 4000000 in
theorem z_PW_makeReady {X : ab_X} {d : Nat} {o : Nat → Nat} {G : ab_G} {w_ : Nat} {f_ready : Nat} {f_tape : Nat} {f_reader : Nat} {f_programs : Nat} {f_subject : Nat} {f_spans : Nat} {f_threads : Nat} {f_marks : Nat} {f_oneMind : Nat} {f_states : Nat} {f_latest : Nat} {f_matches : Nat} {f_pieces : Nat} {f_template : Nat} {f_result : Nat} {f_spare : Nat} {cmp : Int} {ovs : Int} {at_ : Int} {x : Int} {RD_ : Int → Int} (hw_ : cc o G w_ 18 (ab_ob 0 [vR f_ready, vR f_tape, vR f_reader, vR f_programs, vR f_subject, vR f_spans, vR f_threads, vR f_marks, vR f_oneMind, vR f_states, vR f_latest, vR f_matches, vR f_pieces, vR f_template, vR f_result, vR f_spare, vz cmp, vz ovs])) (hf_ready : cc o G f_ready 19 (za 20 RD_)) (n18 : ab_n0 = 18) (ca : 0 ≤ at_ ∧ at_ ≤ 16) (jr : rgs RD_ 20 0 255) : ab_F X d y_PW_makeReady (.code y_PW_makeReady b_PW_makeReady 4 none) [vR w_, vz at_, vz x] G (fun oc G2 => ∃ R2 : Int → Int, oc = .returned none ∧ fx o o [19] G G2 ∧ G2.length = G.length ∧ ab_slots G2 = ab_slots G ∧ cc o G2 f_ready 19 (za 20 R2) ∧ (rgs R2 20 0 255) ∧ (mrR RD_ R2 at_ x)) := by
  refine ab_F_of (by decide +kernel) (Nat.le_of_ble_eq_true rfl) ?_
  obtain ⟨Q, hQ⟩ : ∃ z : Outcome → ab_G → Prop, z = (fun oc G2 => ∃ R2 : Int → Int, oc = .returned none ∧ fx o o [19] G G2 ∧ G2.length = G.length ∧ ab_slots G2 = ab_slots G ∧ cc o G2 f_ready 19 (za 20 R2) ∧ (rgs R2 20 0 255) ∧ (mrR RD_ R2 at_ x)) := ⟨_, rfl⟩
  rw [← hQ]
  change ab_W X (ab_pl y_PW_makeReady b_PW_makeReady 4 none) d G 0 [some (vR w_), some (vz at_), some (vz x), none] [] Q
  have hfr : fx o o [19] G G := fx.rf
  have hlen : G.length = G.length := rfl
  have hsl : ab_slots G = ab_slots G := rfl
  refine zz_iconst d_PW_makeReady_0 ?_
  refine ab_istore_n d_PW_makeReady_1 (Nat.le_of_ble_eq_true rfl) (Nat.le_of_ble_eq_true rfl) rfl ?_
  change ab_W _ _ _ G 2 [some (vR w_), some (vz at_), some (vz x), some (vz 0)] [] _
  refine ab_iload_n d_PW_makeReady_2 rfl ?_
  refine zz_iconst d_PW_makeReady_3 ?_
  refine zz_icmp_ge (tgt := 34) d_PW_makeReady_4 (by decide) (by decide) (by decide) (fun c1 => absurd c1 (by decide)) (fun c1 => ?_)
  refine ab_aload_n d_PW_makeReady_7 rfl ?_
  refine ab_getf (fs := [vR f_ready, vR f_tape, vR f_reader, vR f_programs, vR f_subject, vR f_spans, vR f_threads, vR f_marks, vR f_oneMind, vR f_states, vR f_latest, vR f_matches, vR f_pieces, vR f_template, vR f_result, vR f_spare, vz cmp, vz ovs]) f_PW_9 d_PW_makeReady_8 hw_.2.2 rfl ?_
  refine ab_iload_n d_PW_makeReady_11 rfl ?_
  refine ab_iload_n d_PW_makeReady_12 rfl ?_
  refine zz_iadd d_PW_makeReady_13 ?_
  refine ab_iload_n d_PW_makeReady_14 rfl ?_
  refine zz_bipush d_PW_makeReady_15 (by decide) ?_
  refine zz_bipush d_PW_makeReady_17 (by decide) ?_
  refine ab_iload_n d_PW_makeReady_19 rfl ?_
  refine zz_imul d_PW_makeReady_20 ?_
  refine zz_top (y := 0) (by decide) ?_
  refine zz_isub d_PW_makeReady_21 ?_
  refine zz_top (y := 24) (by decide) ?_
  refine ab_iushr d_PW_makeReady_22 ?_
  refine zz_sipush d_PW_makeReady_23 (by decide) ?_
  refine ab_iand d_PW_makeReady_26 ?_
  refine ab_topi (byt_u (k := 0) (by decide) (by decide)) ?_
  have hb2 := byt_b x 0
  change ab_W _ _ _ G 27 [some (vR w_), some (vz at_), some (vz x), some (vz 0)] [vz (byt x 0), vz (at_ + 0), vR f_ready] _
  refine zz_iast d_PW_makeReady_27 hf_ready (by omega) (hf_ready.2.1 (by decide)) ?_
  obtain ⟨G3, eG3⟩ : ∃ z : ab_G, z = List.set G f_ready (za 20 (zu RD_ (at_ + 0) (byt x 0))) := ⟨_, rfl⟩
  have hw_ := hw_.keep hf_ready eG3 (by decide)
  have hlen := (z_len eG3).trans hlen
  have hsl := (z_sl hf_ready eG3 rfl).trans hsl
  have hfr := hfr.wr hf_ready eG3 (by decide)
  have hf_ready := hf_ready.kept eG3
  change ab_W _ _ _ (List.set G f_ready (za 20 (zu RD_ (at_ + 0) (byt x 0)))) 28 [some (vR w_), some (vz at_), some (vz x), some (vz 0)] [] _
  rw [← eG3]
  refine zz_iinc d_PW_makeReady_28 rfl (Nat.le_of_ble_eq_true rfl) (Nat.le_of_ble_eq_true rfl) rfl ?_
  change ab_W _ _ _ G3 31 [some (vR w_), some (vz at_), some (vz x), some (vz 1)] [] _
  refine ab_goto (tgt := 2) d_PW_makeReady_31 (by decide) ?_
  refine ab_iload_n d_PW_makeReady_2 rfl ?_
  refine zz_iconst d_PW_makeReady_3 ?_
  refine zz_icmp_ge (tgt := 34) d_PW_makeReady_4 (by decide) (by decide) (by decide) (fun c4 => absurd c4 (by decide)) (fun c4 => ?_)
  refine ab_aload_n d_PW_makeReady_7 rfl ?_
  refine ab_getf (fs := [vR f_ready, vR f_tape, vR f_reader, vR f_programs, vR f_subject, vR f_spans, vR f_threads, vR f_marks, vR f_oneMind, vR f_states, vR f_latest, vR f_matches, vR f_pieces, vR f_template, vR f_result, vR f_spare, vz cmp, vz ovs]) f_PW_9 d_PW_makeReady_8 hw_.2.2 rfl ?_
  refine ab_iload_n d_PW_makeReady_11 rfl ?_
  refine ab_iload_n d_PW_makeReady_12 rfl ?_
  refine zz_iadd d_PW_makeReady_13 ?_
  refine ab_iload_n d_PW_makeReady_14 rfl ?_
  refine zz_bipush d_PW_makeReady_15 (by decide) ?_
  refine zz_bipush d_PW_makeReady_17 (by decide) ?_
  refine ab_iload_n d_PW_makeReady_19 rfl ?_
  refine zz_imul d_PW_makeReady_20 ?_
  refine zz_top (y := 8) (by decide) ?_
  refine zz_isub d_PW_makeReady_21 ?_
  refine zz_top (y := 16) (by decide) ?_
  refine ab_iushr d_PW_makeReady_22 ?_
  refine zz_sipush d_PW_makeReady_23 (by decide) ?_
  refine ab_iand d_PW_makeReady_26 ?_
  refine ab_topi (byt_u (k := 1) (by decide) (by decide)) ?_
  have hb5 := byt_b x 1
  change ab_W _ _ _ G3 27 [some (vR w_), some (vz at_), some (vz x), some (vz 1)] [vz (byt x 1), vz (at_ + 1), vR f_ready] _
  refine zz_iast d_PW_makeReady_27 hf_ready (by omega) (hf_ready.2.1 (by decide)) ?_
  obtain ⟨G6, eG6⟩ : ∃ z : ab_G, z = List.set G3 f_ready (za 20 (zu (zu RD_ (at_ + 0) (byt x 0)) (at_ + 1) (byt x 1))) := ⟨_, rfl⟩
  have hw_ := hw_.keep hf_ready eG6 (by decide)
  have hlen := (z_len eG6).trans hlen
  have hsl := (z_sl hf_ready eG6 rfl).trans hsl
  have hfr := hfr.wr hf_ready eG6 (by decide)
  have hf_ready := hf_ready.kept eG6
  change ab_W _ _ _ (List.set G3 f_ready (za 20 (zu (zu RD_ (at_ + 0) (byt x 0)) (at_ + 1) (byt x 1)))) 28 [some (vR w_), some (vz at_), some (vz x), some (vz 1)] [] _
  rw [← eG6]
  refine zz_iinc d_PW_makeReady_28 rfl (Nat.le_of_ble_eq_true rfl) (Nat.le_of_ble_eq_true rfl) rfl ?_
  change ab_W _ _ _ G6 31 [some (vR w_), some (vz at_), some (vz x), some (vz 2)] [] _
  refine ab_goto (tgt := 2) d_PW_makeReady_31 (by decide) ?_
  refine ab_iload_n d_PW_makeReady_2 rfl ?_
  refine zz_iconst d_PW_makeReady_3 ?_
  refine zz_icmp_ge (tgt := 34) d_PW_makeReady_4 (by decide) (by decide) (by decide) (fun c7 => absurd c7 (by decide)) (fun c7 => ?_)
  refine ab_aload_n d_PW_makeReady_7 rfl ?_
  refine ab_getf (fs := [vR f_ready, vR f_tape, vR f_reader, vR f_programs, vR f_subject, vR f_spans, vR f_threads, vR f_marks, vR f_oneMind, vR f_states, vR f_latest, vR f_matches, vR f_pieces, vR f_template, vR f_result, vR f_spare, vz cmp, vz ovs]) f_PW_9 d_PW_makeReady_8 hw_.2.2 rfl ?_
  refine ab_iload_n d_PW_makeReady_11 rfl ?_
  refine ab_iload_n d_PW_makeReady_12 rfl ?_
  refine zz_iadd d_PW_makeReady_13 ?_
  refine ab_iload_n d_PW_makeReady_14 rfl ?_
  refine zz_bipush d_PW_makeReady_15 (by decide) ?_
  refine zz_bipush d_PW_makeReady_17 (by decide) ?_
  refine ab_iload_n d_PW_makeReady_19 rfl ?_
  refine zz_imul d_PW_makeReady_20 ?_
  refine zz_top (y := 16) (by decide) ?_
  refine zz_isub d_PW_makeReady_21 ?_
  refine zz_top (y := 8) (by decide) ?_
  refine ab_iushr d_PW_makeReady_22 ?_
  refine zz_sipush d_PW_makeReady_23 (by decide) ?_
  refine ab_iand d_PW_makeReady_26 ?_
  refine ab_topi (byt_u (k := 2) (by decide) (by decide)) ?_
  have hb8 := byt_b x 2
  change ab_W _ _ _ G6 27 [some (vR w_), some (vz at_), some (vz x), some (vz 2)] [vz (byt x 2), vz (at_ + 2), vR f_ready] _
  refine zz_iast d_PW_makeReady_27 hf_ready (by omega) (hf_ready.2.1 (by decide)) ?_
  obtain ⟨G9, eG9⟩ : ∃ z : ab_G, z = List.set G6 f_ready (za 20 (zu (zu (zu RD_ (at_ + 0) (byt x 0)) (at_ + 1) (byt x 1)) (at_ + 2) (byt x 2))) := ⟨_, rfl⟩
  have hw_ := hw_.keep hf_ready eG9 (by decide)
  have hlen := (z_len eG9).trans hlen
  have hsl := (z_sl hf_ready eG9 rfl).trans hsl
  have hfr := hfr.wr hf_ready eG9 (by decide)
  have hf_ready := hf_ready.kept eG9
  change ab_W _ _ _ (List.set G6 f_ready (za 20 (zu (zu (zu RD_ (at_ + 0) (byt x 0)) (at_ + 1) (byt x 1)) (at_ + 2) (byt x 2)))) 28 [some (vR w_), some (vz at_), some (vz x), some (vz 2)] [] _
  rw [← eG9]
  refine zz_iinc d_PW_makeReady_28 rfl (Nat.le_of_ble_eq_true rfl) (Nat.le_of_ble_eq_true rfl) rfl ?_
  change ab_W _ _ _ G9 31 [some (vR w_), some (vz at_), some (vz x), some (vz 3)] [] _
  refine ab_goto (tgt := 2) d_PW_makeReady_31 (by decide) ?_
  refine ab_iload_n d_PW_makeReady_2 rfl ?_
  refine zz_iconst d_PW_makeReady_3 ?_
  refine zz_icmp_ge (tgt := 34) d_PW_makeReady_4 (by decide) (by decide) (by decide) (fun c10 => absurd c10 (by decide)) (fun c10 => ?_)
  refine ab_aload_n d_PW_makeReady_7 rfl ?_
  refine ab_getf (fs := [vR f_ready, vR f_tape, vR f_reader, vR f_programs, vR f_subject, vR f_spans, vR f_threads, vR f_marks, vR f_oneMind, vR f_states, vR f_latest, vR f_matches, vR f_pieces, vR f_template, vR f_result, vR f_spare, vz cmp, vz ovs]) f_PW_9 d_PW_makeReady_8 hw_.2.2 rfl ?_
  refine ab_iload_n d_PW_makeReady_11 rfl ?_
  refine ab_iload_n d_PW_makeReady_12 rfl ?_
  refine zz_iadd d_PW_makeReady_13 ?_
  refine ab_iload_n d_PW_makeReady_14 rfl ?_
  refine zz_bipush d_PW_makeReady_15 (by decide) ?_
  refine zz_bipush d_PW_makeReady_17 (by decide) ?_
  refine ab_iload_n d_PW_makeReady_19 rfl ?_
  refine zz_imul d_PW_makeReady_20 ?_
  refine zz_top (y := 24) (by decide) ?_
  refine zz_isub d_PW_makeReady_21 ?_
  refine zz_top (y := 0) (by decide) ?_
  refine ab_iushr d_PW_makeReady_22 ?_
  refine zz_sipush d_PW_makeReady_23 (by decide) ?_
  refine ab_iand d_PW_makeReady_26 ?_
  refine ab_topi (byt_u (k := 3) (by decide) (by decide)) ?_
  have hb11 := byt_b x 3
  change ab_W _ _ _ G9 27 [some (vR w_), some (vz at_), some (vz x), some (vz 3)] [vz (byt x 3), vz (at_ + 3), vR f_ready] _
  refine zz_iast d_PW_makeReady_27 hf_ready (by omega) (hf_ready.2.1 (by decide)) ?_
  obtain ⟨G12, eG12⟩ : ∃ z : ab_G, z = List.set G9 f_ready (za 20 (zu (zu (zu (zu RD_ (at_ + 0) (byt x 0)) (at_ + 1) (byt x 1)) (at_ + 2) (byt x 2)) (at_ + 3) (byt x 3))) := ⟨_, rfl⟩
  have hw_ := hw_.keep hf_ready eG12 (by decide)
  have hlen := (z_len eG12).trans hlen
  have hsl := (z_sl hf_ready eG12 rfl).trans hsl
  have hfr := hfr.wr hf_ready eG12 (by decide)
  have hf_ready := hf_ready.kept eG12
  change ab_W _ _ _ (List.set G9 f_ready (za 20 (zu (zu (zu (zu RD_ (at_ + 0) (byt x 0)) (at_ + 1) (byt x 1)) (at_ + 2) (byt x 2)) (at_ + 3) (byt x 3)))) 28 [some (vR w_), some (vz at_), some (vz x), some (vz 3)] [] _
  rw [← eG12]
  refine zz_iinc d_PW_makeReady_28 rfl (Nat.le_of_ble_eq_true rfl) (Nat.le_of_ble_eq_true rfl) rfl ?_
  change ab_W _ _ _ G12 31 [some (vR w_), some (vz at_), some (vz x), some (vz 4)] [] _
  refine ab_goto (tgt := 2) d_PW_makeReady_31 (by decide) ?_
  refine ab_iload_n d_PW_makeReady_2 rfl ?_
  refine zz_iconst d_PW_makeReady_3 ?_
  refine zz_icmp_ge (tgt := 34) d_PW_makeReady_4 (by decide) (by decide) (by decide) (fun c13 => ?_) (fun c13 => absurd c13 (by decide))
  refine ab_vret rfl d_PW_makeReady_34 ?_
  rw [hQ]; exact ⟨_, rfl, hfr, hlen, hsl, hf_ready, (by first | exact (rgs_zu (rgs_zu (rgs_zu (rgs_zu jr (by omega)) (by omega)) (by omega)) (by omega)) | exact rgs_w (rgs_zu (rgs_zu (rgs_zu (rgs_zu jr (by omega)) (by omega)) (by omega)) (by omega)) (by omega)), (by exact mrR_of (by omega) (by omega) (by omega) (by omega))⟩
set_option maxRecDepth 100000 in
set_option maxHeartbeats 4000000 in
theorem z_PW_feed {X : ab_X} {d : Nat} {o : Nat → Nat} {G : ab_G} {w_ : Nat} {f_ready : Nat} {f_tape : Nat} {f_reader : Nat} {f_programs : Nat} {f_subject : Nat} {f_spans : Nat} {f_threads : Nat} {f_marks : Nat} {f_oneMind : Nat} {f_states : Nat} {f_latest : Nat} {f_matches : Nat} {f_pieces : Nat} {f_template : Nat} {f_result : Nat} {f_spare : Nat} {cmp : Int} {ovs : Int} {x1 : Int} {x2 : Int} {x3 : Int} {x4 : Int} {x5 : Int} {RD_ : Int → Int} (hw_ : cc o G w_ 18 (ab_ob 0 [vR f_ready, vR f_tape, vR f_reader, vR f_programs, vR f_subject, vR f_spans, vR f_threads, vR f_marks, vR f_oneMind, vR f_states, vR f_latest, vR f_matches, vR f_pieces, vR f_template, vR f_result, vR f_spare, vz cmp, vz ovs])) (hf_ready : cc o G f_ready 19 (za 20 RD_)) (n18 : ab_n0 = 18) (jr : rgs RD_ 20 0 255) (hd : 1 ≤ d) : ab_F X d y_PW_feed (.code y_PW_feed b_PW_feed 6 none) [vR w_, vz x1, vz x2, vz x3, vz x4, vz x5] G (fun oc G2 => ∃ R2 : Int → Int, oc = .returned none ∧ fx o o [19] G G2 ∧ G2.length = G.length ∧ ab_slots G2 = ab_slots G ∧ cc o G2 f_ready 19 (za 20 R2) ∧ (rgs R2 20 0 255) ∧ (fdI R2 x1 x2 x3 x4 x5 4)) := by
  refine ab_F_of (by decide +kernel) (Nat.le_of_ble_eq_true rfl) ?_
  obtain ⟨Q, hQ⟩ : ∃ z : Outcome → ab_G → Prop, z = (fun oc G2 => ∃ R2 : Int → Int, oc = .returned none ∧ fx o o [19] G G2 ∧ G2.length = G.length ∧ ab_slots G2 = ab_slots G ∧ cc o G2 f_ready 19 (za 20 R2) ∧ (rgs R2 20 0 255) ∧ (fdI R2 x1 x2 x3 x4 x5 4)) := ⟨_, rfl⟩
  rw [← hQ]
  change ab_W X (ab_pl y_PW_feed b_PW_feed 6 none) d G 0 [some (vR w_), some (vz x1), some (vz x2), some (vz x3), some (vz x4), some (vz x5)] [] Q
  have hfr : fx o o [19] G G := fx.rf
  have hlen : G.length = G.length := rfl
  have hsl : ab_slots G = ab_slots G := rfl
  refine ab_aload_n d_PW_feed_0 rfl ?_
  refine zz_iconst d_PW_feed_1 ?_
  refine ab_iload_n d_PW_feed_2 rfl ?_
  refine ab_callV (d' := d - 1) (as := [vz 0, vz x1]) (st := []) (r := _) (z_PW_makeReady (o := o) (w_ := w_) (f_ready := f_ready) (f_tape := f_tape) (f_reader := f_reader) (f_programs := f_programs) (f_subject := f_subject) (f_spans := f_spans) (f_threads := f_threads) (f_marks := f_marks) (f_oneMind := f_oneMind) (f_states := f_states) (f_latest := f_latest) (f_matches := f_matches) (f_pieces := f_pieces) (f_template := f_template) (f_result := f_result) (f_spare := f_spare) (cmp := cmp) (ovs := ovs) (at_ := 0) (x := x1) (RD_ := RD_) hw_ hf_ready (by omega) (by omega) jr) (fun oc G2 h => by rcases h with ⟨_, h, _⟩ <;> exact ⟨_, h⟩) (by omega) m_PW_makeReady ml_PW_97 im_PW_makeReady se_PW_makeReady c_PW hw_.2.2 (Nat.le_of_ble_eq_true rfl) d_PW_feed_3 rfl ?_
  intro v G1 hq
  rcases hq with ⟨R22, hv, hfk, hlk, hsk, hNf_ready, hq3, hq4⟩
  cases hv
  have hw_ := hfk.get hw_ (by decide)
  have hfr := hfr.tr hfk (by decide)
  have hlen := hlk.trans hlen
  have hsl := hsk.trans hsl
  have hf_ready := hNf_ready
  change ab_W _ _ _ G1 6 [some (vR w_), some (vz x1), some (vz x2), some (vz x3), some (vz x4), some (vz x5)] [] _
  refine ab_aload_n d_PW_feed_6 rfl ?_
  refine zz_iconst d_PW_feed_7 ?_
  refine ab_iload_n d_PW_feed_8 rfl ?_
  refine ab_callV (d' := d - 1) (as := [vz 4, vz x2]) (st := []) (r := _) (z_PW_makeReady (o := o) (w_ := w_) (f_ready := f_ready) (f_tape := f_tape) (f_reader := f_reader) (f_programs := f_programs) (f_subject := f_subject) (f_spans := f_spans) (f_threads := f_threads) (f_marks := f_marks) (f_oneMind := f_oneMind) (f_states := f_states) (f_latest := f_latest) (f_matches := f_matches) (f_pieces := f_pieces) (f_template := f_template) (f_result := f_result) (f_spare := f_spare) (cmp := cmp) (ovs := ovs) (at_ := 4) (x := x2) (RD_ := R22) hw_ hf_ready (by omega) (by omega) hq3) (fun oc G2 h => by rcases h with ⟨_, h, _⟩ <;> exact ⟨_, h⟩) (by omega) m_PW_makeReady ml_PW_97 im_PW_makeReady se_PW_makeReady c_PW hw_.2.2 (Nat.le_of_ble_eq_true rfl) d_PW_feed_9 rfl ?_
  intro v G5 hq
  rcases hq with ⟨R26, hv, hfk, hlk, hsk, hNf_ready, hq7, hq8⟩
  cases hv
  have hw_ := hfk.get hw_ (by decide)
  have hfr := hfr.tr hfk (by decide)
  have hlen := hlk.trans hlen
  have hsl := hsk.trans hsl
  have hf_ready := hNf_ready
  change ab_W _ _ _ G5 12 [some (vR w_), some (vz x1), some (vz x2), some (vz x3), some (vz x4), some (vz x5)] [] _
  refine ab_aload_n d_PW_feed_12 rfl ?_
  refine zz_bipush d_PW_feed_13 (by decide) ?_
  refine ab_iload_n d_PW_feed_15 rfl ?_
  refine ab_callV (d' := d - 1) (as := [vz 8, vz x3]) (st := []) (r := _) (z_PW_makeReady (o := o) (w_ := w_) (f_ready := f_ready) (f_tape := f_tape) (f_reader := f_reader) (f_programs := f_programs) (f_subject := f_subject) (f_spans := f_spans) (f_threads := f_threads) (f_marks := f_marks) (f_oneMind := f_oneMind) (f_states := f_states) (f_latest := f_latest) (f_matches := f_matches) (f_pieces := f_pieces) (f_template := f_template) (f_result := f_result) (f_spare := f_spare) (cmp := cmp) (ovs := ovs) (at_ := 8) (x := x3) (RD_ := R26) hw_ hf_ready (by omega) (by omega) hq7) (fun oc G2 h => by rcases h with ⟨_, h, _⟩ <;> exact ⟨_, h⟩) (by omega) m_PW_makeReady ml_PW_97 im_PW_makeReady se_PW_makeReady c_PW hw_.2.2 (Nat.le_of_ble_eq_true rfl) d_PW_feed_16 rfl ?_
  intro v G9 hq
  rcases hq with ⟨R210, hv, hfk, hlk, hsk, hNf_ready, hq11, hq12⟩
  cases hv
  have hw_ := hfk.get hw_ (by decide)
  have hfr := hfr.tr hfk (by decide)
  have hlen := hlk.trans hlen
  have hsl := hsk.trans hsl
  have hf_ready := hNf_ready
  change ab_W _ _ _ G9 19 [some (vR w_), some (vz x1), some (vz x2), some (vz x3), some (vz x4), some (vz x5)] [] _
  refine ab_aload_n d_PW_feed_19 rfl ?_
  refine zz_bipush d_PW_feed_20 (by decide) ?_
  refine ab_iload d_PW_feed_22 rfl ?_
  refine ab_callV (d' := d - 1) (as := [vz 12, vz x4]) (st := []) (r := _) (z_PW_makeReady (o := o) (w_ := w_) (f_ready := f_ready) (f_tape := f_tape) (f_reader := f_reader) (f_programs := f_programs) (f_subject := f_subject) (f_spans := f_spans) (f_threads := f_threads) (f_marks := f_marks) (f_oneMind := f_oneMind) (f_states := f_states) (f_latest := f_latest) (f_matches := f_matches) (f_pieces := f_pieces) (f_template := f_template) (f_result := f_result) (f_spare := f_spare) (cmp := cmp) (ovs := ovs) (at_ := 12) (x := x4) (RD_ := R210) hw_ hf_ready (by omega) (by omega) hq11) (fun oc G2 h => by rcases h with ⟨_, h, _⟩ <;> exact ⟨_, h⟩) (by omega) m_PW_makeReady ml_PW_97 im_PW_makeReady se_PW_makeReady c_PW hw_.2.2 (Nat.le_of_ble_eq_true rfl) d_PW_feed_24 rfl ?_
  intro v G13 hq
  rcases hq with ⟨R214, hv, hfk, hlk, hsk, hNf_ready, hq15, hq16⟩
  cases hv
  have hw_ := hfk.get hw_ (by decide)
  have hfr := hfr.tr hfk (by decide)
  have hlen := hlk.trans hlen
  have hsl := hsk.trans hsl
  have hf_ready := hNf_ready
  change ab_W _ _ _ G13 27 [some (vR w_), some (vz x1), some (vz x2), some (vz x3), some (vz x4), some (vz x5)] [] _
  refine ab_aload_n d_PW_feed_27 rfl ?_
  refine zz_bipush d_PW_feed_28 (by decide) ?_
  refine ab_iload d_PW_feed_30 rfl ?_
  refine ab_callV (d' := d - 1) (as := [vz 16, vz x5]) (st := []) (r := _) (z_PW_makeReady (o := o) (w_ := w_) (f_ready := f_ready) (f_tape := f_tape) (f_reader := f_reader) (f_programs := f_programs) (f_subject := f_subject) (f_spans := f_spans) (f_threads := f_threads) (f_marks := f_marks) (f_oneMind := f_oneMind) (f_states := f_states) (f_latest := f_latest) (f_matches := f_matches) (f_pieces := f_pieces) (f_template := f_template) (f_result := f_result) (f_spare := f_spare) (cmp := cmp) (ovs := ovs) (at_ := 16) (x := x5) (RD_ := R214) hw_ hf_ready (by omega) (by omega) hq15) (fun oc G2 h => by rcases h with ⟨_, h, _⟩ <;> exact ⟨_, h⟩) (by omega) m_PW_makeReady ml_PW_97 im_PW_makeReady se_PW_makeReady c_PW hw_.2.2 (Nat.le_of_ble_eq_true rfl) d_PW_feed_32 rfl ?_
  intro v G17 hq
  rcases hq with ⟨R218, hv, hfk, hlk, hsk, hNf_ready, hq19, hq20⟩
  cases hv
  have hw_ := hfk.get hw_ (by decide)
  have hfr := hfr.tr hfk (by decide)
  have hlen := hlk.trans hlen
  have hsl := hsk.trans hsl
  have hf_ready := hNf_ready
  change ab_W _ _ _ G17 35 [some (vR w_), some (vz x1), some (vz x2), some (vz x3), some (vz x4), some (vz x5)] [] _
  refine ab_vret rfl d_PW_feed_35 ?_
  rw [hQ]; exact ⟨_, rfl, hfr, hlen, hsl, hf_ready, (by first | exact hq19 | exact rgs_w hq19 (by omega)), (by exact fdI_mr hq4 hq8 hq12 hq16 hq20)⟩
set_option maxRecDepth 100000 in
set_option maxHeartbeats 4000000 in
theorem z_PW_over {X : ab_X} {d : Nat} {o : Nat → Nat} {G : ab_G} {w_ : Nat} {f_ready : Nat} {f_tape : Nat} {f_reader : Nat} {f_programs : Nat} {f_subject : Nat} {f_spans : Nat} {f_threads : Nat} {f_marks : Nat} {f_oneMind : Nat} {f_states : Nat} {f_latest : Nat} {f_matches : Nat} {f_pieces : Nat} {f_template : Nat} {f_result : Nat} {f_spare : Nat} {cmp : Int} {ovs : Int} (hw_ : cc o G w_ 18 (ab_ob 0 [vR f_ready, vR f_tape, vR f_reader, vR f_programs, vR f_subject, vR f_spans, vR f_threads, vR f_marks, vR f_oneMind, vR f_states, vR f_latest, vR f_matches, vR f_pieces, vR f_template, vR f_result, vR f_spare, vz cmp, vz ovs])) : ab_F X d y_PW_over (.code y_PW_over b_PW_over 1 (some (.int))) [vR w_] G (fun oc G2 => oc = .returned (some (vz ovs)) ∧ G2 = G) := by
  refine ab_F_of (by decide +kernel) (Nat.le_of_ble_eq_true rfl) ?_
  obtain ⟨Q, hQ⟩ : ∃ z : Outcome → ab_G → Prop, z = (fun oc G2 => oc = .returned (some (vz ovs)) ∧ G2 = G) := ⟨_, rfl⟩
  rw [← hQ]
  change ab_W X (ab_pl y_PW_over b_PW_over 1 (some (.int))) d G 0 [some (vR w_)] [] Q
  have hfr : fx o o [] G G := fx.rf
  have hlen : G.length = G.length := rfl
  have hsl : ab_slots G = ab_slots G := rfl
  refine ab_aload_n d_PW_over_0 rfl ?_
  refine ab_getf (fs := [vR f_ready, vR f_tape, vR f_reader, vR f_programs, vR f_subject, vR f_spans, vR f_threads, vR f_marks, vR f_oneMind, vR f_states, vR f_latest, vR f_matches, vR f_pieces, vR f_template, vR f_result, vR f_spare, vz cmp, vz ovs]) f_PW_240 d_PW_over_1 hw_.2.2 rfl ?_
  refine zz_iret rfl d_PW_over_4 ?_
  rw [hQ]; exact ⟨rfl, rfl⟩
set_option maxRecDepth 100000 in
set_option maxHeartbeats 4000000 in
theorem z_PW_group {X : ab_X} {d : Nat} {o : Nat → Nat} {G : ab_G} {w_ : Nat} {f_ready : Nat} {f_tape : Nat} {f_reader : Nat} {f_programs : Nat} {f_subject : Nat} {f_spans : Nat} {f_threads : Nat} {f_marks : Nat} {f_oneMind : Nat} {f_states : Nat} {f_latest : Nat} {f_matches : Nat} {f_pieces : Nat} {f_template : Nat} {f_result : Nat} {f_spare : Nat} {cmp : Int} {ovs : Int} {k : Int} {wh : Int} {LA : Int → Int} (hw_ : cc o G w_ 18 (ab_ob 0 [vR f_ready, vR f_tape, vR f_reader, vR f_programs, vR f_subject, vR f_spans, vR f_threads, vR f_marks, vR f_oneMind, vR f_states, vR f_latest, vR f_matches, vR f_pieces, vR f_template, vR f_result, vR f_spare, vz cmp, vz ovs])) (hf_latest : cc o G f_latest 70 (za 20 LA)) (cr : -2147483648 ≤ k ∧ k ≤ 2147483647 ∧ -2147483648 ≤ wh ∧ wh ≤ 2147483647) : ab_F X d y_PW_group (.code y_PW_group b_PW_group 3 (some (.int))) [vR w_, vz k, vz wh] G (fun oc G2 => ∃ v : Int, oc = .returned (some (vz v)) ∧ G2 = G ∧ (grC LA k wh v)) := by
  refine ab_F_of (by decide +kernel) (Nat.le_of_ble_eq_true rfl) ?_
  obtain ⟨Q, hQ⟩ : ∃ z : Outcome → ab_G → Prop, z = (fun oc G2 => ∃ v : Int, oc = .returned (some (vz v)) ∧ G2 = G ∧ (grC LA k wh v)) := ⟨_, rfl⟩
  rw [← hQ]
  change ab_W X (ab_pl y_PW_group b_PW_group 3 (some (.int))) d G 0 [some (vR w_), some (vz k), some (vz wh)] [] Q
  have hfr : fx o o [] G G := fx.rf
  have hlen : G.length = G.length := rfl
  have hsl : ab_slots G = ab_slots G := rfl
  refine ab_iload_n d_PW_group_0 rfl ?_
  refine zz_if_lt (tgt := 19) d_PW_group_1 (by decide) (by omega) (fun c1 => ?_) (fun c1 => ?_)
  · refine zz_iconst d_PW_group_19 ?_
    refine zz_iret rfl d_PW_group_20 ?_
    rw [hQ]; exact ⟨_, rfl, rfl, (by first | exact Or.inl ⟨by omega, rfl⟩ | exact Or.inr ⟨by omega, rfl⟩)⟩
  · refine ab_iload_n d_PW_group_4 rfl ?_
    refine zz_bipush d_PW_group_5 (by decide) ?_
    refine zz_icmp_gt (tgt := 19) d_PW_group_7 (by decide) (by omega) (by decide) (fun c2 => ?_) (fun c2 => ?_)
    · refine zz_iconst d_PW_group_19 ?_
      refine zz_iret rfl d_PW_group_20 ?_
      rw [hQ]; exact ⟨_, rfl, rfl, (by first | exact Or.inl ⟨by omega, rfl⟩ | exact Or.inr ⟨by omega, rfl⟩)⟩
    · refine ab_iload_n d_PW_group_10 rfl ?_
      refine zz_if_lt (tgt := 19) d_PW_group_11 (by decide) (by omega) (fun c3 => ?_) (fun c3 => ?_)
      · refine zz_iconst d_PW_group_19 ?_
        refine zz_iret rfl d_PW_group_20 ?_
        rw [hQ]; exact ⟨_, rfl, rfl, (by first | exact Or.inl ⟨by omega, rfl⟩ | exact Or.inr ⟨by omega, rfl⟩)⟩
      · refine ab_iload_n d_PW_group_14 rfl ?_
        refine zz_iconst d_PW_group_15 ?_
        refine zz_icmp_le (tgt := 21) d_PW_group_16 (by decide) (by omega) (by decide) (fun c4 => ?_) (fun c4 => ?_)
        · refine ab_aload_n d_PW_group_21 rfl ?_
          refine ab_getf (fs := [vR f_ready, vR f_tape, vR f_reader, vR f_programs, vR f_subject, vR f_spans, vR f_threads, vR f_marks, vR f_oneMind, vR f_states, vR f_latest, vR f_matches, vR f_pieces, vR f_template, vR f_result, vR f_spare, vz cmp, vz ovs]) f_PW_73 d_PW_group_22 hw_.2.2 rfl ?_
          refine zz_iconst d_PW_group_25 ?_
          refine ab_iload_n d_PW_group_26 rfl ?_
          refine zz_imul d_PW_group_27 ?_
          refine ab_iload_n d_PW_group_28 rfl ?_
          refine zz_iadd d_PW_group_29 ?_
          refine zz_iald d_PW_group_30 hf_latest (by omega) ?_
          refine zz_iret rfl d_PW_group_31 ?_
          rw [hQ]; exact ⟨_, rfl, rfl, (by first | exact Or.inl ⟨by omega, rfl⟩ | exact Or.inr ⟨by omega, rfl⟩)⟩
        · refine zz_iconst d_PW_group_19 ?_
          refine zz_iret rfl d_PW_group_20 ?_
          rw [hQ]; exact ⟨_, rfl, rfl, (by first | exact Or.inl ⟨by omega, rfl⟩ | exact Or.inr ⟨by omega, rfl⟩)⟩
set_option maxRecDepth 100000 in
set_option maxHeartbeats 4000000 in
theorem z_PW_pairAt {X : ab_X} {d : Nat} {o : Nat → Nat} {G : ab_G} {r : Nat} {lr : Nat} {lim : Int} {it : Nat} {li : Nat} {sz : Int} {mr : Nat} {FR : Int → Int} {k : Int} {wh : Int} (hr : cc o G r lr (ab_ob 7 [vz lim, vR it, vz sz])) (hit : cc o G it li (za mr FR)) (c0 : 0 ≤ sz ∧ sz ≤ ↑mr ∧ ↑mr ≤ lim ∧ lim ≤ 1000000 ∧ 1 ≤ mr) (cr : -2147483648 ≤ k ∧ k ≤ 2147483647 ∧ -2147483648 ≤ wh ∧ wh ≤ 2147483647) (hd : 1 ≤ d) : ab_F X d y_PW_pairAt (.code y_PW_pairAt b_PW_pairAt 4 (some (.int))) [vR r, vz k, vz wh] G (fun oc G2 => ∃ v : Int, oc = .returned (some (vz v)) ∧ G2 = G ∧ (paR FR (sz / 2) k wh v)) := by
  refine ab_F_of (by decide +kernel) (Nat.le_of_ble_eq_true rfl) ?_
  obtain ⟨Q, hQ⟩ : ∃ z : Outcome → ab_G → Prop, z = (fun oc G2 => ∃ v : Int, oc = .returned (some (vz v)) ∧ G2 = G ∧ (paR FR (sz / 2) k wh v)) := ⟨_, rfl⟩
  rw [← hQ]
  change ab_W X (ab_pl y_PW_pairAt b_PW_pairAt 4 (some (.int))) d G 0 [some (vR r), some (vz k), some (vz wh), none] [] Q
  have hfr : fx o o [] G G := fx.rf
  have hlen : G.length = G.length := rfl
  have hsl : ab_slots G = ab_slots G := rfl
  refine ab_iload_n d_PW_pairAt_0 rfl ?_
  refine zz_if_lt (tgt := 27) d_PW_pairAt_1 (by decide) (by omega) (fun c1 => ?_) (fun c1 => ?_)
  · refine zz_iconst d_PW_pairAt_27 ?_
    refine ab_istore_n d_PW_pairAt_28 (Nat.le_of_ble_eq_true rfl) (Nat.le_of_ble_eq_true rfl) rfl ?_
    change ab_W _ _ _ G 29 [some (vR r), some (vz k), some (vz wh), some (vz 0)] [] _
    refine ab_iload_n d_PW_pairAt_29 rfl ?_
    refine zz_if_eq (tgt := 45) d_PW_pairAt_30 (by decide) (by decide) (fun c2 => ?_) (fun c2 => absurd c2 (by decide))
    refine zz_iconst d_PW_pairAt_45 ?_
    refine zz_iret rfl d_PW_pairAt_46 ?_
    rw [hQ]; exact ⟨_, rfl, rfl, (by exact Or.inr ⟨fun t => by omega, rfl⟩)⟩
  · refine ab_iload_n d_PW_pairAt_4 rfl ?_
    refine ab_aload_n d_PW_pairAt_5 rfl ?_
    refine ab_getf (fs := [vz lim, vR it, vz sz]) f_PW_101 d_PW_pairAt_6 hr.2.2 rfl ?_
    refine zz_iconst d_PW_pairAt_9 ?_
    refine zz_idiv d_PW_pairAt_10 (by omega) ?_
    refine zz_icmp_ge (tgt := 27) d_PW_pairAt_11 (by decide) (by omega) (by omega) (fun c3 => ?_) (fun c3 => ?_)
    · refine zz_iconst d_PW_pairAt_27 ?_
      refine ab_istore_n d_PW_pairAt_28 (Nat.le_of_ble_eq_true rfl) (Nat.le_of_ble_eq_true rfl) rfl ?_
      change ab_W _ _ _ G 29 [some (vR r), some (vz k), some (vz wh), some (vz 0)] [] _
      refine ab_iload_n d_PW_pairAt_29 rfl ?_
      refine zz_if_eq (tgt := 45) d_PW_pairAt_30 (by decide) (by decide) (fun c4 => ?_) (fun c4 => absurd c4 (by decide))
      refine zz_iconst d_PW_pairAt_45 ?_
      refine zz_iret rfl d_PW_pairAt_46 ?_
      rw [hQ]; exact ⟨_, rfl, rfl, (by exact Or.inr ⟨fun t => by omega, rfl⟩)⟩
    · refine ab_iload_n d_PW_pairAt_14 rfl ?_
      refine zz_if_lt (tgt := 27) d_PW_pairAt_15 (by decide) (by omega) (fun c5 => ?_) (fun c5 => ?_)
      · refine zz_iconst d_PW_pairAt_27 ?_
        refine ab_istore_n d_PW_pairAt_28 (Nat.le_of_ble_eq_true rfl) (Nat.le_of_ble_eq_true rfl) rfl ?_
        change ab_W _ _ _ G 29 [some (vR r), some (vz k), some (vz wh), some (vz 0)] [] _
        refine ab_iload_n d_PW_pairAt_29 rfl ?_
        refine zz_if_eq (tgt := 45) d_PW_pairAt_30 (by decide) (by decide) (fun c6 => ?_) (fun c6 => absurd c6 (by decide))
        refine zz_iconst d_PW_pairAt_45 ?_
        refine zz_iret rfl d_PW_pairAt_46 ?_
        rw [hQ]; exact ⟨_, rfl, rfl, (by exact Or.inr ⟨fun t => by omega, rfl⟩)⟩
      · refine ab_iload_n d_PW_pairAt_18 rfl ?_
        refine zz_iconst d_PW_pairAt_19 ?_
        refine zz_icmp_gt (tgt := 27) d_PW_pairAt_20 (by decide) (by omega) (by decide) (fun c7 => ?_) (fun c7 => ?_)
        · refine zz_iconst d_PW_pairAt_27 ?_
          refine ab_istore_n d_PW_pairAt_28 (Nat.le_of_ble_eq_true rfl) (Nat.le_of_ble_eq_true rfl) rfl ?_
          change ab_W _ _ _ G 29 [some (vR r), some (vz k), some (vz wh), some (vz 0)] [] _
          refine ab_iload_n d_PW_pairAt_29 rfl ?_
          refine zz_if_eq (tgt := 45) d_PW_pairAt_30 (by decide) (by decide) (fun c8 => ?_) (fun c8 => absurd c8 (by decide))
          refine zz_iconst d_PW_pairAt_45 ?_
          refine zz_iret rfl d_PW_pairAt_46 ?_
          rw [hQ]; exact ⟨_, rfl, rfl, (by exact Or.inr ⟨fun t => by omega, rfl⟩)⟩
        · refine zz_iconst d_PW_pairAt_23 ?_
          refine ab_goto (tgt := 28) d_PW_pairAt_24 (by decide) ?_
          refine ab_istore_n d_PW_pairAt_28 (Nat.le_of_ble_eq_true rfl) (Nat.le_of_ble_eq_true rfl) rfl ?_
          change ab_W _ _ _ G 29 [some (vR r), some (vz k), some (vz wh), some (vz 1)] [] _
          refine ab_iload_n d_PW_pairAt_29 rfl ?_
          refine zz_if_eq (tgt := 45) d_PW_pairAt_30 (by decide) (by decide) (fun c9 => absurd c9 (by decide)) (fun c9 => ?_)
          refine ab_aload_n d_PW_pairAt_33 rfl ?_
          refine zz_iconst d_PW_pairAt_34 ?_
          refine ab_iload_n d_PW_pairAt_35 rfl ?_
          refine zz_imul d_PW_pairAt_36 ?_
          refine ab_iload_n d_PW_pairAt_37 rfl ?_
          refine zz_iadd d_PW_pairAt_38 ?_
          refine ab_callV (d' := d - 1) (as := [vz ((2 * k) + wh)]) (st := []) (r := _) (z_RW_at (o := o) (r := r) (b := it) (lr := lr) (lb := li) (n := mr) (lim := lim) (sz := sz) (f := FR) (i := ((2 * k) + wh)) hr hit (by omega) (by omega)) (fun oc G2 h => by rcases h with ⟨h, _⟩ | ⟨h, _⟩ <;> exact ⟨_, h⟩) (by omega) m_RW_at ml_PW_228 im_RW_at se_RW_at c_RW hr.2.2 (Nat.le_of_ble_eq_true rfl) d_PW_pairAt_39 rfl ?_
          intro v G10 hq
          rcases hq with ⟨hv, hGe, hq11⟩ | ⟨hv, hGe, hq12⟩
          · cases hv
            rw [hGe]
            change ab_W _ _ _ G 42 [some (vR r), some (vz k), some (vz wh), some (vz 1)] [vz (FR ((2 * k) + wh))] _
            refine ab_goto (tgt := 46) d_PW_pairAt_42 (by decide) ?_
            refine zz_iret rfl d_PW_pairAt_46 ?_
            rw [hQ]; exact ⟨_, rfl, rfl, (by exact Or.inl ⟨by omega, rfl⟩)⟩
          · cases hv
            rw [hGe]
            change ab_W _ _ _ G 42 [some (vR r), some (vz k), some (vz wh), some (vz 1)] [vz (-1)] _
            refine ab_goto (tgt := 46) d_PW_pairAt_42 (by decide) ?_
            refine zz_iret rfl d_PW_pairAt_46 ?_
            rw [hQ]; exact ⟨_, rfl, rfl, (by exact Or.inr ⟨fun t => by omega, rfl⟩)⟩
set_option maxRecDepth 100000 in
set_option maxHeartbeats 4000000 in
theorem z_PW_found {X : ab_X} {d : Nat} {o : Nat → Nat} {G : ab_G} {w_ : Nat} {f_ready : Nat} {f_tape : Nat} {f_reader : Nat} {f_programs : Nat} {f_subject : Nat} {f_spans : Nat} {f_threads : Nat} {f_marks : Nat} {f_oneMind : Nat} {f_states : Nat} {f_latest : Nat} {f_matches : Nat} {f_pieces : Nat} {f_template : Nat} {f_result : Nat} {f_spare : Nat} {cmp : Int} {ovs : Int} {it_a : Nat} {sz_a : Int} {mr_a : Nat} {F_a : Int → Int} {k : Int} {wh : Int} (hw_ : cc o G w_ 18 (ab_ob 0 [vR f_ready, vR f_tape, vR f_reader, vR f_programs, vR f_subject, vR f_spans, vR f_threads, vR f_marks, vR f_oneMind, vR f_states, vR f_latest, vR f_matches, vR f_pieces, vR f_template, vR f_result, vR f_spare, vz cmp, vz ovs])) (hf_matches : cc o G f_matches 71 (ab_ob 7 [vz 4002, vR it_a, vz sz_a])) (hit_a : cc o G it_a 72 (za mr_a F_a)) (crw_a : 0 ≤ sz_a ∧ sz_a ≤ ↑mr_a ∧ ↑mr_a ≤ (4002 : Int) ∧ 32 ≤ mr_a) (cr : -2147483648 ≤ k ∧ k ≤ 2147483647 ∧ -2147483648 ≤ wh ∧ wh ≤ 2147483647) (hd : 2 ≤ d) : ab_F X d y_PW_found (.code y_PW_found b_PW_found 3 (some (.int))) [vR w_, vz k, vz wh] G (fun oc G2 => ∃ v : Int, oc = .returned (some (vz v)) ∧ G2 = G ∧ (paR F_a (sz_a / 2) k wh v)) := by
  refine ab_F_of (by decide +kernel) (Nat.le_of_ble_eq_true rfl) ?_
  obtain ⟨Q, hQ⟩ : ∃ z : Outcome → ab_G → Prop, z = (fun oc G2 => ∃ v : Int, oc = .returned (some (vz v)) ∧ G2 = G ∧ (paR F_a (sz_a / 2) k wh v)) := ⟨_, rfl⟩
  rw [← hQ]
  change ab_W X (ab_pl y_PW_found b_PW_found 3 (some (.int))) d G 0 [some (vR w_), some (vz k), some (vz wh)] [] Q
  have hfr : fx o o [] G G := fx.rf
  have hlen : G.length = G.length := rfl
  have hsl : ab_slots G = ab_slots G := rfl
  refine ab_aload_n d_PW_found_0 rfl ?_
  refine ab_getf (fs := [vR f_ready, vR f_tape, vR f_reader, vR f_programs, vR f_subject, vR f_spans, vR f_threads, vR f_marks, vR f_oneMind, vR f_states, vR f_latest, vR f_matches, vR f_pieces, vR f_template, vR f_result, vR f_spare, vz cmp, vz ovs]) f_PW_76 d_PW_found_1 hw_.2.2 rfl ?_
  refine ab_iload_n d_PW_found_4 rfl ?_
  refine ab_iload_n d_PW_found_5 rfl ?_
  refine ab_callS (d' := d - 1) (as := [vR f_matches, vz k, vz wh]) (st := []) (z_PW_pairAt (o := o) (r := f_matches) (lr := 71) (lim := 4002) (it := it_a) (li := 72) (sz := sz_a) (mr := mr_a) (FR := F_a) (k := k) (wh := wh) hf_matches hit_a (by omega) (by omega) (by omega)) (fun oc G2 h => by rcases h with ⟨_, h, _⟩ <;> exact ⟨_, h⟩) (by omega) m_PW_pairAt ml_PW_200 st_PW_pairAt (Nat.le_of_ble_eq_true rfl) d_PW_found_6 rfl ?_
  intro v G1 hq
  rcases hq with ⟨v2, hv, hGe, hq3⟩
  cases hv
  rw [hGe]
  change ab_W _ _ _ G 9 [some (vR w_), some (vz k), some (vz wh)] [vz v2] _
  refine zz_iret rfl d_PW_found_9 ?_
  rw [hQ]; exact ⟨_, rfl, rfl, (by exact hq3)⟩
set_option maxRecDepth 100000 in
set_option maxHeartbeats 4000000 in
theorem z_PW_piece {X : ab_X} {d : Nat} {o : Nat → Nat} {G : ab_G} {w_ : Nat} {f_ready : Nat} {f_tape : Nat} {f_reader : Nat} {f_programs : Nat} {f_subject : Nat} {f_spans : Nat} {f_threads : Nat} {f_marks : Nat} {f_oneMind : Nat} {f_states : Nat} {f_latest : Nat} {f_matches : Nat} {f_pieces : Nat} {f_template : Nat} {f_result : Nat} {f_spare : Nat} {cmp : Int} {ovs : Int} {it_a : Nat} {sz_a : Int} {mr_a : Nat} {F_a : Int → Int} {k : Int} {wh : Int} (hw_ : cc o G w_ 18 (ab_ob 0 [vR f_ready, vR f_tape, vR f_reader, vR f_programs, vR f_subject, vR f_spans, vR f_threads, vR f_marks, vR f_oneMind, vR f_states, vR f_latest, vR f_matches, vR f_pieces, vR f_template, vR f_result, vR f_spare, vz cmp, vz ovs])) (hf_pieces : cc o G f_pieces 73 (ab_ob 7 [vz 4004, vR it_a, vz sz_a])) (hit_a : cc o G it_a 74 (za mr_a F_a)) (crw_a : 0 ≤ sz_a ∧ sz_a ≤ ↑mr_a ∧ ↑mr_a ≤ (4004 : Int) ∧ 32 ≤ mr_a) (cr : -2147483648 ≤ k ∧ k ≤ 2147483647 ∧ -2147483648 ≤ wh ∧ wh ≤ 2147483647) (hd : 2 ≤ d) : ab_F X d y_PW_piece (.code y_PW_piece b_PW_piece 3 (some (.int))) [vR w_, vz k, vz wh] G (fun oc G2 => ∃ v : Int, oc = .returned (some (vz v)) ∧ G2 = G ∧ (paR F_a (sz_a / 2) k wh v)) := by
  refine ab_F_of (by decide +kernel) (Nat.le_of_ble_eq_true rfl) ?_
  obtain ⟨Q, hQ⟩ : ∃ z : Outcome → ab_G → Prop, z = (fun oc G2 => ∃ v : Int, oc = .returned (some (vz v)) ∧ G2 = G ∧ (paR F_a (sz_a / 2) k wh v)) := ⟨_, rfl⟩
  rw [← hQ]
  change ab_W X (ab_pl y_PW_piece b_PW_piece 3 (some (.int))) d G 0 [some (vR w_), some (vz k), some (vz wh)] [] Q
  have hfr : fx o o [] G G := fx.rf
  have hlen : G.length = G.length := rfl
  have hsl : ab_slots G = ab_slots G := rfl
  refine ab_aload_n d_PW_piece_0 rfl ?_
  refine ab_getf (fs := [vR f_ready, vR f_tape, vR f_reader, vR f_programs, vR f_subject, vR f_spans, vR f_threads, vR f_marks, vR f_oneMind, vR f_states, vR f_latest, vR f_matches, vR f_pieces, vR f_template, vR f_result, vR f_spare, vz cmp, vz ovs]) f_PW_79 d_PW_piece_1 hw_.2.2 rfl ?_
  refine ab_iload_n d_PW_piece_4 rfl ?_
  refine ab_iload_n d_PW_piece_5 rfl ?_
  refine ab_callS (d' := d - 1) (as := [vR f_pieces, vz k, vz wh]) (st := []) (z_PW_pairAt (o := o) (r := f_pieces) (lr := 73) (lim := 4004) (it := it_a) (li := 74) (sz := sz_a) (mr := mr_a) (FR := F_a) (k := k) (wh := wh) hf_pieces hit_a (by omega) (by omega) (by omega)) (fun oc G2 h => by rcases h with ⟨_, h, _⟩ <;> exact ⟨_, h⟩) (by omega) m_PW_pairAt ml_PW_200 st_PW_pairAt (Nat.le_of_ble_eq_true rfl) d_PW_piece_6 rfl ?_
  intro v G1 hq
  rcases hq with ⟨v2, hv, hGe, hq3⟩
  cases hv
  rw [hGe]
  change ab_W _ _ _ G 9 [some (vR w_), some (vz k), some (vz wh)] [vz v2] _
  refine zz_iret rfl d_PW_piece_9 ?_
  rw [hQ]; exact ⟨_, rfl, rfl, (by exact hq3)⟩
set_option maxRecDepth 100000 in
set_option maxHeartbeats 4000000 in
theorem z_PW_output {X : ab_X} {d : Nat} {o : Nat → Nat} {G : ab_G} {w_ : Nat} {f_ready : Nat} {f_tape : Nat} {f_reader : Nat} {f_programs : Nat} {f_subject : Nat} {f_spans : Nat} {f_threads : Nat} {f_marks : Nat} {f_oneMind : Nat} {f_states : Nat} {f_latest : Nat} {f_matches : Nat} {f_pieces : Nat} {f_template : Nat} {f_result : Nat} {f_spare : Nat} {cmp : Int} {ovs : Int} {it_a : Nat} {sz_a : Int} {mr_a : Nat} {F_a : Int → Int} {k : Int} (hw_ : cc o G w_ 18 (ab_ob 0 [vR f_ready, vR f_tape, vR f_reader, vR f_programs, vR f_subject, vR f_spans, vR f_threads, vR f_marks, vR f_oneMind, vR f_states, vR f_latest, vR f_matches, vR f_pieces, vR f_template, vR f_result, vR f_spare, vz cmp, vz ovs])) (hf_result : cc o G f_result 77 (ab_ob 7 [vz 6000, vR it_a, vz sz_a])) (hit_a : cc o G it_a 78 (za mr_a F_a)) (crw_a : 0 ≤ sz_a ∧ sz_a ≤ ↑mr_a ∧ ↑mr_a ≤ (6000 : Int) ∧ 32 ≤ mr_a) (cr : -2147483648 ≤ k ∧ k ≤ 2147483647) (hd : 1 ≤ d) : ab_F X d y_PW_output (.code y_PW_output b_PW_output 2 (some (.int))) [vR w_, vz k] G (fun oc G2 => ∃ v : Int, oc = .returned (some (vz v)) ∧ G2 = G) := by
  refine ab_F_of (by decide +kernel) (Nat.le_of_ble_eq_true rfl) ?_
  obtain ⟨Q, hQ⟩ : ∃ z : Outcome → ab_G → Prop, z = (fun oc G2 => ∃ v : Int, oc = .returned (some (vz v)) ∧ G2 = G) := ⟨_, rfl⟩
  rw [← hQ]
  change ab_W X (ab_pl y_PW_output b_PW_output 2 (some (.int))) d G 0 [some (vR w_), some (vz k)] [] Q
  have hfr : fx o o [] G G := fx.rf
  have hlen : G.length = G.length := rfl
  have hsl : ab_slots G = ab_slots G := rfl
  refine ab_aload_n d_PW_output_0 rfl ?_
  refine ab_getf (fs := [vR f_ready, vR f_tape, vR f_reader, vR f_programs, vR f_subject, vR f_spans, vR f_threads, vR f_marks, vR f_oneMind, vR f_states, vR f_latest, vR f_matches, vR f_pieces, vR f_template, vR f_result, vR f_spare, vz cmp, vz ovs]) f_PW_85 d_PW_output_1 hw_.2.2 rfl ?_
  refine ab_iload_n d_PW_output_4 rfl ?_
  refine ab_callV (d' := d - 1) (as := [vz k]) (st := []) (r := _) (z_RW_at (o := o) (r := f_result) (b := it_a) (lr := 77) (lb := 78) (n := mr_a) (lim := 6000) (sz := sz_a) (f := F_a) (i := k) hf_result hit_a (by omega) (by omega)) (fun oc G2 h => by rcases h with ⟨h, _⟩ | ⟨h, _⟩ <;> exact ⟨_, h⟩) (by omega) m_RW_at ml_PW_228 im_RW_at se_RW_at c_RW hf_result.2.2 (Nat.le_of_ble_eq_true rfl) d_PW_output_5 rfl ?_
  intro v G1 hq
  rcases hq with ⟨hv, hGe, hq2⟩ | ⟨hv, hGe, hq3⟩
  · cases hv
    rw [hGe]
    change ab_W _ _ _ G 8 [some (vR w_), some (vz k)] [vz (F_a k)] _
    refine zz_iret rfl d_PW_output_8 ?_
    rw [hQ]; exact ⟨_, rfl, rfl⟩
  · cases hv
    rw [hGe]
    change ab_W _ _ _ G 8 [some (vR w_), some (vz k)] [vz (-1)] _
    refine zz_iret rfl d_PW_output_8 ?_
    rw [hQ]; exact ⟨_, rfl, rfl⟩
set_option maxRecDepth 100000 in
set_option maxHeartbeats 4000000 in
theorem z_PW_fault {X : ab_X} {d : Nat} {o : Nat → Nat} {G : ab_G} {w_ : Nat} {f_ready : Nat} {f_tape : Nat} {f_reader : Nat} {f_programs : Nat} {f_subject : Nat} {f_spans : Nat} {f_threads : Nat} {f_marks : Nat} {f_oneMind : Nat} {f_states : Nat} {f_latest : Nat} {f_matches : Nat} {f_pieces : Nat} {f_template : Nat} {f_result : Nat} {f_spare : Nat} {cmp : Int} {ovs : Int} {inn : Value} {dp : Int} {flg : Int} {grp : Int} {na : Nat} {nl : Nat} {lst : Int} {mst : Int} {bh : Int} {x : Nat} {se : Nat} {by_ : Nat} {n : Int} {pl : Int} {fa : Int} {fp : Int} {kd : Nat} {kn : Int} {k : Int} (hw_ : cc o G w_ 18 (ab_ob 0 [vR f_ready, vR f_tape, vR f_reader, vR f_programs, vR f_subject, vR f_spans, vR f_threads, vR f_marks, vR f_oneMind, vR f_states, vR f_latest, vR f_matches, vR f_pieces, vR f_template, vR f_result, vR f_spare, vz cmp, vz ovs])) (hf_reader : cc o G f_reader 25 (ab_ob 6 [vR x, inn, vz dp, vz flg, vz grp, vR na, vR nl, vz lst, vz mst, vz bh])) (hx : cc o G x 24 (ab_ob 10 [vR se, vR by_, vz n, vz pl, vz fa, vz fp, vR kd, vz kn])) (cr : -2147483648 ≤ k ∧ k ≤ 2147483647) : ab_F X d y_PW_fault (.code y_PW_fault b_PW_fault 2 (some (.int))) [vR w_, vz k] G (fun oc G2 => ∃ v : Int, oc = .returned (some (vz v)) ∧ G2 = G ∧ (ftR k fa fp v)) := by
  refine ab_F_of (by decide +kernel) (Nat.le_of_ble_eq_true rfl) ?_
  obtain ⟨Q, hQ⟩ : ∃ z : Outcome → ab_G → Prop, z = (fun oc G2 => ∃ v : Int, oc = .returned (some (vz v)) ∧ G2 = G ∧ (ftR k fa fp v)) := ⟨_, rfl⟩
  rw [← hQ]
  change ab_W X (ab_pl y_PW_fault b_PW_fault 2 (some (.int))) d G 0 [some (vR w_), some (vz k)] [] Q
  have hfr : fx o o [] G G := fx.rf
  have hlen : G.length = G.length := rfl
  have hsl : ab_slots G = ab_slots G := rfl
  refine ab_iload_n d_PW_fault_0 rfl ?_
  refine zz_if_ne (tgt := 15) d_PW_fault_1 (by decide) (by omega) (fun c1 => ?_) (fun c1 => ?_)
  · refine ab_iload_n d_PW_fault_15 rfl ?_
    refine zz_iconst d_PW_fault_16 ?_
    refine zz_icmp_ne (tgt := 33) d_PW_fault_17 (by decide) (by omega) (by decide) (fun c2 => ?_) (fun c2 => ?_)
    · refine zz_iconst d_PW_fault_33 ?_
      refine zz_iret rfl d_PW_fault_34 ?_
      rw [hQ]; exact ⟨_, rfl, rfl, (by first | exact Or.inl ⟨by omega, rfl⟩ | exact Or.inr (Or.inl ⟨by omega, rfl⟩) | exact Or.inr (Or.inr ⟨by omega, rfl⟩))⟩
    · refine ab_aload_n d_PW_fault_20 rfl ?_
      refine ab_getf (fs := [vR f_ready, vR f_tape, vR f_reader, vR f_programs, vR f_subject, vR f_spans, vR f_threads, vR f_marks, vR f_oneMind, vR f_states, vR f_latest, vR f_matches, vR f_pieces, vR f_template, vR f_result, vR f_spare, vz cmp, vz ovs]) f_PW_25 d_PW_fault_21 hw_.2.2 rfl ?_
      refine ab_getf (fs := [vR x, inn, vz dp, vz flg, vz grp, vR na, vR nl, vz lst, vz mst, vz bh]) f_PW_136 d_PW_fault_24 hf_reader.2.2 rfl ?_
      refine ab_getf (fs := [vR se, vR by_, vz n, vz pl, vz fa, vz fp, vR kd, vz kn]) f_PW_145 d_PW_fault_27 hx.2.2 rfl ?_
      refine ab_goto (tgt := 34) d_PW_fault_30 (by decide) ?_
      refine zz_iret rfl d_PW_fault_34 ?_
      rw [hQ]; exact ⟨_, rfl, rfl, (by first | exact Or.inl ⟨by omega, rfl⟩ | exact Or.inr (Or.inl ⟨by omega, rfl⟩) | exact Or.inr (Or.inr ⟨by omega, rfl⟩))⟩
  · refine ab_aload_n d_PW_fault_4 rfl ?_
    refine ab_getf (fs := [vR f_ready, vR f_tape, vR f_reader, vR f_programs, vR f_subject, vR f_spans, vR f_threads, vR f_marks, vR f_oneMind, vR f_states, vR f_latest, vR f_matches, vR f_pieces, vR f_template, vR f_result, vR f_spare, vz cmp, vz ovs]) f_PW_25 d_PW_fault_5 hw_.2.2 rfl ?_
    refine ab_getf (fs := [vR x, inn, vz dp, vz flg, vz grp, vR na, vR nl, vz lst, vz mst, vz bh]) f_PW_136 d_PW_fault_8 hf_reader.2.2 rfl ?_
    refine ab_getf (fs := [vR se, vR by_, vz n, vz pl, vz fa, vz fp, vR kd, vz kn]) f_PW_140 d_PW_fault_11 hx.2.2 rfl ?_
    refine zz_iret rfl d_PW_fault_14 ?_
    rw [hQ]; exact ⟨_, rfl, rfl, (by first | exact Or.inl ⟨by omega, rfl⟩ | exact Or.inr (Or.inl ⟨by omega, rfl⟩) | exact Or.inr (Or.inr ⟨by omega, rfl⟩))⟩
set_option maxRecDepth 100000 in
set_option maxHeartbeats 4000000 in
theorem z_PW_end {X : ab_X} {d : Nat} {o : Nat → Nat} {G : ab_G} {w_ : Nat} {f_ready : Nat} {f_tape : Nat} {f_reader : Nat} {f_programs : Nat} {f_subject : Nat} {f_spans : Nat} {f_threads : Nat} {f_marks : Nat} {f_oneMind : Nat} {f_states : Nat} {f_latest : Nat} {f_matches : Nat} {f_pieces : Nat} {f_template : Nat} {f_result : Nat} {f_spare : Nat} {cmp : Int} {ovs : Int} {it_t : Nat} {sz_t : Int} {mr_t : Nat} {F_t : Int → Int} {n_ : Int} {RD_ : Int → Int} (hw_ : cc o G w_ 18 (ab_ob 0 [vR f_ready, vR f_tape, vR f_reader, vR f_programs, vR f_subject, vR f_spans, vR f_threads, vR f_marks, vR f_oneMind, vR f_states, vR f_latest, vR f_matches, vR f_pieces, vR f_template, vR f_result, vR f_spare, vz cmp, vz ovs])) (hf_ready : cc o G f_ready 19 (za 20 RD_)) (hf_tape : cc o G f_tape 22 (ab_ob 7 [vz 2000, vR it_t, vz sz_t])) (hit_t : cc o G it_t 23 (za mr_t F_t)) (n18 : ab_n0 = 18) (crw_t : 0 ≤ sz_t ∧ sz_t ≤ ↑mr_t ∧ ↑mr_t ≤ (2000 : Int) ∧ 32 ≤ mr_t) (hbt : bytes F_t sz_t) (jr : rgs RD_ 20 0 255) (cr : -2147483648 ≤ n_ ∧ n_ ≤ 2147483647) (rc : G.length + 1 ≤ ab_n0 + room_1.cells) (rs : ab_slots G + 2000 ≤ room_1.slots) (hd : 6 ≤ d) : ab_F X d y_PW_end (.code y_PW_end b_PW_end 2 (some (.int))) [vR w_, vz n_] G (fun oc G2 => (oc = .returned (some (vz (-1))) ∧ G2 = G ∧ (n_ < 0 ∨ 20 < n_ ∨ 2000 < sz_t + n_)) ∨ (∃ o2 : Nat → Nat, ∃ v : Int, ∃ it2 : Nat, ∃ mt2 : Nat, ∃ F2 : Int → Int, ∃ R2 : Int → Int, oc = .returned (some (vz v)) ∧ fx o o2 [19, 22, 23] G G2 ∧ cc o2 G2 f_tape 22 (ab_ob 7 [vz 2000, vR it2, vz v]) ∧ cc o2 G2 it2 23 (za mt2 F2) ∧ cc o2 G2 f_ready 19 (za 20 R2) ∧ (sz_t ≤ v ∧ v ≤ sz_t + 20 ∧ v ≤ ↑mt2 ∧ ↑mt2 ≤ (2000 : Int) ∧ mr_t ≤ mt2) ∧ (bytes F2 v) ∧ (rgs R2 20 0 255) ∧ (G2.length + mr_t ≤ G.length + mt2) ∧ (ab_slots G2 + zT mr_t 2000 ≤ ab_slots G + zT mt2 2000) ∧ (v = sz_t + n_) ∧ (0 ≤ n_ ∧ n_ ≤ 20) ∧ (apT F_t F2 RD_ sz_t n_) ∧ (zrI R2 20))) := by
  refine ab_F_of (by decide +kernel) (Nat.le_of_ble_eq_true rfl) ?_
  obtain ⟨Q, hQ⟩ : ∃ z : Outcome → ab_G → Prop, z = (fun oc G2 => (oc = .returned (some (vz (-1))) ∧ G2 = G ∧ (n_ < 0 ∨ 20 < n_ ∨ 2000 < sz_t + n_)) ∨ (∃ o2 : Nat → Nat, ∃ v : Int, ∃ it2 : Nat, ∃ mt2 : Nat, ∃ F2 : Int → Int, ∃ R2 : Int → Int, oc = .returned (some (vz v)) ∧ fx o o2 [19, 22, 23] G G2 ∧ cc o2 G2 f_tape 22 (ab_ob 7 [vz 2000, vR it2, vz v]) ∧ cc o2 G2 it2 23 (za mt2 F2) ∧ cc o2 G2 f_ready 19 (za 20 R2) ∧ (sz_t ≤ v ∧ v ≤ sz_t + 20 ∧ v ≤ ↑mt2 ∧ ↑mt2 ≤ (2000 : Int) ∧ mr_t ≤ mt2) ∧ (bytes F2 v) ∧ (rgs R2 20 0 255) ∧ (G2.length + mr_t ≤ G.length + mt2) ∧ (ab_slots G2 + zT mr_t 2000 ≤ ab_slots G + zT mt2 2000) ∧ (v = sz_t + n_) ∧ (0 ≤ n_ ∧ n_ ≤ 20) ∧ (apT F_t F2 RD_ sz_t n_) ∧ (zrI R2 20))) := ⟨_, rfl⟩
  rw [← hQ]
  change ab_W X (ab_pl y_PW_end b_PW_end 2 (some (.int))) d G 0 [some (vR w_), some (vz n_)] [] Q
  have hfr : fx o o [19, 22, 23] G G := fx.rf
  refine ab_iload_n d_PW_end_0 rfl ?_
  refine zz_if_lt (tgt := 25) d_PW_end_1 (by decide) (by omega) (fun c1 => ?_) (fun c1 => ?_)
  · refine zz_iconst d_PW_end_25 ?_
    refine zz_iret rfl d_PW_end_26 ?_
    rw [hQ]; exact (Or.inl ⟨rfl, rfl, (by omega)⟩)
  · refine ab_iload_n d_PW_end_4 rfl ?_
    refine zz_bipush d_PW_end_5 (by decide) ?_
    refine zz_icmp_gt (tgt := 25) d_PW_end_7 (by decide) (by omega) (by decide) (fun c2 => ?_) (fun c2 => ?_)
    · refine zz_iconst d_PW_end_25 ?_
      refine zz_iret rfl d_PW_end_26 ?_
      rw [hQ]; exact (Or.inl ⟨rfl, rfl, (by omega)⟩)
    · refine ab_aload_n d_PW_end_10 rfl ?_
      refine ab_getf (fs := [vR f_ready, vR f_tape, vR f_reader, vR f_programs, vR f_subject, vR f_spans, vR f_threads, vR f_marks, vR f_oneMind, vR f_states, vR f_latest, vR f_matches, vR f_pieces, vR f_template, vR f_result, vR f_spare, vz cmp, vz ovs]) f_PW_18 d_PW_end_11 hw_.2.2 rfl ?_
      refine ab_getf (fs := [vz 2000, vR it_t, vz sz_t]) f_PW_101 d_PW_end_14 hf_tape.2.2 rfl ?_
      refine ab_iload_n d_PW_end_17 rfl ?_
      refine zz_iadd d_PW_end_18 ?_
      refine zz_sipush d_PW_end_19 (by decide) ?_
      refine zz_icmp_le (tgt := 27) d_PW_end_22 (by decide) (by omega) (by decide) (fun c3 => ?_) (fun c3 => ?_)
      · refine ab_aload_n d_PW_end_27 rfl ?_
        refine ab_getf (fs := [vR f_ready, vR f_tape, vR f_reader, vR f_programs, vR f_subject, vR f_spans, vR f_threads, vR f_marks, vR f_oneMind, vR f_states, vR f_latest, vR f_matches, vR f_pieces, vR f_template, vR f_result, vR f_spare, vz cmp, vz ovs]) f_PW_18 d_PW_end_28 hw_.2.2 rfl ?_
        refine ab_aload_n d_PW_end_31 rfl ?_
        refine ab_getf (fs := [vR f_ready, vR f_tape, vR f_reader, vR f_programs, vR f_subject, vR f_spans, vR f_threads, vR f_marks, vR f_oneMind, vR f_states, vR f_latest, vR f_matches, vR f_pieces, vR f_template, vR f_result, vR f_spare, vz cmp, vz ovs]) f_PW_9 d_PW_end_32 hw_.2.2 rfl ?_
        refine zz_iconst d_PW_end_35 ?_
        refine ab_iload_n d_PW_end_36 rfl ?_
        refine ab_callV (d' := d - 1) (as := [vR f_ready, vz 0, vz n_]) (st := []) (r := _) (z_RW_addAll (o := o) (r := f_tape) (b := it_t) (lr := 22) (lb := 23) (n := mr_t) (lim := 2000) (sz := sz_t) (f := F_t) (a := f_ready) (la := 19) (m := 20) (q := RD_) (x := 0) (y := n_) hf_tape hit_t hf_ready (by omega) (by have h18 : ab_n0 = 18 := rfl; omega) (by omega) (by omega) (by omega) (by omega) (by omega)) (fun oc G2 h => by rcases h with ⟨h, _⟩ | ⟨_, _, _, _, h, _⟩ <;> exact ⟨_, h⟩) (by omega) m_RW_addAll ml_PW_105 im_RW_addAll se_RW_addAll c_RW hf_tape.2.2 (Nat.le_of_ble_eq_true rfl) d_PW_end_37 rfl ?_
        intro v G4 hq
        rcases hq with ⟨hv, hGe, hq5⟩ | ⟨o6, b27, n28, f29, hv, hfk, hNf_tape, hNb27, hNf_ready, hq10, hq11, hq12, hq13, hq14, hq15⟩
        · cases hv
          rw [hGe]
          change ab_W _ _ _ G 40 [some (vR w_), some (vz n_)] [vz 0] _
          exfalso; omega
        · cases hv
          have hw_ := hfk.get hw_ (by decide)
          have hfr := hfr.tr hfk (by decide)
          have hq16 := hfk.1
          have hf_tape := hNf_tape
          have hb27 := hNb27
          have hf_ready := hNf_ready
          change ab_W _ _ _ G4 40 [some (vR w_), some (vz n_)] [vz 1] _
          refine ab_pop d_PW_end_40 rfl ?_
          refine ab_aload_n d_PW_end_41 rfl ?_
          refine ab_getf (fs := [vR f_ready, vR f_tape, vR f_reader, vR f_programs, vR f_subject, vR f_spans, vR f_threads, vR f_marks, vR f_oneMind, vR f_states, vR f_latest, vR f_matches, vR f_pieces, vR f_template, vR f_result, vR f_spare, vz cmp, vz ovs]) f_PW_9 d_PW_end_42 hw_.2.2 rfl ?_
          refine zz_iconst d_PW_end_45 ?_
          refine ab_callS (d' := d - 1) (as := [vR f_ready, vz 0]) (st := []) (z_AR_fill (o := o6) (a := f_ready) (l := 19) (n := 20) (f := RD_) (v := 0) hf_ready (by have h18 : ab_n0 = 18 := rfl; omega)) (fun oc G2 h => by rcases h with ⟨h, _⟩ <;> exact ⟨_, h⟩) (by omega) m_AR_fill ml_PW_91 st_AR_fill (Nat.le_of_ble_eq_true rfl) d_PW_end_46 rfl ?_
          intro v G17 hq
          rcases hq with ⟨hv, hfk, hlk, hsk, hNf_ready⟩
          cases hv
          have hw_ := hfk.get hw_ (by decide)
          have hf_tape := hfk.get hf_tape (by decide)
          have hb27 := hfk.get hb27 (by decide)
          have hfr := hfr.tr hfk (by decide)
          have hq18 := hlk
          have hq19 := hsk
          have hf_ready := hNf_ready
          change ab_W _ _ _ G17 49 [some (vR w_), some (vz n_)] [] _
          refine ab_aload_n d_PW_end_49 rfl ?_
          refine ab_getf (fs := [vR f_ready, vR f_tape, vR f_reader, vR f_programs, vR f_subject, vR f_spans, vR f_threads, vR f_marks, vR f_oneMind, vR f_states, vR f_latest, vR f_matches, vR f_pieces, vR f_template, vR f_result, vR f_spare, vz cmp, vz ovs]) f_PW_18 d_PW_end_50 hw_.2.2 rfl ?_
          refine ab_getf (fs := [vz 2000, vR b27, vz (sz_t + (n_ - 0))]) f_PW_101 d_PW_end_53 hf_tape.2.2 rfl ?_
          refine zz_iret rfl d_PW_end_56 ?_
          rw [hQ]; exact (Or.inr ⟨_, _, _, _, _, _, rfl, hfr, hf_tape, hb27, hf_ready, (by omega), (by intro k h1 h2; by_cases q : k < sz_t; (rw [hq14 k h1 q]; exact hbt k h1 q); (rw [hq15 k (by omega) (by omega)]; exact jr _ (by omega) (by omega))), (by first | exact (rgs_fill jr (by omega)) | exact rgs_w (rgs_fill jr (by omega)) (by omega)), (by omega), (by have t := hq12; omega), (by omega), (by omega), (by refine ⟨hq14, fun i a b => ?_⟩; rw [hq15 (sz_t + i) (by omega) (by omega)]; congr 1; omega), (by intro i a b; exact if_pos ⟨by omega, by omega⟩)⟩)
      · refine zz_iconst d_PW_end_25 ?_
        refine zz_iret rfl d_PW_end_26 ?_
        rw [hQ]; exact (Or.inl ⟨rfl, rfl, (by omega)⟩)
set_option maxRecDepth 100000 in
set_option maxHeartbeats 4000000 in
theorem z_PW_subject {X : ab_X} {d : Nat} {o : Nat → Nat} {G : ab_G} {w_ : Nat} {f_ready : Nat} {f_tape : Nat} {f_reader : Nat} {f_programs : Nat} {f_subject : Nat} {f_spans : Nat} {f_threads : Nat} {f_marks : Nat} {f_oneMind : Nat} {f_states : Nat} {f_latest : Nat} {f_matches : Nat} {f_pieces : Nat} {f_template : Nat} {f_result : Nat} {f_spare : Nat} {cmp : Int} {ovs : Int} {by_ : Nat} {co : Nat} {re : Nat} {ho : Nat} {n : Int} {f : Int → Int} {C : Int → Int} {Rs : Int → Int} {H : Int → Int} {m : Nat} {mc : Nat} {it_t : Nat} {sz_t : Int} {mr_t : Nat} {F_t : Int → Int} (hw_ : cc o G w_ 18 (ab_ob 0 [vR f_ready, vR f_tape, vR f_reader, vR f_programs, vR f_subject, vR f_spans, vR f_threads, vR f_marks, vR f_oneMind, vR f_states, vR f_latest, vR f_matches, vR f_pieces, vR f_template, vR f_result, vR f_spare, vz cmp, vz ovs])) (hf_subject : cc o G f_subject 26 (ab_ob 9 [vR by_, vR co, vR re, vR ho, vz n])) (hby_ : cc o G by_ 27 (za m f)) (hco : cc o G co 28 (za mc C)) (hre : cc o G re 29 (za mc Rs)) (hho : cc o G ho 30 (za mc H)) (hf_tape : cc o G f_tape 22 (ab_ob 7 [vz 2000, vR it_t, vz sz_t])) (hit_t : cc o G it_t 23 (za mr_t F_t)) (n18 : ab_n0 = 18) (csu : 0 ≤ n ∧ n ≤ ↑m ∧ 32 ≤ m ∧ m ≤ 2000 ∧ mc = m + 1) (crw_t : 0 ≤ sz_t ∧ sz_t ≤ ↑mr_t ∧ ↑mr_t ≤ (2000 : Int) ∧ 32 ≤ mr_t) (hbt : bytes F_t sz_t) (rc : G.length + 4 ≤ ab_n0 + room_1.cells) (rs : ab_slots G + 8003 ≤ room_1.slots) (hd : 5 ≤ d) : ab_F X d y_PW_subject (.code y_PW_subject b_PW_subject 1 (some (.int))) [vR w_] G (fun oc G2 => ∃ o2 : Nat → Nat, ∃ by2 : Nat, ∃ co2 : Nat, ∃ re2 : Nat, ∃ ho2 : Nat, ∃ f2 : Int → Int, ∃ C2 : Int → Int, ∃ R2 : Int → Int, ∃ H2 : Int → Int, ∃ m2 : Nat, ∃ mc2 : Nat, oc = .returned (some (vz sz_t)) ∧ fx o o2 [22, 26, 27, 28, 29, 30] G G2 ∧ cc o2 G2 f_subject 26 (ab_ob 9 [vR by2, vR co2, vR re2, vR ho2, vz sz_t]) ∧ cc o2 G2 by2 27 (za m2 f2) ∧ cc o2 G2 co2 28 (za mc2 C2) ∧ cc o2 G2 re2 29 (za mc2 R2) ∧ cc o2 G2 ho2 30 (za mc2 H2) ∧ cc o2 G2 f_tape 22 (ab_ob 7 [vz 2000, vR it_t, vz 0]) ∧ (suok f2 C2 R2 H2 sz_t) ∧ (cpE f2 F_t sz_t) ∧ (sz_t ≤ ↑m2 ∧ 32 ≤ m2 ∧ m2 ≤ 2000 ∧ mc2 = m2 + 1) ∧ (G2.length + 4 * m ≤ G.length + 4 * m2) ∧ (ab_slots G2 + 4 * zT m 2000 + 3 * m ≤ ab_slots G + 4 * zT m2 2000 + 3 * m2)) := by
  refine ab_F_of (by decide +kernel) (Nat.le_of_ble_eq_true rfl) ?_
  obtain ⟨Q, hQ⟩ : ∃ z : Outcome → ab_G → Prop, z = (fun oc G2 => ∃ o2 : Nat → Nat, ∃ by2 : Nat, ∃ co2 : Nat, ∃ re2 : Nat, ∃ ho2 : Nat, ∃ f2 : Int → Int, ∃ C2 : Int → Int, ∃ R2 : Int → Int, ∃ H2 : Int → Int, ∃ m2 : Nat, ∃ mc2 : Nat, oc = .returned (some (vz sz_t)) ∧ fx o o2 [22, 26, 27, 28, 29, 30] G G2 ∧ cc o2 G2 f_subject 26 (ab_ob 9 [vR by2, vR co2, vR re2, vR ho2, vz sz_t]) ∧ cc o2 G2 by2 27 (za m2 f2) ∧ cc o2 G2 co2 28 (za mc2 C2) ∧ cc o2 G2 re2 29 (za mc2 R2) ∧ cc o2 G2 ho2 30 (za mc2 H2) ∧ cc o2 G2 f_tape 22 (ab_ob 7 [vz 2000, vR it_t, vz 0]) ∧ (suok f2 C2 R2 H2 sz_t) ∧ (cpE f2 F_t sz_t) ∧ (sz_t ≤ ↑m2 ∧ 32 ≤ m2 ∧ m2 ≤ 2000 ∧ mc2 = m2 + 1) ∧ (G2.length + 4 * m ≤ G.length + 4 * m2) ∧ (ab_slots G2 + 4 * zT m 2000 + 3 * m ≤ ab_slots G + 4 * zT m2 2000 + 3 * m2)) := ⟨_, rfl⟩
  rw [← hQ]
  change ab_W X (ab_pl y_PW_subject b_PW_subject 1 (some (.int))) d G 0 [some (vR w_)] [] Q
  have hfr : fx o o [22, 26, 27, 28, 29, 30] G G := fx.rf
  refine ab_aload_n d_PW_subject_0 rfl ?_
  refine ab_getf (fs := [vR f_ready, vR f_tape, vR f_reader, vR f_programs, vR f_subject, vR f_spans, vR f_threads, vR f_marks, vR f_oneMind, vR f_states, vR f_latest, vR f_matches, vR f_pieces, vR f_template, vR f_result, vR f_spare, vz cmp, vz ovs]) f_PW_38 d_PW_subject_1 hw_.2.2 rfl ?_
  refine ab_aload_n d_PW_subject_4 rfl ?_
  refine ab_getf (fs := [vR f_ready, vR f_tape, vR f_reader, vR f_programs, vR f_subject, vR f_spans, vR f_threads, vR f_marks, vR f_oneMind, vR f_states, vR f_latest, vR f_matches, vR f_pieces, vR f_template, vR f_result, vR f_spare, vz cmp, vz ovs]) f_PW_18 d_PW_subject_5 hw_.2.2 rfl ?_
  refine ab_callV (d' := d - 1) (as := [vR f_tape]) (st := []) (r := _) (z_SU_take (o := o) (s := f_subject) (by_ := by_) (co := co) (re := re) (ho := ho) (n := n) (f := f) (C := C) (Rs := Rs) (H := H) (m := m) (mc := mc) (t := f_tape) (it := it_t) (mt := mr_t) (ft := F_t) (n1 := sz_t) (lim := 2000) hf_subject hby_ hco hre hho hf_tape hit_t (by omega) (by omega) hbt (by omega) (by omega) (by omega)) (fun oc G2 h => by rcases h with ⟨_, _, _, _, _, _, _, _, _, _, _, h, _⟩ <;> exact ⟨_, h⟩) (by omega) m_SU_take ml_PW_160 im_SU_take se_SU_take c_SU hf_subject.2.2 (Nat.le_of_ble_eq_true rfl) d_PW_subject_8 rfl ?_
  intro v G1 hq
  rcases hq with ⟨o2, by23, co24, re25, ho26, f27, C28, R29, H210, m211, mc212, hv, hfk, hNf_subject, hNby23, hNco24, hNre25, hNho26, hq13, hq14, hq15, hq16, hq17⟩
  cases hv
  have hw_ := hfk.get hw_ (by decide)
  have hf_tape := hfk.get hf_tape (by decide)
  have hit_t := hfk.get hit_t (by decide)
  have hfr := hfr.tr hfk (by decide)
  have hq18 := hfk.1
  have hf_subject := hNf_subject
  have hby23 := hNby23
  have hco24 := hNco24
  have hre25 := hNre25
  have hho26 := hNho26
  change ab_W _ _ _ G1 11 [some (vR w_)] [] _
  refine ab_aload_n d_PW_subject_11 rfl ?_
  refine ab_getf (fs := [vR f_ready, vR f_tape, vR f_reader, vR f_programs, vR f_subject, vR f_spans, vR f_threads, vR f_marks, vR f_oneMind, vR f_states, vR f_latest, vR f_matches, vR f_pieces, vR f_template, vR f_result, vR f_spare, vz cmp, vz ovs]) f_PW_18 d_PW_subject_12 hw_.2.2 rfl ?_
  refine ab_callV (d' := d - 1) (as := []) (st := []) (r := _) (z_RW_clear (o := o2) (r := f_tape) (b := it_t) (lr := 22) (lim := 2000) (sz := sz_t) hf_tape (by have h18 : ab_n0 = 18 := rfl; omega)) (fun oc G2 h => by rcases h with ⟨h, _⟩ <;> exact ⟨_, h⟩) (by omega) m_RW_clear ml_PW_120 im_RW_clear se_RW_clear c_RW hf_tape.2.2 (Nat.le_of_ble_eq_true rfl) d_PW_subject_15 rfl ?_
  intro v G19 hq
  rcases hq with ⟨hv, hfk, hlk, hsk, hNf_tape⟩
  cases hv
  have hw_ := hfk.get hw_ (by decide)
  have hf_subject := hfk.get hf_subject (by decide)
  have hit_t := hfk.get hit_t (by decide)
  have hby23 := hfk.get hby23 (by decide)
  have hco24 := hfk.get hco24 (by decide)
  have hre25 := hfk.get hre25 (by decide)
  have hho26 := hfk.get hho26 (by decide)
  have hfr := hfr.tr hfk (by decide)
  have hq20 := hlk
  have hq21 := hsk
  have hf_tape := hNf_tape
  change ab_W _ _ _ G19 18 [some (vR w_)] [] _
  refine ab_aload_n d_PW_subject_18 rfl ?_
  refine ab_getf (fs := [vR f_ready, vR f_tape, vR f_reader, vR f_programs, vR f_subject, vR f_spans, vR f_threads, vR f_marks, vR f_oneMind, vR f_states, vR f_latest, vR f_matches, vR f_pieces, vR f_template, vR f_result, vR f_spare, vz cmp, vz ovs]) f_PW_38 d_PW_subject_19 hw_.2.2 rfl ?_
  refine ab_getf (fs := [vR by23, vR co24, vR re25, vR ho26, vz sz_t]) f_PW_164 d_PW_subject_22 hf_subject.2.2 rfl ?_
  refine zz_iret rfl d_PW_subject_25 ?_
  rw [hQ]; exact ⟨_, _, _, _, _, _, _, _, _, _, _, rfl, hfr, hf_subject, hby23, hco24, hre25, hho26, hf_tape, (by exact hq13), (by exact hq14), (by omega), (by omega), (by have t := hq17; omega)⟩
set_option maxRecDepth 100000 in
set_option maxHeartbeats 4000000 in
theorem z_PW_programAt {X : ab_X} {d : Nat} {o : Nat → Nat} {G : ab_G} {w_ : Nat} {f_ready : Nat} {f_tape : Nat} {f_reader : Nat} {f_programs : Nat} {f_subject : Nat} {f_spans : Nat} {f_threads : Nat} {f_marks : Nat} {f_oneMind : Nat} {f_states : Nat} {f_latest : Nat} {f_matches : Nat} {f_pieces : Nat} {f_template : Nat} {f_result : Nat} {f_spare : Nat} {cmp : Int} {ovs : Int} {PG : Nat → Option Nat} {k : Int} (hw_ : cc o G w_ 18 (ab_ob 0 [vR f_ready, vR f_tape, vR f_reader, vR f_programs, vR f_subject, vR f_spans, vR f_threads, vR f_marks, vR f_oneMind, vR f_states, vR f_latest, vR f_matches, vR f_pieces, vR f_template, vR f_result, vR f_spare, vz cmp, vz ovs])) (hf_programs : cc o G f_programs 81 (ab_rr 6 PG)) (cr : -2147483648 ≤ k ∧ k ≤ 2147483647) : ab_F X d y_PW_programAt (.code y_PW_programAt b_PW_programAt 2 (some (.object "PatternWorks$Program"))) [vR w_, vz k] G (fun oc G2 => (oc = .returned (some (vN)) ∧ G2 = G ∧ (npg PG k)) ∨ (∃ b : Nat, oc = .returned (some (vR b)) ∧ G2 = G ∧ (PG (Int.toNat k) = some b) ∧ (0 ≤ k ∧ k < 6))) := by
  refine ab_F_of (by decide +kernel) (Nat.le_of_ble_eq_true rfl) ?_
  obtain ⟨Q, hQ⟩ : ∃ z : Outcome → ab_G → Prop, z = (fun oc G2 => (oc = .returned (some (vN)) ∧ G2 = G ∧ (npg PG k)) ∨ (∃ b : Nat, oc = .returned (some (vR b)) ∧ G2 = G ∧ (PG (Int.toNat k) = some b) ∧ (0 ≤ k ∧ k < 6))) := ⟨_, rfl⟩
  rw [← hQ]
  change ab_W X (ab_pl y_PW_programAt b_PW_programAt 2 (some (.object "PatternWorks$Program"))) d G 0 [some (vR w_), some (vz k)] [] Q
  have hfr : fx o o [] G G := fx.rf
  have hlen : G.length = G.length := rfl
  have hsl : ab_slots G = ab_slots G := rfl
  refine ab_iload_n d_PW_programAt_0 rfl ?_
  refine zz_if_lt (tgt := 19) d_PW_programAt_1 (by decide) (by omega) (fun c1 => ?_) (fun c1 => ?_)
  · refine ab_null d_PW_programAt_19 ?_
    refine ab_aret (rt := _) rfl (Or.inl ⟨_, rfl⟩) (Or.inl rfl) d_PW_programAt_20 ?_
    rw [hQ]; exact (Or.inl ⟨rfl, rfl, (by unfold npg; omega)⟩)
  · refine ab_iload_n d_PW_programAt_4 rfl ?_
    refine zz_bipush d_PW_programAt_5 (by decide) ?_
    refine zz_icmp_ge (tgt := 19) d_PW_programAt_7 (by decide) (by omega) (by decide) (fun c2 => ?_) (fun c2 => ?_)
    · refine ab_null d_PW_programAt_19 ?_
      refine ab_aret (rt := _) rfl (Or.inl ⟨_, rfl⟩) (Or.inl rfl) d_PW_programAt_20 ?_
      rw [hQ]; exact (Or.inl ⟨rfl, rfl, (by unfold npg; omega)⟩)
    · refine ab_aload_n d_PW_programAt_10 rfl ?_
      refine ab_getf (fs := [vR f_ready, vR f_tape, vR f_reader, vR f_programs, vR f_subject, vR f_spans, vR f_threads, vR f_marks, vR f_oneMind, vR f_states, vR f_latest, vR f_matches, vR f_pieces, vR f_template, vR f_result, vR f_spare, vz cmp, vz ovs]) f_PW_31 d_PW_programAt_11 hw_.2.2 rfl ?_
      refine ab_iload_n d_PW_programAt_14 rfl ?_
      refine zz_aald d_PW_programAt_15 hf_programs (by omega) (fun hr3 => ?_) (fun b4 hr3 => ?_)
      · change ab_W _ _ _ G 16 [some (vR w_), some (vz k)] [vN] _
        refine ab_goto (tgt := 20) d_PW_programAt_16 (by decide) ?_
        refine ab_aret (rt := _) rfl (Or.inl ⟨_, rfl⟩) (Or.inl rfl) d_PW_programAt_20 ?_
        rw [hQ]; exact (Or.inl ⟨rfl, rfl, (by exact Or.inr (Or.inr hr3))⟩)
      · change ab_W _ _ _ G 16 [some (vR w_), some (vz k)] [vR b4] _
        refine ab_goto (tgt := 20) d_PW_programAt_16 (by decide) ?_
        refine ab_aret (rt := _) rfl (Or.inl ⟨_, rfl⟩) (Or.inr ⟨_, rfl⟩) d_PW_programAt_20 ?_
        rw [hQ]; exact (Or.inr ⟨_, rfl, rfl, (by exact hr3), (by omega)⟩)
