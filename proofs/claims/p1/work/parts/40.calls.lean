set_option maxRecDepth 100000 in
set_option maxHeartbeats 4000000 in
theorem q_PW_makeReady_0 {X : ab_X} {d : Nat} {G : ab_G} {xs : Nat → Int32} (hlen : G.length = 149) (hsl : ab_slots G = 1890753) (h18 : G[18]? = some (ab_ob 0 [vR 19, vR 20, vR 22, vR 30, vR 31, vR 36, vR 37, vR 46, vR 51, vR 60, vR 69, vR 70, vR 72, vR 74, vR 76, vR 78, vI 0, vI 0])) (h19 : G[19]? = some (ab_if 20 ((fun _ => 0)))) : ab_F X d y_PW_makeReady (.code y_PW_makeReady b_PW_makeReady 4 none) [vR 18, vI 0, vI (xs 1)] G (fun o G2 => o = .returned none ∧ ab_fr [19] G G2 ∧ G2.length = 149 ∧ ab_slots G2 = 1890753 ∧ (∃ g : Nat → Int32, G2[19]? = some (ab_if 20 (g)))) := by
  refine ab_F_of (by decide +kernel) (Nat.le_of_ble_eq_true rfl) ?_
  obtain ⟨Q, hQ⟩ : ∃ z : Outcome → ab_G → Prop, z = (fun o G2 => o = .returned none ∧ ab_fr [19] G G2 ∧ G2.length = 149 ∧ ab_slots G2 = 1890753 ∧ (∃ g : Nat → Int32, G2[19]? = some (ab_if 20 (g)))) := ⟨_, rfl⟩
  rw [← hQ]
  change ab_W X (ab_pl y_PW_makeReady b_PW_makeReady 4 none) d G 0 [some (vR 18), some (vI 0), some (vI (xs 1)), none] [] Q
  have hfr : ab_fr [19] G G := ab_fr.rf
  refine ab_iconst (v := 0) d_PW_makeReady_0 (by decide) ?_
  refine ab_istore_n d_PW_makeReady_1 (Nat.le_of_ble_eq_true rfl) (Nat.le_of_ble_eq_true rfl) rfl ?_
  change ab_W _ _ _ G 2 [some (vR 18), some (vI 0), some (vI (xs 1)), some (vI 0)] [] _
  refine ab_iload_n d_PW_makeReady_2 rfl ?_
  refine ab_iconst (v := 4) d_PW_makeReady_3 (by decide) ?_
  refine ab_icmp_ge (tgt := 34) d_PW_makeReady_4 (by decide) (fun c => absurd c (by decide)) (fun _ => ?_)
  refine ab_aload_n d_PW_makeReady_7 rfl ?_
  refine ab_getf (fs := [vR 19, vR 20, vR 22, vR 30, vR 31, vR 36, vR 37, vR 46, vR 51, vR 60, vR 69, vR 70, vR 72, vR 74, vR 76, vR 78, vI 0, vI 0]) f_PW_9 d_PW_makeReady_8 h18 rfl ?_
  refine ab_iload_n d_PW_makeReady_11 rfl ?_
  refine ab_iload_n d_PW_makeReady_12 rfl ?_
  refine ab_iadd d_PW_makeReady_13 ?_
  refine ab_topi (y := 0) (by decide) ?_
  refine ab_iload_n d_PW_makeReady_14 rfl ?_
  refine ab_bipush (v := 24) d_PW_makeReady_15 (by decide) ?_
  refine ab_bipush (v := 8) d_PW_makeReady_17 (by decide) ?_
  refine ab_iload_n d_PW_makeReady_19 rfl ?_
  refine ab_imul d_PW_makeReady_20 ?_
  refine ab_topi (y := 0) (by decide) ?_
  refine ab_isub d_PW_makeReady_21 ?_
  refine ab_topi (y := 24) (by decide) ?_
  refine ab_iushr d_PW_makeReady_22 ?_
  refine ab_sipush (v := 255) d_PW_makeReady_23 (by decide) ?_
  refine ab_iand d_PW_makeReady_26 ?_
  refine ab_iast d_PW_makeReady_27 h19 (by unfold vp_in; decide) (by decide) ?_
  obtain ⟨G1, eG1⟩ : ∃ z : ab_G, z = List.set G 19 (ab_if 20 ((upd (fun _ => 0) 0 (((Int32.toUInt32 (xs 1) >>> (Int32.toUInt32 24 &&& Int32.toUInt32 31)).toInt32) &&& 255)))) := ⟨_, rfl⟩
  have h18 := ab_keep eG1 (by decide) h18
  have hlen := ab_klen eG1 hlen
  have hsl := ab_ksl 20 eG1 h19 rfl rfl hsl
  have hfr := hfr.wr eG1 (by decide)
  have h19 := ab_kept eG1 h19
  change ab_W _ _ _ (List.set G 19 (ab_if 20 ((upd (fun _ => 0) 0 (((Int32.toUInt32 (xs 1) >>> (Int32.toUInt32 24 &&& Int32.toUInt32 31)).toInt32) &&& 255))))) 28 [some (vR 18), some (vI 0), some (vI (xs 1)), some (vI 0)] [] _
  rw [← eG1]
  obtain ⟨f19_1, h19⟩ : ∃ g : Nat → Int32, G1[19]? = some (ab_if 20 (g)) := ⟨_, h19⟩
  refine ab_iinc (v := 1) d_PW_makeReady_28 rfl (by decide) (Nat.le_of_ble_eq_true rfl) (Nat.le_of_ble_eq_true rfl) rfl ?_
  change ab_W _ _ _ G1 31 [some (vR 18), some (vI 0), some (vI (xs 1)), some (vI 1)] [] _
  refine ab_goto (tgt := 2) d_PW_makeReady_31 (by decide) ?_
  refine ab_iload_n d_PW_makeReady_2 rfl ?_
  refine ab_iconst (v := 4) d_PW_makeReady_3 (by decide) ?_
  refine ab_icmp_ge (tgt := 34) d_PW_makeReady_4 (by decide) (fun c => absurd c (by decide)) (fun _ => ?_)
  refine ab_aload_n d_PW_makeReady_7 rfl ?_
  refine ab_getf (fs := [vR 19, vR 20, vR 22, vR 30, vR 31, vR 36, vR 37, vR 46, vR 51, vR 60, vR 69, vR 70, vR 72, vR 74, vR 76, vR 78, vI 0, vI 0]) f_PW_9 d_PW_makeReady_8 h18 rfl ?_
  refine ab_iload_n d_PW_makeReady_11 rfl ?_
  refine ab_iload_n d_PW_makeReady_12 rfl ?_
  refine ab_iadd d_PW_makeReady_13 ?_
  refine ab_topi (y := 1) (by decide) ?_
  refine ab_iload_n d_PW_makeReady_14 rfl ?_
  refine ab_bipush (v := 24) d_PW_makeReady_15 (by decide) ?_
  refine ab_bipush (v := 8) d_PW_makeReady_17 (by decide) ?_
  refine ab_iload_n d_PW_makeReady_19 rfl ?_
  refine ab_imul d_PW_makeReady_20 ?_
  refine ab_topi (y := 8) (by decide) ?_
  refine ab_isub d_PW_makeReady_21 ?_
  refine ab_topi (y := 16) (by decide) ?_
  refine ab_iushr d_PW_makeReady_22 ?_
  refine ab_sipush (v := 255) d_PW_makeReady_23 (by decide) ?_
  refine ab_iand d_PW_makeReady_26 ?_
  refine ab_iast d_PW_makeReady_27 h19 (by unfold vp_in; decide) (by decide) ?_
  obtain ⟨G2, eG2⟩ : ∃ z : ab_G, z = List.set G1 19 (ab_if 20 ((upd f19_1 1 (((Int32.toUInt32 (xs 1) >>> (Int32.toUInt32 16 &&& Int32.toUInt32 31)).toInt32) &&& 255)))) := ⟨_, rfl⟩
  have h18 := ab_keep eG2 (by decide) h18
  have hlen := ab_klen eG2 hlen
  have hsl := ab_ksl 20 eG2 h19 rfl rfl hsl
  have hfr := hfr.wr eG2 (by decide)
  have h19 := ab_kept eG2 h19
  change ab_W _ _ _ (List.set G1 19 (ab_if 20 ((upd f19_1 1 (((Int32.toUInt32 (xs 1) >>> (Int32.toUInt32 16 &&& Int32.toUInt32 31)).toInt32) &&& 255))))) 28 [some (vR 18), some (vI 0), some (vI (xs 1)), some (vI 1)] [] _
  rw [← eG2]
  obtain ⟨f19_2, h19⟩ : ∃ g : Nat → Int32, G2[19]? = some (ab_if 20 (g)) := ⟨_, h19⟩
  refine ab_iinc (v := 2) d_PW_makeReady_28 rfl (by decide) (Nat.le_of_ble_eq_true rfl) (Nat.le_of_ble_eq_true rfl) rfl ?_
  change ab_W _ _ _ G2 31 [some (vR 18), some (vI 0), some (vI (xs 1)), some (vI 2)] [] _
  refine ab_goto (tgt := 2) d_PW_makeReady_31 (by decide) ?_
  refine ab_iload_n d_PW_makeReady_2 rfl ?_
  refine ab_iconst (v := 4) d_PW_makeReady_3 (by decide) ?_
  refine ab_icmp_ge (tgt := 34) d_PW_makeReady_4 (by decide) (fun c => absurd c (by decide)) (fun _ => ?_)
  refine ab_aload_n d_PW_makeReady_7 rfl ?_
  refine ab_getf (fs := [vR 19, vR 20, vR 22, vR 30, vR 31, vR 36, vR 37, vR 46, vR 51, vR 60, vR 69, vR 70, vR 72, vR 74, vR 76, vR 78, vI 0, vI 0]) f_PW_9 d_PW_makeReady_8 h18 rfl ?_
  refine ab_iload_n d_PW_makeReady_11 rfl ?_
  refine ab_iload_n d_PW_makeReady_12 rfl ?_
  refine ab_iadd d_PW_makeReady_13 ?_
  refine ab_topi (y := 2) (by decide) ?_
  refine ab_iload_n d_PW_makeReady_14 rfl ?_
  refine ab_bipush (v := 24) d_PW_makeReady_15 (by decide) ?_
  refine ab_bipush (v := 8) d_PW_makeReady_17 (by decide) ?_
  refine ab_iload_n d_PW_makeReady_19 rfl ?_
  refine ab_imul d_PW_makeReady_20 ?_
  refine ab_topi (y := 16) (by decide) ?_
  refine ab_isub d_PW_makeReady_21 ?_
  refine ab_topi (y := 8) (by decide) ?_
  refine ab_iushr d_PW_makeReady_22 ?_
  refine ab_sipush (v := 255) d_PW_makeReady_23 (by decide) ?_
  refine ab_iand d_PW_makeReady_26 ?_
  refine ab_iast d_PW_makeReady_27 h19 (by unfold vp_in; decide) (by decide) ?_
  obtain ⟨G3, eG3⟩ : ∃ z : ab_G, z = List.set G2 19 (ab_if 20 ((upd f19_2 2 (((Int32.toUInt32 (xs 1) >>> (Int32.toUInt32 8 &&& Int32.toUInt32 31)).toInt32) &&& 255)))) := ⟨_, rfl⟩
  have h18 := ab_keep eG3 (by decide) h18
  have hlen := ab_klen eG3 hlen
  have hsl := ab_ksl 20 eG3 h19 rfl rfl hsl
  have hfr := hfr.wr eG3 (by decide)
  have h19 := ab_kept eG3 h19
  change ab_W _ _ _ (List.set G2 19 (ab_if 20 ((upd f19_2 2 (((Int32.toUInt32 (xs 1) >>> (Int32.toUInt32 8 &&& Int32.toUInt32 31)).toInt32) &&& 255))))) 28 [some (vR 18), some (vI 0), some (vI (xs 1)), some (vI 2)] [] _
  rw [← eG3]
  obtain ⟨f19_3, h19⟩ : ∃ g : Nat → Int32, G3[19]? = some (ab_if 20 (g)) := ⟨_, h19⟩
  refine ab_iinc (v := 3) d_PW_makeReady_28 rfl (by decide) (Nat.le_of_ble_eq_true rfl) (Nat.le_of_ble_eq_true rfl) rfl ?_
  change ab_W _ _ _ G3 31 [some (vR 18), some (vI 0), some (vI (xs 1)), some (vI 3)] [] _
  refine ab_goto (tgt := 2) d_PW_makeReady_31 (by decide) ?_
  refine ab_iload_n d_PW_makeReady_2 rfl ?_
  refine ab_iconst (v := 4) d_PW_makeReady_3 (by decide) ?_
  refine ab_icmp_ge (tgt := 34) d_PW_makeReady_4 (by decide) (fun c => absurd c (by decide)) (fun _ => ?_)
  refine ab_aload_n d_PW_makeReady_7 rfl ?_
  refine ab_getf (fs := [vR 19, vR 20, vR 22, vR 30, vR 31, vR 36, vR 37, vR 46, vR 51, vR 60, vR 69, vR 70, vR 72, vR 74, vR 76, vR 78, vI 0, vI 0]) f_PW_9 d_PW_makeReady_8 h18 rfl ?_
  refine ab_iload_n d_PW_makeReady_11 rfl ?_
  refine ab_iload_n d_PW_makeReady_12 rfl ?_
  refine ab_iadd d_PW_makeReady_13 ?_
  refine ab_topi (y := 3) (by decide) ?_
  refine ab_iload_n d_PW_makeReady_14 rfl ?_
  refine ab_bipush (v := 24) d_PW_makeReady_15 (by decide) ?_
  refine ab_bipush (v := 8) d_PW_makeReady_17 (by decide) ?_
  refine ab_iload_n d_PW_makeReady_19 rfl ?_
  refine ab_imul d_PW_makeReady_20 ?_
  refine ab_topi (y := 24) (by decide) ?_
  refine ab_isub d_PW_makeReady_21 ?_
  refine ab_topi (y := 0) (by decide) ?_
  refine ab_iushr d_PW_makeReady_22 ?_
  refine ab_sipush (v := 255) d_PW_makeReady_23 (by decide) ?_
  refine ab_iand d_PW_makeReady_26 ?_
  refine ab_iast d_PW_makeReady_27 h19 (by unfold vp_in; decide) (by decide) ?_
  obtain ⟨G4, eG4⟩ : ∃ z : ab_G, z = List.set G3 19 (ab_if 20 ((upd f19_3 3 (((Int32.toUInt32 (xs 1) >>> (Int32.toUInt32 0 &&& Int32.toUInt32 31)).toInt32) &&& 255)))) := ⟨_, rfl⟩
  have h18 := ab_keep eG4 (by decide) h18
  have hlen := ab_klen eG4 hlen
  have hsl := ab_ksl 20 eG4 h19 rfl rfl hsl
  have hfr := hfr.wr eG4 (by decide)
  have h19 := ab_kept eG4 h19
  change ab_W _ _ _ (List.set G3 19 (ab_if 20 ((upd f19_3 3 (((Int32.toUInt32 (xs 1) >>> (Int32.toUInt32 0 &&& Int32.toUInt32 31)).toInt32) &&& 255))))) 28 [some (vR 18), some (vI 0), some (vI (xs 1)), some (vI 3)] [] _
  rw [← eG4]
  obtain ⟨f19_4, h19⟩ : ∃ g : Nat → Int32, G4[19]? = some (ab_if 20 (g)) := ⟨_, h19⟩
  refine ab_iinc (v := 4) d_PW_makeReady_28 rfl (by decide) (Nat.le_of_ble_eq_true rfl) (Nat.le_of_ble_eq_true rfl) rfl ?_
  change ab_W _ _ _ G4 31 [some (vR 18), some (vI 0), some (vI (xs 1)), some (vI 4)] [] _
  refine ab_goto (tgt := 2) d_PW_makeReady_31 (by decide) ?_
  refine ab_iload_n d_PW_makeReady_2 rfl ?_
  refine ab_iconst (v := 4) d_PW_makeReady_3 (by decide) ?_
  refine ab_icmp_ge (tgt := 34) d_PW_makeReady_4 (by decide) (fun _ => ?_) (fun c => absurd c (by decide))
  exact ab_vret rfl d_PW_makeReady_34 (by rw [hQ]; exact ⟨rfl, hfr, hlen, hsl, ⟨_, h19⟩⟩)
set_option maxRecDepth 100000 in
set_option maxHeartbeats 4000000 in
theorem q_PW_makeReady_1 {X : ab_X} {d : Nat} {G : ab_G} {xs : Nat → Int32} {f19_0 : Nat → Int32} (hlen : G.length = 149) (hsl : ab_slots G = 1890753) (h18 : G[18]? = some (ab_ob 0 [vR 19, vR 20, vR 22, vR 30, vR 31, vR 36, vR 37, vR 46, vR 51, vR 60, vR 69, vR 70, vR 72, vR 74, vR 76, vR 78, vI 0, vI 0])) (h19 : G[19]? = some (ab_if 20 (f19_0))) : ab_F X d y_PW_makeReady (.code y_PW_makeReady b_PW_makeReady 4 none) [vR 18, vI 4, vI (xs 2)] G (fun o G2 => o = .returned none ∧ ab_fr [19] G G2 ∧ G2.length = 149 ∧ ab_slots G2 = 1890753 ∧ (∃ g : Nat → Int32, G2[19]? = some (ab_if 20 (g)))) := by
  refine ab_F_of (by decide +kernel) (Nat.le_of_ble_eq_true rfl) ?_
  obtain ⟨Q, hQ⟩ : ∃ z : Outcome → ab_G → Prop, z = (fun o G2 => o = .returned none ∧ ab_fr [19] G G2 ∧ G2.length = 149 ∧ ab_slots G2 = 1890753 ∧ (∃ g : Nat → Int32, G2[19]? = some (ab_if 20 (g)))) := ⟨_, rfl⟩
  rw [← hQ]
  change ab_W X (ab_pl y_PW_makeReady b_PW_makeReady 4 none) d G 0 [some (vR 18), some (vI 4), some (vI (xs 2)), none] [] Q
  have hfr : ab_fr [19] G G := ab_fr.rf
  refine ab_iconst (v := 0) d_PW_makeReady_0 (by decide) ?_
  refine ab_istore_n d_PW_makeReady_1 (Nat.le_of_ble_eq_true rfl) (Nat.le_of_ble_eq_true rfl) rfl ?_
  change ab_W _ _ _ G 2 [some (vR 18), some (vI 4), some (vI (xs 2)), some (vI 0)] [] _
  refine ab_iload_n d_PW_makeReady_2 rfl ?_
  refine ab_iconst (v := 4) d_PW_makeReady_3 (by decide) ?_
  refine ab_icmp_ge (tgt := 34) d_PW_makeReady_4 (by decide) (fun c => absurd c (by decide)) (fun _ => ?_)
  refine ab_aload_n d_PW_makeReady_7 rfl ?_
  refine ab_getf (fs := [vR 19, vR 20, vR 22, vR 30, vR 31, vR 36, vR 37, vR 46, vR 51, vR 60, vR 69, vR 70, vR 72, vR 74, vR 76, vR 78, vI 0, vI 0]) f_PW_9 d_PW_makeReady_8 h18 rfl ?_
  refine ab_iload_n d_PW_makeReady_11 rfl ?_
  refine ab_iload_n d_PW_makeReady_12 rfl ?_
  refine ab_iadd d_PW_makeReady_13 ?_
  refine ab_topi (y := 4) (by decide) ?_
  refine ab_iload_n d_PW_makeReady_14 rfl ?_
  refine ab_bipush (v := 24) d_PW_makeReady_15 (by decide) ?_
  refine ab_bipush (v := 8) d_PW_makeReady_17 (by decide) ?_
  refine ab_iload_n d_PW_makeReady_19 rfl ?_
  refine ab_imul d_PW_makeReady_20 ?_
  refine ab_topi (y := 0) (by decide) ?_
  refine ab_isub d_PW_makeReady_21 ?_
  refine ab_topi (y := 24) (by decide) ?_
  refine ab_iushr d_PW_makeReady_22 ?_
  refine ab_sipush (v := 255) d_PW_makeReady_23 (by decide) ?_
  refine ab_iand d_PW_makeReady_26 ?_
  refine ab_iast d_PW_makeReady_27 h19 (by unfold vp_in; decide) (by decide) ?_
  obtain ⟨G1, eG1⟩ : ∃ z : ab_G, z = List.set G 19 (ab_if 20 ((upd f19_0 4 (((Int32.toUInt32 (xs 2) >>> (Int32.toUInt32 24 &&& Int32.toUInt32 31)).toInt32) &&& 255)))) := ⟨_, rfl⟩
  have h18 := ab_keep eG1 (by decide) h18
  have hlen := ab_klen eG1 hlen
  have hsl := ab_ksl 20 eG1 h19 rfl rfl hsl
  have hfr := hfr.wr eG1 (by decide)
  have h19 := ab_kept eG1 h19
  change ab_W _ _ _ (List.set G 19 (ab_if 20 ((upd f19_0 4 (((Int32.toUInt32 (xs 2) >>> (Int32.toUInt32 24 &&& Int32.toUInt32 31)).toInt32) &&& 255))))) 28 [some (vR 18), some (vI 4), some (vI (xs 2)), some (vI 0)] [] _
  rw [← eG1]
  obtain ⟨f19_1, h19⟩ : ∃ g : Nat → Int32, G1[19]? = some (ab_if 20 (g)) := ⟨_, h19⟩
  refine ab_iinc (v := 1) d_PW_makeReady_28 rfl (by decide) (Nat.le_of_ble_eq_true rfl) (Nat.le_of_ble_eq_true rfl) rfl ?_
  change ab_W _ _ _ G1 31 [some (vR 18), some (vI 4), some (vI (xs 2)), some (vI 1)] [] _
  refine ab_goto (tgt := 2) d_PW_makeReady_31 (by decide) ?_
  refine ab_iload_n d_PW_makeReady_2 rfl ?_
  refine ab_iconst (v := 4) d_PW_makeReady_3 (by decide) ?_
  refine ab_icmp_ge (tgt := 34) d_PW_makeReady_4 (by decide) (fun c => absurd c (by decide)) (fun _ => ?_)
  refine ab_aload_n d_PW_makeReady_7 rfl ?_
  refine ab_getf (fs := [vR 19, vR 20, vR 22, vR 30, vR 31, vR 36, vR 37, vR 46, vR 51, vR 60, vR 69, vR 70, vR 72, vR 74, vR 76, vR 78, vI 0, vI 0]) f_PW_9 d_PW_makeReady_8 h18 rfl ?_
  refine ab_iload_n d_PW_makeReady_11 rfl ?_
  refine ab_iload_n d_PW_makeReady_12 rfl ?_
  refine ab_iadd d_PW_makeReady_13 ?_
  refine ab_topi (y := 5) (by decide) ?_
  refine ab_iload_n d_PW_makeReady_14 rfl ?_
  refine ab_bipush (v := 24) d_PW_makeReady_15 (by decide) ?_
  refine ab_bipush (v := 8) d_PW_makeReady_17 (by decide) ?_
  refine ab_iload_n d_PW_makeReady_19 rfl ?_
  refine ab_imul d_PW_makeReady_20 ?_
  refine ab_topi (y := 8) (by decide) ?_
  refine ab_isub d_PW_makeReady_21 ?_
  refine ab_topi (y := 16) (by decide) ?_
  refine ab_iushr d_PW_makeReady_22 ?_
  refine ab_sipush (v := 255) d_PW_makeReady_23 (by decide) ?_
  refine ab_iand d_PW_makeReady_26 ?_
  refine ab_iast d_PW_makeReady_27 h19 (by unfold vp_in; decide) (by decide) ?_
  obtain ⟨G2, eG2⟩ : ∃ z : ab_G, z = List.set G1 19 (ab_if 20 ((upd f19_1 5 (((Int32.toUInt32 (xs 2) >>> (Int32.toUInt32 16 &&& Int32.toUInt32 31)).toInt32) &&& 255)))) := ⟨_, rfl⟩
  have h18 := ab_keep eG2 (by decide) h18
  have hlen := ab_klen eG2 hlen
  have hsl := ab_ksl 20 eG2 h19 rfl rfl hsl
  have hfr := hfr.wr eG2 (by decide)
  have h19 := ab_kept eG2 h19
  change ab_W _ _ _ (List.set G1 19 (ab_if 20 ((upd f19_1 5 (((Int32.toUInt32 (xs 2) >>> (Int32.toUInt32 16 &&& Int32.toUInt32 31)).toInt32) &&& 255))))) 28 [some (vR 18), some (vI 4), some (vI (xs 2)), some (vI 1)] [] _
  rw [← eG2]
  obtain ⟨f19_2, h19⟩ : ∃ g : Nat → Int32, G2[19]? = some (ab_if 20 (g)) := ⟨_, h19⟩
  refine ab_iinc (v := 2) d_PW_makeReady_28 rfl (by decide) (Nat.le_of_ble_eq_true rfl) (Nat.le_of_ble_eq_true rfl) rfl ?_
  change ab_W _ _ _ G2 31 [some (vR 18), some (vI 4), some (vI (xs 2)), some (vI 2)] [] _
  refine ab_goto (tgt := 2) d_PW_makeReady_31 (by decide) ?_
  refine ab_iload_n d_PW_makeReady_2 rfl ?_
  refine ab_iconst (v := 4) d_PW_makeReady_3 (by decide) ?_
  refine ab_icmp_ge (tgt := 34) d_PW_makeReady_4 (by decide) (fun c => absurd c (by decide)) (fun _ => ?_)
  refine ab_aload_n d_PW_makeReady_7 rfl ?_
  refine ab_getf (fs := [vR 19, vR 20, vR 22, vR 30, vR 31, vR 36, vR 37, vR 46, vR 51, vR 60, vR 69, vR 70, vR 72, vR 74, vR 76, vR 78, vI 0, vI 0]) f_PW_9 d_PW_makeReady_8 h18 rfl ?_
  refine ab_iload_n d_PW_makeReady_11 rfl ?_
  refine ab_iload_n d_PW_makeReady_12 rfl ?_
  refine ab_iadd d_PW_makeReady_13 ?_
  refine ab_topi (y := 6) (by decide) ?_
  refine ab_iload_n d_PW_makeReady_14 rfl ?_
  refine ab_bipush (v := 24) d_PW_makeReady_15 (by decide) ?_
  refine ab_bipush (v := 8) d_PW_makeReady_17 (by decide) ?_
  refine ab_iload_n d_PW_makeReady_19 rfl ?_
  refine ab_imul d_PW_makeReady_20 ?_
  refine ab_topi (y := 16) (by decide) ?_
  refine ab_isub d_PW_makeReady_21 ?_
  refine ab_topi (y := 8) (by decide) ?_
  refine ab_iushr d_PW_makeReady_22 ?_
  refine ab_sipush (v := 255) d_PW_makeReady_23 (by decide) ?_
  refine ab_iand d_PW_makeReady_26 ?_
  refine ab_iast d_PW_makeReady_27 h19 (by unfold vp_in; decide) (by decide) ?_
  obtain ⟨G3, eG3⟩ : ∃ z : ab_G, z = List.set G2 19 (ab_if 20 ((upd f19_2 6 (((Int32.toUInt32 (xs 2) >>> (Int32.toUInt32 8 &&& Int32.toUInt32 31)).toInt32) &&& 255)))) := ⟨_, rfl⟩
  have h18 := ab_keep eG3 (by decide) h18
  have hlen := ab_klen eG3 hlen
  have hsl := ab_ksl 20 eG3 h19 rfl rfl hsl
  have hfr := hfr.wr eG3 (by decide)
  have h19 := ab_kept eG3 h19
  change ab_W _ _ _ (List.set G2 19 (ab_if 20 ((upd f19_2 6 (((Int32.toUInt32 (xs 2) >>> (Int32.toUInt32 8 &&& Int32.toUInt32 31)).toInt32) &&& 255))))) 28 [some (vR 18), some (vI 4), some (vI (xs 2)), some (vI 2)] [] _
  rw [← eG3]
  obtain ⟨f19_3, h19⟩ : ∃ g : Nat → Int32, G3[19]? = some (ab_if 20 (g)) := ⟨_, h19⟩
  refine ab_iinc (v := 3) d_PW_makeReady_28 rfl (by decide) (Nat.le_of_ble_eq_true rfl) (Nat.le_of_ble_eq_true rfl) rfl ?_
  change ab_W _ _ _ G3 31 [some (vR 18), some (vI 4), some (vI (xs 2)), some (vI 3)] [] _
  refine ab_goto (tgt := 2) d_PW_makeReady_31 (by decide) ?_
  refine ab_iload_n d_PW_makeReady_2 rfl ?_
  refine ab_iconst (v := 4) d_PW_makeReady_3 (by decide) ?_
  refine ab_icmp_ge (tgt := 34) d_PW_makeReady_4 (by decide) (fun c => absurd c (by decide)) (fun _ => ?_)
  refine ab_aload_n d_PW_makeReady_7 rfl ?_
  refine ab_getf (fs := [vR 19, vR 20, vR 22, vR 30, vR 31, vR 36, vR 37, vR 46, vR 51, vR 60, vR 69, vR 70, vR 72, vR 74, vR 76, vR 78, vI 0, vI 0]) f_PW_9 d_PW_makeReady_8 h18 rfl ?_
  refine ab_iload_n d_PW_makeReady_11 rfl ?_
  refine ab_iload_n d_PW_makeReady_12 rfl ?_
  refine ab_iadd d_PW_makeReady_13 ?_
  refine ab_topi (y := 7) (by decide) ?_
  refine ab_iload_n d_PW_makeReady_14 rfl ?_
  refine ab_bipush (v := 24) d_PW_makeReady_15 (by decide) ?_
  refine ab_bipush (v := 8) d_PW_makeReady_17 (by decide) ?_
  refine ab_iload_n d_PW_makeReady_19 rfl ?_
  refine ab_imul d_PW_makeReady_20 ?_
  refine ab_topi (y := 24) (by decide) ?_
  refine ab_isub d_PW_makeReady_21 ?_
  refine ab_topi (y := 0) (by decide) ?_
  refine ab_iushr d_PW_makeReady_22 ?_
  refine ab_sipush (v := 255) d_PW_makeReady_23 (by decide) ?_
  refine ab_iand d_PW_makeReady_26 ?_
  refine ab_iast d_PW_makeReady_27 h19 (by unfold vp_in; decide) (by decide) ?_
  obtain ⟨G4, eG4⟩ : ∃ z : ab_G, z = List.set G3 19 (ab_if 20 ((upd f19_3 7 (((Int32.toUInt32 (xs 2) >>> (Int32.toUInt32 0 &&& Int32.toUInt32 31)).toInt32) &&& 255)))) := ⟨_, rfl⟩
  have h18 := ab_keep eG4 (by decide) h18
  have hlen := ab_klen eG4 hlen
  have hsl := ab_ksl 20 eG4 h19 rfl rfl hsl
  have hfr := hfr.wr eG4 (by decide)
  have h19 := ab_kept eG4 h19
  change ab_W _ _ _ (List.set G3 19 (ab_if 20 ((upd f19_3 7 (((Int32.toUInt32 (xs 2) >>> (Int32.toUInt32 0 &&& Int32.toUInt32 31)).toInt32) &&& 255))))) 28 [some (vR 18), some (vI 4), some (vI (xs 2)), some (vI 3)] [] _
  rw [← eG4]
  obtain ⟨f19_4, h19⟩ : ∃ g : Nat → Int32, G4[19]? = some (ab_if 20 (g)) := ⟨_, h19⟩
  refine ab_iinc (v := 4) d_PW_makeReady_28 rfl (by decide) (Nat.le_of_ble_eq_true rfl) (Nat.le_of_ble_eq_true rfl) rfl ?_
  change ab_W _ _ _ G4 31 [some (vR 18), some (vI 4), some (vI (xs 2)), some (vI 4)] [] _
  refine ab_goto (tgt := 2) d_PW_makeReady_31 (by decide) ?_
  refine ab_iload_n d_PW_makeReady_2 rfl ?_
  refine ab_iconst (v := 4) d_PW_makeReady_3 (by decide) ?_
  refine ab_icmp_ge (tgt := 34) d_PW_makeReady_4 (by decide) (fun _ => ?_) (fun c => absurd c (by decide))
  exact ab_vret rfl d_PW_makeReady_34 (by rw [hQ]; exact ⟨rfl, hfr, hlen, hsl, ⟨_, h19⟩⟩)
set_option maxRecDepth 100000 in
set_option maxHeartbeats 4000000 in
theorem q_PW_makeReady_2 {X : ab_X} {d : Nat} {G : ab_G} {xs : Nat → Int32} {f19_0 : Nat → Int32} (hlen : G.length = 149) (hsl : ab_slots G = 1890753) (h18 : G[18]? = some (ab_ob 0 [vR 19, vR 20, vR 22, vR 30, vR 31, vR 36, vR 37, vR 46, vR 51, vR 60, vR 69, vR 70, vR 72, vR 74, vR 76, vR 78, vI 0, vI 0])) (h19 : G[19]? = some (ab_if 20 (f19_0))) : ab_F X d y_PW_makeReady (.code y_PW_makeReady b_PW_makeReady 4 none) [vR 18, vI 8, vI (xs 3)] G (fun o G2 => o = .returned none ∧ ab_fr [19] G G2 ∧ G2.length = 149 ∧ ab_slots G2 = 1890753 ∧ (∃ g : Nat → Int32, G2[19]? = some (ab_if 20 (g)))) := by
  refine ab_F_of (by decide +kernel) (Nat.le_of_ble_eq_true rfl) ?_
  obtain ⟨Q, hQ⟩ : ∃ z : Outcome → ab_G → Prop, z = (fun o G2 => o = .returned none ∧ ab_fr [19] G G2 ∧ G2.length = 149 ∧ ab_slots G2 = 1890753 ∧ (∃ g : Nat → Int32, G2[19]? = some (ab_if 20 (g)))) := ⟨_, rfl⟩
  rw [← hQ]
  change ab_W X (ab_pl y_PW_makeReady b_PW_makeReady 4 none) d G 0 [some (vR 18), some (vI 8), some (vI (xs 3)), none] [] Q
  have hfr : ab_fr [19] G G := ab_fr.rf
  refine ab_iconst (v := 0) d_PW_makeReady_0 (by decide) ?_
  refine ab_istore_n d_PW_makeReady_1 (Nat.le_of_ble_eq_true rfl) (Nat.le_of_ble_eq_true rfl) rfl ?_
  change ab_W _ _ _ G 2 [some (vR 18), some (vI 8), some (vI (xs 3)), some (vI 0)] [] _
  refine ab_iload_n d_PW_makeReady_2 rfl ?_
  refine ab_iconst (v := 4) d_PW_makeReady_3 (by decide) ?_
  refine ab_icmp_ge (tgt := 34) d_PW_makeReady_4 (by decide) (fun c => absurd c (by decide)) (fun _ => ?_)
  refine ab_aload_n d_PW_makeReady_7 rfl ?_
  refine ab_getf (fs := [vR 19, vR 20, vR 22, vR 30, vR 31, vR 36, vR 37, vR 46, vR 51, vR 60, vR 69, vR 70, vR 72, vR 74, vR 76, vR 78, vI 0, vI 0]) f_PW_9 d_PW_makeReady_8 h18 rfl ?_
  refine ab_iload_n d_PW_makeReady_11 rfl ?_
  refine ab_iload_n d_PW_makeReady_12 rfl ?_
  refine ab_iadd d_PW_makeReady_13 ?_
  refine ab_topi (y := 8) (by decide) ?_
  refine ab_iload_n d_PW_makeReady_14 rfl ?_
  refine ab_bipush (v := 24) d_PW_makeReady_15 (by decide) ?_
  refine ab_bipush (v := 8) d_PW_makeReady_17 (by decide) ?_
  refine ab_iload_n d_PW_makeReady_19 rfl ?_
  refine ab_imul d_PW_makeReady_20 ?_
  refine ab_topi (y := 0) (by decide) ?_
  refine ab_isub d_PW_makeReady_21 ?_
  refine ab_topi (y := 24) (by decide) ?_
  refine ab_iushr d_PW_makeReady_22 ?_
  refine ab_sipush (v := 255) d_PW_makeReady_23 (by decide) ?_
  refine ab_iand d_PW_makeReady_26 ?_
  refine ab_iast d_PW_makeReady_27 h19 (by unfold vp_in; decide) (by decide) ?_
  obtain ⟨G1, eG1⟩ : ∃ z : ab_G, z = List.set G 19 (ab_if 20 ((upd f19_0 8 (((Int32.toUInt32 (xs 3) >>> (Int32.toUInt32 24 &&& Int32.toUInt32 31)).toInt32) &&& 255)))) := ⟨_, rfl⟩
  have h18 := ab_keep eG1 (by decide) h18
  have hlen := ab_klen eG1 hlen
  have hsl := ab_ksl 20 eG1 h19 rfl rfl hsl
  have hfr := hfr.wr eG1 (by decide)
  have h19 := ab_kept eG1 h19
  change ab_W _ _ _ (List.set G 19 (ab_if 20 ((upd f19_0 8 (((Int32.toUInt32 (xs 3) >>> (Int32.toUInt32 24 &&& Int32.toUInt32 31)).toInt32) &&& 255))))) 28 [some (vR 18), some (vI 8), some (vI (xs 3)), some (vI 0)] [] _
  rw [← eG1]
  obtain ⟨f19_1, h19⟩ : ∃ g : Nat → Int32, G1[19]? = some (ab_if 20 (g)) := ⟨_, h19⟩
  refine ab_iinc (v := 1) d_PW_makeReady_28 rfl (by decide) (Nat.le_of_ble_eq_true rfl) (Nat.le_of_ble_eq_true rfl) rfl ?_
  change ab_W _ _ _ G1 31 [some (vR 18), some (vI 8), some (vI (xs 3)), some (vI 1)] [] _
  refine ab_goto (tgt := 2) d_PW_makeReady_31 (by decide) ?_
  refine ab_iload_n d_PW_makeReady_2 rfl ?_
  refine ab_iconst (v := 4) d_PW_makeReady_3 (by decide) ?_
  refine ab_icmp_ge (tgt := 34) d_PW_makeReady_4 (by decide) (fun c => absurd c (by decide)) (fun _ => ?_)
  refine ab_aload_n d_PW_makeReady_7 rfl ?_
  refine ab_getf (fs := [vR 19, vR 20, vR 22, vR 30, vR 31, vR 36, vR 37, vR 46, vR 51, vR 60, vR 69, vR 70, vR 72, vR 74, vR 76, vR 78, vI 0, vI 0]) f_PW_9 d_PW_makeReady_8 h18 rfl ?_
  refine ab_iload_n d_PW_makeReady_11 rfl ?_
  refine ab_iload_n d_PW_makeReady_12 rfl ?_
  refine ab_iadd d_PW_makeReady_13 ?_
  refine ab_topi (y := 9) (by decide) ?_
  refine ab_iload_n d_PW_makeReady_14 rfl ?_
  refine ab_bipush (v := 24) d_PW_makeReady_15 (by decide) ?_
  refine ab_bipush (v := 8) d_PW_makeReady_17 (by decide) ?_
  refine ab_iload_n d_PW_makeReady_19 rfl ?_
  refine ab_imul d_PW_makeReady_20 ?_
  refine ab_topi (y := 8) (by decide) ?_
  refine ab_isub d_PW_makeReady_21 ?_
  refine ab_topi (y := 16) (by decide) ?_
  refine ab_iushr d_PW_makeReady_22 ?_
  refine ab_sipush (v := 255) d_PW_makeReady_23 (by decide) ?_
  refine ab_iand d_PW_makeReady_26 ?_
  refine ab_iast d_PW_makeReady_27 h19 (by unfold vp_in; decide) (by decide) ?_
  obtain ⟨G2, eG2⟩ : ∃ z : ab_G, z = List.set G1 19 (ab_if 20 ((upd f19_1 9 (((Int32.toUInt32 (xs 3) >>> (Int32.toUInt32 16 &&& Int32.toUInt32 31)).toInt32) &&& 255)))) := ⟨_, rfl⟩
  have h18 := ab_keep eG2 (by decide) h18
  have hlen := ab_klen eG2 hlen
  have hsl := ab_ksl 20 eG2 h19 rfl rfl hsl
  have hfr := hfr.wr eG2 (by decide)
  have h19 := ab_kept eG2 h19
  change ab_W _ _ _ (List.set G1 19 (ab_if 20 ((upd f19_1 9 (((Int32.toUInt32 (xs 3) >>> (Int32.toUInt32 16 &&& Int32.toUInt32 31)).toInt32) &&& 255))))) 28 [some (vR 18), some (vI 8), some (vI (xs 3)), some (vI 1)] [] _
  rw [← eG2]
  obtain ⟨f19_2, h19⟩ : ∃ g : Nat → Int32, G2[19]? = some (ab_if 20 (g)) := ⟨_, h19⟩
  refine ab_iinc (v := 2) d_PW_makeReady_28 rfl (by decide) (Nat.le_of_ble_eq_true rfl) (Nat.le_of_ble_eq_true rfl) rfl ?_
  change ab_W _ _ _ G2 31 [some (vR 18), some (vI 8), some (vI (xs 3)), some (vI 2)] [] _
  refine ab_goto (tgt := 2) d_PW_makeReady_31 (by decide) ?_
  refine ab_iload_n d_PW_makeReady_2 rfl ?_
  refine ab_iconst (v := 4) d_PW_makeReady_3 (by decide) ?_
  refine ab_icmp_ge (tgt := 34) d_PW_makeReady_4 (by decide) (fun c => absurd c (by decide)) (fun _ => ?_)
  refine ab_aload_n d_PW_makeReady_7 rfl ?_
  refine ab_getf (fs := [vR 19, vR 20, vR 22, vR 30, vR 31, vR 36, vR 37, vR 46, vR 51, vR 60, vR 69, vR 70, vR 72, vR 74, vR 76, vR 78, vI 0, vI 0]) f_PW_9 d_PW_makeReady_8 h18 rfl ?_
  refine ab_iload_n d_PW_makeReady_11 rfl ?_
  refine ab_iload_n d_PW_makeReady_12 rfl ?_
  refine ab_iadd d_PW_makeReady_13 ?_
  refine ab_topi (y := 10) (by decide) ?_
  refine ab_iload_n d_PW_makeReady_14 rfl ?_
  refine ab_bipush (v := 24) d_PW_makeReady_15 (by decide) ?_
  refine ab_bipush (v := 8) d_PW_makeReady_17 (by decide) ?_
  refine ab_iload_n d_PW_makeReady_19 rfl ?_
  refine ab_imul d_PW_makeReady_20 ?_
  refine ab_topi (y := 16) (by decide) ?_
  refine ab_isub d_PW_makeReady_21 ?_
  refine ab_topi (y := 8) (by decide) ?_
  refine ab_iushr d_PW_makeReady_22 ?_
  refine ab_sipush (v := 255) d_PW_makeReady_23 (by decide) ?_
  refine ab_iand d_PW_makeReady_26 ?_
  refine ab_iast d_PW_makeReady_27 h19 (by unfold vp_in; decide) (by decide) ?_
  obtain ⟨G3, eG3⟩ : ∃ z : ab_G, z = List.set G2 19 (ab_if 20 ((upd f19_2 10 (((Int32.toUInt32 (xs 3) >>> (Int32.toUInt32 8 &&& Int32.toUInt32 31)).toInt32) &&& 255)))) := ⟨_, rfl⟩
  have h18 := ab_keep eG3 (by decide) h18
  have hlen := ab_klen eG3 hlen
  have hsl := ab_ksl 20 eG3 h19 rfl rfl hsl
  have hfr := hfr.wr eG3 (by decide)
  have h19 := ab_kept eG3 h19
  change ab_W _ _ _ (List.set G2 19 (ab_if 20 ((upd f19_2 10 (((Int32.toUInt32 (xs 3) >>> (Int32.toUInt32 8 &&& Int32.toUInt32 31)).toInt32) &&& 255))))) 28 [some (vR 18), some (vI 8), some (vI (xs 3)), some (vI 2)] [] _
  rw [← eG3]
  obtain ⟨f19_3, h19⟩ : ∃ g : Nat → Int32, G3[19]? = some (ab_if 20 (g)) := ⟨_, h19⟩
  refine ab_iinc (v := 3) d_PW_makeReady_28 rfl (by decide) (Nat.le_of_ble_eq_true rfl) (Nat.le_of_ble_eq_true rfl) rfl ?_
  change ab_W _ _ _ G3 31 [some (vR 18), some (vI 8), some (vI (xs 3)), some (vI 3)] [] _
  refine ab_goto (tgt := 2) d_PW_makeReady_31 (by decide) ?_
  refine ab_iload_n d_PW_makeReady_2 rfl ?_
  refine ab_iconst (v := 4) d_PW_makeReady_3 (by decide) ?_
  refine ab_icmp_ge (tgt := 34) d_PW_makeReady_4 (by decide) (fun c => absurd c (by decide)) (fun _ => ?_)
  refine ab_aload_n d_PW_makeReady_7 rfl ?_
  refine ab_getf (fs := [vR 19, vR 20, vR 22, vR 30, vR 31, vR 36, vR 37, vR 46, vR 51, vR 60, vR 69, vR 70, vR 72, vR 74, vR 76, vR 78, vI 0, vI 0]) f_PW_9 d_PW_makeReady_8 h18 rfl ?_
  refine ab_iload_n d_PW_makeReady_11 rfl ?_
  refine ab_iload_n d_PW_makeReady_12 rfl ?_
  refine ab_iadd d_PW_makeReady_13 ?_
  refine ab_topi (y := 11) (by decide) ?_
  refine ab_iload_n d_PW_makeReady_14 rfl ?_
  refine ab_bipush (v := 24) d_PW_makeReady_15 (by decide) ?_
  refine ab_bipush (v := 8) d_PW_makeReady_17 (by decide) ?_
  refine ab_iload_n d_PW_makeReady_19 rfl ?_
  refine ab_imul d_PW_makeReady_20 ?_
  refine ab_topi (y := 24) (by decide) ?_
  refine ab_isub d_PW_makeReady_21 ?_
  refine ab_topi (y := 0) (by decide) ?_
  refine ab_iushr d_PW_makeReady_22 ?_
  refine ab_sipush (v := 255) d_PW_makeReady_23 (by decide) ?_
  refine ab_iand d_PW_makeReady_26 ?_
  refine ab_iast d_PW_makeReady_27 h19 (by unfold vp_in; decide) (by decide) ?_
  obtain ⟨G4, eG4⟩ : ∃ z : ab_G, z = List.set G3 19 (ab_if 20 ((upd f19_3 11 (((Int32.toUInt32 (xs 3) >>> (Int32.toUInt32 0 &&& Int32.toUInt32 31)).toInt32) &&& 255)))) := ⟨_, rfl⟩
  have h18 := ab_keep eG4 (by decide) h18
  have hlen := ab_klen eG4 hlen
  have hsl := ab_ksl 20 eG4 h19 rfl rfl hsl
  have hfr := hfr.wr eG4 (by decide)
  have h19 := ab_kept eG4 h19
  change ab_W _ _ _ (List.set G3 19 (ab_if 20 ((upd f19_3 11 (((Int32.toUInt32 (xs 3) >>> (Int32.toUInt32 0 &&& Int32.toUInt32 31)).toInt32) &&& 255))))) 28 [some (vR 18), some (vI 8), some (vI (xs 3)), some (vI 3)] [] _
  rw [← eG4]
  obtain ⟨f19_4, h19⟩ : ∃ g : Nat → Int32, G4[19]? = some (ab_if 20 (g)) := ⟨_, h19⟩
  refine ab_iinc (v := 4) d_PW_makeReady_28 rfl (by decide) (Nat.le_of_ble_eq_true rfl) (Nat.le_of_ble_eq_true rfl) rfl ?_
  change ab_W _ _ _ G4 31 [some (vR 18), some (vI 8), some (vI (xs 3)), some (vI 4)] [] _
  refine ab_goto (tgt := 2) d_PW_makeReady_31 (by decide) ?_
  refine ab_iload_n d_PW_makeReady_2 rfl ?_
  refine ab_iconst (v := 4) d_PW_makeReady_3 (by decide) ?_
  refine ab_icmp_ge (tgt := 34) d_PW_makeReady_4 (by decide) (fun _ => ?_) (fun c => absurd c (by decide))
  exact ab_vret rfl d_PW_makeReady_34 (by rw [hQ]; exact ⟨rfl, hfr, hlen, hsl, ⟨_, h19⟩⟩)
set_option maxRecDepth 100000 in
set_option maxHeartbeats 4000000 in
theorem q_PW_makeReady_3 {X : ab_X} {d : Nat} {G : ab_G} {xs : Nat → Int32} {f19_0 : Nat → Int32} (hlen : G.length = 149) (hsl : ab_slots G = 1890753) (h18 : G[18]? = some (ab_ob 0 [vR 19, vR 20, vR 22, vR 30, vR 31, vR 36, vR 37, vR 46, vR 51, vR 60, vR 69, vR 70, vR 72, vR 74, vR 76, vR 78, vI 0, vI 0])) (h19 : G[19]? = some (ab_if 20 (f19_0))) : ab_F X d y_PW_makeReady (.code y_PW_makeReady b_PW_makeReady 4 none) [vR 18, vI 12, vI (xs 4)] G (fun o G2 => o = .returned none ∧ ab_fr [19] G G2 ∧ G2.length = 149 ∧ ab_slots G2 = 1890753 ∧ (∃ g : Nat → Int32, G2[19]? = some (ab_if 20 (g)))) := by
  refine ab_F_of (by decide +kernel) (Nat.le_of_ble_eq_true rfl) ?_
  obtain ⟨Q, hQ⟩ : ∃ z : Outcome → ab_G → Prop, z = (fun o G2 => o = .returned none ∧ ab_fr [19] G G2 ∧ G2.length = 149 ∧ ab_slots G2 = 1890753 ∧ (∃ g : Nat → Int32, G2[19]? = some (ab_if 20 (g)))) := ⟨_, rfl⟩
  rw [← hQ]
  change ab_W X (ab_pl y_PW_makeReady b_PW_makeReady 4 none) d G 0 [some (vR 18), some (vI 12), some (vI (xs 4)), none] [] Q
  have hfr : ab_fr [19] G G := ab_fr.rf
  refine ab_iconst (v := 0) d_PW_makeReady_0 (by decide) ?_
  refine ab_istore_n d_PW_makeReady_1 (Nat.le_of_ble_eq_true rfl) (Nat.le_of_ble_eq_true rfl) rfl ?_
  change ab_W _ _ _ G 2 [some (vR 18), some (vI 12), some (vI (xs 4)), some (vI 0)] [] _
  refine ab_iload_n d_PW_makeReady_2 rfl ?_
  refine ab_iconst (v := 4) d_PW_makeReady_3 (by decide) ?_
  refine ab_icmp_ge (tgt := 34) d_PW_makeReady_4 (by decide) (fun c => absurd c (by decide)) (fun _ => ?_)
  refine ab_aload_n d_PW_makeReady_7 rfl ?_
  refine ab_getf (fs := [vR 19, vR 20, vR 22, vR 30, vR 31, vR 36, vR 37, vR 46, vR 51, vR 60, vR 69, vR 70, vR 72, vR 74, vR 76, vR 78, vI 0, vI 0]) f_PW_9 d_PW_makeReady_8 h18 rfl ?_
  refine ab_iload_n d_PW_makeReady_11 rfl ?_
  refine ab_iload_n d_PW_makeReady_12 rfl ?_
  refine ab_iadd d_PW_makeReady_13 ?_
  refine ab_topi (y := 12) (by decide) ?_
  refine ab_iload_n d_PW_makeReady_14 rfl ?_
  refine ab_bipush (v := 24) d_PW_makeReady_15 (by decide) ?_
  refine ab_bipush (v := 8) d_PW_makeReady_17 (by decide) ?_
  refine ab_iload_n d_PW_makeReady_19 rfl ?_
  refine ab_imul d_PW_makeReady_20 ?_
  refine ab_topi (y := 0) (by decide) ?_
  refine ab_isub d_PW_makeReady_21 ?_
  refine ab_topi (y := 24) (by decide) ?_
  refine ab_iushr d_PW_makeReady_22 ?_
  refine ab_sipush (v := 255) d_PW_makeReady_23 (by decide) ?_
  refine ab_iand d_PW_makeReady_26 ?_
  refine ab_iast d_PW_makeReady_27 h19 (by unfold vp_in; decide) (by decide) ?_
  obtain ⟨G1, eG1⟩ : ∃ z : ab_G, z = List.set G 19 (ab_if 20 ((upd f19_0 12 (((Int32.toUInt32 (xs 4) >>> (Int32.toUInt32 24 &&& Int32.toUInt32 31)).toInt32) &&& 255)))) := ⟨_, rfl⟩
  have h18 := ab_keep eG1 (by decide) h18
  have hlen := ab_klen eG1 hlen
  have hsl := ab_ksl 20 eG1 h19 rfl rfl hsl
  have hfr := hfr.wr eG1 (by decide)
  have h19 := ab_kept eG1 h19
  change ab_W _ _ _ (List.set G 19 (ab_if 20 ((upd f19_0 12 (((Int32.toUInt32 (xs 4) >>> (Int32.toUInt32 24 &&& Int32.toUInt32 31)).toInt32) &&& 255))))) 28 [some (vR 18), some (vI 12), some (vI (xs 4)), some (vI 0)] [] _
  rw [← eG1]
  obtain ⟨f19_1, h19⟩ : ∃ g : Nat → Int32, G1[19]? = some (ab_if 20 (g)) := ⟨_, h19⟩
  refine ab_iinc (v := 1) d_PW_makeReady_28 rfl (by decide) (Nat.le_of_ble_eq_true rfl) (Nat.le_of_ble_eq_true rfl) rfl ?_
  change ab_W _ _ _ G1 31 [some (vR 18), some (vI 12), some (vI (xs 4)), some (vI 1)] [] _
  refine ab_goto (tgt := 2) d_PW_makeReady_31 (by decide) ?_
  refine ab_iload_n d_PW_makeReady_2 rfl ?_
  refine ab_iconst (v := 4) d_PW_makeReady_3 (by decide) ?_
  refine ab_icmp_ge (tgt := 34) d_PW_makeReady_4 (by decide) (fun c => absurd c (by decide)) (fun _ => ?_)
  refine ab_aload_n d_PW_makeReady_7 rfl ?_
  refine ab_getf (fs := [vR 19, vR 20, vR 22, vR 30, vR 31, vR 36, vR 37, vR 46, vR 51, vR 60, vR 69, vR 70, vR 72, vR 74, vR 76, vR 78, vI 0, vI 0]) f_PW_9 d_PW_makeReady_8 h18 rfl ?_
  refine ab_iload_n d_PW_makeReady_11 rfl ?_
  refine ab_iload_n d_PW_makeReady_12 rfl ?_
  refine ab_iadd d_PW_makeReady_13 ?_
  refine ab_topi (y := 13) (by decide) ?_
  refine ab_iload_n d_PW_makeReady_14 rfl ?_
  refine ab_bipush (v := 24) d_PW_makeReady_15 (by decide) ?_
  refine ab_bipush (v := 8) d_PW_makeReady_17 (by decide) ?_
  refine ab_iload_n d_PW_makeReady_19 rfl ?_
  refine ab_imul d_PW_makeReady_20 ?_
  refine ab_topi (y := 8) (by decide) ?_
  refine ab_isub d_PW_makeReady_21 ?_
  refine ab_topi (y := 16) (by decide) ?_
  refine ab_iushr d_PW_makeReady_22 ?_
  refine ab_sipush (v := 255) d_PW_makeReady_23 (by decide) ?_
  refine ab_iand d_PW_makeReady_26 ?_
  refine ab_iast d_PW_makeReady_27 h19 (by unfold vp_in; decide) (by decide) ?_
  obtain ⟨G2, eG2⟩ : ∃ z : ab_G, z = List.set G1 19 (ab_if 20 ((upd f19_1 13 (((Int32.toUInt32 (xs 4) >>> (Int32.toUInt32 16 &&& Int32.toUInt32 31)).toInt32) &&& 255)))) := ⟨_, rfl⟩
  have h18 := ab_keep eG2 (by decide) h18
  have hlen := ab_klen eG2 hlen
  have hsl := ab_ksl 20 eG2 h19 rfl rfl hsl
  have hfr := hfr.wr eG2 (by decide)
  have h19 := ab_kept eG2 h19
  change ab_W _ _ _ (List.set G1 19 (ab_if 20 ((upd f19_1 13 (((Int32.toUInt32 (xs 4) >>> (Int32.toUInt32 16 &&& Int32.toUInt32 31)).toInt32) &&& 255))))) 28 [some (vR 18), some (vI 12), some (vI (xs 4)), some (vI 1)] [] _
  rw [← eG2]
  obtain ⟨f19_2, h19⟩ : ∃ g : Nat → Int32, G2[19]? = some (ab_if 20 (g)) := ⟨_, h19⟩
  refine ab_iinc (v := 2) d_PW_makeReady_28 rfl (by decide) (Nat.le_of_ble_eq_true rfl) (Nat.le_of_ble_eq_true rfl) rfl ?_
  change ab_W _ _ _ G2 31 [some (vR 18), some (vI 12), some (vI (xs 4)), some (vI 2)] [] _
  refine ab_goto (tgt := 2) d_PW_makeReady_31 (by decide) ?_
  refine ab_iload_n d_PW_makeReady_2 rfl ?_
  refine ab_iconst (v := 4) d_PW_makeReady_3 (by decide) ?_
  refine ab_icmp_ge (tgt := 34) d_PW_makeReady_4 (by decide) (fun c => absurd c (by decide)) (fun _ => ?_)
  refine ab_aload_n d_PW_makeReady_7 rfl ?_
  refine ab_getf (fs := [vR 19, vR 20, vR 22, vR 30, vR 31, vR 36, vR 37, vR 46, vR 51, vR 60, vR 69, vR 70, vR 72, vR 74, vR 76, vR 78, vI 0, vI 0]) f_PW_9 d_PW_makeReady_8 h18 rfl ?_
  refine ab_iload_n d_PW_makeReady_11 rfl ?_
  refine ab_iload_n d_PW_makeReady_12 rfl ?_
  refine ab_iadd d_PW_makeReady_13 ?_
  refine ab_topi (y := 14) (by decide) ?_
  refine ab_iload_n d_PW_makeReady_14 rfl ?_
  refine ab_bipush (v := 24) d_PW_makeReady_15 (by decide) ?_
  refine ab_bipush (v := 8) d_PW_makeReady_17 (by decide) ?_
  refine ab_iload_n d_PW_makeReady_19 rfl ?_
  refine ab_imul d_PW_makeReady_20 ?_
  refine ab_topi (y := 16) (by decide) ?_
  refine ab_isub d_PW_makeReady_21 ?_
  refine ab_topi (y := 8) (by decide) ?_
  refine ab_iushr d_PW_makeReady_22 ?_
  refine ab_sipush (v := 255) d_PW_makeReady_23 (by decide) ?_
  refine ab_iand d_PW_makeReady_26 ?_
  refine ab_iast d_PW_makeReady_27 h19 (by unfold vp_in; decide) (by decide) ?_
  obtain ⟨G3, eG3⟩ : ∃ z : ab_G, z = List.set G2 19 (ab_if 20 ((upd f19_2 14 (((Int32.toUInt32 (xs 4) >>> (Int32.toUInt32 8 &&& Int32.toUInt32 31)).toInt32) &&& 255)))) := ⟨_, rfl⟩
  have h18 := ab_keep eG3 (by decide) h18
  have hlen := ab_klen eG3 hlen
  have hsl := ab_ksl 20 eG3 h19 rfl rfl hsl
  have hfr := hfr.wr eG3 (by decide)
  have h19 := ab_kept eG3 h19
  change ab_W _ _ _ (List.set G2 19 (ab_if 20 ((upd f19_2 14 (((Int32.toUInt32 (xs 4) >>> (Int32.toUInt32 8 &&& Int32.toUInt32 31)).toInt32) &&& 255))))) 28 [some (vR 18), some (vI 12), some (vI (xs 4)), some (vI 2)] [] _
  rw [← eG3]
  obtain ⟨f19_3, h19⟩ : ∃ g : Nat → Int32, G3[19]? = some (ab_if 20 (g)) := ⟨_, h19⟩
  refine ab_iinc (v := 3) d_PW_makeReady_28 rfl (by decide) (Nat.le_of_ble_eq_true rfl) (Nat.le_of_ble_eq_true rfl) rfl ?_
  change ab_W _ _ _ G3 31 [some (vR 18), some (vI 12), some (vI (xs 4)), some (vI 3)] [] _
  refine ab_goto (tgt := 2) d_PW_makeReady_31 (by decide) ?_
  refine ab_iload_n d_PW_makeReady_2 rfl ?_
  refine ab_iconst (v := 4) d_PW_makeReady_3 (by decide) ?_
  refine ab_icmp_ge (tgt := 34) d_PW_makeReady_4 (by decide) (fun c => absurd c (by decide)) (fun _ => ?_)
  refine ab_aload_n d_PW_makeReady_7 rfl ?_
  refine ab_getf (fs := [vR 19, vR 20, vR 22, vR 30, vR 31, vR 36, vR 37, vR 46, vR 51, vR 60, vR 69, vR 70, vR 72, vR 74, vR 76, vR 78, vI 0, vI 0]) f_PW_9 d_PW_makeReady_8 h18 rfl ?_
  refine ab_iload_n d_PW_makeReady_11 rfl ?_
  refine ab_iload_n d_PW_makeReady_12 rfl ?_
  refine ab_iadd d_PW_makeReady_13 ?_
  refine ab_topi (y := 15) (by decide) ?_
  refine ab_iload_n d_PW_makeReady_14 rfl ?_
  refine ab_bipush (v := 24) d_PW_makeReady_15 (by decide) ?_
  refine ab_bipush (v := 8) d_PW_makeReady_17 (by decide) ?_
  refine ab_iload_n d_PW_makeReady_19 rfl ?_
  refine ab_imul d_PW_makeReady_20 ?_
  refine ab_topi (y := 24) (by decide) ?_
  refine ab_isub d_PW_makeReady_21 ?_
  refine ab_topi (y := 0) (by decide) ?_
  refine ab_iushr d_PW_makeReady_22 ?_
  refine ab_sipush (v := 255) d_PW_makeReady_23 (by decide) ?_
  refine ab_iand d_PW_makeReady_26 ?_
  refine ab_iast d_PW_makeReady_27 h19 (by unfold vp_in; decide) (by decide) ?_
  obtain ⟨G4, eG4⟩ : ∃ z : ab_G, z = List.set G3 19 (ab_if 20 ((upd f19_3 15 (((Int32.toUInt32 (xs 4) >>> (Int32.toUInt32 0 &&& Int32.toUInt32 31)).toInt32) &&& 255)))) := ⟨_, rfl⟩
  have h18 := ab_keep eG4 (by decide) h18
  have hlen := ab_klen eG4 hlen
  have hsl := ab_ksl 20 eG4 h19 rfl rfl hsl
  have hfr := hfr.wr eG4 (by decide)
  have h19 := ab_kept eG4 h19
  change ab_W _ _ _ (List.set G3 19 (ab_if 20 ((upd f19_3 15 (((Int32.toUInt32 (xs 4) >>> (Int32.toUInt32 0 &&& Int32.toUInt32 31)).toInt32) &&& 255))))) 28 [some (vR 18), some (vI 12), some (vI (xs 4)), some (vI 3)] [] _
  rw [← eG4]
  obtain ⟨f19_4, h19⟩ : ∃ g : Nat → Int32, G4[19]? = some (ab_if 20 (g)) := ⟨_, h19⟩
  refine ab_iinc (v := 4) d_PW_makeReady_28 rfl (by decide) (Nat.le_of_ble_eq_true rfl) (Nat.le_of_ble_eq_true rfl) rfl ?_
  change ab_W _ _ _ G4 31 [some (vR 18), some (vI 12), some (vI (xs 4)), some (vI 4)] [] _
  refine ab_goto (tgt := 2) d_PW_makeReady_31 (by decide) ?_
  refine ab_iload_n d_PW_makeReady_2 rfl ?_
  refine ab_iconst (v := 4) d_PW_makeReady_3 (by decide) ?_
  refine ab_icmp_ge (tgt := 34) d_PW_makeReady_4 (by decide) (fun _ => ?_) (fun c => absurd c (by decide))
  exact ab_vret rfl d_PW_makeReady_34 (by rw [hQ]; exact ⟨rfl, hfr, hlen, hsl, ⟨_, h19⟩⟩)
set_option maxRecDepth 100000 in
set_option maxHeartbeats 4000000 in
theorem q_PW_makeReady_4 {X : ab_X} {d : Nat} {G : ab_G} {xs : Nat → Int32} {f19_0 : Nat → Int32} (hlen : G.length = 149) (hsl : ab_slots G = 1890753) (h18 : G[18]? = some (ab_ob 0 [vR 19, vR 20, vR 22, vR 30, vR 31, vR 36, vR 37, vR 46, vR 51, vR 60, vR 69, vR 70, vR 72, vR 74, vR 76, vR 78, vI 0, vI 0])) (h19 : G[19]? = some (ab_if 20 (f19_0))) : ab_F X d y_PW_makeReady (.code y_PW_makeReady b_PW_makeReady 4 none) [vR 18, vI 16, vI (xs 5)] G (fun o G2 => o = .returned none ∧ ab_fr [19] G G2 ∧ G2.length = 149 ∧ ab_slots G2 = 1890753 ∧ (∃ g : Nat → Int32, G2[19]? = some (ab_if 20 (g)))) := by
  refine ab_F_of (by decide +kernel) (Nat.le_of_ble_eq_true rfl) ?_
  obtain ⟨Q, hQ⟩ : ∃ z : Outcome → ab_G → Prop, z = (fun o G2 => o = .returned none ∧ ab_fr [19] G G2 ∧ G2.length = 149 ∧ ab_slots G2 = 1890753 ∧ (∃ g : Nat → Int32, G2[19]? = some (ab_if 20 (g)))) := ⟨_, rfl⟩
  rw [← hQ]
  change ab_W X (ab_pl y_PW_makeReady b_PW_makeReady 4 none) d G 0 [some (vR 18), some (vI 16), some (vI (xs 5)), none] [] Q
  have hfr : ab_fr [19] G G := ab_fr.rf
  refine ab_iconst (v := 0) d_PW_makeReady_0 (by decide) ?_
  refine ab_istore_n d_PW_makeReady_1 (Nat.le_of_ble_eq_true rfl) (Nat.le_of_ble_eq_true rfl) rfl ?_
  change ab_W _ _ _ G 2 [some (vR 18), some (vI 16), some (vI (xs 5)), some (vI 0)] [] _
  refine ab_iload_n d_PW_makeReady_2 rfl ?_
  refine ab_iconst (v := 4) d_PW_makeReady_3 (by decide) ?_
  refine ab_icmp_ge (tgt := 34) d_PW_makeReady_4 (by decide) (fun c => absurd c (by decide)) (fun _ => ?_)
  refine ab_aload_n d_PW_makeReady_7 rfl ?_
  refine ab_getf (fs := [vR 19, vR 20, vR 22, vR 30, vR 31, vR 36, vR 37, vR 46, vR 51, vR 60, vR 69, vR 70, vR 72, vR 74, vR 76, vR 78, vI 0, vI 0]) f_PW_9 d_PW_makeReady_8 h18 rfl ?_
  refine ab_iload_n d_PW_makeReady_11 rfl ?_
  refine ab_iload_n d_PW_makeReady_12 rfl ?_
  refine ab_iadd d_PW_makeReady_13 ?_
  refine ab_topi (y := 16) (by decide) ?_
  refine ab_iload_n d_PW_makeReady_14 rfl ?_
  refine ab_bipush (v := 24) d_PW_makeReady_15 (by decide) ?_
  refine ab_bipush (v := 8) d_PW_makeReady_17 (by decide) ?_
  refine ab_iload_n d_PW_makeReady_19 rfl ?_
  refine ab_imul d_PW_makeReady_20 ?_
  refine ab_topi (y := 0) (by decide) ?_
  refine ab_isub d_PW_makeReady_21 ?_
  refine ab_topi (y := 24) (by decide) ?_
  refine ab_iushr d_PW_makeReady_22 ?_
  refine ab_sipush (v := 255) d_PW_makeReady_23 (by decide) ?_
  refine ab_iand d_PW_makeReady_26 ?_
  refine ab_iast d_PW_makeReady_27 h19 (by unfold vp_in; decide) (by decide) ?_
  obtain ⟨G1, eG1⟩ : ∃ z : ab_G, z = List.set G 19 (ab_if 20 ((upd f19_0 16 (((Int32.toUInt32 (xs 5) >>> (Int32.toUInt32 24 &&& Int32.toUInt32 31)).toInt32) &&& 255)))) := ⟨_, rfl⟩
  have h18 := ab_keep eG1 (by decide) h18
  have hlen := ab_klen eG1 hlen
  have hsl := ab_ksl 20 eG1 h19 rfl rfl hsl
  have hfr := hfr.wr eG1 (by decide)
  have h19 := ab_kept eG1 h19
  change ab_W _ _ _ (List.set G 19 (ab_if 20 ((upd f19_0 16 (((Int32.toUInt32 (xs 5) >>> (Int32.toUInt32 24 &&& Int32.toUInt32 31)).toInt32) &&& 255))))) 28 [some (vR 18), some (vI 16), some (vI (xs 5)), some (vI 0)] [] _
  rw [← eG1]
  obtain ⟨f19_1, h19⟩ : ∃ g : Nat → Int32, G1[19]? = some (ab_if 20 (g)) := ⟨_, h19⟩
  refine ab_iinc (v := 1) d_PW_makeReady_28 rfl (by decide) (Nat.le_of_ble_eq_true rfl) (Nat.le_of_ble_eq_true rfl) rfl ?_
  change ab_W _ _ _ G1 31 [some (vR 18), some (vI 16), some (vI (xs 5)), some (vI 1)] [] _
  refine ab_goto (tgt := 2) d_PW_makeReady_31 (by decide) ?_
  refine ab_iload_n d_PW_makeReady_2 rfl ?_
  refine ab_iconst (v := 4) d_PW_makeReady_3 (by decide) ?_
  refine ab_icmp_ge (tgt := 34) d_PW_makeReady_4 (by decide) (fun c => absurd c (by decide)) (fun _ => ?_)
  refine ab_aload_n d_PW_makeReady_7 rfl ?_
  refine ab_getf (fs := [vR 19, vR 20, vR 22, vR 30, vR 31, vR 36, vR 37, vR 46, vR 51, vR 60, vR 69, vR 70, vR 72, vR 74, vR 76, vR 78, vI 0, vI 0]) f_PW_9 d_PW_makeReady_8 h18 rfl ?_
  refine ab_iload_n d_PW_makeReady_11 rfl ?_
  refine ab_iload_n d_PW_makeReady_12 rfl ?_
  refine ab_iadd d_PW_makeReady_13 ?_
  refine ab_topi (y := 17) (by decide) ?_
  refine ab_iload_n d_PW_makeReady_14 rfl ?_
  refine ab_bipush (v := 24) d_PW_makeReady_15 (by decide) ?_
  refine ab_bipush (v := 8) d_PW_makeReady_17 (by decide) ?_
  refine ab_iload_n d_PW_makeReady_19 rfl ?_
  refine ab_imul d_PW_makeReady_20 ?_
  refine ab_topi (y := 8) (by decide) ?_
  refine ab_isub d_PW_makeReady_21 ?_
  refine ab_topi (y := 16) (by decide) ?_
  refine ab_iushr d_PW_makeReady_22 ?_
  refine ab_sipush (v := 255) d_PW_makeReady_23 (by decide) ?_
  refine ab_iand d_PW_makeReady_26 ?_
  refine ab_iast d_PW_makeReady_27 h19 (by unfold vp_in; decide) (by decide) ?_
  obtain ⟨G2, eG2⟩ : ∃ z : ab_G, z = List.set G1 19 (ab_if 20 ((upd f19_1 17 (((Int32.toUInt32 (xs 5) >>> (Int32.toUInt32 16 &&& Int32.toUInt32 31)).toInt32) &&& 255)))) := ⟨_, rfl⟩
  have h18 := ab_keep eG2 (by decide) h18
  have hlen := ab_klen eG2 hlen
  have hsl := ab_ksl 20 eG2 h19 rfl rfl hsl
  have hfr := hfr.wr eG2 (by decide)
  have h19 := ab_kept eG2 h19
  change ab_W _ _ _ (List.set G1 19 (ab_if 20 ((upd f19_1 17 (((Int32.toUInt32 (xs 5) >>> (Int32.toUInt32 16 &&& Int32.toUInt32 31)).toInt32) &&& 255))))) 28 [some (vR 18), some (vI 16), some (vI (xs 5)), some (vI 1)] [] _
  rw [← eG2]
  obtain ⟨f19_2, h19⟩ : ∃ g : Nat → Int32, G2[19]? = some (ab_if 20 (g)) := ⟨_, h19⟩
  refine ab_iinc (v := 2) d_PW_makeReady_28 rfl (by decide) (Nat.le_of_ble_eq_true rfl) (Nat.le_of_ble_eq_true rfl) rfl ?_
  change ab_W _ _ _ G2 31 [some (vR 18), some (vI 16), some (vI (xs 5)), some (vI 2)] [] _
  refine ab_goto (tgt := 2) d_PW_makeReady_31 (by decide) ?_
  refine ab_iload_n d_PW_makeReady_2 rfl ?_
  refine ab_iconst (v := 4) d_PW_makeReady_3 (by decide) ?_
  refine ab_icmp_ge (tgt := 34) d_PW_makeReady_4 (by decide) (fun c => absurd c (by decide)) (fun _ => ?_)
  refine ab_aload_n d_PW_makeReady_7 rfl ?_
  refine ab_getf (fs := [vR 19, vR 20, vR 22, vR 30, vR 31, vR 36, vR 37, vR 46, vR 51, vR 60, vR 69, vR 70, vR 72, vR 74, vR 76, vR 78, vI 0, vI 0]) f_PW_9 d_PW_makeReady_8 h18 rfl ?_
  refine ab_iload_n d_PW_makeReady_11 rfl ?_
  refine ab_iload_n d_PW_makeReady_12 rfl ?_
  refine ab_iadd d_PW_makeReady_13 ?_
  refine ab_topi (y := 18) (by decide) ?_
  refine ab_iload_n d_PW_makeReady_14 rfl ?_
  refine ab_bipush (v := 24) d_PW_makeReady_15 (by decide) ?_
  refine ab_bipush (v := 8) d_PW_makeReady_17 (by decide) ?_
  refine ab_iload_n d_PW_makeReady_19 rfl ?_
  refine ab_imul d_PW_makeReady_20 ?_
  refine ab_topi (y := 16) (by decide) ?_
  refine ab_isub d_PW_makeReady_21 ?_
  refine ab_topi (y := 8) (by decide) ?_
  refine ab_iushr d_PW_makeReady_22 ?_
  refine ab_sipush (v := 255) d_PW_makeReady_23 (by decide) ?_
  refine ab_iand d_PW_makeReady_26 ?_
  refine ab_iast d_PW_makeReady_27 h19 (by unfold vp_in; decide) (by decide) ?_
  obtain ⟨G3, eG3⟩ : ∃ z : ab_G, z = List.set G2 19 (ab_if 20 ((upd f19_2 18 (((Int32.toUInt32 (xs 5) >>> (Int32.toUInt32 8 &&& Int32.toUInt32 31)).toInt32) &&& 255)))) := ⟨_, rfl⟩
  have h18 := ab_keep eG3 (by decide) h18
  have hlen := ab_klen eG3 hlen
  have hsl := ab_ksl 20 eG3 h19 rfl rfl hsl
  have hfr := hfr.wr eG3 (by decide)
  have h19 := ab_kept eG3 h19
  change ab_W _ _ _ (List.set G2 19 (ab_if 20 ((upd f19_2 18 (((Int32.toUInt32 (xs 5) >>> (Int32.toUInt32 8 &&& Int32.toUInt32 31)).toInt32) &&& 255))))) 28 [some (vR 18), some (vI 16), some (vI (xs 5)), some (vI 2)] [] _
  rw [← eG3]
  obtain ⟨f19_3, h19⟩ : ∃ g : Nat → Int32, G3[19]? = some (ab_if 20 (g)) := ⟨_, h19⟩
  refine ab_iinc (v := 3) d_PW_makeReady_28 rfl (by decide) (Nat.le_of_ble_eq_true rfl) (Nat.le_of_ble_eq_true rfl) rfl ?_
  change ab_W _ _ _ G3 31 [some (vR 18), some (vI 16), some (vI (xs 5)), some (vI 3)] [] _
  refine ab_goto (tgt := 2) d_PW_makeReady_31 (by decide) ?_
  refine ab_iload_n d_PW_makeReady_2 rfl ?_
  refine ab_iconst (v := 4) d_PW_makeReady_3 (by decide) ?_
  refine ab_icmp_ge (tgt := 34) d_PW_makeReady_4 (by decide) (fun c => absurd c (by decide)) (fun _ => ?_)
  refine ab_aload_n d_PW_makeReady_7 rfl ?_
  refine ab_getf (fs := [vR 19, vR 20, vR 22, vR 30, vR 31, vR 36, vR 37, vR 46, vR 51, vR 60, vR 69, vR 70, vR 72, vR 74, vR 76, vR 78, vI 0, vI 0]) f_PW_9 d_PW_makeReady_8 h18 rfl ?_
  refine ab_iload_n d_PW_makeReady_11 rfl ?_
  refine ab_iload_n d_PW_makeReady_12 rfl ?_
  refine ab_iadd d_PW_makeReady_13 ?_
  refine ab_topi (y := 19) (by decide) ?_
  refine ab_iload_n d_PW_makeReady_14 rfl ?_
  refine ab_bipush (v := 24) d_PW_makeReady_15 (by decide) ?_
  refine ab_bipush (v := 8) d_PW_makeReady_17 (by decide) ?_
  refine ab_iload_n d_PW_makeReady_19 rfl ?_
  refine ab_imul d_PW_makeReady_20 ?_
  refine ab_topi (y := 24) (by decide) ?_
  refine ab_isub d_PW_makeReady_21 ?_
  refine ab_topi (y := 0) (by decide) ?_
  refine ab_iushr d_PW_makeReady_22 ?_
  refine ab_sipush (v := 255) d_PW_makeReady_23 (by decide) ?_
  refine ab_iand d_PW_makeReady_26 ?_
  refine ab_iast d_PW_makeReady_27 h19 (by unfold vp_in; decide) (by decide) ?_
  obtain ⟨G4, eG4⟩ : ∃ z : ab_G, z = List.set G3 19 (ab_if 20 ((upd f19_3 19 (((Int32.toUInt32 (xs 5) >>> (Int32.toUInt32 0 &&& Int32.toUInt32 31)).toInt32) &&& 255)))) := ⟨_, rfl⟩
  have h18 := ab_keep eG4 (by decide) h18
  have hlen := ab_klen eG4 hlen
  have hsl := ab_ksl 20 eG4 h19 rfl rfl hsl
  have hfr := hfr.wr eG4 (by decide)
  have h19 := ab_kept eG4 h19
  change ab_W _ _ _ (List.set G3 19 (ab_if 20 ((upd f19_3 19 (((Int32.toUInt32 (xs 5) >>> (Int32.toUInt32 0 &&& Int32.toUInt32 31)).toInt32) &&& 255))))) 28 [some (vR 18), some (vI 16), some (vI (xs 5)), some (vI 3)] [] _
  rw [← eG4]
  obtain ⟨f19_4, h19⟩ : ∃ g : Nat → Int32, G4[19]? = some (ab_if 20 (g)) := ⟨_, h19⟩
  refine ab_iinc (v := 4) d_PW_makeReady_28 rfl (by decide) (Nat.le_of_ble_eq_true rfl) (Nat.le_of_ble_eq_true rfl) rfl ?_
  change ab_W _ _ _ G4 31 [some (vR 18), some (vI 16), some (vI (xs 5)), some (vI 4)] [] _
  refine ab_goto (tgt := 2) d_PW_makeReady_31 (by decide) ?_
  refine ab_iload_n d_PW_makeReady_2 rfl ?_
  refine ab_iconst (v := 4) d_PW_makeReady_3 (by decide) ?_
  refine ab_icmp_ge (tgt := 34) d_PW_makeReady_4 (by decide) (fun _ => ?_) (fun c => absurd c (by decide))
  exact ab_vret rfl d_PW_makeReady_34 (by rw [hQ]; exact ⟨rfl, hfr, hlen, hsl, ⟨_, h19⟩⟩)
set_option maxRecDepth 100000 in
set_option maxHeartbeats 4000000 in
theorem q_PW_feed_0 {X : ab_X} {d : Nat} {G : ab_G} {xs : Nat → Int32} (hlen : G.length = 149) (hsl : ab_slots G = 1890753) (h18 : G[18]? = some (ab_ob 0 [vR 19, vR 20, vR 22, vR 30, vR 31, vR 36, vR 37, vR 46, vR 51, vR 60, vR 69, vR 70, vR 72, vR 74, vR 76, vR 78, vI 0, vI 0])) (h19 : G[19]? = some (ab_if 20 ((fun _ => 0)))) (hd : 1 ≤ d) : ab_F X d y_PW_feed (.code y_PW_feed b_PW_feed 6 none) [vR 18, vI (xs 1), vI (xs 2), vI (xs 3), vI (xs 4), vI (xs 5)] G (fun o G2 => o = .returned none ∧ ab_fr [19] G G2 ∧ G2.length = 149 ∧ ab_slots G2 = 1890753 ∧ (∃ g : Nat → Int32, G2[19]? = some (ab_if 20 (g)))) := by
  refine ab_F_of (by decide +kernel) (Nat.le_of_ble_eq_true rfl) ?_
  obtain ⟨Q, hQ⟩ : ∃ z : Outcome → ab_G → Prop, z = (fun o G2 => o = .returned none ∧ ab_fr [19] G G2 ∧ G2.length = 149 ∧ ab_slots G2 = 1890753 ∧ (∃ g : Nat → Int32, G2[19]? = some (ab_if 20 (g)))) := ⟨_, rfl⟩
  rw [← hQ]
  change ab_W X (ab_pl y_PW_feed b_PW_feed 6 none) d G 0 [some (vR 18), some (vI (xs 1)), some (vI (xs 2)), some (vI (xs 3)), some (vI (xs 4)), some (vI (xs 5))] [] Q
  have hfr : ab_fr [19] G G := ab_fr.rf
  refine ab_aload_n d_PW_feed_0 rfl ?_
  refine ab_iconst (v := 0) d_PW_feed_1 (by decide) ?_
  refine ab_iload_n d_PW_feed_2 rfl ?_
  refine ab_callV (d' := d - 1) (as := [vI 0, vI (xs 1)]) (st := []) (r := _) (q_PW_makeReady_0 (xs := xs) hlen hsl h18 h19) (fun o G2 h => ⟨_, h.1⟩) (by omega) m_PW_makeReady ml_PW_97 im_PW_makeReady se_PW_makeReady c_PW h18 (Nat.le_of_ble_eq_true rfl) d_PW_feed_3 rfl ?_
  intro v G1 hq
  obtain ⟨hv, hfk, hlen, hsl, ⟨f19_1, h19⟩⟩ := hq
  cases hv
  have h18 := hfk.get (by decide) h18
  have hfr := hfr.cl hfk (by decide)
  change ab_W _ _ _ G1 6 [some (vR 18), some (vI (xs 1)), some (vI (xs 2)), some (vI (xs 3)), some (vI (xs 4)), some (vI (xs 5))] [] _
  refine ab_aload_n d_PW_feed_6 rfl ?_
  refine ab_iconst (v := 4) d_PW_feed_7 (by decide) ?_
  refine ab_iload_n d_PW_feed_8 rfl ?_
  refine ab_callV (d' := d - 1) (as := [vI 4, vI (xs 2)]) (st := []) (r := _) (q_PW_makeReady_1 (xs := xs) (f19_0 := f19_1) hlen hsl h18 h19) (fun o G2 h => ⟨_, h.1⟩) (by omega) m_PW_makeReady ml_PW_97 im_PW_makeReady se_PW_makeReady c_PW h18 (Nat.le_of_ble_eq_true rfl) d_PW_feed_9 rfl ?_
  intro v G2 hq
  obtain ⟨hv, hfk, hlen, hsl, ⟨f19_2, h19⟩⟩ := hq
  cases hv
  have h18 := hfk.get (by decide) h18
  have hfr := hfr.cl hfk (by decide)
  change ab_W _ _ _ G2 12 [some (vR 18), some (vI (xs 1)), some (vI (xs 2)), some (vI (xs 3)), some (vI (xs 4)), some (vI (xs 5))] [] _
  refine ab_aload_n d_PW_feed_12 rfl ?_
  refine ab_bipush (v := 8) d_PW_feed_13 (by decide) ?_
  refine ab_iload_n d_PW_feed_15 rfl ?_
  refine ab_callV (d' := d - 1) (as := [vI 8, vI (xs 3)]) (st := []) (r := _) (q_PW_makeReady_2 (xs := xs) (f19_0 := f19_2) hlen hsl h18 h19) (fun o G2 h => ⟨_, h.1⟩) (by omega) m_PW_makeReady ml_PW_97 im_PW_makeReady se_PW_makeReady c_PW h18 (Nat.le_of_ble_eq_true rfl) d_PW_feed_16 rfl ?_
  intro v G3 hq
  obtain ⟨hv, hfk, hlen, hsl, ⟨f19_3, h19⟩⟩ := hq
  cases hv
  have h18 := hfk.get (by decide) h18
  have hfr := hfr.cl hfk (by decide)
  change ab_W _ _ _ G3 19 [some (vR 18), some (vI (xs 1)), some (vI (xs 2)), some (vI (xs 3)), some (vI (xs 4)), some (vI (xs 5))] [] _
  refine ab_aload_n d_PW_feed_19 rfl ?_
  refine ab_bipush (v := 12) d_PW_feed_20 (by decide) ?_
  refine ab_iload d_PW_feed_22 rfl ?_
  refine ab_callV (d' := d - 1) (as := [vI 12, vI (xs 4)]) (st := []) (r := _) (q_PW_makeReady_3 (xs := xs) (f19_0 := f19_3) hlen hsl h18 h19) (fun o G2 h => ⟨_, h.1⟩) (by omega) m_PW_makeReady ml_PW_97 im_PW_makeReady se_PW_makeReady c_PW h18 (Nat.le_of_ble_eq_true rfl) d_PW_feed_24 rfl ?_
  intro v G4 hq
  obtain ⟨hv, hfk, hlen, hsl, ⟨f19_4, h19⟩⟩ := hq
  cases hv
  have h18 := hfk.get (by decide) h18
  have hfr := hfr.cl hfk (by decide)
  change ab_W _ _ _ G4 27 [some (vR 18), some (vI (xs 1)), some (vI (xs 2)), some (vI (xs 3)), some (vI (xs 4)), some (vI (xs 5))] [] _
  refine ab_aload_n d_PW_feed_27 rfl ?_
  refine ab_bipush (v := 16) d_PW_feed_28 (by decide) ?_
  refine ab_iload d_PW_feed_30 rfl ?_
  refine ab_callV (d' := d - 1) (as := [vI 16, vI (xs 5)]) (st := []) (r := _) (q_PW_makeReady_4 (xs := xs) (f19_0 := f19_4) hlen hsl h18 h19) (fun o G2 h => ⟨_, h.1⟩) (by omega) m_PW_makeReady ml_PW_97 im_PW_makeReady se_PW_makeReady c_PW h18 (Nat.le_of_ble_eq_true rfl) d_PW_feed_32 rfl ?_
  intro v G5 hq
  obtain ⟨hv, hfk, hlen, hsl, ⟨f19_5, h19⟩⟩ := hq
  cases hv
  have h18 := hfk.get (by decide) h18
  have hfr := hfr.cl hfk (by decide)
  change ab_W _ _ _ G5 35 [some (vR 18), some (vI (xs 1)), some (vI (xs 2)), some (vI (xs 3)), some (vI (xs 4)), some (vI (xs 5))] [] _
  exact ab_vret rfl d_PW_feed_35 (by rw [hQ]; exact ⟨rfl, hfr, hlen, hsl, ⟨_, h19⟩⟩)
