set_option maxRecDepth 100000 in
set_option maxHeartbeats 4000000 in
theorem q_PR_build_0 {X : ab_X} {d : Nat} {G : ab_G} {xs : Nat → Int32} (hlen : G.length = 158) (hsl : ab_slots G = 1893385) (h22 : G[22]? = some (ab_ob 6 [vR 23, vR (149), vI 0, vI (xs 2), vI 0, vR 28, vR 29, vI 0, vI 0, vI 0])) (h149 : G[149]? = some (ab_ob 4 [vI 4, vI 0, vN, vI (-1), vI 0, vN, vR (150), vN, vI 0, vI 1, vI 0, vI 0, vI 0, vI 0, vI (-1)])) (h150 : G[150]? = some (ab_ob 4 [vI 5, vI 0, vN, vI (-1), vI 0, vN, vN, vN, vI 0, vI 1, vI 0, vI 0, vI 0, vI 0, vI (-1)])) (h151 : G[151]? = some (ab_ob 5 [vR (152), vR (153), vR (154), vI 0, vI 0, vI 0, vR (155), vI 0, vI 0, vI 0, vI 0, vI 0, vI 0, vI 0, vR (156), vR (157)])) (h152 : G[152]? = some (ab_if 808 ((fun _ => 0)))) (h153 : G[153]? = some (ab_if 808 ((fun _ => 0)))) (h154 : G[154]? = some (ab_if 808 ((fun _ => 0)))) (hd : 2 ≤ d) : ab_F X d y_PR_build (.code y_PR_build b_PR_build 6 none) [vR 151, vR (149), vR 22, vI (xs 2), vI 1] G (fun o G2 => o = .returned none ∧ ab_fr [151, 152, 153, 154] G G2 ∧ G2.length = 158 ∧ ab_slots G2 = 1893385 ∧ G2[151]? = some (ab_ob 5 [vR (152), vR (153), vR (154), vI 2, vI 1, vI 0, vR (155), vI 0, vI 0, vI 2, vI 0, vI (xs 2), vI 1, vI 0, vR (156), vR (157)]) ∧ G2[152]? = some (ab_if 808 ((upd (upd (fun _ => 0) 0 9) 1 8))) ∧ G2[153]? = some (ab_if 808 ((upd (upd (fun _ => 0) 0 0) 1 0))) ∧ G2[154]? = some (ab_if 808 ((upd (upd (fun _ => 0) 0 0) 1 0)))) := by
  refine ab_F_of (by decide +kernel) (Nat.le_of_ble_eq_true rfl) ?_
  obtain ⟨Q, hQ⟩ : ∃ z : Outcome → ab_G → Prop, z = (fun o G2 => o = .returned none ∧ ab_fr [151, 152, 153, 154] G G2 ∧ G2.length = 158 ∧ ab_slots G2 = 1893385 ∧ G2[151]? = some (ab_ob 5 [vR (152), vR (153), vR (154), vI 2, vI 1, vI 0, vR (155), vI 0, vI 0, vI 2, vI 0, vI (xs 2), vI 1, vI 0, vR (156), vR (157)]) ∧ G2[152]? = some (ab_if 808 ((upd (upd (fun _ => 0) 0 9) 1 8))) ∧ G2[153]? = some (ab_if 808 ((upd (upd (fun _ => 0) 0 0) 1 0))) ∧ G2[154]? = some (ab_if 808 ((upd (upd (fun _ => 0) 0 0) 1 0)))) := ⟨_, rfl⟩
  rw [← hQ]
  change ab_W X (ab_pl y_PR_build b_PR_build 6 none) d G 0 [some (vR 151), some (vR (149)), some (vR 22), some (vI (xs 2)), some (vI 1), none] [] Q
  have hfr : ab_fr [151, 152, 153, 154] G G := ab_fr.rf
  refine ab_aload_n d_PR_build_0 rfl ?_
  refine ab_iload_n d_PR_build_1 rfl ?_
  refine ab_putf (fs := [vR (152), vR (153), vR (154), vI 0, vI 0, vI 0, vR (155), vI 0, vI 0, vI 0, vI 0, vI 0, vI 0, vI 0, vR (156), vR (157)]) f_PR_30 (Or.inl rfl) d_PR_build_2 h151 (Nat.le_of_ble_eq_true rfl) (fun _ => ⟨rfl, rfl⟩) (by decide) ?_
  obtain ⟨G1, eG1⟩ : ∃ z : ab_G, z = List.set G 151 (ab_ob 5 [vR (152), vR (153), vR (154), vI 0, vI 0, vI 0, vR (155), vI 0, vI 0, vI 0, vI 0, vI (xs 2), vI 0, vI 0, vR (156), vR (157)]) := ⟨_, rfl⟩
  have h22 := ab_keep eG1 (by decide) h22
  have h149 := ab_keep eG1 (by decide) h149
  have h150 := ab_keep eG1 (by decide) h150
  have h152 := ab_keep eG1 (by decide) h152
  have h153 := ab_keep eG1 (by decide) h153
  have h154 := ab_keep eG1 (by decide) h154
  have hlen := ab_klen eG1 hlen
  have hsl := ab_ksl 16 eG1 h151 rfl rfl hsl
  have hfr := hfr.wr eG1 (by decide)
  have h151 := ab_kept eG1 h151
  change ab_W _ _ _ (List.set G 151 (ab_ob 5 [vR (152), vR (153), vR (154), vI 0, vI 0, vI 0, vR (155), vI 0, vI 0, vI 0, vI 0, vI (xs 2), vI 0, vI 0, vR (156), vR (157)])) 5 [some (vR 151), some (vR (149)), some (vR 22), some (vI (xs 2)), some (vI 1), none] [] _
  rw [← eG1]
  refine ab_aload_n d_PR_build_5 rfl ?_
  refine ab_iload d_PR_build_6 rfl ?_
  refine ab_putf (fs := [vR (152), vR (153), vR (154), vI 0, vI 0, vI 0, vR (155), vI 0, vI 0, vI 0, vI 0, vI (xs 2), vI 0, vI 0, vR (156), vR (157)]) f_PR_34 (Or.inl rfl) d_PR_build_8 h151 (Nat.le_of_ble_eq_true rfl) (fun _ => ⟨rfl, rfl⟩) (by decide) ?_
  obtain ⟨G2, eG2⟩ : ∃ z : ab_G, z = List.set G1 151 (ab_ob 5 [vR (152), vR (153), vR (154), vI 0, vI 0, vI 0, vR (155), vI 0, vI 0, vI 0, vI 0, vI (xs 2), vI 1, vI 0, vR (156), vR (157)]) := ⟨_, rfl⟩
  have h22 := ab_keep eG2 (by decide) h22
  have h149 := ab_keep eG2 (by decide) h149
  have h150 := ab_keep eG2 (by decide) h150
  have h152 := ab_keep eG2 (by decide) h152
  have h153 := ab_keep eG2 (by decide) h153
  have h154 := ab_keep eG2 (by decide) h154
  have hlen := ab_klen eG2 hlen
  have hsl := ab_ksl 16 eG2 h151 rfl rfl hsl
  have hfr := hfr.wr eG2 (by decide)
  have h151 := ab_kept eG2 h151
  change ab_W _ _ _ (List.set G1 151 (ab_ob 5 [vR (152), vR (153), vR (154), vI 0, vI 0, vI 0, vR (155), vI 0, vI 0, vI 0, vI 0, vI (xs 2), vI 1, vI 0, vR (156), vR (157)])) 11 [some (vR 151), some (vR (149)), some (vR 22), some (vI (xs 2)), some (vI 1), none] [] _
  rw [← eG2]
  refine ab_aload_n d_PR_build_11 rfl ?_
  refine ab_aload_n d_PR_build_12 rfl ?_
  refine ab_getf (fs := [vR 23, vR (149), vI 0, vI (xs 2), vI 0, vR 28, vR 29, vI 0, vI 0, vI 0]) f_PR_37 d_PR_build_13 h22 rfl ?_
  refine ab_putf (fs := [vR (152), vR (153), vR (154), vI 0, vI 0, vI 0, vR (155), vI 0, vI 0, vI 0, vI 0, vI (xs 2), vI 1, vI 0, vR (156), vR (157)]) f_PR_42 (Or.inl rfl) d_PR_build_16 h151 (Nat.le_of_ble_eq_true rfl) (fun _ => ⟨rfl, rfl⟩) (by decide) ?_
  obtain ⟨G3, eG3⟩ : ∃ z : ab_G, z = List.set G2 151 (ab_ob 5 [vR (152), vR (153), vR (154), vI 0, vI 0, vI 0, vR (155), vI 0, vI 0, vI 0, vI 0, vI (xs 2), vI 1, vI 0, vR (156), vR (157)]) := ⟨_, rfl⟩
  have h22 := ab_keep eG3 (by decide) h22
  have h149 := ab_keep eG3 (by decide) h149
  have h150 := ab_keep eG3 (by decide) h150
  have h152 := ab_keep eG3 (by decide) h152
  have h153 := ab_keep eG3 (by decide) h153
  have h154 := ab_keep eG3 (by decide) h154
  have hlen := ab_klen eG3 hlen
  have hsl := ab_ksl 16 eG3 h151 rfl rfl hsl
  have hfr := hfr.wr eG3 (by decide)
  have h151 := ab_kept eG3 h151
  change ab_W _ _ _ (List.set G2 151 (ab_ob 5 [vR (152), vR (153), vR (154), vI 0, vI 0, vI 0, vR (155), vI 0, vI 0, vI 0, vI 0, vI (xs 2), vI 1, vI 0, vR (156), vR (157)])) 19 [some (vR 151), some (vR (149)), some (vR 22), some (vI (xs 2)), some (vI 1), none] [] _
  rw [← eG3]
  refine ab_aload_n d_PR_build_19 rfl ?_
  refine ab_iconst (v := 2) d_PR_build_20 (by decide) ?_
  refine ab_aload_n d_PR_build_21 rfl ?_
  refine ab_getf (fs := [vR (152), vR (153), vR (154), vI 0, vI 0, vI 0, vR (155), vI 0, vI 0, vI 0, vI 0, vI (xs 2), vI 1, vI 0, vR (156), vR (157)]) f_PR_42 d_PR_build_22 h151 rfl ?_
  refine ab_iconst (v := 1) d_PR_build_25 (by decide) ?_
  refine ab_iadd d_PR_build_26 ?_
  refine ab_topi (y := 1) (by decide) ?_
  refine ab_imul d_PR_build_27 ?_
  refine ab_topi (y := 2) (by decide) ?_
  refine ab_putf (fs := [vR (152), vR (153), vR (154), vI 0, vI 0, vI 0, vR (155), vI 0, vI 0, vI 0, vI 0, vI (xs 2), vI 1, vI 0, vR (156), vR (157)]) f_PR_43 (Or.inl rfl) d_PR_build_28 h151 (Nat.le_of_ble_eq_true rfl) (fun _ => ⟨rfl, rfl⟩) (by decide) ?_
  obtain ⟨G4, eG4⟩ : ∃ z : ab_G, z = List.set G3 151 (ab_ob 5 [vR (152), vR (153), vR (154), vI 0, vI 0, vI 0, vR (155), vI 0, vI 0, vI 2, vI 0, vI (xs 2), vI 1, vI 0, vR (156), vR (157)]) := ⟨_, rfl⟩
  have h22 := ab_keep eG4 (by decide) h22
  have h149 := ab_keep eG4 (by decide) h149
  have h150 := ab_keep eG4 (by decide) h150
  have h152 := ab_keep eG4 (by decide) h152
  have h153 := ab_keep eG4 (by decide) h153
  have h154 := ab_keep eG4 (by decide) h154
  have hlen := ab_klen eG4 hlen
  have hsl := ab_ksl 16 eG4 h151 rfl rfl hsl
  have hfr := hfr.wr eG4 (by decide)
  have h151 := ab_kept eG4 h151
  change ab_W _ _ _ (List.set G3 151 (ab_ob 5 [vR (152), vR (153), vR (154), vI 0, vI 0, vI 0, vR (155), vI 0, vI 0, vI 2, vI 0, vI (xs 2), vI 1, vI 0, vR (156), vR (157)])) 31 [some (vR 151), some (vR (149)), some (vR 22), some (vI (xs 2)), some (vI 1), none] [] _
  rw [← eG4]
  refine ab_aload_n d_PR_build_31 rfl ?_
  refine ab_aload_n d_PR_build_32 rfl ?_
  refine ab_getf (fs := [vI 4, vI 0, vN, vI (-1), vI 0, vN, vR (150), vN, vI 0, vI 1, vI 0, vI 0, vI 0, vI 0, vI (-1)]) f_PR_46 d_PR_build_33 h149 rfl ?_
  refine ab_putf (fs := [vR (152), vR (153), vR (154), vI 0, vI 0, vI 0, vR (155), vI 0, vI 0, vI 2, vI 0, vI (xs 2), vI 1, vI 0, vR (156), vR (157)]) f_PR_51 (Or.inl rfl) d_PR_build_36 h151 (Nat.le_of_ble_eq_true rfl) (fun _ => ⟨rfl, rfl⟩) (by decide) ?_
  obtain ⟨G5, eG5⟩ : ∃ z : ab_G, z = List.set G4 151 (ab_ob 5 [vR (152), vR (153), vR (154), vI 0, vI 0, vI 0, vR (155), vI 0, vI 0, vI 2, vI 0, vI (xs 2), vI 1, vI 0, vR (156), vR (157)]) := ⟨_, rfl⟩
  have h22 := ab_keep eG5 (by decide) h22
  have h149 := ab_keep eG5 (by decide) h149
  have h150 := ab_keep eG5 (by decide) h150
  have h152 := ab_keep eG5 (by decide) h152
  have h153 := ab_keep eG5 (by decide) h153
  have h154 := ab_keep eG5 (by decide) h154
  have hlen := ab_klen eG5 hlen
  have hsl := ab_ksl 16 eG5 h151 rfl rfl hsl
  have hfr := hfr.wr eG5 (by decide)
  have h151 := ab_kept eG5 h151
  change ab_W _ _ _ (List.set G4 151 (ab_ob 5 [vR (152), vR (153), vR (154), vI 0, vI 0, vI 0, vR (155), vI 0, vI 0, vI 2, vI 0, vI (xs 2), vI 1, vI 0, vR (156), vR (157)])) 39 [some (vR 151), some (vR (149)), some (vR 22), some (vI (xs 2)), some (vI 1), none] [] _
  rw [← eG5]
  refine ab_aload_n d_PR_build_39 rfl ?_
  refine ab_iconst (v := 0) d_PR_build_40 (by decide) ?_
  refine ab_putf (fs := [vR (152), vR (153), vR (154), vI 0, vI 0, vI 0, vR (155), vI 0, vI 0, vI 2, vI 0, vI (xs 2), vI 1, vI 0, vR (156), vR (157)]) f_PR_52 (Or.inl rfl) d_PR_build_41 h151 (Nat.le_of_ble_eq_true rfl) (fun _ => ⟨rfl, rfl⟩) (by decide) ?_
  obtain ⟨G6, eG6⟩ : ∃ z : ab_G, z = List.set G5 151 (ab_ob 5 [vR (152), vR (153), vR (154), vI 0, vI 0, vI 0, vR (155), vI 0, vI 0, vI 2, vI 0, vI (xs 2), vI 1, vI 0, vR (156), vR (157)]) := ⟨_, rfl⟩
  have h22 := ab_keep eG6 (by decide) h22
  have h149 := ab_keep eG6 (by decide) h149
  have h150 := ab_keep eG6 (by decide) h150
  have h152 := ab_keep eG6 (by decide) h152
  have h153 := ab_keep eG6 (by decide) h153
  have h154 := ab_keep eG6 (by decide) h154
  have hlen := ab_klen eG6 hlen
  have hsl := ab_ksl 16 eG6 h151 rfl rfl hsl
  have hfr := hfr.wr eG6 (by decide)
  have h151 := ab_kept eG6 h151
  change ab_W _ _ _ (List.set G5 151 (ab_ob 5 [vR (152), vR (153), vR (154), vI 0, vI 0, vI 0, vR (155), vI 0, vI 0, vI 2, vI 0, vI (xs 2), vI 1, vI 0, vR (156), vR (157)])) 44 [some (vR 151), some (vR (149)), some (vR 22), some (vI (xs 2)), some (vI 1), none] [] _
  rw [← eG6]
  refine ab_iconst (v := 1) d_PR_build_44 (by decide) ?_
  refine ab_istore d_PR_build_45 (Nat.le_of_ble_eq_true rfl) (Nat.le_of_ble_eq_true rfl) rfl ?_
  change ab_W _ _ _ G6 47 [some (vR 151), some (vR (149)), some (vR 22), some (vI (xs 2)), some (vI 1), some (vI 1)] [] _
  refine ab_iload d_PR_build_47 rfl ?_
  refine ab_aload_n d_PR_build_49 rfl ?_
  refine ab_getf (fs := [vR (152), vR (153), vR (154), vI 0, vI 0, vI 0, vR (155), vI 0, vI 0, vI 2, vI 0, vI (xs 2), vI 1, vI 0, vR (156), vR (157)]) f_PR_42 d_PR_build_50 h151 rfl ?_
  refine ab_icmp_gt (tgt := 109) d_PR_build_53 (by decide) (fun _ => ?_) (fun c => absurd c (by decide))
  refine ab_aload_n d_PR_build_109 rfl ?_
  refine ab_iconst (v := 0) d_PR_build_110 (by decide) ?_
  refine ab_putf (fs := [vR (152), vR (153), vR (154), vI 0, vI 0, vI 0, vR (155), vI 0, vI 0, vI 2, vI 0, vI (xs 2), vI 1, vI 0, vR (156), vR (157)]) f_PR_74 (Or.inl rfl) d_PR_build_111 h151 (Nat.le_of_ble_eq_true rfl) (fun _ => ⟨rfl, rfl⟩) (by decide) ?_
  obtain ⟨G7, eG7⟩ : ∃ z : ab_G, z = List.set G6 151 (ab_ob 5 [vR (152), vR (153), vR (154), vI 0, vI 0, vI 0, vR (155), vI 0, vI 0, vI 2, vI 0, vI (xs 2), vI 1, vI 0, vR (156), vR (157)]) := ⟨_, rfl⟩
  have h22 := ab_keep eG7 (by decide) h22
  have h149 := ab_keep eG7 (by decide) h149
  have h150 := ab_keep eG7 (by decide) h150
  have h152 := ab_keep eG7 (by decide) h152
  have h153 := ab_keep eG7 (by decide) h153
  have h154 := ab_keep eG7 (by decide) h154
  have hlen := ab_klen eG7 hlen
  have hsl := ab_ksl 16 eG7 h151 rfl rfl hsl
  have hfr := hfr.wr eG7 (by decide)
  have h151 := ab_kept eG7 h151
  change ab_W _ _ _ (List.set G6 151 (ab_ob 5 [vR (152), vR (153), vR (154), vI 0, vI 0, vI 0, vR (155), vI 0, vI 0, vI 2, vI 0, vI (xs 2), vI 1, vI 0, vR (156), vR (157)])) 114 [some (vR 151), some (vR (149)), some (vR 22), some (vI (xs 2)), some (vI 1), some (vI 1)] [] _
  rw [← eG7]
  refine ab_aload_n d_PR_build_114 rfl ?_
  refine ab_iconst (v := 0) d_PR_build_115 (by decide) ?_
  refine ab_putf (fs := [vR (152), vR (153), vR (154), vI 0, vI 0, vI 0, vR (155), vI 0, vI 0, vI 2, vI 0, vI (xs 2), vI 1, vI 0, vR (156), vR (157)]) f_PR_77 (Or.inl rfl) d_PR_build_116 h151 (Nat.le_of_ble_eq_true rfl) (fun _ => ⟨rfl, rfl⟩) (by decide) ?_
  obtain ⟨G8, eG8⟩ : ∃ z : ab_G, z = List.set G7 151 (ab_ob 5 [vR (152), vR (153), vR (154), vI 0, vI 0, vI 0, vR (155), vI 0, vI 0, vI 2, vI 0, vI (xs 2), vI 1, vI 0, vR (156), vR (157)]) := ⟨_, rfl⟩
  have h22 := ab_keep eG8 (by decide) h22
  have h149 := ab_keep eG8 (by decide) h149
  have h150 := ab_keep eG8 (by decide) h150
  have h152 := ab_keep eG8 (by decide) h152
  have h153 := ab_keep eG8 (by decide) h153
  have h154 := ab_keep eG8 (by decide) h154
  have hlen := ab_klen eG8 hlen
  have hsl := ab_ksl 16 eG8 h151 rfl rfl hsl
  have hfr := hfr.wr eG8 (by decide)
  have h151 := ab_kept eG8 h151
  change ab_W _ _ _ (List.set G7 151 (ab_ob 5 [vR (152), vR (153), vR (154), vI 0, vI 0, vI 0, vR (155), vI 0, vI 0, vI 2, vI 0, vI (xs 2), vI 1, vI 0, vR (156), vR (157)])) 119 [some (vR 151), some (vR (149)), some (vR 22), some (vI (xs 2)), some (vI 1), some (vI 1)] [] _
  rw [← eG8]
  refine ab_aload_n d_PR_build_119 rfl ?_
  refine ab_iconst (v := 0) d_PR_build_120 (by decide) ?_
  refine ab_putf (fs := [vR (152), vR (153), vR (154), vI 0, vI 0, vI 0, vR (155), vI 0, vI 0, vI 2, vI 0, vI (xs 2), vI 1, vI 0, vR (156), vR (157)]) f_PR_80 (Or.inl rfl) d_PR_build_121 h151 (Nat.le_of_ble_eq_true rfl) ab_fb0 (by decide) ?_
  obtain ⟨G9, eG9⟩ : ∃ z : ab_G, z = List.set G8 151 (ab_ob 5 [vR (152), vR (153), vR (154), vI 0, vI 0, vI 0, vR (155), vI 0, vI 0, vI 2, vI 0, vI (xs 2), vI 1, vI 0, vR (156), vR (157)]) := ⟨_, rfl⟩
  have h22 := ab_keep eG9 (by decide) h22
  have h149 := ab_keep eG9 (by decide) h149
  have h150 := ab_keep eG9 (by decide) h150
  have h152 := ab_keep eG9 (by decide) h152
  have h153 := ab_keep eG9 (by decide) h153
  have h154 := ab_keep eG9 (by decide) h154
  have hlen := ab_klen eG9 hlen
  have hsl := ab_ksl 16 eG9 h151 rfl rfl hsl
  have hfr := hfr.wr eG9 (by decide)
  have h151 := ab_kept eG9 h151
  change ab_W _ _ _ (List.set G8 151 (ab_ob 5 [vR (152), vR (153), vR (154), vI 0, vI 0, vI 0, vR (155), vI 0, vI 0, vI 2, vI 0, vI (xs 2), vI 1, vI 0, vR (156), vR (157)])) 124 [some (vR 151), some (vR (149)), some (vR 22), some (vI (xs 2)), some (vI 1), some (vI 1)] [] _
  rw [← eG9]
  refine ab_aload_n d_PR_build_124 rfl ?_
  refine ab_bipush (v := 9) d_PR_build_125 (by decide) ?_
  refine ab_iconst (v := 0) d_PR_build_127 (by decide) ?_
  refine ab_iconst (v := 0) d_PR_build_128 (by decide) ?_
  refine ab_callV (d' := d - 1) (as := [vI 9, vI 0, vI 0]) (st := []) (r := _) (q_PR_add_0 (xs := xs) hlen hsl h151 h152 h153 h154) (fun o G2 h => ⟨_, h.1⟩) (by omega) m_PR_add ml_PR_84 im_PR_add se_PR_add c_PR h151 (Nat.le_of_ble_eq_true rfl) d_PR_build_129 rfl ?_
  intro v G10 hq
  obtain ⟨hv, hfk, hlen, hsl, h151, h152, h153, h154⟩ := hq
  cases hv
  have h22 := hfk.get (by decide) h22
  have h149 := hfk.get (by decide) h149
  have h150 := hfk.get (by decide) h150
  have hfr := hfr.cl hfk (by decide)
  change ab_W _ _ _ G10 132 [some (vR 151), some (vR (149)), some (vR 22), some (vI (xs 2)), some (vI 1), some (vI 1)] [vI 0] _
  refine ab_pop d_PR_build_132 rfl ?_
  refine ab_aload_n d_PR_build_133 rfl ?_
  refine ab_bipush (v := 8) d_PR_build_134 (by decide) ?_
  refine ab_iconst (v := 0) d_PR_build_136 (by decide) ?_
  refine ab_iconst (v := 0) d_PR_build_137 (by decide) ?_
  refine ab_callV (d' := d - 1) (as := [vI 8, vI 0, vI 0]) (st := []) (r := _) (q_PR_add_1 (xs := xs) hlen hsl h151 h152 h153 h154) (fun o G2 h => ⟨_, h.1⟩) (by omega) m_PR_add ml_PR_84 im_PR_add se_PR_add c_PR h151 (Nat.le_of_ble_eq_true rfl) d_PR_build_138 rfl ?_
  intro v G11 hq
  obtain ⟨hv, hfk, hlen, hsl, h151, h152, h153, h154⟩ := hq
  cases hv
  have h22 := hfk.get (by decide) h22
  have h149 := hfk.get (by decide) h149
  have h150 := hfk.get (by decide) h150
  have hfr := hfr.cl hfk (by decide)
  change ab_W _ _ _ G11 141 [some (vR 151), some (vR (149)), some (vR 22), some (vI (xs 2)), some (vI 1), some (vI 1)] [vI 1] _
  refine ab_istore d_PR_build_141 (Nat.le_of_ble_eq_true rfl) (Nat.le_of_ble_eq_true rfl) rfl ?_
  change ab_W _ _ _ G11 143 [some (vR 151), some (vR (149)), some (vR 22), some (vI (xs 2)), some (vI 1), some (vI 1)] [] _
  refine ab_aload_n d_PR_build_143 rfl ?_
  refine ab_aload_n d_PR_build_144 rfl ?_
  refine ab_aload_n d_PR_build_145 rfl ?_
  refine ab_iload d_PR_build_146 rfl ?_
  refine ab_iload d_PR_build_148 rfl ?_
  refine ab_callS (d' := d - 1) (as := [vI 1, vI 1]) (st := [vR (149), vR 151, vR 151]) (q_PR_pair_0  hlen hsl) (fun o G2 h => ⟨_, h.1⟩) (by omega) m_PR_pair ml_PR_88 st_PR_pair (Nat.le_of_ble_eq_true rfl) d_PR_build_150 rfl ?_
  intro v G12 hq
  obtain ⟨hv, hfk, hlen, hsl⟩ := hq
  cases hv
  have h22 := hfk.get (by decide) h22
  have h149 := hfk.get (by decide) h149
  have h150 := hfk.get (by decide) h150
  have h151 := hfk.get (by decide) h151
  have h152 := hfk.get (by decide) h152
  have h153 := hfk.get (by decide) h153
  have h154 := hfk.get (by decide) h154
  have hfr := hfr.cl hfk (by decide)
  change ab_W _ _ _ G12 153 [some (vR 151), some (vR (149)), some (vR 22), some (vI (xs 2)), some (vI 1), some (vI 1)] [vJ 4294967297, vR (149), vR 151, vR 151] _
  refine ab_iconst (v := 0) d_PR_build_153 (by decide) ?_
  refine ab_callV (d' := d - 1) (as := [vR (149), vJ 4294967297, vI 0]) (st := [vR 151]) (r := _) (q_PR_rows_0 (xs := xs) hlen hsl h149 h150 h151 (by omega)) (fun o G2 h => ⟨_, h.1⟩) (by omega) m_PR_rows ml_PR_92 im_PR_rows se_PR_rows c_PR h151 (Nat.le_of_ble_eq_true rfl) d_PR_build_154 rfl ?_
  intro v G13 hq
  obtain ⟨hv, hfk, hlen, hsl⟩ := hq
  cases hv
  have h22 := hfk.get (by decide) h22
  have h149 := hfk.get (by decide) h149
  have h150 := hfk.get (by decide) h150
  have h151 := hfk.get (by decide) h151
  have h152 := hfk.get (by decide) h152
  have h153 := hfk.get (by decide) h153
  have h154 := hfk.get (by decide) h154
  have hfr := hfr.cl hfk (by decide)
  change ab_W _ _ _ G13 157 [some (vR 151), some (vR (149)), some (vR 22), some (vI (xs 2)), some (vI 1), some (vI 1)] [vJ 4294967297, vR 151] _
  refine ab_callS (d' := d - 1) (as := [vJ 4294967297]) (st := [vR 151]) (q_PR_fresh_0  hlen hsl) (fun o G2 h => ⟨_, h.1⟩) (by omega) m_PR_fresh ml_PR_96 st_PR_fresh (Nat.le_of_ble_eq_true rfl) d_PR_build_157 rfl ?_
  intro v G14 hq
  obtain ⟨hv, hfk, hlen, hsl⟩ := hq
  cases hv
  have h22 := hfk.get (by decide) h22
  have h149 := hfk.get (by decide) h149
  have h150 := hfk.get (by decide) h150
  have h151 := hfk.get (by decide) h151
  have h152 := hfk.get (by decide) h152
  have h153 := hfk.get (by decide) h153
  have h154 := hfk.get (by decide) h154
  have hfr := hfr.cl hfk (by decide)
  change ab_W _ _ _ G14 160 [some (vR 151), some (vR (149)), some (vR 22), some (vI (xs 2)), some (vI 1), some (vI 1)] [vI 1, vR 151] _
  refine ab_putf (fs := [vR (152), vR (153), vR (154), vI 2, vI 0, vI 0, vR (155), vI 0, vI 0, vI 2, vI 0, vI (xs 2), vI 1, vI 0, vR (156), vR (157)]) f_PR_100 (Or.inl rfl) d_PR_build_160 h151 (Nat.le_of_ble_eq_true rfl) (fun _ => ⟨rfl, rfl⟩) (by decide) ?_
  obtain ⟨G15, eG15⟩ : ∃ z : ab_G, z = List.set G14 151 (ab_ob 5 [vR (152), vR (153), vR (154), vI 2, vI 1, vI 0, vR (155), vI 0, vI 0, vI 2, vI 0, vI (xs 2), vI 1, vI 0, vR (156), vR (157)]) := ⟨_, rfl⟩
  have h22 := ab_keep eG15 (by decide) h22
  have h149 := ab_keep eG15 (by decide) h149
  have h150 := ab_keep eG15 (by decide) h150
  have h152 := ab_keep eG15 (by decide) h152
  have h153 := ab_keep eG15 (by decide) h153
  have h154 := ab_keep eG15 (by decide) h154
  have hlen := ab_klen eG15 hlen
  have hsl := ab_ksl 16 eG15 h151 rfl rfl hsl
  have hfr := hfr.wr eG15 (by decide)
  have h151 := ab_kept eG15 h151
  change ab_W _ _ _ (List.set G14 151 (ab_ob 5 [vR (152), vR (153), vR (154), vI 2, vI 1, vI 0, vR (155), vI 0, vI 0, vI 2, vI 0, vI (xs 2), vI 1, vI 0, vR (156), vR (157)])) 163 [some (vR 151), some (vR (149)), some (vR 22), some (vI (xs 2)), some (vI 1), some (vI 1)] [] _
  rw [← eG15]
  exact ab_vret rfl d_PR_build_163 (by rw [hQ]; exact ⟨rfl, hfr, hlen, hsl, h151, h152, h153, h154⟩)
set_option maxRecDepth 100000 in
set_option maxHeartbeats 4000000 in
theorem q_PW_compile_0 {X : ab_X} {d : Nat} {G : ab_G} {xs : Nat → Int32} (hlen : G.length = 149) (hsl : ab_slots G = 1890753) (c0 : (xs 1) < 0) (hd : 6 ≤ d) : ab_F X d y_PW_compile (.code y_PW_compile b_PW_compile 4 (some (.int))) [vR 18, vI (xs 1), vI (xs 2)] G (fun o G2 => o = .threw 149 ∧ ab_fr [149] G G2 ∧ G2.length = 150 ∧ ab_slots G2 = 1890759 ∧ G2[149]? = some (ab_ob 13 [])) := by
  refine ab_F_of (by decide +kernel) (Nat.le_of_ble_eq_true rfl) ?_
  obtain ⟨Q, hQ⟩ : ∃ z : Outcome → ab_G → Prop, z = (fun o G2 => o = .threw 149 ∧ ab_fr [149] G G2 ∧ G2.length = 150 ∧ ab_slots G2 = 1890759 ∧ G2[149]? = some (ab_ob 13 [])) := ⟨_, rfl⟩
  rw [← hQ]
  change ab_W X (ab_pl y_PW_compile b_PW_compile 4 (some (.int))) d G 0 [some (vR 18), some (vI (xs 1)), some (vI (xs 2)), none] [] Q
  have hfr : ab_fr [149] G G := ab_fr.rf
  refine ab_iload_n d_PW_compile_0 rfl ?_
  refine ab_if_lt (tgt := 20) d_PW_compile_1 (by decide) (fun c1 => ?_) (fun c1 => ?_)
  · refine ab_throw (tx := "no such slot or flags") (by decide) (fun c h => h) cl_PW_109 inst_IA ini_IA tw_PW_113 d_PW_compile_20 d_PW_compile_23 d_PW_compile_24 d_PW_compile_26 d_PW_compile_29 (by omega) (by rw [hlen]; decide) (by rw [hsl]; decide) ?_
    rw [hlen]
    obtain ⟨G1, eG1⟩ : ∃ z : ab_G, z = G ++ [ab_ob 13 []] := ⟨_, rfl⟩
    have h149 := ab_anew1 eG1 hlen
    have hsl : ab_slots G1 = 1890759 := ab_asl (z := 6) eG1 hlen (by decide) hsl rfl (by decide)
    have hlen : G1.length = 150 := ab_alen1 eG1 hlen
    have hfr := hfr.ap eG1
    rw [← eG1, hQ]
    exact ⟨rfl, hfr, hlen, hsl, h149⟩
  · exfalso; have l0 := (show (0 : Int32).toInt = 0 by decide); simp only [Int32.le_iff_toInt_le, Int32.lt_iff_toInt_lt, ← Int32.toInt_inj] at c0 c1; omega
set_option maxRecDepth 100000 in
set_option maxHeartbeats 4000000 in
theorem q_LA_compile_0 {X : ab_X} {d : Nat} {G : ab_G} {xs : Nat → Int32} (hlen : G.length = 149) (hsl : ab_slots G = 1890753) (h18 : G[18]? = some (ab_ob 0 [vR 19, vR 20, vR 22, vR 30, vR 31, vR 36, vR 37, vR 46, vR 51, vR 60, vR 69, vR 70, vR 72, vR 74, vR 76, vR 78, vI 0, vI 0])) (c0 : (xs 1) < 0) (hd : 7 ≤ d) : ab_F X d y_LA_compile (.codeWith y_LA_compile b_LA_compile 5 (some (.int)) [(0, 10, 13, 13)]) [vR 18, vI (xs 1), vI (xs 2), vR 148] G (fun o G2 => o = .returned (some (vI 1)) ∧ ab_fr [149] G G2 ∧ G2.length = 150 ∧ ab_slots G2 = 1890759 ∧ G2[149]? = some (ab_ob 13 [])) := by
  refine ab_F_ofW (by decide +kernel) (Nat.le_of_ble_eq_true rfl) ?_
  obtain ⟨Q, hQ⟩ : ∃ z : Outcome → ab_G → Prop, z = (fun o G2 => o = .returned (some (vI 1)) ∧ ab_fr [149] G G2 ∧ G2.length = 150 ∧ ab_slots G2 = 1890759 ∧ G2[149]? = some (ab_ob 13 [])) := ⟨_, rfl⟩
  rw [← hQ]
  change ab_W X (ab_plW y_LA_compile b_LA_compile 5 (some (.int)) [(0, 10, 13, 13)]) d G 0 [some (vR 18), some (vI (xs 1)), some (vI (xs 2)), some (vR 148), none] [] Q
  have hfr : ab_fr [149] G G := ab_fr.rf
  refine ab_aload_n d_LA_compile_0 rfl ?_
  refine ab_iconst (v := 0) d_LA_compile_1 (by decide) ?_
  refine ab_aload_n d_LA_compile_2 rfl ?_
  refine ab_iload_n d_LA_compile_3 rfl ?_
  refine ab_iload_n d_LA_compile_4 rfl ?_
  refine ab_callVT (d' := d - 1) (hp := 13) (ct := 13) (as := [vI (xs 1), vI (xs 2)]) (st := [vI 0, vR 148]) (q_PW_compile_0 (xs := xs) hlen hsl c0 (by omega)) (fun o G2 h => ⟨_, h.1, h.2.2.2.2⟩) (by omega) m_PW_compile mw_LA_7 im_PW_compile se_PW_compile c_PW h18 (Nat.le_of_ble_eq_true rfl) d_LA_compile_5 rfl (fun c hc => ab_hx hc (by decide)) (by decide) cl_LA_13 cast_IA ?_
  intro v G1 hq
  obtain ⟨hv, hfk, hlen, hsl, h149⟩ := hq
  cases hv
  have h18 := hfk.get (by decide) h18
  have hfr := hfr.cl hfk (by decide)
  change ab_W _ _ _ G1 13 [some (vR 18), some (vI (xs 1)), some (vI (xs 2)), some (vR 148), none] [vR 149] _
  refine ab_astore d_LA_compile_13 (Nat.le_of_ble_eq_true rfl) (Nat.le_of_ble_eq_true rfl) rfl ?_
  change ab_W _ _ _ G1 15 [some (vR 18), some (vI (xs 1)), some (vI (xs 2)), some (vR 148), some (vR 149)] [] _
  refine ab_iconst (v := 1) d_LA_compile_15 (by decide) ?_
  exact ab_iret (rt := .int) rfl rfl d_LA_compile_16 (by rw [hQ]; exact ⟨rfl, hfr, hlen, hsl, h149⟩)
set_option maxRecDepth 100000 in
set_option maxHeartbeats 4000000 in
theorem q_MO_compile_11 {X : ab_X} {d : Nat} {G : ab_G} {xs : Nat → Int32} (hlen : G.length = 150) (hsl : ab_slots G = 1890759) (h80 : G[80]? = some (ab_ob 12 (m_fv (vI 0) (vI 0) (vI 0) (vI 0) (vI 0) (vI 0) (vI 0) (vI 0) (vI 0) (vI 0) (vI 0) (vI 0) (vI (-1)) (vI 0) (vI 0) (vI 0) (vI 0) (vI 0) (vI 0) (vI 0) (vI 0) (vI 0) (vI 0) (vI 0) (vI 0) (vI 0) (vI 0) (vI 0) (vI 0) (vI 0) (vI 0) (vI 0) (vI 0) (vI 0) (vI 0)))) (c0 : (xs 1) < 0) : ab_F X d y_MO_compile (.code y_MO_compile b_MO_compile 6 (some (.int))) [vR 80, vI (xs 1), vI (xs 2)] G (fun o G2 => o = .returned (some (vI 0)) ∧ ab_fr [80] G G2 ∧ G2.length = 150 ∧ ab_slots G2 = 1890759 ∧ G2[80]? = some (ab_ob 12 (m_fv (vI 1) (vI 0) (vI 0) (vI 0) (vI 0) (vI 0) (vI 0) (vI 0) (vI 0) (vI 0) (vI 0) (vI 0) (vI (-1)) (vI 0) (vI 0) (vI 0) (vI 0) (vI 0) (vI 0) (vI 0) (vI 0) (vI 0) (vI 0) (vI 0) (vI 0) (vI 0) (vI 0) (vI 0) (vI 0) (vI 0) (vI 0) (vI 0) (vI 0) (vI 0) (vI 0)))) := by
  refine ab_F_of (by decide +kernel) (Nat.le_of_ble_eq_true rfl) ?_
  obtain ⟨Q, hQ⟩ : ∃ z : Outcome → ab_G → Prop, z = (fun o G2 => o = .returned (some (vI 0)) ∧ ab_fr [80] G G2 ∧ G2.length = 150 ∧ ab_slots G2 = 1890759 ∧ G2[80]? = some (ab_ob 12 (m_fv (vI 1) (vI 0) (vI 0) (vI 0) (vI 0) (vI 0) (vI 0) (vI 0) (vI 0) (vI 0) (vI 0) (vI 0) (vI (-1)) (vI 0) (vI 0) (vI 0) (vI 0) (vI 0) (vI 0) (vI 0) (vI 0) (vI 0) (vI 0) (vI 0) (vI 0) (vI 0) (vI 0) (vI 0) (vI 0) (vI 0) (vI 0) (vI 0) (vI 0) (vI 0) (vI 0)))) := ⟨_, rfl⟩
  rw [← hQ]
  change ab_W X (ab_pl y_MO_compile b_MO_compile 6 (some (.int))) d G 0 [some (vR 80), some (vI (xs 1)), some (vI (xs 2)), none, none, none] [] Q
  have hfr : ab_fr [80] G G := ab_fr.rf
  refine ab_aload_n d_MO_compile_0 rfl ?_
  refine ab_iload_n d_MO_compile_1 rfl ?_
  refine ab_if_lt (tgt := 20) d_MO_compile_2 (by decide) (fun c1 => ?_) (fun c1 => ?_)
  · refine ab_iconst (v := 1) d_MO_compile_20 (by decide) ?_
    refine ab_goto (tgt := 25) d_MO_compile_21 (by decide) ?_
    refine ab_putf (fs := (m_fv (vI 0) (vI 0) (vI 0) (vI 0) (vI 0) (vI 0) (vI 0) (vI 0) (vI 0) (vI 0) (vI 0) (vI 0) (vI (-1)) (vI 0) (vI 0) (vI 0) (vI 0) (vI 0) (vI 0) (vI 0) (vI 0) (vI 0) (vI 0) (vI 0) (vI 0) (vI 0) (vI 0) (vI 0) (vI 0) (vI 0) (vI 0) (vI 0) (vI 0) (vI 0) (vI 0))) f_MO_220 (Or.inl rfl) d_MO_compile_25 h80 (Nat.le_of_ble_eq_true rfl) (fun _ => ⟨rfl, rfl⟩) (by decide) ?_
    obtain ⟨G1, eG1⟩ : ∃ z : ab_G, z = List.set G 80 (ab_ob 12 (m_fv (vI 1) (vI 0) (vI 0) (vI 0) (vI 0) (vI 0) (vI 0) (vI 0) (vI 0) (vI 0) (vI 0) (vI 0) (vI (-1)) (vI 0) (vI 0) (vI 0) (vI 0) (vI 0) (vI 0) (vI 0) (vI 0) (vI 0) (vI 0) (vI 0) (vI 0) (vI 0) (vI 0) (vI 0) (vI 0) (vI 0) (vI 0) (vI 0) (vI 0) (vI 0) (vI 0))) := ⟨_, rfl⟩
    have hlen := ab_klen eG1 hlen
    have hsl := ab_ksl 102 eG1 h80 rfl rfl hsl
    have hfr := hfr.wr eG1 (by decide)
    have h80 := ab_kept eG1 h80
    change ab_W _ _ _ (List.set G 80 (ab_ob 12 (m_fv (vI 1) (vI 0) (vI 0) (vI 0) (vI 0) (vI 0) (vI 0) (vI 0) (vI 0) (vI 0) (vI 0) (vI 0) (vI (-1)) (vI 0) (vI 0) (vI 0) (vI 0) (vI 0) (vI 0) (vI 0) (vI 0) (vI 0) (vI 0) (vI 0) (vI 0) (vI 0) (vI 0) (vI 0) (vI 0) (vI 0) (vI 0) (vI 0) (vI 0) (vI 0) (vI 0)))) 28 [some (vR 80), some (vI (xs 1)), some (vI (xs 2)), none, none, none] [] _
    rw [← eG1]
    refine ab_aload_n d_MO_compile_28 rfl ?_
    refine ab_getf (fs := (m_fv (vI 1) (vI 0) (vI 0) (vI 0) (vI 0) (vI 0) (vI 0) (vI 0) (vI 0) (vI 0) (vI 0) (vI 0) (vI (-1)) (vI 0) (vI 0) (vI 0) (vI 0) (vI 0) (vI 0) (vI 0) (vI 0) (vI 0) (vI 0) (vI 0) (vI 0) (vI 0) (vI 0) (vI 0) (vI 0) (vI 0) (vI 0) (vI 0) (vI 0) (vI 0) (vI 0))) f_MO_220 d_MO_compile_29 h80 rfl ?_
    refine ab_if_le (tgt := 37) d_MO_compile_32 (by decide) (fun c => absurd c (by decide)) (fun _ => ?_)
    refine ab_iconst (v := 0) d_MO_compile_35 (by decide) ?_
    exact ab_iret (rt := .int) rfl rfl d_MO_compile_36 (by rw [hQ]; exact ⟨rfl, hfr, hlen, hsl, h80⟩)
  · exfalso; have l0 := (show (0 : Int32).toInt = 0 by decide); simp only [Int32.le_iff_toInt_le, Int32.lt_iff_toInt_lt, ← Int32.toInt_inj] at c0 c1; omega
set_option maxRecDepth 100000 in
set_option maxHeartbeats 4000000 in
theorem q_MO_thrown_0 {X : ab_X} {d : Nat} {G : ab_G}  (hlen : G.length = 150) (hsl : ab_slots G = 1890759) (h80 : G[80]? = some (ab_ob 12 (m_fv (vI 1) (vI 0) (vI 0) (vI 0) (vI 0) (vI 0) (vI 0) (vI 0) (vI 0) (vI 0) (vI 0) (vI 0) (vI (-1)) (vI 0) (vI 0) (vI 0) (vI 0) (vI 0) (vI 0) (vI 0) (vI 0) (vI 0) (vI 0) (vI 0) (vI 0) (vI 0) (vI 0) (vI 0) (vI 0) (vI 0) (vI 0) (vI 0) (vI 0) (vI 0) (vI 0)))) : ab_F X d y_MO_thrown (.code y_MO_thrown b_MO_thrown 1 (some (.int))) [vR 80] G (fun o G2 => o = .returned (some (vI 1)) ∧ ab_fr [] G G2 ∧ G2.length = 150 ∧ ab_slots G2 = 1890759) := by
  refine ab_F_of (by decide +kernel) (Nat.le_of_ble_eq_true rfl) ?_
  obtain ⟨Q, hQ⟩ : ∃ z : Outcome → ab_G → Prop, z = (fun o G2 => o = .returned (some (vI 1)) ∧ ab_fr [] G G2 ∧ G2.length = 150 ∧ ab_slots G2 = 1890759) := ⟨_, rfl⟩
  rw [← hQ]
  change ab_W X (ab_pl y_MO_thrown b_MO_thrown 1 (some (.int))) d G 0 [some (vR 80)] [] Q
  have hfr : ab_fr [] G G := ab_fr.rf
  refine ab_aload_n d_MO_thrown_0 rfl ?_
  refine ab_getf (fs := (m_fv (vI 1) (vI 0) (vI 0) (vI 0) (vI 0) (vI 0) (vI 0) (vI 0) (vI 0) (vI 0) (vI 0) (vI 0) (vI (-1)) (vI 0) (vI 0) (vI 0) (vI 0) (vI 0) (vI 0) (vI 0) (vI 0) (vI 0) (vI 0) (vI 0) (vI 0) (vI 0) (vI 0) (vI 0) (vI 0) (vI 0) (vI 0) (vI 0) (vI 0) (vI 0) (vI 0))) f_MO_220 d_MO_thrown_1 h80 rfl ?_
  exact ab_iret (rt := .int) rfl rfl d_MO_thrown_4 (by rw [hQ]; exact ⟨rfl, hfr, hlen, hsl⟩)
set_option maxRecDepth 100000 in
set_option maxHeartbeats 4000000 in
theorem lc_2a {X : ab_X} {d : Nat} {G : ab_G} {xs : Nat → Int32} (hlen : G.length = 149) (hsl : ab_slots G = 1890753) (h0 : G[0]? = some (ab_if 6 (xs))) (h18 : G[18]? = some (ab_ob 0 [vR 19, vR 20, vR 22, vR 30, vR 31, vR 36, vR 37, vR 46, vR 51, vR 60, vR 69, vR 70, vR 72, vR 74, vR 76, vR 78, vI 0, vI 0])) (h80 : G[80]? = some (ab_ob 12 (m_fv (vI 0) (vI 0) (vI 0) (vI 0) (vI 0) (vI 0) (vI 0) (vI 0) (vI 0) (vI 0) (vI 0) (vI 0) (vI (-1)) (vI 0) (vI 0) (vI 0) (vI 0) (vI 0) (vI 0) (vI 0) (vI 0) (vI 0) (vI 0) (vI 0) (vI 0) (vI 0) (vI 0) (vI 0) (vI 0) (vI 0) (vI 0) (vI 0) (vI 0) (vI 0) (vI 0)))) (c0 : (xs 1) < 0) (hd : 8 ≤ d) : ab_W X ab_LW d G 228 [some (vR 0), some (vR 18), some (vR 80), some (vR 148), some (vI 0), none, none] [] (fun o _ => o = .returned (some (vI 1))) := by
  obtain ⟨Q, hQ⟩ : ∃ z : Outcome → ab_G → Prop, z = (fun o _ => o = .returned (some (vI 1))) := ⟨_, rfl⟩
  rw [← hQ]
  have hfr : ab_fr [80, 149] G G := ab_fr.rf
  refine ab_aload_n d_LA_law_228 rfl ?_
  refine ab_aload_n d_LA_law_229 rfl ?_
  refine ab_iload d_LA_law_230 rfl ?_
  refine ab_iconst (v := 1) d_LA_law_232 (by decide) ?_
  refine ab_iadd d_LA_law_233 ?_
  refine ab_topi (y := 1) (by decide) ?_
  refine ab_iald d_LA_law_234 h0 (by unfold vp_in; decide) ?_
  refine ab_topi (y := (xs 1)) rfl ?_
  refine ab_aload_n d_LA_law_235 rfl ?_
  refine ab_iload d_LA_law_236 rfl ?_
  refine ab_iconst (v := 2) d_LA_law_238 (by decide) ?_
  refine ab_iadd d_LA_law_239 ?_
  refine ab_topi (y := 2) (by decide) ?_
  refine ab_iald d_LA_law_240 h0 (by unfold vp_in; decide) ?_
  refine ab_topi (y := (xs 2)) rfl ?_
  refine ab_aload_n d_LA_law_241 rfl ?_
  refine ab_callSW (d' := d - 1) (as := [vR 18, vI (xs 1), vI (xs 2), vR 148]) (st := []) (q_LA_compile_0 (xs := xs) hlen hsl h18 c0 (by omega)) (fun o G2 h => ⟨_, h.1⟩) (by omega) m_LA_compile mw_LA_46 st_LA_compile (Nat.le_of_ble_eq_true rfl) d_LA_law_242 rfl ?_
  intro v G1 hq
  obtain ⟨hv, hfk, hlen, hsl, h149⟩ := hq
  cases hv
  have h0 := hfk.get (by decide) h0
  have h18 := hfk.get (by decide) h18
  have h80 := hfk.get (by decide) h80
  have hfr := hfr.cl hfk (by decide)
  change ab_W _ _ _ G1 245 [some (vR 0), some (vR 18), some (vR 80), some (vR 148), some (vI 0), none, none] [vI 1] _
  refine ab_istore d_LA_law_245 (Nat.le_of_ble_eq_true rfl) (Nat.le_of_ble_eq_true rfl) rfl ?_
  change ab_W _ _ _ G1 247 [some (vR 0), some (vR 18), some (vR 80), some (vR 148), some (vI 0), some (vI 1), none] [] _
  refine ab_aload_n d_LA_law_247 rfl ?_
  refine ab_aload_n d_LA_law_248 rfl ?_
  refine ab_iload d_LA_law_249 rfl ?_
  refine ab_iconst (v := 1) d_LA_law_251 (by decide) ?_
  refine ab_iadd d_LA_law_252 ?_
  refine ab_topi (y := 1) (by decide) ?_
  refine ab_iald d_LA_law_253 h0 (by unfold vp_in; decide) ?_
  refine ab_topi (y := (xs 1)) rfl ?_
  refine ab_aload_n d_LA_law_254 rfl ?_
  refine ab_iload d_LA_law_255 rfl ?_
  refine ab_iconst (v := 2) d_LA_law_257 (by decide) ?_
  refine ab_iadd d_LA_law_258 ?_
  refine ab_topi (y := 2) (by decide) ?_
  refine ab_iald d_LA_law_259 h0 (by unfold vp_in; decide) ?_
  refine ab_topi (y := (xs 2)) rfl ?_
  refine ab_callV (d' := d - 1) (as := [vI (xs 1), vI (xs 2)]) (st := []) (r := _) (q_MO_compile_11 (xs := xs) hlen hsl h80 c0) (fun o G2 h => ⟨_, h.1⟩) (by omega) m_MO_compile ml_LA_51 im_MO_compile se_MO_compile c_MO h80 (Nat.le_of_ble_eq_true rfl) d_LA_law_260 rfl ?_
  intro v G2 hq
  obtain ⟨hv, hfk, hlen, hsl, h80⟩ := hq
  cases hv
  have h0 := hfk.get (by decide) h0
  have h18 := hfk.get (by decide) h18
  have h149 := hfk.get (by decide) h149
  have hfr := hfr.cl hfk (by decide)
  change ab_W _ _ _ G2 263 [some (vR 0), some (vR 18), some (vR 80), some (vR 148), some (vI 0), some (vI 1), none] [vI 0] _
  refine ab_istore d_LA_law_263 (Nat.le_of_ble_eq_true rfl) (Nat.le_of_ble_eq_true rfl) rfl ?_
  change ab_W _ _ _ G2 265 [some (vR 0), some (vR 18), some (vR 80), some (vR 148), some (vI 0), some (vI 1), some (vI 0)] [] _
  refine ab_aload_n d_LA_law_265 rfl ?_
  refine ab_callV (d' := d - 1) (as := []) (st := []) (r := _) (q_MO_thrown_0  hlen hsl h80) (fun o G2 h => ⟨_, h.1⟩) (by omega) m_MO_thrown ml_LA_52 im_MO_thrown se_MO_thrown c_MO h80 (Nat.le_of_ble_eq_true rfl) d_LA_law_266 rfl ?_
  intro v G3 hq
  obtain ⟨hv, hfk, hlen, hsl⟩ := hq
  cases hv
  have h0 := hfk.get (by decide) h0
  have h18 := hfk.get (by decide) h18
  have h80 := hfk.get (by decide) h80
  have h149 := hfk.get (by decide) h149
  have hfr := hfr.cl hfk (by decide)
  change ab_W _ _ _ G3 269 [some (vR 0), some (vR 18), some (vR 80), some (vR 148), some (vI 0), some (vI 1), some (vI 0)] [vI 1] _
  refine ab_iload d_LA_law_269 rfl ?_
  refine ab_icmp_eq (tgt := 276) d_LA_law_271 (by decide) (fun _ => ?_) (fun c => absurd c (by decide))
  refine ab_iload d_LA_law_276 rfl ?_
  refine ab_if_ne (tgt := 293) d_LA_law_278 (by decide) (fun _ => ?_) (fun c => absurd c (by decide))
  refine ab_goto (tgt := 931) d_LA_law_293 (by decide) ?_
  refine ab_iinc (v := 6) d_LA_law_931 rfl (by decide) (Nat.le_of_ble_eq_true rfl) (Nat.le_of_ble_eq_true rfl) rfl ?_
  change ab_W _ _ _ G3 934 [some (vR 0), some (vR 18), some (vR 80), some (vR 148), some (vI 6), some (vI 1), some (vI 0)] [] _
  refine ab_goto (tgt := 23) d_LA_law_934 (by decide) ?_
  refine ab_iload d_LA_law_23 rfl ?_
  refine ab_aload_n d_LA_law_25 rfl ?_
  refine ab_alen (v := 6) d_LA_law_26 h0 (by first | decide | rfl) ?_
  refine ab_bipush (v := 6) d_LA_law_27 (by decide) ?_
  refine ab_isub d_LA_law_29 ?_
  refine ab_topi (y := 0) (by decide) ?_
  refine ab_icmp_gt (tgt := 937) d_LA_law_30 (by decide) (fun _ => ?_) (fun c => absurd c (by decide))
  refine ab_iconst (v := 1) d_LA_law_937 (by decide) ?_
  exact ab_iret (rt := .boolean) rfl (by decide) d_LA_law_938 (by rw [hQ])
set_option maxRecDepth 100000 in
set_option maxHeartbeats 4000000 in
theorem q_PW_compile_1 {X : ab_X} {d : Nat} {G : ab_G} {xs : Nat → Int32} (hlen : G.length = 149) (hsl : ab_slots G = 1890753) (c0 : 0 ≤ (xs 1)) (c1 : 5 < (xs 1)) (hd : 6 ≤ d) : ab_F X d y_PW_compile (.code y_PW_compile b_PW_compile 4 (some (.int))) [vR 18, vI (xs 1), vI (xs 2)] G (fun o G2 => o = .threw 149 ∧ ab_fr [149] G G2 ∧ G2.length = 150 ∧ ab_slots G2 = 1890759 ∧ G2[149]? = some (ab_ob 13 [])) := by
  refine ab_F_of (by decide +kernel) (Nat.le_of_ble_eq_true rfl) ?_
  obtain ⟨Q, hQ⟩ : ∃ z : Outcome → ab_G → Prop, z = (fun o G2 => o = .threw 149 ∧ ab_fr [149] G G2 ∧ G2.length = 150 ∧ ab_slots G2 = 1890759 ∧ G2[149]? = some (ab_ob 13 [])) := ⟨_, rfl⟩
  rw [← hQ]
  change ab_W X (ab_pl y_PW_compile b_PW_compile 4 (some (.int))) d G 0 [some (vR 18), some (vI (xs 1)), some (vI (xs 2)), none] [] Q
  have hfr : ab_fr [149] G G := ab_fr.rf
  refine ab_iload_n d_PW_compile_0 rfl ?_
  refine ab_if_lt (tgt := 20) d_PW_compile_1 (by decide) (fun c2 => ?_) (fun c2 => ?_)
  · exfalso; have l0 := (show (0 : Int32).toInt = 0 by decide); have l1 := (show (5 : Int32).toInt = 5 by decide); simp only [Int32.le_iff_toInt_le, Int32.lt_iff_toInt_lt, ← Int32.toInt_inj] at c0 c1 c2; omega
  · refine ab_iload_n d_PW_compile_4 rfl ?_
    refine ab_bipush (v := 6) d_PW_compile_5 (by decide) ?_
    refine ab_icmp_ge (tgt := 20) d_PW_compile_7 (by decide) (fun c3 => ?_) (fun c3 => ?_)
    · refine ab_throw (tx := "no such slot or flags") (by decide) (fun c h => h) cl_PW_109 inst_IA ini_IA tw_PW_113 d_PW_compile_20 d_PW_compile_23 d_PW_compile_24 d_PW_compile_26 d_PW_compile_29 (by omega) (by rw [hlen]; decide) (by rw [hsl]; decide) ?_
      rw [hlen]
      obtain ⟨G1, eG1⟩ : ∃ z : ab_G, z = G ++ [ab_ob 13 []] := ⟨_, rfl⟩
      have h149 := ab_anew1 eG1 hlen
      have hsl : ab_slots G1 = 1890759 := ab_asl (z := 6) eG1 hlen (by decide) hsl rfl (by decide)
      have hlen : G1.length = 150 := ab_alen1 eG1 hlen
      have hfr := hfr.ap eG1
      rw [← eG1, hQ]
      exact ⟨rfl, hfr, hlen, hsl, h149⟩
    · exfalso; have l0 := (show (0 : Int32).toInt = 0 by decide); have l1 := (show (5 : Int32).toInt = 5 by decide); have l2 := (show (6 : Int32).toInt = 6 by decide); simp only [Int32.le_iff_toInt_le, Int32.lt_iff_toInt_lt, ← Int32.toInt_inj] at c0 c1 c2 c3; omega
set_option maxRecDepth 100000 in
set_option maxHeartbeats 4000000 in
theorem q_LA_compile_1 {X : ab_X} {d : Nat} {G : ab_G} {xs : Nat → Int32} (hlen : G.length = 149) (hsl : ab_slots G = 1890753) (h18 : G[18]? = some (ab_ob 0 [vR 19, vR 20, vR 22, vR 30, vR 31, vR 36, vR 37, vR 46, vR 51, vR 60, vR 69, vR 70, vR 72, vR 74, vR 76, vR 78, vI 0, vI 0])) (c0 : 0 ≤ (xs 1)) (c1 : 5 < (xs 1)) (hd : 7 ≤ d) : ab_F X d y_LA_compile (.codeWith y_LA_compile b_LA_compile 5 (some (.int)) [(0, 10, 13, 13)]) [vR 18, vI (xs 1), vI (xs 2), vR 148] G (fun o G2 => o = .returned (some (vI 1)) ∧ ab_fr [149] G G2 ∧ G2.length = 150 ∧ ab_slots G2 = 1890759 ∧ G2[149]? = some (ab_ob 13 [])) := by
  refine ab_F_ofW (by decide +kernel) (Nat.le_of_ble_eq_true rfl) ?_
  obtain ⟨Q, hQ⟩ : ∃ z : Outcome → ab_G → Prop, z = (fun o G2 => o = .returned (some (vI 1)) ∧ ab_fr [149] G G2 ∧ G2.length = 150 ∧ ab_slots G2 = 1890759 ∧ G2[149]? = some (ab_ob 13 [])) := ⟨_, rfl⟩
  rw [← hQ]
  change ab_W X (ab_plW y_LA_compile b_LA_compile 5 (some (.int)) [(0, 10, 13, 13)]) d G 0 [some (vR 18), some (vI (xs 1)), some (vI (xs 2)), some (vR 148), none] [] Q
  have hfr : ab_fr [149] G G := ab_fr.rf
  refine ab_aload_n d_LA_compile_0 rfl ?_
  refine ab_iconst (v := 0) d_LA_compile_1 (by decide) ?_
  refine ab_aload_n d_LA_compile_2 rfl ?_
  refine ab_iload_n d_LA_compile_3 rfl ?_
  refine ab_iload_n d_LA_compile_4 rfl ?_
  refine ab_callVT (d' := d - 1) (hp := 13) (ct := 13) (as := [vI (xs 1), vI (xs 2)]) (st := [vI 0, vR 148]) (q_PW_compile_1 (xs := xs) hlen hsl c0 c1 (by omega)) (fun o G2 h => ⟨_, h.1, h.2.2.2.2⟩) (by omega) m_PW_compile mw_LA_7 im_PW_compile se_PW_compile c_PW h18 (Nat.le_of_ble_eq_true rfl) d_LA_compile_5 rfl (fun c hc => ab_hx hc (by decide)) (by decide) cl_LA_13 cast_IA ?_
  intro v G1 hq
  obtain ⟨hv, hfk, hlen, hsl, h149⟩ := hq
  cases hv
  have h18 := hfk.get (by decide) h18
  have hfr := hfr.cl hfk (by decide)
  change ab_W _ _ _ G1 13 [some (vR 18), some (vI (xs 1)), some (vI (xs 2)), some (vR 148), none] [vR 149] _
  refine ab_astore d_LA_compile_13 (Nat.le_of_ble_eq_true rfl) (Nat.le_of_ble_eq_true rfl) rfl ?_
  change ab_W _ _ _ G1 15 [some (vR 18), some (vI (xs 1)), some (vI (xs 2)), some (vR 148), some (vR 149)] [] _
  refine ab_iconst (v := 1) d_LA_compile_15 (by decide) ?_
  exact ab_iret (rt := .int) rfl rfl d_LA_compile_16 (by rw [hQ]; exact ⟨rfl, hfr, hlen, hsl, h149⟩)
set_option maxRecDepth 100000 in
set_option maxHeartbeats 4000000 in
theorem q_MO_compile_12 {X : ab_X} {d : Nat} {G : ab_G} {xs : Nat → Int32} (hlen : G.length = 150) (hsl : ab_slots G = 1890759) (h80 : G[80]? = some (ab_ob 12 (m_fv (vI 0) (vI 0) (vI 0) (vI 0) (vI 0) (vI 0) (vI 0) (vI 0) (vI 0) (vI 0) (vI 0) (vI 0) (vI (-1)) (vI 0) (vI 0) (vI 0) (vI 0) (vI 0) (vI 0) (vI 0) (vI 0) (vI 0) (vI 0) (vI 0) (vI 0) (vI 0) (vI 0) (vI 0) (vI 0) (vI 0) (vI 0) (vI 0) (vI 0) (vI 0) (vI 0)))) (c0 : 0 ≤ (xs 1)) (c1 : 5 < (xs 1)) : ab_F X d y_MO_compile (.code y_MO_compile b_MO_compile 6 (some (.int))) [vR 80, vI (xs 1), vI (xs 2)] G (fun o G2 => o = .returned (some (vI 0)) ∧ ab_fr [80] G G2 ∧ G2.length = 150 ∧ ab_slots G2 = 1890759 ∧ G2[80]? = some (ab_ob 12 (m_fv (vI 1) (vI 0) (vI 0) (vI 0) (vI 0) (vI 0) (vI 0) (vI 0) (vI 0) (vI 0) (vI 0) (vI 0) (vI (-1)) (vI 0) (vI 0) (vI 0) (vI 0) (vI 0) (vI 0) (vI 0) (vI 0) (vI 0) (vI 0) (vI 0) (vI 0) (vI 0) (vI 0) (vI 0) (vI 0) (vI 0) (vI 0) (vI 0) (vI 0) (vI 0) (vI 0)))) := by
  refine ab_F_of (by decide +kernel) (Nat.le_of_ble_eq_true rfl) ?_
  obtain ⟨Q, hQ⟩ : ∃ z : Outcome → ab_G → Prop, z = (fun o G2 => o = .returned (some (vI 0)) ∧ ab_fr [80] G G2 ∧ G2.length = 150 ∧ ab_slots G2 = 1890759 ∧ G2[80]? = some (ab_ob 12 (m_fv (vI 1) (vI 0) (vI 0) (vI 0) (vI 0) (vI 0) (vI 0) (vI 0) (vI 0) (vI 0) (vI 0) (vI 0) (vI (-1)) (vI 0) (vI 0) (vI 0) (vI 0) (vI 0) (vI 0) (vI 0) (vI 0) (vI 0) (vI 0) (vI 0) (vI 0) (vI 0) (vI 0) (vI 0) (vI 0) (vI 0) (vI 0) (vI 0) (vI 0) (vI 0) (vI 0)))) := ⟨_, rfl⟩
  rw [← hQ]
  change ab_W X (ab_pl y_MO_compile b_MO_compile 6 (some (.int))) d G 0 [some (vR 80), some (vI (xs 1)), some (vI (xs 2)), none, none, none] [] Q
  have hfr : ab_fr [80] G G := ab_fr.rf
  refine ab_aload_n d_MO_compile_0 rfl ?_
  refine ab_iload_n d_MO_compile_1 rfl ?_
  refine ab_if_lt (tgt := 20) d_MO_compile_2 (by decide) (fun c2 => ?_) (fun c2 => ?_)
  · exfalso; have l0 := (show (0 : Int32).toInt = 0 by decide); have l1 := (show (5 : Int32).toInt = 5 by decide); simp only [Int32.le_iff_toInt_le, Int32.lt_iff_toInt_lt, ← Int32.toInt_inj] at c0 c1 c2; omega
  · refine ab_iload_n d_MO_compile_5 rfl ?_
    refine ab_iconst (v := 5) d_MO_compile_6 (by decide) ?_
    refine ab_icmp_gt (tgt := 20) d_MO_compile_7 (by decide) (fun c3 => ?_) (fun c3 => ?_)
    · refine ab_iconst (v := 1) d_MO_compile_20 (by decide) ?_
      refine ab_goto (tgt := 25) d_MO_compile_21 (by decide) ?_
      refine ab_putf (fs := (m_fv (vI 0) (vI 0) (vI 0) (vI 0) (vI 0) (vI 0) (vI 0) (vI 0) (vI 0) (vI 0) (vI 0) (vI 0) (vI (-1)) (vI 0) (vI 0) (vI 0) (vI 0) (vI 0) (vI 0) (vI 0) (vI 0) (vI 0) (vI 0) (vI 0) (vI 0) (vI 0) (vI 0) (vI 0) (vI 0) (vI 0) (vI 0) (vI 0) (vI 0) (vI 0) (vI 0))) f_MO_220 (Or.inl rfl) d_MO_compile_25 h80 (Nat.le_of_ble_eq_true rfl) (fun _ => ⟨rfl, rfl⟩) (by decide) ?_
      obtain ⟨G1, eG1⟩ : ∃ z : ab_G, z = List.set G 80 (ab_ob 12 (m_fv (vI 1) (vI 0) (vI 0) (vI 0) (vI 0) (vI 0) (vI 0) (vI 0) (vI 0) (vI 0) (vI 0) (vI 0) (vI (-1)) (vI 0) (vI 0) (vI 0) (vI 0) (vI 0) (vI 0) (vI 0) (vI 0) (vI 0) (vI 0) (vI 0) (vI 0) (vI 0) (vI 0) (vI 0) (vI 0) (vI 0) (vI 0) (vI 0) (vI 0) (vI 0) (vI 0))) := ⟨_, rfl⟩
      have hlen := ab_klen eG1 hlen
      have hsl := ab_ksl 102 eG1 h80 rfl rfl hsl
      have hfr := hfr.wr eG1 (by decide)
      have h80 := ab_kept eG1 h80
      change ab_W _ _ _ (List.set G 80 (ab_ob 12 (m_fv (vI 1) (vI 0) (vI 0) (vI 0) (vI 0) (vI 0) (vI 0) (vI 0) (vI 0) (vI 0) (vI 0) (vI 0) (vI (-1)) (vI 0) (vI 0) (vI 0) (vI 0) (vI 0) (vI 0) (vI 0) (vI 0) (vI 0) (vI 0) (vI 0) (vI 0) (vI 0) (vI 0) (vI 0) (vI 0) (vI 0) (vI 0) (vI 0) (vI 0) (vI 0) (vI 0)))) 28 [some (vR 80), some (vI (xs 1)), some (vI (xs 2)), none, none, none] [] _
      rw [← eG1]
      refine ab_aload_n d_MO_compile_28 rfl ?_
      refine ab_getf (fs := (m_fv (vI 1) (vI 0) (vI 0) (vI 0) (vI 0) (vI 0) (vI 0) (vI 0) (vI 0) (vI 0) (vI 0) (vI 0) (vI (-1)) (vI 0) (vI 0) (vI 0) (vI 0) (vI 0) (vI 0) (vI 0) (vI 0) (vI 0) (vI 0) (vI 0) (vI 0) (vI 0) (vI 0) (vI 0) (vI 0) (vI 0) (vI 0) (vI 0) (vI 0) (vI 0) (vI 0))) f_MO_220 d_MO_compile_29 h80 rfl ?_
      refine ab_if_le (tgt := 37) d_MO_compile_32 (by decide) (fun c => absurd c (by decide)) (fun _ => ?_)
      refine ab_iconst (v := 0) d_MO_compile_35 (by decide) ?_
      exact ab_iret (rt := .int) rfl rfl d_MO_compile_36 (by rw [hQ]; exact ⟨rfl, hfr, hlen, hsl, h80⟩)
    · exfalso; have l0 := (show (0 : Int32).toInt = 0 by decide); have l1 := (show (5 : Int32).toInt = 5 by decide); simp only [Int32.le_iff_toInt_le, Int32.lt_iff_toInt_lt, ← Int32.toInt_inj] at c0 c1 c2 c3; omega
set_option maxRecDepth 100000 in
set_option maxHeartbeats 4000000 in
theorem lc_2b {X : ab_X} {d : Nat} {G : ab_G} {xs : Nat → Int32} (hlen : G.length = 149) (hsl : ab_slots G = 1890753) (h0 : G[0]? = some (ab_if 6 (xs))) (h18 : G[18]? = some (ab_ob 0 [vR 19, vR 20, vR 22, vR 30, vR 31, vR 36, vR 37, vR 46, vR 51, vR 60, vR 69, vR 70, vR 72, vR 74, vR 76, vR 78, vI 0, vI 0])) (h80 : G[80]? = some (ab_ob 12 (m_fv (vI 0) (vI 0) (vI 0) (vI 0) (vI 0) (vI 0) (vI 0) (vI 0) (vI 0) (vI 0) (vI 0) (vI 0) (vI (-1)) (vI 0) (vI 0) (vI 0) (vI 0) (vI 0) (vI 0) (vI 0) (vI 0) (vI 0) (vI 0) (vI 0) (vI 0) (vI 0) (vI 0) (vI 0) (vI 0) (vI 0) (vI 0) (vI 0) (vI 0) (vI 0) (vI 0)))) (c0 : 0 ≤ (xs 1)) (c1 : 5 < (xs 1)) (hd : 8 ≤ d) : ab_W X ab_LW d G 228 [some (vR 0), some (vR 18), some (vR 80), some (vR 148), some (vI 0), none, none] [] (fun o _ => o = .returned (some (vI 1))) := by
  obtain ⟨Q, hQ⟩ : ∃ z : Outcome → ab_G → Prop, z = (fun o _ => o = .returned (some (vI 1))) := ⟨_, rfl⟩
  rw [← hQ]
  have hfr : ab_fr [80, 149] G G := ab_fr.rf
  refine ab_aload_n d_LA_law_228 rfl ?_
  refine ab_aload_n d_LA_law_229 rfl ?_
  refine ab_iload d_LA_law_230 rfl ?_
  refine ab_iconst (v := 1) d_LA_law_232 (by decide) ?_
  refine ab_iadd d_LA_law_233 ?_
  refine ab_topi (y := 1) (by decide) ?_
  refine ab_iald d_LA_law_234 h0 (by unfold vp_in; decide) ?_
  refine ab_topi (y := (xs 1)) rfl ?_
  refine ab_aload_n d_LA_law_235 rfl ?_
  refine ab_iload d_LA_law_236 rfl ?_
  refine ab_iconst (v := 2) d_LA_law_238 (by decide) ?_
  refine ab_iadd d_LA_law_239 ?_
  refine ab_topi (y := 2) (by decide) ?_
  refine ab_iald d_LA_law_240 h0 (by unfold vp_in; decide) ?_
  refine ab_topi (y := (xs 2)) rfl ?_
  refine ab_aload_n d_LA_law_241 rfl ?_
  refine ab_callSW (d' := d - 1) (as := [vR 18, vI (xs 1), vI (xs 2), vR 148]) (st := []) (q_LA_compile_1 (xs := xs) hlen hsl h18 c0 c1 (by omega)) (fun o G2 h => ⟨_, h.1⟩) (by omega) m_LA_compile mw_LA_46 st_LA_compile (Nat.le_of_ble_eq_true rfl) d_LA_law_242 rfl ?_
  intro v G1 hq
  obtain ⟨hv, hfk, hlen, hsl, h149⟩ := hq
  cases hv
  have h0 := hfk.get (by decide) h0
  have h18 := hfk.get (by decide) h18
  have h80 := hfk.get (by decide) h80
  have hfr := hfr.cl hfk (by decide)
  change ab_W _ _ _ G1 245 [some (vR 0), some (vR 18), some (vR 80), some (vR 148), some (vI 0), none, none] [vI 1] _
  refine ab_istore d_LA_law_245 (Nat.le_of_ble_eq_true rfl) (Nat.le_of_ble_eq_true rfl) rfl ?_
  change ab_W _ _ _ G1 247 [some (vR 0), some (vR 18), some (vR 80), some (vR 148), some (vI 0), some (vI 1), none] [] _
  refine ab_aload_n d_LA_law_247 rfl ?_
  refine ab_aload_n d_LA_law_248 rfl ?_
  refine ab_iload d_LA_law_249 rfl ?_
  refine ab_iconst (v := 1) d_LA_law_251 (by decide) ?_
  refine ab_iadd d_LA_law_252 ?_
  refine ab_topi (y := 1) (by decide) ?_
  refine ab_iald d_LA_law_253 h0 (by unfold vp_in; decide) ?_
  refine ab_topi (y := (xs 1)) rfl ?_
  refine ab_aload_n d_LA_law_254 rfl ?_
  refine ab_iload d_LA_law_255 rfl ?_
  refine ab_iconst (v := 2) d_LA_law_257 (by decide) ?_
  refine ab_iadd d_LA_law_258 ?_
  refine ab_topi (y := 2) (by decide) ?_
  refine ab_iald d_LA_law_259 h0 (by unfold vp_in; decide) ?_
  refine ab_topi (y := (xs 2)) rfl ?_
  refine ab_callV (d' := d - 1) (as := [vI (xs 1), vI (xs 2)]) (st := []) (r := _) (q_MO_compile_12 (xs := xs) hlen hsl h80 c0 c1) (fun o G2 h => ⟨_, h.1⟩) (by omega) m_MO_compile ml_LA_51 im_MO_compile se_MO_compile c_MO h80 (Nat.le_of_ble_eq_true rfl) d_LA_law_260 rfl ?_
  intro v G2 hq
  obtain ⟨hv, hfk, hlen, hsl, h80⟩ := hq
  cases hv
  have h0 := hfk.get (by decide) h0
  have h18 := hfk.get (by decide) h18
  have h149 := hfk.get (by decide) h149
  have hfr := hfr.cl hfk (by decide)
  change ab_W _ _ _ G2 263 [some (vR 0), some (vR 18), some (vR 80), some (vR 148), some (vI 0), some (vI 1), none] [vI 0] _
  refine ab_istore d_LA_law_263 (Nat.le_of_ble_eq_true rfl) (Nat.le_of_ble_eq_true rfl) rfl ?_
  change ab_W _ _ _ G2 265 [some (vR 0), some (vR 18), some (vR 80), some (vR 148), some (vI 0), some (vI 1), some (vI 0)] [] _
  refine ab_aload_n d_LA_law_265 rfl ?_
  refine ab_callV (d' := d - 1) (as := []) (st := []) (r := _) (q_MO_thrown_0  hlen hsl h80) (fun o G2 h => ⟨_, h.1⟩) (by omega) m_MO_thrown ml_LA_52 im_MO_thrown se_MO_thrown c_MO h80 (Nat.le_of_ble_eq_true rfl) d_LA_law_266 rfl ?_
  intro v G3 hq
  obtain ⟨hv, hfk, hlen, hsl⟩ := hq
  cases hv
  have h0 := hfk.get (by decide) h0
  have h18 := hfk.get (by decide) h18
  have h80 := hfk.get (by decide) h80
  have h149 := hfk.get (by decide) h149
  have hfr := hfr.cl hfk (by decide)
  change ab_W _ _ _ G3 269 [some (vR 0), some (vR 18), some (vR 80), some (vR 148), some (vI 0), some (vI 1), some (vI 0)] [vI 1] _
  refine ab_iload d_LA_law_269 rfl ?_
  refine ab_icmp_eq (tgt := 276) d_LA_law_271 (by decide) (fun _ => ?_) (fun c => absurd c (by decide))
  refine ab_iload d_LA_law_276 rfl ?_
  refine ab_if_ne (tgt := 293) d_LA_law_278 (by decide) (fun _ => ?_) (fun c => absurd c (by decide))
  refine ab_goto (tgt := 931) d_LA_law_293 (by decide) ?_
  refine ab_iinc (v := 6) d_LA_law_931 rfl (by decide) (Nat.le_of_ble_eq_true rfl) (Nat.le_of_ble_eq_true rfl) rfl ?_
  change ab_W _ _ _ G3 934 [some (vR 0), some (vR 18), some (vR 80), some (vR 148), some (vI 6), some (vI 1), some (vI 0)] [] _
  refine ab_goto (tgt := 23) d_LA_law_934 (by decide) ?_
  refine ab_iload d_LA_law_23 rfl ?_
  refine ab_aload_n d_LA_law_25 rfl ?_
  refine ab_alen (v := 6) d_LA_law_26 h0 (by first | decide | rfl) ?_
  refine ab_bipush (v := 6) d_LA_law_27 (by decide) ?_
  refine ab_isub d_LA_law_29 ?_
  refine ab_topi (y := 0) (by decide) ?_
  refine ab_icmp_gt (tgt := 937) d_LA_law_30 (by decide) (fun _ => ?_) (fun c => absurd c (by decide))
  refine ab_iconst (v := 1) d_LA_law_937 (by decide) ?_
  exact ab_iret (rt := .boolean) rfl (by decide) d_LA_law_938 (by rw [hQ])
set_option maxRecDepth 100000 in
set_option maxHeartbeats 4000000 in
theorem q_PW_compile_2 {X : ab_X} {d : Nat} {G : ab_G} {xs : Nat → Int32} (hlen : G.length = 149) (hsl : ab_slots G = 1890753) (c0 : 0 ≤ (xs 1)) (c1 : (xs 1) ≤ 5) (c2 : (xs 2) < 0) (hd : 6 ≤ d) : ab_F X d y_PW_compile (.code y_PW_compile b_PW_compile 4 (some (.int))) [vR 18, vI (xs 1), vI (xs 2)] G (fun o G2 => o = .threw 149 ∧ ab_fr [149] G G2 ∧ G2.length = 150 ∧ ab_slots G2 = 1890759 ∧ G2[149]? = some (ab_ob 13 [])) := by
  refine ab_F_of (by decide +kernel) (Nat.le_of_ble_eq_true rfl) ?_
  obtain ⟨Q, hQ⟩ : ∃ z : Outcome → ab_G → Prop, z = (fun o G2 => o = .threw 149 ∧ ab_fr [149] G G2 ∧ G2.length = 150 ∧ ab_slots G2 = 1890759 ∧ G2[149]? = some (ab_ob 13 [])) := ⟨_, rfl⟩
  rw [← hQ]
  change ab_W X (ab_pl y_PW_compile b_PW_compile 4 (some (.int))) d G 0 [some (vR 18), some (vI (xs 1)), some (vI (xs 2)), none] [] Q
  have hfr : ab_fr [149] G G := ab_fr.rf
  refine ab_iload_n d_PW_compile_0 rfl ?_
  refine ab_if_lt (tgt := 20) d_PW_compile_1 (by decide) (fun c3 => ?_) (fun c3 => ?_)
  · exfalso; have l0 := (show (0 : Int32).toInt = 0 by decide); have l1 := (show (5 : Int32).toInt = 5 by decide); simp only [Int32.le_iff_toInt_le, Int32.lt_iff_toInt_lt, ← Int32.toInt_inj] at c0 c1 c2 c3; omega
  · refine ab_iload_n d_PW_compile_4 rfl ?_
    refine ab_bipush (v := 6) d_PW_compile_5 (by decide) ?_
    refine ab_icmp_ge (tgt := 20) d_PW_compile_7 (by decide) (fun c4 => ?_) (fun c4 => ?_)
    · exfalso; have l0 := (show (0 : Int32).toInt = 0 by decide); have l1 := (show (5 : Int32).toInt = 5 by decide); have l2 := (show (6 : Int32).toInt = 6 by decide); simp only [Int32.le_iff_toInt_le, Int32.lt_iff_toInt_lt, ← Int32.toInt_inj] at c0 c1 c2 c3 c4; omega
    · refine ab_iload_n d_PW_compile_10 rfl ?_
      refine ab_if_lt (tgt := 20) d_PW_compile_11 (by decide) (fun c5 => ?_) (fun c5 => ?_)
      · refine ab_throw (tx := "no such slot or flags") (by decide) (fun c h => h) cl_PW_109 inst_IA ini_IA tw_PW_113 d_PW_compile_20 d_PW_compile_23 d_PW_compile_24 d_PW_compile_26 d_PW_compile_29 (by omega) (by rw [hlen]; decide) (by rw [hsl]; decide) ?_
        rw [hlen]
        obtain ⟨G1, eG1⟩ : ∃ z : ab_G, z = G ++ [ab_ob 13 []] := ⟨_, rfl⟩
        have h149 := ab_anew1 eG1 hlen
        have hsl : ab_slots G1 = 1890759 := ab_asl (z := 6) eG1 hlen (by decide) hsl rfl (by decide)
        have hlen : G1.length = 150 := ab_alen1 eG1 hlen
        have hfr := hfr.ap eG1
        rw [← eG1, hQ]
        exact ⟨rfl, hfr, hlen, hsl, h149⟩
      · exfalso; have l0 := (show (0 : Int32).toInt = 0 by decide); have l1 := (show (5 : Int32).toInt = 5 by decide); have l2 := (show (6 : Int32).toInt = 6 by decide); simp only [Int32.le_iff_toInt_le, Int32.lt_iff_toInt_lt, ← Int32.toInt_inj] at c0 c1 c2 c3 c4 c5; omega
set_option maxRecDepth 100000 in
set_option maxHeartbeats 4000000 in
theorem q_LA_compile_2 {X : ab_X} {d : Nat} {G : ab_G} {xs : Nat → Int32} (hlen : G.length = 149) (hsl : ab_slots G = 1890753) (h18 : G[18]? = some (ab_ob 0 [vR 19, vR 20, vR 22, vR 30, vR 31, vR 36, vR 37, vR 46, vR 51, vR 60, vR 69, vR 70, vR 72, vR 74, vR 76, vR 78, vI 0, vI 0])) (c0 : 0 ≤ (xs 1)) (c1 : (xs 1) ≤ 5) (c2 : (xs 2) < 0) (hd : 7 ≤ d) : ab_F X d y_LA_compile (.codeWith y_LA_compile b_LA_compile 5 (some (.int)) [(0, 10, 13, 13)]) [vR 18, vI (xs 1), vI (xs 2), vR 148] G (fun o G2 => o = .returned (some (vI 1)) ∧ ab_fr [149] G G2 ∧ G2.length = 150 ∧ ab_slots G2 = 1890759 ∧ G2[149]? = some (ab_ob 13 [])) := by
  refine ab_F_ofW (by decide +kernel) (Nat.le_of_ble_eq_true rfl) ?_
  obtain ⟨Q, hQ⟩ : ∃ z : Outcome → ab_G → Prop, z = (fun o G2 => o = .returned (some (vI 1)) ∧ ab_fr [149] G G2 ∧ G2.length = 150 ∧ ab_slots G2 = 1890759 ∧ G2[149]? = some (ab_ob 13 [])) := ⟨_, rfl⟩
  rw [← hQ]
  change ab_W X (ab_plW y_LA_compile b_LA_compile 5 (some (.int)) [(0, 10, 13, 13)]) d G 0 [some (vR 18), some (vI (xs 1)), some (vI (xs 2)), some (vR 148), none] [] Q
  have hfr : ab_fr [149] G G := ab_fr.rf
  refine ab_aload_n d_LA_compile_0 rfl ?_
  refine ab_iconst (v := 0) d_LA_compile_1 (by decide) ?_
  refine ab_aload_n d_LA_compile_2 rfl ?_
  refine ab_iload_n d_LA_compile_3 rfl ?_
  refine ab_iload_n d_LA_compile_4 rfl ?_
  refine ab_callVT (d' := d - 1) (hp := 13) (ct := 13) (as := [vI (xs 1), vI (xs 2)]) (st := [vI 0, vR 148]) (q_PW_compile_2 (xs := xs) hlen hsl c0 c1 c2 (by omega)) (fun o G2 h => ⟨_, h.1, h.2.2.2.2⟩) (by omega) m_PW_compile mw_LA_7 im_PW_compile se_PW_compile c_PW h18 (Nat.le_of_ble_eq_true rfl) d_LA_compile_5 rfl (fun c hc => ab_hx hc (by decide)) (by decide) cl_LA_13 cast_IA ?_
  intro v G1 hq
  obtain ⟨hv, hfk, hlen, hsl, h149⟩ := hq
  cases hv
  have h18 := hfk.get (by decide) h18
  have hfr := hfr.cl hfk (by decide)
  change ab_W _ _ _ G1 13 [some (vR 18), some (vI (xs 1)), some (vI (xs 2)), some (vR 148), none] [vR 149] _
  refine ab_astore d_LA_compile_13 (Nat.le_of_ble_eq_true rfl) (Nat.le_of_ble_eq_true rfl) rfl ?_
  change ab_W _ _ _ G1 15 [some (vR 18), some (vI (xs 1)), some (vI (xs 2)), some (vR 148), some (vR 149)] [] _
  refine ab_iconst (v := 1) d_LA_compile_15 (by decide) ?_
  exact ab_iret (rt := .int) rfl rfl d_LA_compile_16 (by rw [hQ]; exact ⟨rfl, hfr, hlen, hsl, h149⟩)
set_option maxRecDepth 100000 in
set_option maxHeartbeats 4000000 in
theorem q_MO_compile_13 {X : ab_X} {d : Nat} {G : ab_G} {xs : Nat → Int32} (hlen : G.length = 150) (hsl : ab_slots G = 1890759) (h80 : G[80]? = some (ab_ob 12 (m_fv (vI 0) (vI 0) (vI 0) (vI 0) (vI 0) (vI 0) (vI 0) (vI 0) (vI 0) (vI 0) (vI 0) (vI 0) (vI (-1)) (vI 0) (vI 0) (vI 0) (vI 0) (vI 0) (vI 0) (vI 0) (vI 0) (vI 0) (vI 0) (vI 0) (vI 0) (vI 0) (vI 0) (vI 0) (vI 0) (vI 0) (vI 0) (vI 0) (vI 0) (vI 0) (vI 0)))) (c0 : 0 ≤ (xs 1)) (c1 : (xs 1) ≤ 5) (c2 : (xs 2) < 0) : ab_F X d y_MO_compile (.code y_MO_compile b_MO_compile 6 (some (.int))) [vR 80, vI (xs 1), vI (xs 2)] G (fun o G2 => o = .returned (some (vI 0)) ∧ ab_fr [80] G G2 ∧ G2.length = 150 ∧ ab_slots G2 = 1890759 ∧ G2[80]? = some (ab_ob 12 (m_fv (vI 1) (vI 0) (vI 0) (vI 0) (vI 0) (vI 0) (vI 0) (vI 0) (vI 0) (vI 0) (vI 0) (vI 0) (vI (-1)) (vI 0) (vI 0) (vI 0) (vI 0) (vI 0) (vI 0) (vI 0) (vI 0) (vI 0) (vI 0) (vI 0) (vI 0) (vI 0) (vI 0) (vI 0) (vI 0) (vI 0) (vI 0) (vI 0) (vI 0) (vI 0) (vI 0)))) := by
  refine ab_F_of (by decide +kernel) (Nat.le_of_ble_eq_true rfl) ?_
  obtain ⟨Q, hQ⟩ : ∃ z : Outcome → ab_G → Prop, z = (fun o G2 => o = .returned (some (vI 0)) ∧ ab_fr [80] G G2 ∧ G2.length = 150 ∧ ab_slots G2 = 1890759 ∧ G2[80]? = some (ab_ob 12 (m_fv (vI 1) (vI 0) (vI 0) (vI 0) (vI 0) (vI 0) (vI 0) (vI 0) (vI 0) (vI 0) (vI 0) (vI 0) (vI (-1)) (vI 0) (vI 0) (vI 0) (vI 0) (vI 0) (vI 0) (vI 0) (vI 0) (vI 0) (vI 0) (vI 0) (vI 0) (vI 0) (vI 0) (vI 0) (vI 0) (vI 0) (vI 0) (vI 0) (vI 0) (vI 0) (vI 0)))) := ⟨_, rfl⟩
  rw [← hQ]
  change ab_W X (ab_pl y_MO_compile b_MO_compile 6 (some (.int))) d G 0 [some (vR 80), some (vI (xs 1)), some (vI (xs 2)), none, none, none] [] Q
  have hfr : ab_fr [80] G G := ab_fr.rf
  refine ab_aload_n d_MO_compile_0 rfl ?_
  refine ab_iload_n d_MO_compile_1 rfl ?_
  refine ab_if_lt (tgt := 20) d_MO_compile_2 (by decide) (fun c3 => ?_) (fun c3 => ?_)
  · exfalso; have l0 := (show (0 : Int32).toInt = 0 by decide); have l1 := (show (5 : Int32).toInt = 5 by decide); simp only [Int32.le_iff_toInt_le, Int32.lt_iff_toInt_lt, ← Int32.toInt_inj] at c0 c1 c2 c3; omega
  · refine ab_iload_n d_MO_compile_5 rfl ?_
    refine ab_iconst (v := 5) d_MO_compile_6 (by decide) ?_
    refine ab_icmp_gt (tgt := 20) d_MO_compile_7 (by decide) (fun c4 => ?_) (fun c4 => ?_)
    · exfalso; have l0 := (show (0 : Int32).toInt = 0 by decide); have l1 := (show (5 : Int32).toInt = 5 by decide); simp only [Int32.le_iff_toInt_le, Int32.lt_iff_toInt_lt, ← Int32.toInt_inj] at c0 c1 c2 c3 c4; omega
    · refine ab_iload_n d_MO_compile_10 rfl ?_
      refine ab_if_lt (tgt := 20) d_MO_compile_11 (by decide) (fun c5 => ?_) (fun c5 => ?_)
      · refine ab_iconst (v := 1) d_MO_compile_20 (by decide) ?_
        refine ab_goto (tgt := 25) d_MO_compile_21 (by decide) ?_
        refine ab_putf (fs := (m_fv (vI 0) (vI 0) (vI 0) (vI 0) (vI 0) (vI 0) (vI 0) (vI 0) (vI 0) (vI 0) (vI 0) (vI 0) (vI (-1)) (vI 0) (vI 0) (vI 0) (vI 0) (vI 0) (vI 0) (vI 0) (vI 0) (vI 0) (vI 0) (vI 0) (vI 0) (vI 0) (vI 0) (vI 0) (vI 0) (vI 0) (vI 0) (vI 0) (vI 0) (vI 0) (vI 0))) f_MO_220 (Or.inl rfl) d_MO_compile_25 h80 (Nat.le_of_ble_eq_true rfl) (fun _ => ⟨rfl, rfl⟩) (by decide) ?_
        obtain ⟨G1, eG1⟩ : ∃ z : ab_G, z = List.set G 80 (ab_ob 12 (m_fv (vI 1) (vI 0) (vI 0) (vI 0) (vI 0) (vI 0) (vI 0) (vI 0) (vI 0) (vI 0) (vI 0) (vI 0) (vI (-1)) (vI 0) (vI 0) (vI 0) (vI 0) (vI 0) (vI 0) (vI 0) (vI 0) (vI 0) (vI 0) (vI 0) (vI 0) (vI 0) (vI 0) (vI 0) (vI 0) (vI 0) (vI 0) (vI 0) (vI 0) (vI 0) (vI 0))) := ⟨_, rfl⟩
        have hlen := ab_klen eG1 hlen
        have hsl := ab_ksl 102 eG1 h80 rfl rfl hsl
        have hfr := hfr.wr eG1 (by decide)
        have h80 := ab_kept eG1 h80
        change ab_W _ _ _ (List.set G 80 (ab_ob 12 (m_fv (vI 1) (vI 0) (vI 0) (vI 0) (vI 0) (vI 0) (vI 0) (vI 0) (vI 0) (vI 0) (vI 0) (vI 0) (vI (-1)) (vI 0) (vI 0) (vI 0) (vI 0) (vI 0) (vI 0) (vI 0) (vI 0) (vI 0) (vI 0) (vI 0) (vI 0) (vI 0) (vI 0) (vI 0) (vI 0) (vI 0) (vI 0) (vI 0) (vI 0) (vI 0) (vI 0)))) 28 [some (vR 80), some (vI (xs 1)), some (vI (xs 2)), none, none, none] [] _
        rw [← eG1]
        refine ab_aload_n d_MO_compile_28 rfl ?_
        refine ab_getf (fs := (m_fv (vI 1) (vI 0) (vI 0) (vI 0) (vI 0) (vI 0) (vI 0) (vI 0) (vI 0) (vI 0) (vI 0) (vI 0) (vI (-1)) (vI 0) (vI 0) (vI 0) (vI 0) (vI 0) (vI 0) (vI 0) (vI 0) (vI 0) (vI 0) (vI 0) (vI 0) (vI 0) (vI 0) (vI 0) (vI 0) (vI 0) (vI 0) (vI 0) (vI 0) (vI 0) (vI 0))) f_MO_220 d_MO_compile_29 h80 rfl ?_
        refine ab_if_le (tgt := 37) d_MO_compile_32 (by decide) (fun c => absurd c (by decide)) (fun _ => ?_)
        refine ab_iconst (v := 0) d_MO_compile_35 (by decide) ?_
        exact ab_iret (rt := .int) rfl rfl d_MO_compile_36 (by rw [hQ]; exact ⟨rfl, hfr, hlen, hsl, h80⟩)
      · exfalso; have l0 := (show (0 : Int32).toInt = 0 by decide); have l1 := (show (5 : Int32).toInt = 5 by decide); simp only [Int32.le_iff_toInt_le, Int32.lt_iff_toInt_lt, ← Int32.toInt_inj] at c0 c1 c2 c3 c4 c5; omega
set_option maxRecDepth 100000 in
set_option maxHeartbeats 4000000 in
theorem lc_2c {X : ab_X} {d : Nat} {G : ab_G} {xs : Nat → Int32} (hlen : G.length = 149) (hsl : ab_slots G = 1890753) (h0 : G[0]? = some (ab_if 6 (xs))) (h18 : G[18]? = some (ab_ob 0 [vR 19, vR 20, vR 22, vR 30, vR 31, vR 36, vR 37, vR 46, vR 51, vR 60, vR 69, vR 70, vR 72, vR 74, vR 76, vR 78, vI 0, vI 0])) (h80 : G[80]? = some (ab_ob 12 (m_fv (vI 0) (vI 0) (vI 0) (vI 0) (vI 0) (vI 0) (vI 0) (vI 0) (vI 0) (vI 0) (vI 0) (vI 0) (vI (-1)) (vI 0) (vI 0) (vI 0) (vI 0) (vI 0) (vI 0) (vI 0) (vI 0) (vI 0) (vI 0) (vI 0) (vI 0) (vI 0) (vI 0) (vI 0) (vI 0) (vI 0) (vI 0) (vI 0) (vI 0) (vI 0) (vI 0)))) (c0 : 0 ≤ (xs 1)) (c1 : (xs 1) ≤ 5) (c2 : (xs 2) < 0) (hd : 8 ≤ d) : ab_W X ab_LW d G 228 [some (vR 0), some (vR 18), some (vR 80), some (vR 148), some (vI 0), none, none] [] (fun o _ => o = .returned (some (vI 1))) := by
  obtain ⟨Q, hQ⟩ : ∃ z : Outcome → ab_G → Prop, z = (fun o _ => o = .returned (some (vI 1))) := ⟨_, rfl⟩
  rw [← hQ]
  have hfr : ab_fr [80, 149] G G := ab_fr.rf
  refine ab_aload_n d_LA_law_228 rfl ?_
  refine ab_aload_n d_LA_law_229 rfl ?_
  refine ab_iload d_LA_law_230 rfl ?_
  refine ab_iconst (v := 1) d_LA_law_232 (by decide) ?_
  refine ab_iadd d_LA_law_233 ?_
  refine ab_topi (y := 1) (by decide) ?_
  refine ab_iald d_LA_law_234 h0 (by unfold vp_in; decide) ?_
  refine ab_topi (y := (xs 1)) rfl ?_
  refine ab_aload_n d_LA_law_235 rfl ?_
  refine ab_iload d_LA_law_236 rfl ?_
  refine ab_iconst (v := 2) d_LA_law_238 (by decide) ?_
  refine ab_iadd d_LA_law_239 ?_
  refine ab_topi (y := 2) (by decide) ?_
  refine ab_iald d_LA_law_240 h0 (by unfold vp_in; decide) ?_
  refine ab_topi (y := (xs 2)) rfl ?_
  refine ab_aload_n d_LA_law_241 rfl ?_
  refine ab_callSW (d' := d - 1) (as := [vR 18, vI (xs 1), vI (xs 2), vR 148]) (st := []) (q_LA_compile_2 (xs := xs) hlen hsl h18 c0 c1 c2 (by omega)) (fun o G2 h => ⟨_, h.1⟩) (by omega) m_LA_compile mw_LA_46 st_LA_compile (Nat.le_of_ble_eq_true rfl) d_LA_law_242 rfl ?_
  intro v G1 hq
  obtain ⟨hv, hfk, hlen, hsl, h149⟩ := hq
  cases hv
  have h0 := hfk.get (by decide) h0
  have h18 := hfk.get (by decide) h18
  have h80 := hfk.get (by decide) h80
  have hfr := hfr.cl hfk (by decide)
  change ab_W _ _ _ G1 245 [some (vR 0), some (vR 18), some (vR 80), some (vR 148), some (vI 0), none, none] [vI 1] _
  refine ab_istore d_LA_law_245 (Nat.le_of_ble_eq_true rfl) (Nat.le_of_ble_eq_true rfl) rfl ?_
  change ab_W _ _ _ G1 247 [some (vR 0), some (vR 18), some (vR 80), some (vR 148), some (vI 0), some (vI 1), none] [] _
  refine ab_aload_n d_LA_law_247 rfl ?_
  refine ab_aload_n d_LA_law_248 rfl ?_
  refine ab_iload d_LA_law_249 rfl ?_
  refine ab_iconst (v := 1) d_LA_law_251 (by decide) ?_
  refine ab_iadd d_LA_law_252 ?_
  refine ab_topi (y := 1) (by decide) ?_
  refine ab_iald d_LA_law_253 h0 (by unfold vp_in; decide) ?_
  refine ab_topi (y := (xs 1)) rfl ?_
  refine ab_aload_n d_LA_law_254 rfl ?_
  refine ab_iload d_LA_law_255 rfl ?_
  refine ab_iconst (v := 2) d_LA_law_257 (by decide) ?_
  refine ab_iadd d_LA_law_258 ?_
  refine ab_topi (y := 2) (by decide) ?_
  refine ab_iald d_LA_law_259 h0 (by unfold vp_in; decide) ?_
  refine ab_topi (y := (xs 2)) rfl ?_
  refine ab_callV (d' := d - 1) (as := [vI (xs 1), vI (xs 2)]) (st := []) (r := _) (q_MO_compile_13 (xs := xs) hlen hsl h80 c0 c1 c2) (fun o G2 h => ⟨_, h.1⟩) (by omega) m_MO_compile ml_LA_51 im_MO_compile se_MO_compile c_MO h80 (Nat.le_of_ble_eq_true rfl) d_LA_law_260 rfl ?_
  intro v G2 hq
  obtain ⟨hv, hfk, hlen, hsl, h80⟩ := hq
  cases hv
  have h0 := hfk.get (by decide) h0
  have h18 := hfk.get (by decide) h18
  have h149 := hfk.get (by decide) h149
  have hfr := hfr.cl hfk (by decide)
  change ab_W _ _ _ G2 263 [some (vR 0), some (vR 18), some (vR 80), some (vR 148), some (vI 0), some (vI 1), none] [vI 0] _
  refine ab_istore d_LA_law_263 (Nat.le_of_ble_eq_true rfl) (Nat.le_of_ble_eq_true rfl) rfl ?_
  change ab_W _ _ _ G2 265 [some (vR 0), some (vR 18), some (vR 80), some (vR 148), some (vI 0), some (vI 1), some (vI 0)] [] _
  refine ab_aload_n d_LA_law_265 rfl ?_
  refine ab_callV (d' := d - 1) (as := []) (st := []) (r := _) (q_MO_thrown_0  hlen hsl h80) (fun o G2 h => ⟨_, h.1⟩) (by omega) m_MO_thrown ml_LA_52 im_MO_thrown se_MO_thrown c_MO h80 (Nat.le_of_ble_eq_true rfl) d_LA_law_266 rfl ?_
  intro v G3 hq
  obtain ⟨hv, hfk, hlen, hsl⟩ := hq
  cases hv
  have h0 := hfk.get (by decide) h0
  have h18 := hfk.get (by decide) h18
  have h80 := hfk.get (by decide) h80
  have h149 := hfk.get (by decide) h149
  have hfr := hfr.cl hfk (by decide)
  change ab_W _ _ _ G3 269 [some (vR 0), some (vR 18), some (vR 80), some (vR 148), some (vI 0), some (vI 1), some (vI 0)] [vI 1] _
  refine ab_iload d_LA_law_269 rfl ?_
  refine ab_icmp_eq (tgt := 276) d_LA_law_271 (by decide) (fun _ => ?_) (fun c => absurd c (by decide))
  refine ab_iload d_LA_law_276 rfl ?_
  refine ab_if_ne (tgt := 293) d_LA_law_278 (by decide) (fun _ => ?_) (fun c => absurd c (by decide))
  refine ab_goto (tgt := 931) d_LA_law_293 (by decide) ?_
  refine ab_iinc (v := 6) d_LA_law_931 rfl (by decide) (Nat.le_of_ble_eq_true rfl) (Nat.le_of_ble_eq_true rfl) rfl ?_
  change ab_W _ _ _ G3 934 [some (vR 0), some (vR 18), some (vR 80), some (vR 148), some (vI 6), some (vI 1), some (vI 0)] [] _
  refine ab_goto (tgt := 23) d_LA_law_934 (by decide) ?_
  refine ab_iload d_LA_law_23 rfl ?_
  refine ab_aload_n d_LA_law_25 rfl ?_
  refine ab_alen (v := 6) d_LA_law_26 h0 (by first | decide | rfl) ?_
  refine ab_bipush (v := 6) d_LA_law_27 (by decide) ?_
  refine ab_isub d_LA_law_29 ?_
  refine ab_topi (y := 0) (by decide) ?_
  refine ab_icmp_gt (tgt := 937) d_LA_law_30 (by decide) (fun _ => ?_) (fun c => absurd c (by decide))
  refine ab_iconst (v := 1) d_LA_law_937 (by decide) ?_
  exact ab_iret (rt := .boolean) rfl (by decide) d_LA_law_938 (by rw [hQ])
set_option maxRecDepth 100000 in
set_option maxHeartbeats 4000000 in
theorem q_PW_compile_3 {X : ab_X} {d : Nat} {G : ab_G} {xs : Nat → Int32} (hlen : G.length = 149) (hsl : ab_slots G = 1890753) (c0 : 0 ≤ (xs 1)) (c1 : (xs 1) ≤ 5) (c2 : 0 ≤ (xs 2)) (c3 : 31 < (xs 2)) (hd : 6 ≤ d) : ab_F X d y_PW_compile (.code y_PW_compile b_PW_compile 4 (some (.int))) [vR 18, vI (xs 1), vI (xs 2)] G (fun o G2 => o = .threw 149 ∧ ab_fr [149] G G2 ∧ G2.length = 150 ∧ ab_slots G2 = 1890759 ∧ G2[149]? = some (ab_ob 13 [])) := by
  refine ab_F_of (by decide +kernel) (Nat.le_of_ble_eq_true rfl) ?_
  obtain ⟨Q, hQ⟩ : ∃ z : Outcome → ab_G → Prop, z = (fun o G2 => o = .threw 149 ∧ ab_fr [149] G G2 ∧ G2.length = 150 ∧ ab_slots G2 = 1890759 ∧ G2[149]? = some (ab_ob 13 [])) := ⟨_, rfl⟩
  rw [← hQ]
  change ab_W X (ab_pl y_PW_compile b_PW_compile 4 (some (.int))) d G 0 [some (vR 18), some (vI (xs 1)), some (vI (xs 2)), none] [] Q
  have hfr : ab_fr [149] G G := ab_fr.rf
  refine ab_iload_n d_PW_compile_0 rfl ?_
  refine ab_if_lt (tgt := 20) d_PW_compile_1 (by decide) (fun c4 => ?_) (fun c4 => ?_)
  · exfalso; have l0 := (show (0 : Int32).toInt = 0 by decide); have l1 := (show (5 : Int32).toInt = 5 by decide); have l2 := (show (31 : Int32).toInt = 31 by decide); simp only [Int32.le_iff_toInt_le, Int32.lt_iff_toInt_lt, ← Int32.toInt_inj] at c0 c1 c2 c3 c4; omega
  · refine ab_iload_n d_PW_compile_4 rfl ?_
    refine ab_bipush (v := 6) d_PW_compile_5 (by decide) ?_
    refine ab_icmp_ge (tgt := 20) d_PW_compile_7 (by decide) (fun c5 => ?_) (fun c5 => ?_)
    · exfalso; have l0 := (show (0 : Int32).toInt = 0 by decide); have l1 := (show (5 : Int32).toInt = 5 by decide); have l2 := (show (6 : Int32).toInt = 6 by decide); have l3 := (show (31 : Int32).toInt = 31 by decide); simp only [Int32.le_iff_toInt_le, Int32.lt_iff_toInt_lt, ← Int32.toInt_inj] at c0 c1 c2 c3 c4 c5; omega
    · refine ab_iload_n d_PW_compile_10 rfl ?_
      refine ab_if_lt (tgt := 20) d_PW_compile_11 (by decide) (fun c6 => ?_) (fun c6 => ?_)
      · exfalso; have l0 := (show (0 : Int32).toInt = 0 by decide); have l1 := (show (5 : Int32).toInt = 5 by decide); have l2 := (show (6 : Int32).toInt = 6 by decide); have l3 := (show (31 : Int32).toInt = 31 by decide); simp only [Int32.le_iff_toInt_le, Int32.lt_iff_toInt_lt, ← Int32.toInt_inj] at c0 c1 c2 c3 c4 c5 c6; omega
      · refine ab_iload_n d_PW_compile_14 rfl ?_
        refine ab_bipush (v := 31) d_PW_compile_15 (by decide) ?_
        refine ab_icmp_le (tgt := 30) d_PW_compile_17 (by decide) (fun c7 => ?_) (fun c7 => ?_)
        · exfalso; have l0 := (show (0 : Int32).toInt = 0 by decide); have l1 := (show (5 : Int32).toInt = 5 by decide); have l2 := (show (6 : Int32).toInt = 6 by decide); have l3 := (show (31 : Int32).toInt = 31 by decide); simp only [Int32.le_iff_toInt_le, Int32.lt_iff_toInt_lt, ← Int32.toInt_inj] at c0 c1 c2 c3 c4 c5 c6 c7; omega
        · refine ab_throw (tx := "no such slot or flags") (by decide) (fun c h => h) cl_PW_109 inst_IA ini_IA tw_PW_113 d_PW_compile_20 d_PW_compile_23 d_PW_compile_24 d_PW_compile_26 d_PW_compile_29 (by omega) (by rw [hlen]; decide) (by rw [hsl]; decide) ?_
          rw [hlen]
          obtain ⟨G1, eG1⟩ : ∃ z : ab_G, z = G ++ [ab_ob 13 []] := ⟨_, rfl⟩
          have h149 := ab_anew1 eG1 hlen
          have hsl : ab_slots G1 = 1890759 := ab_asl (z := 6) eG1 hlen (by decide) hsl rfl (by decide)
          have hlen : G1.length = 150 := ab_alen1 eG1 hlen
          have hfr := hfr.ap eG1
          rw [← eG1, hQ]
          exact ⟨rfl, hfr, hlen, hsl, h149⟩
set_option maxRecDepth 100000 in
set_option maxHeartbeats 4000000 in
theorem q_LA_compile_3 {X : ab_X} {d : Nat} {G : ab_G} {xs : Nat → Int32} (hlen : G.length = 149) (hsl : ab_slots G = 1890753) (h18 : G[18]? = some (ab_ob 0 [vR 19, vR 20, vR 22, vR 30, vR 31, vR 36, vR 37, vR 46, vR 51, vR 60, vR 69, vR 70, vR 72, vR 74, vR 76, vR 78, vI 0, vI 0])) (c0 : 0 ≤ (xs 1)) (c1 : (xs 1) ≤ 5) (c2 : 0 ≤ (xs 2)) (c3 : 31 < (xs 2)) (hd : 7 ≤ d) : ab_F X d y_LA_compile (.codeWith y_LA_compile b_LA_compile 5 (some (.int)) [(0, 10, 13, 13)]) [vR 18, vI (xs 1), vI (xs 2), vR 148] G (fun o G2 => o = .returned (some (vI 1)) ∧ ab_fr [149] G G2 ∧ G2.length = 150 ∧ ab_slots G2 = 1890759 ∧ G2[149]? = some (ab_ob 13 [])) := by
  refine ab_F_ofW (by decide +kernel) (Nat.le_of_ble_eq_true rfl) ?_
  obtain ⟨Q, hQ⟩ : ∃ z : Outcome → ab_G → Prop, z = (fun o G2 => o = .returned (some (vI 1)) ∧ ab_fr [149] G G2 ∧ G2.length = 150 ∧ ab_slots G2 = 1890759 ∧ G2[149]? = some (ab_ob 13 [])) := ⟨_, rfl⟩
  rw [← hQ]
  change ab_W X (ab_plW y_LA_compile b_LA_compile 5 (some (.int)) [(0, 10, 13, 13)]) d G 0 [some (vR 18), some (vI (xs 1)), some (vI (xs 2)), some (vR 148), none] [] Q
  have hfr : ab_fr [149] G G := ab_fr.rf
  refine ab_aload_n d_LA_compile_0 rfl ?_
  refine ab_iconst (v := 0) d_LA_compile_1 (by decide) ?_
  refine ab_aload_n d_LA_compile_2 rfl ?_
  refine ab_iload_n d_LA_compile_3 rfl ?_
  refine ab_iload_n d_LA_compile_4 rfl ?_
  refine ab_callVT (d' := d - 1) (hp := 13) (ct := 13) (as := [vI (xs 1), vI (xs 2)]) (st := [vI 0, vR 148]) (q_PW_compile_3 (xs := xs) hlen hsl c0 c1 c2 c3 (by omega)) (fun o G2 h => ⟨_, h.1, h.2.2.2.2⟩) (by omega) m_PW_compile mw_LA_7 im_PW_compile se_PW_compile c_PW h18 (Nat.le_of_ble_eq_true rfl) d_LA_compile_5 rfl (fun c hc => ab_hx hc (by decide)) (by decide) cl_LA_13 cast_IA ?_
  intro v G1 hq
  obtain ⟨hv, hfk, hlen, hsl, h149⟩ := hq
  cases hv
  have h18 := hfk.get (by decide) h18
  have hfr := hfr.cl hfk (by decide)
  change ab_W _ _ _ G1 13 [some (vR 18), some (vI (xs 1)), some (vI (xs 2)), some (vR 148), none] [vR 149] _
  refine ab_astore d_LA_compile_13 (Nat.le_of_ble_eq_true rfl) (Nat.le_of_ble_eq_true rfl) rfl ?_
  change ab_W _ _ _ G1 15 [some (vR 18), some (vI (xs 1)), some (vI (xs 2)), some (vR 148), some (vR 149)] [] _
  refine ab_iconst (v := 1) d_LA_compile_15 (by decide) ?_
  exact ab_iret (rt := .int) rfl rfl d_LA_compile_16 (by rw [hQ]; exact ⟨rfl, hfr, hlen, hsl, h149⟩)
set_option maxRecDepth 100000 in
set_option maxHeartbeats 4000000 in
theorem q_MO_compile_14 {X : ab_X} {d : Nat} {G : ab_G} {xs : Nat → Int32} (hlen : G.length = 150) (hsl : ab_slots G = 1890759) (h80 : G[80]? = some (ab_ob 12 (m_fv (vI 0) (vI 0) (vI 0) (vI 0) (vI 0) (vI 0) (vI 0) (vI 0) (vI 0) (vI 0) (vI 0) (vI 0) (vI (-1)) (vI 0) (vI 0) (vI 0) (vI 0) (vI 0) (vI 0) (vI 0) (vI 0) (vI 0) (vI 0) (vI 0) (vI 0) (vI 0) (vI 0) (vI 0) (vI 0) (vI 0) (vI 0) (vI 0) (vI 0) (vI 0) (vI 0)))) (c0 : 0 ≤ (xs 1)) (c1 : (xs 1) ≤ 5) (c2 : 0 ≤ (xs 2)) (c3 : 31 < (xs 2)) : ab_F X d y_MO_compile (.code y_MO_compile b_MO_compile 6 (some (.int))) [vR 80, vI (xs 1), vI (xs 2)] G (fun o G2 => o = .returned (some (vI 0)) ∧ ab_fr [80] G G2 ∧ G2.length = 150 ∧ ab_slots G2 = 1890759 ∧ G2[80]? = some (ab_ob 12 (m_fv (vI 1) (vI 0) (vI 0) (vI 0) (vI 0) (vI 0) (vI 0) (vI 0) (vI 0) (vI 0) (vI 0) (vI 0) (vI (-1)) (vI 0) (vI 0) (vI 0) (vI 0) (vI 0) (vI 0) (vI 0) (vI 0) (vI 0) (vI 0) (vI 0) (vI 0) (vI 0) (vI 0) (vI 0) (vI 0) (vI 0) (vI 0) (vI 0) (vI 0) (vI 0) (vI 0)))) := by
  refine ab_F_of (by decide +kernel) (Nat.le_of_ble_eq_true rfl) ?_
  obtain ⟨Q, hQ⟩ : ∃ z : Outcome → ab_G → Prop, z = (fun o G2 => o = .returned (some (vI 0)) ∧ ab_fr [80] G G2 ∧ G2.length = 150 ∧ ab_slots G2 = 1890759 ∧ G2[80]? = some (ab_ob 12 (m_fv (vI 1) (vI 0) (vI 0) (vI 0) (vI 0) (vI 0) (vI 0) (vI 0) (vI 0) (vI 0) (vI 0) (vI 0) (vI (-1)) (vI 0) (vI 0) (vI 0) (vI 0) (vI 0) (vI 0) (vI 0) (vI 0) (vI 0) (vI 0) (vI 0) (vI 0) (vI 0) (vI 0) (vI 0) (vI 0) (vI 0) (vI 0) (vI 0) (vI 0) (vI 0) (vI 0)))) := ⟨_, rfl⟩
  rw [← hQ]
  change ab_W X (ab_pl y_MO_compile b_MO_compile 6 (some (.int))) d G 0 [some (vR 80), some (vI (xs 1)), some (vI (xs 2)), none, none, none] [] Q
  have hfr : ab_fr [80] G G := ab_fr.rf
  refine ab_aload_n d_MO_compile_0 rfl ?_
  refine ab_iload_n d_MO_compile_1 rfl ?_
  refine ab_if_lt (tgt := 20) d_MO_compile_2 (by decide) (fun c4 => ?_) (fun c4 => ?_)
  · exfalso; have l0 := (show (0 : Int32).toInt = 0 by decide); have l1 := (show (5 : Int32).toInt = 5 by decide); have l2 := (show (31 : Int32).toInt = 31 by decide); simp only [Int32.le_iff_toInt_le, Int32.lt_iff_toInt_lt, ← Int32.toInt_inj] at c0 c1 c2 c3 c4; omega
  · refine ab_iload_n d_MO_compile_5 rfl ?_
    refine ab_iconst (v := 5) d_MO_compile_6 (by decide) ?_
    refine ab_icmp_gt (tgt := 20) d_MO_compile_7 (by decide) (fun c5 => ?_) (fun c5 => ?_)
    · exfalso; have l0 := (show (0 : Int32).toInt = 0 by decide); have l1 := (show (5 : Int32).toInt = 5 by decide); have l2 := (show (31 : Int32).toInt = 31 by decide); simp only [Int32.le_iff_toInt_le, Int32.lt_iff_toInt_lt, ← Int32.toInt_inj] at c0 c1 c2 c3 c4 c5; omega
    · refine ab_iload_n d_MO_compile_10 rfl ?_
      refine ab_if_lt (tgt := 20) d_MO_compile_11 (by decide) (fun c6 => ?_) (fun c6 => ?_)
      · exfalso; have l0 := (show (0 : Int32).toInt = 0 by decide); have l1 := (show (5 : Int32).toInt = 5 by decide); have l2 := (show (31 : Int32).toInt = 31 by decide); simp only [Int32.le_iff_toInt_le, Int32.lt_iff_toInt_lt, ← Int32.toInt_inj] at c0 c1 c2 c3 c4 c5 c6; omega
      · refine ab_iload_n d_MO_compile_14 rfl ?_
        refine ab_bipush (v := 31) d_MO_compile_15 (by decide) ?_
        refine ab_icmp_le (tgt := 24) d_MO_compile_17 (by decide) (fun c7 => ?_) (fun c7 => ?_)
        · exfalso; have l0 := (show (0 : Int32).toInt = 0 by decide); have l1 := (show (5 : Int32).toInt = 5 by decide); have l2 := (show (31 : Int32).toInt = 31 by decide); simp only [Int32.le_iff_toInt_le, Int32.lt_iff_toInt_lt, ← Int32.toInt_inj] at c0 c1 c2 c3 c4 c5 c6 c7; omega
        · refine ab_iconst (v := 1) d_MO_compile_20 (by decide) ?_
          refine ab_goto (tgt := 25) d_MO_compile_21 (by decide) ?_
          refine ab_putf (fs := (m_fv (vI 0) (vI 0) (vI 0) (vI 0) (vI 0) (vI 0) (vI 0) (vI 0) (vI 0) (vI 0) (vI 0) (vI 0) (vI (-1)) (vI 0) (vI 0) (vI 0) (vI 0) (vI 0) (vI 0) (vI 0) (vI 0) (vI 0) (vI 0) (vI 0) (vI 0) (vI 0) (vI 0) (vI 0) (vI 0) (vI 0) (vI 0) (vI 0) (vI 0) (vI 0) (vI 0))) f_MO_220 (Or.inl rfl) d_MO_compile_25 h80 (Nat.le_of_ble_eq_true rfl) (fun _ => ⟨rfl, rfl⟩) (by decide) ?_
          obtain ⟨G1, eG1⟩ : ∃ z : ab_G, z = List.set G 80 (ab_ob 12 (m_fv (vI 1) (vI 0) (vI 0) (vI 0) (vI 0) (vI 0) (vI 0) (vI 0) (vI 0) (vI 0) (vI 0) (vI 0) (vI (-1)) (vI 0) (vI 0) (vI 0) (vI 0) (vI 0) (vI 0) (vI 0) (vI 0) (vI 0) (vI 0) (vI 0) (vI 0) (vI 0) (vI 0) (vI 0) (vI 0) (vI 0) (vI 0) (vI 0) (vI 0) (vI 0) (vI 0))) := ⟨_, rfl⟩
          have hlen := ab_klen eG1 hlen
          have hsl := ab_ksl 102 eG1 h80 rfl rfl hsl
          have hfr := hfr.wr eG1 (by decide)
          have h80 := ab_kept eG1 h80
          change ab_W _ _ _ (List.set G 80 (ab_ob 12 (m_fv (vI 1) (vI 0) (vI 0) (vI 0) (vI 0) (vI 0) (vI 0) (vI 0) (vI 0) (vI 0) (vI 0) (vI 0) (vI (-1)) (vI 0) (vI 0) (vI 0) (vI 0) (vI 0) (vI 0) (vI 0) (vI 0) (vI 0) (vI 0) (vI 0) (vI 0) (vI 0) (vI 0) (vI 0) (vI 0) (vI 0) (vI 0) (vI 0) (vI 0) (vI 0) (vI 0)))) 28 [some (vR 80), some (vI (xs 1)), some (vI (xs 2)), none, none, none] [] _
          rw [← eG1]
          refine ab_aload_n d_MO_compile_28 rfl ?_
          refine ab_getf (fs := (m_fv (vI 1) (vI 0) (vI 0) (vI 0) (vI 0) (vI 0) (vI 0) (vI 0) (vI 0) (vI 0) (vI 0) (vI 0) (vI (-1)) (vI 0) (vI 0) (vI 0) (vI 0) (vI 0) (vI 0) (vI 0) (vI 0) (vI 0) (vI 0) (vI 0) (vI 0) (vI 0) (vI 0) (vI 0) (vI 0) (vI 0) (vI 0) (vI 0) (vI 0) (vI 0) (vI 0))) f_MO_220 d_MO_compile_29 h80 rfl ?_
          refine ab_if_le (tgt := 37) d_MO_compile_32 (by decide) (fun c => absurd c (by decide)) (fun _ => ?_)
          refine ab_iconst (v := 0) d_MO_compile_35 (by decide) ?_
          exact ab_iret (rt := .int) rfl rfl d_MO_compile_36 (by rw [hQ]; exact ⟨rfl, hfr, hlen, hsl, h80⟩)
