set_option maxRecDepth 100000 in
set_option maxHeartbeats 4000000 in
theorem q_MO_feed_0 {X : ab_X} {d : Nat} {G : ab_G} {xs : Nat → Int32} (hlen : G.length = 149) (hsl : ab_slots G = 1890753) (h80 : G[80]? = some (ab_ob 12 (m_fv (vI 0) (vI 0) (vI 0) (vI 0) (vI 0) (vI 0) (vI 0) (vI 0) (vI 0) (vI 0) (vI 0) (vI 0) (vI (-1)) (vI 0) (vI 0) (vI 0) (vI 0) (vI 0) (vI 0) (vI 0) (vI 0) (vI 0) (vI 0) (vI 0) (vI 0) (vI 0) (vI 0) (vI 0) (vI 0) (vI 0) (vI 0) (vI 0) (vI 0) (vI 0) (vI 0)))) (h83 : G[83]? = some (ab_if 20 ((fun _ => 0)))) : ab_F X d y_MO_feed (.code y_MO_feed b_MO_feed 8 none) [vR 80, vI (xs 1), vI (xs 2), vI (xs 3), vI (xs 4), vI (xs 5)] G (fun o G2 => o = .returned none ∧ ab_fr [80, 83] G G2 ∧ G2.length = 149 ∧ ab_slots G2 = 1890753 ∧ G2[80]? = some (ab_ob 12 (m_fv (vI 0) (vI 0) (vI 0) (vI 0) (vI 0) (vI 0) (vI 0) (vI 0) (vI 0) (vI 0) (vI 0) (vI 0) (vI (-1)) (vI 0) (vI 0) (vI 0) (vI 0) (vI 0) (vI 0) (vI 0) (vI 0) (vI 0) (vI 0) (vI 0) (vI 0) (vI 0) (vI 0) (vI 0) (vI 0) (vI 0) (vI 0) (vI 0) (vI 0) (vI 0) (vI 0))) ∧ (∃ g : Nat → Int32, G2[83]? = some (ab_if 20 (g)))) := by
  refine ab_F_of (by decide +kernel) (Nat.le_of_ble_eq_true rfl) ?_
  obtain ⟨Q, hQ⟩ : ∃ z : Outcome → ab_G → Prop, z = (fun o G2 => o = .returned none ∧ ab_fr [80, 83] G G2 ∧ G2.length = 149 ∧ ab_slots G2 = 1890753 ∧ G2[80]? = some (ab_ob 12 (m_fv (vI 0) (vI 0) (vI 0) (vI 0) (vI 0) (vI 0) (vI 0) (vI 0) (vI 0) (vI 0) (vI 0) (vI 0) (vI (-1)) (vI 0) (vI 0) (vI 0) (vI 0) (vI 0) (vI 0) (vI 0) (vI 0) (vI 0) (vI 0) (vI 0) (vI 0) (vI 0) (vI 0) (vI 0) (vI 0) (vI 0) (vI 0) (vI 0) (vI 0) (vI 0) (vI 0))) ∧ (∃ g : Nat → Int32, G2[83]? = some (ab_if 20 (g)))) := ⟨_, rfl⟩
  rw [← hQ]
  change ab_W X (ab_pl y_MO_feed b_MO_feed 8 none) d G 0 [some (vR 80), some (vI (xs 1)), some (vI (xs 2)), some (vI (xs 3)), some (vI (xs 4)), some (vI (xs 5)), none, none] [] Q
  have hfr : ab_fr [80, 83] G G := ab_fr.rf
  refine ab_aload_n d_MO_feed_0 rfl ?_
  refine ab_iconst (v := 0) d_MO_feed_1 (by decide) ?_
  refine ab_putf (fs := (m_fv (vI 0) (vI 0) (vI 0) (vI 0) (vI 0) (vI 0) (vI 0) (vI 0) (vI 0) (vI 0) (vI 0) (vI 0) (vI (-1)) (vI 0) (vI 0) (vI 0) (vI 0) (vI 0) (vI 0) (vI 0) (vI 0) (vI 0) (vI 0) (vI 0) (vI 0) (vI 0) (vI 0) (vI 0) (vI 0) (vI 0) (vI 0) (vI 0) (vI 0) (vI 0) (vI 0))) f_MO_220 (Or.inl rfl) d_MO_feed_2 h80 (Nat.le_of_ble_eq_true rfl) (fun _ => ⟨rfl, rfl⟩) (by decide) ?_
  obtain ⟨G1, eG1⟩ : ∃ z : ab_G, z = List.set G 80 (ab_ob 12 (m_fv (vI 0) (vI 0) (vI 0) (vI 0) (vI 0) (vI 0) (vI 0) (vI 0) (vI 0) (vI 0) (vI 0) (vI 0) (vI (-1)) (vI 0) (vI 0) (vI 0) (vI 0) (vI 0) (vI 0) (vI 0) (vI 0) (vI 0) (vI 0) (vI 0) (vI 0) (vI 0) (vI 0) (vI 0) (vI 0) (vI 0) (vI 0) (vI 0) (vI 0) (vI 0) (vI 0))) := ⟨_, rfl⟩
  have h83 := ab_keep eG1 (by decide) h83
  have hlen := ab_klen eG1 hlen
  have hsl := ab_ksl 102 eG1 h80 rfl rfl hsl
  have hfr := hfr.wr eG1 (by decide)
  have h80 := ab_kept eG1 h80
  change ab_W _ _ _ (List.set G 80 (ab_ob 12 (m_fv (vI 0) (vI 0) (vI 0) (vI 0) (vI 0) (vI 0) (vI 0) (vI 0) (vI 0) (vI 0) (vI 0) (vI 0) (vI (-1)) (vI 0) (vI 0) (vI 0) (vI 0) (vI 0) (vI 0) (vI 0) (vI 0) (vI 0) (vI 0) (vI 0) (vI 0) (vI 0) (vI 0) (vI 0) (vI 0) (vI 0) (vI 0) (vI 0) (vI 0) (vI 0) (vI 0)))) 5 [some (vR 80), some (vI (xs 1)), some (vI (xs 2)), some (vI (xs 3)), some (vI (xs 4)), some (vI (xs 5)), none, none] [] _
  rw [← eG1]
  refine ab_iconst (v := 0) d_MO_feed_5 (by decide) ?_
  refine ab_istore d_MO_feed_6 (Nat.le_of_ble_eq_true rfl) (Nat.le_of_ble_eq_true rfl) rfl ?_
  change ab_W _ _ _ G1 8 [some (vR 80), some (vI (xs 1)), some (vI (xs 2)), some (vI (xs 3)), some (vI (xs 4)), some (vI (xs 5)), some (vI 0), none] [] _
  refine ab_iload d_MO_feed_8 rfl ?_
  refine ab_iconst (v := 4) d_MO_feed_10 (by decide) ?_
  refine ab_icmp_ge (tgt := 118) d_MO_feed_11 (by decide) (fun c => absurd c (by decide)) (fun _ => ?_)
  refine ab_bipush (v := 24) d_MO_feed_14 (by decide) ?_
  refine ab_bipush (v := 8) d_MO_feed_16 (by decide) ?_
  refine ab_iload d_MO_feed_18 rfl ?_
  refine ab_imul d_MO_feed_20 ?_
  refine ab_topi (y := 0) (by decide) ?_
  refine ab_isub d_MO_feed_21 ?_
  refine ab_topi (y := 24) (by decide) ?_
  refine ab_istore d_MO_feed_22 (Nat.le_of_ble_eq_true rfl) (Nat.le_of_ble_eq_true rfl) rfl ?_
  change ab_W _ _ _ G1 24 [some (vR 80), some (vI (xs 1)), some (vI (xs 2)), some (vI (xs 3)), some (vI (xs 4)), some (vI (xs 5)), some (vI 0), some (vI 24)] [] _
  refine ab_aload_n d_MO_feed_24 rfl ?_
  refine ab_getf (fs := (m_fv (vI 0) (vI 0) (vI 0) (vI 0) (vI 0) (vI 0) (vI 0) (vI 0) (vI 0) (vI 0) (vI 0) (vI 0) (vI (-1)) (vI 0) (vI 0) (vI 0) (vI 0) (vI 0) (vI 0) (vI 0) (vI 0) (vI 0) (vI 0) (vI 0) (vI 0) (vI 0) (vI 0) (vI 0) (vI 0) (vI 0) (vI 0) (vI 0) (vI 0) (vI 0) (vI 0))) f_MO_16 d_MO_feed_25 h80 rfl ?_
  refine ab_iload d_MO_feed_28 rfl ?_
  refine ab_iload_n d_MO_feed_30 rfl ?_
  refine ab_iload d_MO_feed_31 rfl ?_
  refine ab_ishr d_MO_feed_33 ?_
  refine ab_sipush (v := 255) d_MO_feed_34 (by decide) ?_
  refine ab_iand d_MO_feed_37 ?_
  refine ab_iast d_MO_feed_38 h83 (by unfold vp_in; decide) (by decide) ?_
  obtain ⟨G2, eG2⟩ : ∃ z : ab_G, z = List.set G1 83 (ab_if 20 ((upd (fun _ => 0) 0 (((xs 1) >>> (24 &&& 31)) &&& 255)))) := ⟨_, rfl⟩
  have h80 := ab_keep eG2 (by decide) h80
  have hlen := ab_klen eG2 hlen
  have hsl := ab_ksl 20 eG2 h83 rfl rfl hsl
  have hfr := hfr.wr eG2 (by decide)
  have h83 := ab_kept eG2 h83
  change ab_W _ _ _ (List.set G1 83 (ab_if 20 ((upd (fun _ => 0) 0 (((xs 1) >>> (24 &&& 31)) &&& 255))))) 39 [some (vR 80), some (vI (xs 1)), some (vI (xs 2)), some (vI (xs 3)), some (vI (xs 4)), some (vI (xs 5)), some (vI 0), some (vI 24)] [] _
  rw [← eG2]
  obtain ⟨f83_1, h83⟩ : ∃ g : Nat → Int32, G2[83]? = some (ab_if 20 (g)) := ⟨_, h83⟩
  refine ab_aload_n d_MO_feed_39 rfl ?_
  refine ab_getf (fs := (m_fv (vI 0) (vI 0) (vI 0) (vI 0) (vI 0) (vI 0) (vI 0) (vI 0) (vI 0) (vI 0) (vI 0) (vI 0) (vI (-1)) (vI 0) (vI 0) (vI 0) (vI 0) (vI 0) (vI 0) (vI 0) (vI 0) (vI 0) (vI 0) (vI 0) (vI 0) (vI 0) (vI 0) (vI 0) (vI 0) (vI 0) (vI 0) (vI 0) (vI 0) (vI 0) (vI 0))) f_MO_16 d_MO_feed_40 h80 rfl ?_
  refine ab_iconst (v := 4) d_MO_feed_43 (by decide) ?_
  refine ab_iload d_MO_feed_44 rfl ?_
  refine ab_iadd d_MO_feed_46 ?_
  refine ab_topi (y := 4) (by decide) ?_
  refine ab_iload_n d_MO_feed_47 rfl ?_
  refine ab_iload d_MO_feed_48 rfl ?_
  refine ab_ishr d_MO_feed_50 ?_
  refine ab_sipush (v := 255) d_MO_feed_51 (by decide) ?_
  refine ab_iand d_MO_feed_54 ?_
  refine ab_iast d_MO_feed_55 h83 (by unfold vp_in; decide) (by decide) ?_
  obtain ⟨G3, eG3⟩ : ∃ z : ab_G, z = List.set G2 83 (ab_if 20 ((upd f83_1 4 (((xs 2) >>> (24 &&& 31)) &&& 255)))) := ⟨_, rfl⟩
  have h80 := ab_keep eG3 (by decide) h80
  have hlen := ab_klen eG3 hlen
  have hsl := ab_ksl 20 eG3 h83 rfl rfl hsl
  have hfr := hfr.wr eG3 (by decide)
  have h83 := ab_kept eG3 h83
  change ab_W _ _ _ (List.set G2 83 (ab_if 20 ((upd f83_1 4 (((xs 2) >>> (24 &&& 31)) &&& 255))))) 56 [some (vR 80), some (vI (xs 1)), some (vI (xs 2)), some (vI (xs 3)), some (vI (xs 4)), some (vI (xs 5)), some (vI 0), some (vI 24)] [] _
  rw [← eG3]
  obtain ⟨f83_2, h83⟩ : ∃ g : Nat → Int32, G3[83]? = some (ab_if 20 (g)) := ⟨_, h83⟩
  refine ab_aload_n d_MO_feed_56 rfl ?_
  refine ab_getf (fs := (m_fv (vI 0) (vI 0) (vI 0) (vI 0) (vI 0) (vI 0) (vI 0) (vI 0) (vI 0) (vI 0) (vI 0) (vI 0) (vI (-1)) (vI 0) (vI 0) (vI 0) (vI 0) (vI 0) (vI 0) (vI 0) (vI 0) (vI 0) (vI 0) (vI 0) (vI 0) (vI 0) (vI 0) (vI 0) (vI 0) (vI 0) (vI 0) (vI 0) (vI 0) (vI 0) (vI 0))) f_MO_16 d_MO_feed_57 h80 rfl ?_
  refine ab_bipush (v := 8) d_MO_feed_60 (by decide) ?_
  refine ab_iload d_MO_feed_62 rfl ?_
  refine ab_iadd d_MO_feed_64 ?_
  refine ab_topi (y := 8) (by decide) ?_
  refine ab_iload_n d_MO_feed_65 rfl ?_
  refine ab_iload d_MO_feed_66 rfl ?_
  refine ab_ishr d_MO_feed_68 ?_
  refine ab_sipush (v := 255) d_MO_feed_69 (by decide) ?_
  refine ab_iand d_MO_feed_72 ?_
  refine ab_iast d_MO_feed_73 h83 (by unfold vp_in; decide) (by decide) ?_
  obtain ⟨G4, eG4⟩ : ∃ z : ab_G, z = List.set G3 83 (ab_if 20 ((upd f83_2 8 (((xs 3) >>> (24 &&& 31)) &&& 255)))) := ⟨_, rfl⟩
  have h80 := ab_keep eG4 (by decide) h80
  have hlen := ab_klen eG4 hlen
  have hsl := ab_ksl 20 eG4 h83 rfl rfl hsl
  have hfr := hfr.wr eG4 (by decide)
  have h83 := ab_kept eG4 h83
  change ab_W _ _ _ (List.set G3 83 (ab_if 20 ((upd f83_2 8 (((xs 3) >>> (24 &&& 31)) &&& 255))))) 74 [some (vR 80), some (vI (xs 1)), some (vI (xs 2)), some (vI (xs 3)), some (vI (xs 4)), some (vI (xs 5)), some (vI 0), some (vI 24)] [] _
  rw [← eG4]
  obtain ⟨f83_3, h83⟩ : ∃ g : Nat → Int32, G4[83]? = some (ab_if 20 (g)) := ⟨_, h83⟩
  refine ab_aload_n d_MO_feed_74 rfl ?_
  refine ab_getf (fs := (m_fv (vI 0) (vI 0) (vI 0) (vI 0) (vI 0) (vI 0) (vI 0) (vI 0) (vI 0) (vI 0) (vI 0) (vI 0) (vI (-1)) (vI 0) (vI 0) (vI 0) (vI 0) (vI 0) (vI 0) (vI 0) (vI 0) (vI 0) (vI 0) (vI 0) (vI 0) (vI 0) (vI 0) (vI 0) (vI 0) (vI 0) (vI 0) (vI 0) (vI 0) (vI 0) (vI 0))) f_MO_16 d_MO_feed_75 h80 rfl ?_
  refine ab_bipush (v := 12) d_MO_feed_78 (by decide) ?_
  refine ab_iload d_MO_feed_80 rfl ?_
  refine ab_iadd d_MO_feed_82 ?_
  refine ab_topi (y := 12) (by decide) ?_
  refine ab_iload d_MO_feed_83 rfl ?_
  refine ab_iload d_MO_feed_85 rfl ?_
  refine ab_ishr d_MO_feed_87 ?_
  refine ab_sipush (v := 255) d_MO_feed_88 (by decide) ?_
  refine ab_iand d_MO_feed_91 ?_
  refine ab_iast d_MO_feed_92 h83 (by unfold vp_in; decide) (by decide) ?_
  obtain ⟨G5, eG5⟩ : ∃ z : ab_G, z = List.set G4 83 (ab_if 20 ((upd f83_3 12 (((xs 4) >>> (24 &&& 31)) &&& 255)))) := ⟨_, rfl⟩
  have h80 := ab_keep eG5 (by decide) h80
  have hlen := ab_klen eG5 hlen
  have hsl := ab_ksl 20 eG5 h83 rfl rfl hsl
  have hfr := hfr.wr eG5 (by decide)
  have h83 := ab_kept eG5 h83
  change ab_W _ _ _ (List.set G4 83 (ab_if 20 ((upd f83_3 12 (((xs 4) >>> (24 &&& 31)) &&& 255))))) 93 [some (vR 80), some (vI (xs 1)), some (vI (xs 2)), some (vI (xs 3)), some (vI (xs 4)), some (vI (xs 5)), some (vI 0), some (vI 24)] [] _
  rw [← eG5]
  obtain ⟨f83_4, h83⟩ : ∃ g : Nat → Int32, G5[83]? = some (ab_if 20 (g)) := ⟨_, h83⟩
  refine ab_aload_n d_MO_feed_93 rfl ?_
  refine ab_getf (fs := (m_fv (vI 0) (vI 0) (vI 0) (vI 0) (vI 0) (vI 0) (vI 0) (vI 0) (vI 0) (vI 0) (vI 0) (vI 0) (vI (-1)) (vI 0) (vI 0) (vI 0) (vI 0) (vI 0) (vI 0) (vI 0) (vI 0) (vI 0) (vI 0) (vI 0) (vI 0) (vI 0) (vI 0) (vI 0) (vI 0) (vI 0) (vI 0) (vI 0) (vI 0) (vI 0) (vI 0))) f_MO_16 d_MO_feed_94 h80 rfl ?_
  refine ab_bipush (v := 16) d_MO_feed_97 (by decide) ?_
  refine ab_iload d_MO_feed_99 rfl ?_
  refine ab_iadd d_MO_feed_101 ?_
  refine ab_topi (y := 16) (by decide) ?_
  refine ab_iload d_MO_feed_102 rfl ?_
  refine ab_iload d_MO_feed_104 rfl ?_
  refine ab_ishr d_MO_feed_106 ?_
  refine ab_sipush (v := 255) d_MO_feed_107 (by decide) ?_
  refine ab_iand d_MO_feed_110 ?_
  refine ab_iast d_MO_feed_111 h83 (by unfold vp_in; decide) (by decide) ?_
  obtain ⟨G6, eG6⟩ : ∃ z : ab_G, z = List.set G5 83 (ab_if 20 ((upd f83_4 16 (((xs 5) >>> (24 &&& 31)) &&& 255)))) := ⟨_, rfl⟩
  have h80 := ab_keep eG6 (by decide) h80
  have hlen := ab_klen eG6 hlen
  have hsl := ab_ksl 20 eG6 h83 rfl rfl hsl
  have hfr := hfr.wr eG6 (by decide)
  have h83 := ab_kept eG6 h83
  change ab_W _ _ _ (List.set G5 83 (ab_if 20 ((upd f83_4 16 (((xs 5) >>> (24 &&& 31)) &&& 255))))) 112 [some (vR 80), some (vI (xs 1)), some (vI (xs 2)), some (vI (xs 3)), some (vI (xs 4)), some (vI (xs 5)), some (vI 0), some (vI 24)] [] _
  rw [← eG6]
  obtain ⟨f83_5, h83⟩ : ∃ g : Nat → Int32, G6[83]? = some (ab_if 20 (g)) := ⟨_, h83⟩
  refine ab_iinc (v := 1) d_MO_feed_112 rfl (by decide) (Nat.le_of_ble_eq_true rfl) (Nat.le_of_ble_eq_true rfl) rfl ?_
  change ab_W _ _ _ G6 115 [some (vR 80), some (vI (xs 1)), some (vI (xs 2)), some (vI (xs 3)), some (vI (xs 4)), some (vI (xs 5)), some (vI 1), some (vI 24)] [] _
  refine ab_goto (tgt := 8) d_MO_feed_115 (by decide) ?_
  refine ab_iload d_MO_feed_8 rfl ?_
  refine ab_iconst (v := 4) d_MO_feed_10 (by decide) ?_
  refine ab_icmp_ge (tgt := 118) d_MO_feed_11 (by decide) (fun c => absurd c (by decide)) (fun _ => ?_)
  refine ab_bipush (v := 24) d_MO_feed_14 (by decide) ?_
  refine ab_bipush (v := 8) d_MO_feed_16 (by decide) ?_
  refine ab_iload d_MO_feed_18 rfl ?_
  refine ab_imul d_MO_feed_20 ?_
  refine ab_topi (y := 8) (by decide) ?_
  refine ab_isub d_MO_feed_21 ?_
  refine ab_topi (y := 16) (by decide) ?_
  refine ab_istore d_MO_feed_22 (Nat.le_of_ble_eq_true rfl) (Nat.le_of_ble_eq_true rfl) rfl ?_
  change ab_W _ _ _ G6 24 [some (vR 80), some (vI (xs 1)), some (vI (xs 2)), some (vI (xs 3)), some (vI (xs 4)), some (vI (xs 5)), some (vI 1), some (vI 16)] [] _
  refine ab_aload_n d_MO_feed_24 rfl ?_
  refine ab_getf (fs := (m_fv (vI 0) (vI 0) (vI 0) (vI 0) (vI 0) (vI 0) (vI 0) (vI 0) (vI 0) (vI 0) (vI 0) (vI 0) (vI (-1)) (vI 0) (vI 0) (vI 0) (vI 0) (vI 0) (vI 0) (vI 0) (vI 0) (vI 0) (vI 0) (vI 0) (vI 0) (vI 0) (vI 0) (vI 0) (vI 0) (vI 0) (vI 0) (vI 0) (vI 0) (vI 0) (vI 0))) f_MO_16 d_MO_feed_25 h80 rfl ?_
  refine ab_iload d_MO_feed_28 rfl ?_
  refine ab_iload_n d_MO_feed_30 rfl ?_
  refine ab_iload d_MO_feed_31 rfl ?_
  refine ab_ishr d_MO_feed_33 ?_
  refine ab_sipush (v := 255) d_MO_feed_34 (by decide) ?_
  refine ab_iand d_MO_feed_37 ?_
  refine ab_iast d_MO_feed_38 h83 (by unfold vp_in; decide) (by decide) ?_
  obtain ⟨G7, eG7⟩ : ∃ z : ab_G, z = List.set G6 83 (ab_if 20 ((upd f83_5 1 (((xs 1) >>> (16 &&& 31)) &&& 255)))) := ⟨_, rfl⟩
  have h80 := ab_keep eG7 (by decide) h80
  have hlen := ab_klen eG7 hlen
  have hsl := ab_ksl 20 eG7 h83 rfl rfl hsl
  have hfr := hfr.wr eG7 (by decide)
  have h83 := ab_kept eG7 h83
  change ab_W _ _ _ (List.set G6 83 (ab_if 20 ((upd f83_5 1 (((xs 1) >>> (16 &&& 31)) &&& 255))))) 39 [some (vR 80), some (vI (xs 1)), some (vI (xs 2)), some (vI (xs 3)), some (vI (xs 4)), some (vI (xs 5)), some (vI 1), some (vI 16)] [] _
  rw [← eG7]
  obtain ⟨f83_6, h83⟩ : ∃ g : Nat → Int32, G7[83]? = some (ab_if 20 (g)) := ⟨_, h83⟩
  refine ab_aload_n d_MO_feed_39 rfl ?_
  refine ab_getf (fs := (m_fv (vI 0) (vI 0) (vI 0) (vI 0) (vI 0) (vI 0) (vI 0) (vI 0) (vI 0) (vI 0) (vI 0) (vI 0) (vI (-1)) (vI 0) (vI 0) (vI 0) (vI 0) (vI 0) (vI 0) (vI 0) (vI 0) (vI 0) (vI 0) (vI 0) (vI 0) (vI 0) (vI 0) (vI 0) (vI 0) (vI 0) (vI 0) (vI 0) (vI 0) (vI 0) (vI 0))) f_MO_16 d_MO_feed_40 h80 rfl ?_
  refine ab_iconst (v := 4) d_MO_feed_43 (by decide) ?_
  refine ab_iload d_MO_feed_44 rfl ?_
  refine ab_iadd d_MO_feed_46 ?_
  refine ab_topi (y := 5) (by decide) ?_
  refine ab_iload_n d_MO_feed_47 rfl ?_
  refine ab_iload d_MO_feed_48 rfl ?_
  refine ab_ishr d_MO_feed_50 ?_
  refine ab_sipush (v := 255) d_MO_feed_51 (by decide) ?_
  refine ab_iand d_MO_feed_54 ?_
  refine ab_iast d_MO_feed_55 h83 (by unfold vp_in; decide) (by decide) ?_
  obtain ⟨G8, eG8⟩ : ∃ z : ab_G, z = List.set G7 83 (ab_if 20 ((upd f83_6 5 (((xs 2) >>> (16 &&& 31)) &&& 255)))) := ⟨_, rfl⟩
  have h80 := ab_keep eG8 (by decide) h80
  have hlen := ab_klen eG8 hlen
  have hsl := ab_ksl 20 eG8 h83 rfl rfl hsl
  have hfr := hfr.wr eG8 (by decide)
  have h83 := ab_kept eG8 h83
  change ab_W _ _ _ (List.set G7 83 (ab_if 20 ((upd f83_6 5 (((xs 2) >>> (16 &&& 31)) &&& 255))))) 56 [some (vR 80), some (vI (xs 1)), some (vI (xs 2)), some (vI (xs 3)), some (vI (xs 4)), some (vI (xs 5)), some (vI 1), some (vI 16)] [] _
  rw [← eG8]
  obtain ⟨f83_7, h83⟩ : ∃ g : Nat → Int32, G8[83]? = some (ab_if 20 (g)) := ⟨_, h83⟩
  refine ab_aload_n d_MO_feed_56 rfl ?_
  refine ab_getf (fs := (m_fv (vI 0) (vI 0) (vI 0) (vI 0) (vI 0) (vI 0) (vI 0) (vI 0) (vI 0) (vI 0) (vI 0) (vI 0) (vI (-1)) (vI 0) (vI 0) (vI 0) (vI 0) (vI 0) (vI 0) (vI 0) (vI 0) (vI 0) (vI 0) (vI 0) (vI 0) (vI 0) (vI 0) (vI 0) (vI 0) (vI 0) (vI 0) (vI 0) (vI 0) (vI 0) (vI 0))) f_MO_16 d_MO_feed_57 h80 rfl ?_
  refine ab_bipush (v := 8) d_MO_feed_60 (by decide) ?_
  refine ab_iload d_MO_feed_62 rfl ?_
  refine ab_iadd d_MO_feed_64 ?_
  refine ab_topi (y := 9) (by decide) ?_
  refine ab_iload_n d_MO_feed_65 rfl ?_
  refine ab_iload d_MO_feed_66 rfl ?_
  refine ab_ishr d_MO_feed_68 ?_
  refine ab_sipush (v := 255) d_MO_feed_69 (by decide) ?_
  refine ab_iand d_MO_feed_72 ?_
  refine ab_iast d_MO_feed_73 h83 (by unfold vp_in; decide) (by decide) ?_
  obtain ⟨G9, eG9⟩ : ∃ z : ab_G, z = List.set G8 83 (ab_if 20 ((upd f83_7 9 (((xs 3) >>> (16 &&& 31)) &&& 255)))) := ⟨_, rfl⟩
  have h80 := ab_keep eG9 (by decide) h80
  have hlen := ab_klen eG9 hlen
  have hsl := ab_ksl 20 eG9 h83 rfl rfl hsl
  have hfr := hfr.wr eG9 (by decide)
  have h83 := ab_kept eG9 h83
  change ab_W _ _ _ (List.set G8 83 (ab_if 20 ((upd f83_7 9 (((xs 3) >>> (16 &&& 31)) &&& 255))))) 74 [some (vR 80), some (vI (xs 1)), some (vI (xs 2)), some (vI (xs 3)), some (vI (xs 4)), some (vI (xs 5)), some (vI 1), some (vI 16)] [] _
  rw [← eG9]
  obtain ⟨f83_8, h83⟩ : ∃ g : Nat → Int32, G9[83]? = some (ab_if 20 (g)) := ⟨_, h83⟩
  refine ab_aload_n d_MO_feed_74 rfl ?_
  refine ab_getf (fs := (m_fv (vI 0) (vI 0) (vI 0) (vI 0) (vI 0) (vI 0) (vI 0) (vI 0) (vI 0) (vI 0) (vI 0) (vI 0) (vI (-1)) (vI 0) (vI 0) (vI 0) (vI 0) (vI 0) (vI 0) (vI 0) (vI 0) (vI 0) (vI 0) (vI 0) (vI 0) (vI 0) (vI 0) (vI 0) (vI 0) (vI 0) (vI 0) (vI 0) (vI 0) (vI 0) (vI 0))) f_MO_16 d_MO_feed_75 h80 rfl ?_
  refine ab_bipush (v := 12) d_MO_feed_78 (by decide) ?_
  refine ab_iload d_MO_feed_80 rfl ?_
  refine ab_iadd d_MO_feed_82 ?_
  refine ab_topi (y := 13) (by decide) ?_
  refine ab_iload d_MO_feed_83 rfl ?_
  refine ab_iload d_MO_feed_85 rfl ?_
  refine ab_ishr d_MO_feed_87 ?_
  refine ab_sipush (v := 255) d_MO_feed_88 (by decide) ?_
  refine ab_iand d_MO_feed_91 ?_
  refine ab_iast d_MO_feed_92 h83 (by unfold vp_in; decide) (by decide) ?_
  obtain ⟨G10, eG10⟩ : ∃ z : ab_G, z = List.set G9 83 (ab_if 20 ((upd f83_8 13 (((xs 4) >>> (16 &&& 31)) &&& 255)))) := ⟨_, rfl⟩
  have h80 := ab_keep eG10 (by decide) h80
  have hlen := ab_klen eG10 hlen
  have hsl := ab_ksl 20 eG10 h83 rfl rfl hsl
  have hfr := hfr.wr eG10 (by decide)
  have h83 := ab_kept eG10 h83
  change ab_W _ _ _ (List.set G9 83 (ab_if 20 ((upd f83_8 13 (((xs 4) >>> (16 &&& 31)) &&& 255))))) 93 [some (vR 80), some (vI (xs 1)), some (vI (xs 2)), some (vI (xs 3)), some (vI (xs 4)), some (vI (xs 5)), some (vI 1), some (vI 16)] [] _
  rw [← eG10]
  obtain ⟨f83_9, h83⟩ : ∃ g : Nat → Int32, G10[83]? = some (ab_if 20 (g)) := ⟨_, h83⟩
  refine ab_aload_n d_MO_feed_93 rfl ?_
  refine ab_getf (fs := (m_fv (vI 0) (vI 0) (vI 0) (vI 0) (vI 0) (vI 0) (vI 0) (vI 0) (vI 0) (vI 0) (vI 0) (vI 0) (vI (-1)) (vI 0) (vI 0) (vI 0) (vI 0) (vI 0) (vI 0) (vI 0) (vI 0) (vI 0) (vI 0) (vI 0) (vI 0) (vI 0) (vI 0) (vI 0) (vI 0) (vI 0) (vI 0) (vI 0) (vI 0) (vI 0) (vI 0))) f_MO_16 d_MO_feed_94 h80 rfl ?_
  refine ab_bipush (v := 16) d_MO_feed_97 (by decide) ?_
  refine ab_iload d_MO_feed_99 rfl ?_
  refine ab_iadd d_MO_feed_101 ?_
  refine ab_topi (y := 17) (by decide) ?_
  refine ab_iload d_MO_feed_102 rfl ?_
  refine ab_iload d_MO_feed_104 rfl ?_
  refine ab_ishr d_MO_feed_106 ?_
  refine ab_sipush (v := 255) d_MO_feed_107 (by decide) ?_
  refine ab_iand d_MO_feed_110 ?_
  refine ab_iast d_MO_feed_111 h83 (by unfold vp_in; decide) (by decide) ?_
  obtain ⟨G11, eG11⟩ : ∃ z : ab_G, z = List.set G10 83 (ab_if 20 ((upd f83_9 17 (((xs 5) >>> (16 &&& 31)) &&& 255)))) := ⟨_, rfl⟩
  have h80 := ab_keep eG11 (by decide) h80
  have hlen := ab_klen eG11 hlen
  have hsl := ab_ksl 20 eG11 h83 rfl rfl hsl
  have hfr := hfr.wr eG11 (by decide)
  have h83 := ab_kept eG11 h83
  change ab_W _ _ _ (List.set G10 83 (ab_if 20 ((upd f83_9 17 (((xs 5) >>> (16 &&& 31)) &&& 255))))) 112 [some (vR 80), some (vI (xs 1)), some (vI (xs 2)), some (vI (xs 3)), some (vI (xs 4)), some (vI (xs 5)), some (vI 1), some (vI 16)] [] _
  rw [← eG11]
  obtain ⟨f83_10, h83⟩ : ∃ g : Nat → Int32, G11[83]? = some (ab_if 20 (g)) := ⟨_, h83⟩
  refine ab_iinc (v := 2) d_MO_feed_112 rfl (by decide) (Nat.le_of_ble_eq_true rfl) (Nat.le_of_ble_eq_true rfl) rfl ?_
  change ab_W _ _ _ G11 115 [some (vR 80), some (vI (xs 1)), some (vI (xs 2)), some (vI (xs 3)), some (vI (xs 4)), some (vI (xs 5)), some (vI 2), some (vI 16)] [] _
  refine ab_goto (tgt := 8) d_MO_feed_115 (by decide) ?_
  refine ab_iload d_MO_feed_8 rfl ?_
  refine ab_iconst (v := 4) d_MO_feed_10 (by decide) ?_
  refine ab_icmp_ge (tgt := 118) d_MO_feed_11 (by decide) (fun c => absurd c (by decide)) (fun _ => ?_)
  refine ab_bipush (v := 24) d_MO_feed_14 (by decide) ?_
  refine ab_bipush (v := 8) d_MO_feed_16 (by decide) ?_
  refine ab_iload d_MO_feed_18 rfl ?_
  refine ab_imul d_MO_feed_20 ?_
  refine ab_topi (y := 16) (by decide) ?_
  refine ab_isub d_MO_feed_21 ?_
  refine ab_topi (y := 8) (by decide) ?_
  refine ab_istore d_MO_feed_22 (Nat.le_of_ble_eq_true rfl) (Nat.le_of_ble_eq_true rfl) rfl ?_
  change ab_W _ _ _ G11 24 [some (vR 80), some (vI (xs 1)), some (vI (xs 2)), some (vI (xs 3)), some (vI (xs 4)), some (vI (xs 5)), some (vI 2), some (vI 8)] [] _
  refine ab_aload_n d_MO_feed_24 rfl ?_
  refine ab_getf (fs := (m_fv (vI 0) (vI 0) (vI 0) (vI 0) (vI 0) (vI 0) (vI 0) (vI 0) (vI 0) (vI 0) (vI 0) (vI 0) (vI (-1)) (vI 0) (vI 0) (vI 0) (vI 0) (vI 0) (vI 0) (vI 0) (vI 0) (vI 0) (vI 0) (vI 0) (vI 0) (vI 0) (vI 0) (vI 0) (vI 0) (vI 0) (vI 0) (vI 0) (vI 0) (vI 0) (vI 0))) f_MO_16 d_MO_feed_25 h80 rfl ?_
  refine ab_iload d_MO_feed_28 rfl ?_
  refine ab_iload_n d_MO_feed_30 rfl ?_
  refine ab_iload d_MO_feed_31 rfl ?_
  refine ab_ishr d_MO_feed_33 ?_
  refine ab_sipush (v := 255) d_MO_feed_34 (by decide) ?_
  refine ab_iand d_MO_feed_37 ?_
  refine ab_iast d_MO_feed_38 h83 (by unfold vp_in; decide) (by decide) ?_
  obtain ⟨G12, eG12⟩ : ∃ z : ab_G, z = List.set G11 83 (ab_if 20 ((upd f83_10 2 (((xs 1) >>> (8 &&& 31)) &&& 255)))) := ⟨_, rfl⟩
  have h80 := ab_keep eG12 (by decide) h80
  have hlen := ab_klen eG12 hlen
  have hsl := ab_ksl 20 eG12 h83 rfl rfl hsl
  have hfr := hfr.wr eG12 (by decide)
  have h83 := ab_kept eG12 h83
  change ab_W _ _ _ (List.set G11 83 (ab_if 20 ((upd f83_10 2 (((xs 1) >>> (8 &&& 31)) &&& 255))))) 39 [some (vR 80), some (vI (xs 1)), some (vI (xs 2)), some (vI (xs 3)), some (vI (xs 4)), some (vI (xs 5)), some (vI 2), some (vI 8)] [] _
  rw [← eG12]
  obtain ⟨f83_11, h83⟩ : ∃ g : Nat → Int32, G12[83]? = some (ab_if 20 (g)) := ⟨_, h83⟩
  refine ab_aload_n d_MO_feed_39 rfl ?_
  refine ab_getf (fs := (m_fv (vI 0) (vI 0) (vI 0) (vI 0) (vI 0) (vI 0) (vI 0) (vI 0) (vI 0) (vI 0) (vI 0) (vI 0) (vI (-1)) (vI 0) (vI 0) (vI 0) (vI 0) (vI 0) (vI 0) (vI 0) (vI 0) (vI 0) (vI 0) (vI 0) (vI 0) (vI 0) (vI 0) (vI 0) (vI 0) (vI 0) (vI 0) (vI 0) (vI 0) (vI 0) (vI 0))) f_MO_16 d_MO_feed_40 h80 rfl ?_
  refine ab_iconst (v := 4) d_MO_feed_43 (by decide) ?_
  refine ab_iload d_MO_feed_44 rfl ?_
  refine ab_iadd d_MO_feed_46 ?_
  refine ab_topi (y := 6) (by decide) ?_
  refine ab_iload_n d_MO_feed_47 rfl ?_
  refine ab_iload d_MO_feed_48 rfl ?_
  refine ab_ishr d_MO_feed_50 ?_
  refine ab_sipush (v := 255) d_MO_feed_51 (by decide) ?_
  refine ab_iand d_MO_feed_54 ?_
  refine ab_iast d_MO_feed_55 h83 (by unfold vp_in; decide) (by decide) ?_
  obtain ⟨G13, eG13⟩ : ∃ z : ab_G, z = List.set G12 83 (ab_if 20 ((upd f83_11 6 (((xs 2) >>> (8 &&& 31)) &&& 255)))) := ⟨_, rfl⟩
  have h80 := ab_keep eG13 (by decide) h80
  have hlen := ab_klen eG13 hlen
  have hsl := ab_ksl 20 eG13 h83 rfl rfl hsl
  have hfr := hfr.wr eG13 (by decide)
  have h83 := ab_kept eG13 h83
  change ab_W _ _ _ (List.set G12 83 (ab_if 20 ((upd f83_11 6 (((xs 2) >>> (8 &&& 31)) &&& 255))))) 56 [some (vR 80), some (vI (xs 1)), some (vI (xs 2)), some (vI (xs 3)), some (vI (xs 4)), some (vI (xs 5)), some (vI 2), some (vI 8)] [] _
  rw [← eG13]
  obtain ⟨f83_12, h83⟩ : ∃ g : Nat → Int32, G13[83]? = some (ab_if 20 (g)) := ⟨_, h83⟩
  refine ab_aload_n d_MO_feed_56 rfl ?_
  refine ab_getf (fs := (m_fv (vI 0) (vI 0) (vI 0) (vI 0) (vI 0) (vI 0) (vI 0) (vI 0) (vI 0) (vI 0) (vI 0) (vI 0) (vI (-1)) (vI 0) (vI 0) (vI 0) (vI 0) (vI 0) (vI 0) (vI 0) (vI 0) (vI 0) (vI 0) (vI 0) (vI 0) (vI 0) (vI 0) (vI 0) (vI 0) (vI 0) (vI 0) (vI 0) (vI 0) (vI 0) (vI 0))) f_MO_16 d_MO_feed_57 h80 rfl ?_
  refine ab_bipush (v := 8) d_MO_feed_60 (by decide) ?_
  refine ab_iload d_MO_feed_62 rfl ?_
  refine ab_iadd d_MO_feed_64 ?_
  refine ab_topi (y := 10) (by decide) ?_
  refine ab_iload_n d_MO_feed_65 rfl ?_
  refine ab_iload d_MO_feed_66 rfl ?_
  refine ab_ishr d_MO_feed_68 ?_
  refine ab_sipush (v := 255) d_MO_feed_69 (by decide) ?_
  refine ab_iand d_MO_feed_72 ?_
  refine ab_iast d_MO_feed_73 h83 (by unfold vp_in; decide) (by decide) ?_
  obtain ⟨G14, eG14⟩ : ∃ z : ab_G, z = List.set G13 83 (ab_if 20 ((upd f83_12 10 (((xs 3) >>> (8 &&& 31)) &&& 255)))) := ⟨_, rfl⟩
  have h80 := ab_keep eG14 (by decide) h80
  have hlen := ab_klen eG14 hlen
  have hsl := ab_ksl 20 eG14 h83 rfl rfl hsl
  have hfr := hfr.wr eG14 (by decide)
  have h83 := ab_kept eG14 h83
  change ab_W _ _ _ (List.set G13 83 (ab_if 20 ((upd f83_12 10 (((xs 3) >>> (8 &&& 31)) &&& 255))))) 74 [some (vR 80), some (vI (xs 1)), some (vI (xs 2)), some (vI (xs 3)), some (vI (xs 4)), some (vI (xs 5)), some (vI 2), some (vI 8)] [] _
  rw [← eG14]
  obtain ⟨f83_13, h83⟩ : ∃ g : Nat → Int32, G14[83]? = some (ab_if 20 (g)) := ⟨_, h83⟩
  refine ab_aload_n d_MO_feed_74 rfl ?_
  refine ab_getf (fs := (m_fv (vI 0) (vI 0) (vI 0) (vI 0) (vI 0) (vI 0) (vI 0) (vI 0) (vI 0) (vI 0) (vI 0) (vI 0) (vI (-1)) (vI 0) (vI 0) (vI 0) (vI 0) (vI 0) (vI 0) (vI 0) (vI 0) (vI 0) (vI 0) (vI 0) (vI 0) (vI 0) (vI 0) (vI 0) (vI 0) (vI 0) (vI 0) (vI 0) (vI 0) (vI 0) (vI 0))) f_MO_16 d_MO_feed_75 h80 rfl ?_
  refine ab_bipush (v := 12) d_MO_feed_78 (by decide) ?_
  refine ab_iload d_MO_feed_80 rfl ?_
  refine ab_iadd d_MO_feed_82 ?_
  refine ab_topi (y := 14) (by decide) ?_
  refine ab_iload d_MO_feed_83 rfl ?_
  refine ab_iload d_MO_feed_85 rfl ?_
  refine ab_ishr d_MO_feed_87 ?_
  refine ab_sipush (v := 255) d_MO_feed_88 (by decide) ?_
  refine ab_iand d_MO_feed_91 ?_
  refine ab_iast d_MO_feed_92 h83 (by unfold vp_in; decide) (by decide) ?_
  obtain ⟨G15, eG15⟩ : ∃ z : ab_G, z = List.set G14 83 (ab_if 20 ((upd f83_13 14 (((xs 4) >>> (8 &&& 31)) &&& 255)))) := ⟨_, rfl⟩
  have h80 := ab_keep eG15 (by decide) h80
  have hlen := ab_klen eG15 hlen
  have hsl := ab_ksl 20 eG15 h83 rfl rfl hsl
  have hfr := hfr.wr eG15 (by decide)
  have h83 := ab_kept eG15 h83
  change ab_W _ _ _ (List.set G14 83 (ab_if 20 ((upd f83_13 14 (((xs 4) >>> (8 &&& 31)) &&& 255))))) 93 [some (vR 80), some (vI (xs 1)), some (vI (xs 2)), some (vI (xs 3)), some (vI (xs 4)), some (vI (xs 5)), some (vI 2), some (vI 8)] [] _
  rw [← eG15]
  obtain ⟨f83_14, h83⟩ : ∃ g : Nat → Int32, G15[83]? = some (ab_if 20 (g)) := ⟨_, h83⟩
  refine ab_aload_n d_MO_feed_93 rfl ?_
  refine ab_getf (fs := (m_fv (vI 0) (vI 0) (vI 0) (vI 0) (vI 0) (vI 0) (vI 0) (vI 0) (vI 0) (vI 0) (vI 0) (vI 0) (vI (-1)) (vI 0) (vI 0) (vI 0) (vI 0) (vI 0) (vI 0) (vI 0) (vI 0) (vI 0) (vI 0) (vI 0) (vI 0) (vI 0) (vI 0) (vI 0) (vI 0) (vI 0) (vI 0) (vI 0) (vI 0) (vI 0) (vI 0))) f_MO_16 d_MO_feed_94 h80 rfl ?_
  refine ab_bipush (v := 16) d_MO_feed_97 (by decide) ?_
  refine ab_iload d_MO_feed_99 rfl ?_
  refine ab_iadd d_MO_feed_101 ?_
  refine ab_topi (y := 18) (by decide) ?_
  refine ab_iload d_MO_feed_102 rfl ?_
  refine ab_iload d_MO_feed_104 rfl ?_
  refine ab_ishr d_MO_feed_106 ?_
  refine ab_sipush (v := 255) d_MO_feed_107 (by decide) ?_
  refine ab_iand d_MO_feed_110 ?_
  refine ab_iast d_MO_feed_111 h83 (by unfold vp_in; decide) (by decide) ?_
  obtain ⟨G16, eG16⟩ : ∃ z : ab_G, z = List.set G15 83 (ab_if 20 ((upd f83_14 18 (((xs 5) >>> (8 &&& 31)) &&& 255)))) := ⟨_, rfl⟩
  have h80 := ab_keep eG16 (by decide) h80
  have hlen := ab_klen eG16 hlen
  have hsl := ab_ksl 20 eG16 h83 rfl rfl hsl
  have hfr := hfr.wr eG16 (by decide)
  have h83 := ab_kept eG16 h83
  change ab_W _ _ _ (List.set G15 83 (ab_if 20 ((upd f83_14 18 (((xs 5) >>> (8 &&& 31)) &&& 255))))) 112 [some (vR 80), some (vI (xs 1)), some (vI (xs 2)), some (vI (xs 3)), some (vI (xs 4)), some (vI (xs 5)), some (vI 2), some (vI 8)] [] _
  rw [← eG16]
  obtain ⟨f83_15, h83⟩ : ∃ g : Nat → Int32, G16[83]? = some (ab_if 20 (g)) := ⟨_, h83⟩
  refine ab_iinc (v := 3) d_MO_feed_112 rfl (by decide) (Nat.le_of_ble_eq_true rfl) (Nat.le_of_ble_eq_true rfl) rfl ?_
  change ab_W _ _ _ G16 115 [some (vR 80), some (vI (xs 1)), some (vI (xs 2)), some (vI (xs 3)), some (vI (xs 4)), some (vI (xs 5)), some (vI 3), some (vI 8)] [] _
  refine ab_goto (tgt := 8) d_MO_feed_115 (by decide) ?_
  refine ab_iload d_MO_feed_8 rfl ?_
  refine ab_iconst (v := 4) d_MO_feed_10 (by decide) ?_
  refine ab_icmp_ge (tgt := 118) d_MO_feed_11 (by decide) (fun c => absurd c (by decide)) (fun _ => ?_)
  refine ab_bipush (v := 24) d_MO_feed_14 (by decide) ?_
  refine ab_bipush (v := 8) d_MO_feed_16 (by decide) ?_
  refine ab_iload d_MO_feed_18 rfl ?_
  refine ab_imul d_MO_feed_20 ?_
  refine ab_topi (y := 24) (by decide) ?_
  refine ab_isub d_MO_feed_21 ?_
  refine ab_topi (y := 0) (by decide) ?_
  refine ab_istore d_MO_feed_22 (Nat.le_of_ble_eq_true rfl) (Nat.le_of_ble_eq_true rfl) rfl ?_
  change ab_W _ _ _ G16 24 [some (vR 80), some (vI (xs 1)), some (vI (xs 2)), some (vI (xs 3)), some (vI (xs 4)), some (vI (xs 5)), some (vI 3), some (vI 0)] [] _
  refine ab_aload_n d_MO_feed_24 rfl ?_
  refine ab_getf (fs := (m_fv (vI 0) (vI 0) (vI 0) (vI 0) (vI 0) (vI 0) (vI 0) (vI 0) (vI 0) (vI 0) (vI 0) (vI 0) (vI (-1)) (vI 0) (vI 0) (vI 0) (vI 0) (vI 0) (vI 0) (vI 0) (vI 0) (vI 0) (vI 0) (vI 0) (vI 0) (vI 0) (vI 0) (vI 0) (vI 0) (vI 0) (vI 0) (vI 0) (vI 0) (vI 0) (vI 0))) f_MO_16 d_MO_feed_25 h80 rfl ?_
  refine ab_iload d_MO_feed_28 rfl ?_
  refine ab_iload_n d_MO_feed_30 rfl ?_
  refine ab_iload d_MO_feed_31 rfl ?_
  refine ab_ishr d_MO_feed_33 ?_
  refine ab_sipush (v := 255) d_MO_feed_34 (by decide) ?_
  refine ab_iand d_MO_feed_37 ?_
  refine ab_iast d_MO_feed_38 h83 (by unfold vp_in; decide) (by decide) ?_
  obtain ⟨G17, eG17⟩ : ∃ z : ab_G, z = List.set G16 83 (ab_if 20 ((upd f83_15 3 (((xs 1) >>> (0 &&& 31)) &&& 255)))) := ⟨_, rfl⟩
  have h80 := ab_keep eG17 (by decide) h80
  have hlen := ab_klen eG17 hlen
  have hsl := ab_ksl 20 eG17 h83 rfl rfl hsl
  have hfr := hfr.wr eG17 (by decide)
  have h83 := ab_kept eG17 h83
  change ab_W _ _ _ (List.set G16 83 (ab_if 20 ((upd f83_15 3 (((xs 1) >>> (0 &&& 31)) &&& 255))))) 39 [some (vR 80), some (vI (xs 1)), some (vI (xs 2)), some (vI (xs 3)), some (vI (xs 4)), some (vI (xs 5)), some (vI 3), some (vI 0)] [] _
  rw [← eG17]
  obtain ⟨f83_16, h83⟩ : ∃ g : Nat → Int32, G17[83]? = some (ab_if 20 (g)) := ⟨_, h83⟩
  refine ab_aload_n d_MO_feed_39 rfl ?_
  refine ab_getf (fs := (m_fv (vI 0) (vI 0) (vI 0) (vI 0) (vI 0) (vI 0) (vI 0) (vI 0) (vI 0) (vI 0) (vI 0) (vI 0) (vI (-1)) (vI 0) (vI 0) (vI 0) (vI 0) (vI 0) (vI 0) (vI 0) (vI 0) (vI 0) (vI 0) (vI 0) (vI 0) (vI 0) (vI 0) (vI 0) (vI 0) (vI 0) (vI 0) (vI 0) (vI 0) (vI 0) (vI 0))) f_MO_16 d_MO_feed_40 h80 rfl ?_
  refine ab_iconst (v := 4) d_MO_feed_43 (by decide) ?_
  refine ab_iload d_MO_feed_44 rfl ?_
  refine ab_iadd d_MO_feed_46 ?_
  refine ab_topi (y := 7) (by decide) ?_
  refine ab_iload_n d_MO_feed_47 rfl ?_
  refine ab_iload d_MO_feed_48 rfl ?_
  refine ab_ishr d_MO_feed_50 ?_
  refine ab_sipush (v := 255) d_MO_feed_51 (by decide) ?_
  refine ab_iand d_MO_feed_54 ?_
  refine ab_iast d_MO_feed_55 h83 (by unfold vp_in; decide) (by decide) ?_
  obtain ⟨G18, eG18⟩ : ∃ z : ab_G, z = List.set G17 83 (ab_if 20 ((upd f83_16 7 (((xs 2) >>> (0 &&& 31)) &&& 255)))) := ⟨_, rfl⟩
  have h80 := ab_keep eG18 (by decide) h80
  have hlen := ab_klen eG18 hlen
  have hsl := ab_ksl 20 eG18 h83 rfl rfl hsl
  have hfr := hfr.wr eG18 (by decide)
  have h83 := ab_kept eG18 h83
  change ab_W _ _ _ (List.set G17 83 (ab_if 20 ((upd f83_16 7 (((xs 2) >>> (0 &&& 31)) &&& 255))))) 56 [some (vR 80), some (vI (xs 1)), some (vI (xs 2)), some (vI (xs 3)), some (vI (xs 4)), some (vI (xs 5)), some (vI 3), some (vI 0)] [] _
  rw [← eG18]
  obtain ⟨f83_17, h83⟩ : ∃ g : Nat → Int32, G18[83]? = some (ab_if 20 (g)) := ⟨_, h83⟩
  refine ab_aload_n d_MO_feed_56 rfl ?_
  refine ab_getf (fs := (m_fv (vI 0) (vI 0) (vI 0) (vI 0) (vI 0) (vI 0) (vI 0) (vI 0) (vI 0) (vI 0) (vI 0) (vI 0) (vI (-1)) (vI 0) (vI 0) (vI 0) (vI 0) (vI 0) (vI 0) (vI 0) (vI 0) (vI 0) (vI 0) (vI 0) (vI 0) (vI 0) (vI 0) (vI 0) (vI 0) (vI 0) (vI 0) (vI 0) (vI 0) (vI 0) (vI 0))) f_MO_16 d_MO_feed_57 h80 rfl ?_
  refine ab_bipush (v := 8) d_MO_feed_60 (by decide) ?_
  refine ab_iload d_MO_feed_62 rfl ?_
  refine ab_iadd d_MO_feed_64 ?_
  refine ab_topi (y := 11) (by decide) ?_
  refine ab_iload_n d_MO_feed_65 rfl ?_
  refine ab_iload d_MO_feed_66 rfl ?_
  refine ab_ishr d_MO_feed_68 ?_
  refine ab_sipush (v := 255) d_MO_feed_69 (by decide) ?_
  refine ab_iand d_MO_feed_72 ?_
  refine ab_iast d_MO_feed_73 h83 (by unfold vp_in; decide) (by decide) ?_
  obtain ⟨G19, eG19⟩ : ∃ z : ab_G, z = List.set G18 83 (ab_if 20 ((upd f83_17 11 (((xs 3) >>> (0 &&& 31)) &&& 255)))) := ⟨_, rfl⟩
  have h80 := ab_keep eG19 (by decide) h80
  have hlen := ab_klen eG19 hlen
  have hsl := ab_ksl 20 eG19 h83 rfl rfl hsl
  have hfr := hfr.wr eG19 (by decide)
  have h83 := ab_kept eG19 h83
  change ab_W _ _ _ (List.set G18 83 (ab_if 20 ((upd f83_17 11 (((xs 3) >>> (0 &&& 31)) &&& 255))))) 74 [some (vR 80), some (vI (xs 1)), some (vI (xs 2)), some (vI (xs 3)), some (vI (xs 4)), some (vI (xs 5)), some (vI 3), some (vI 0)] [] _
  rw [← eG19]
  obtain ⟨f83_18, h83⟩ : ∃ g : Nat → Int32, G19[83]? = some (ab_if 20 (g)) := ⟨_, h83⟩
  refine ab_aload_n d_MO_feed_74 rfl ?_
  refine ab_getf (fs := (m_fv (vI 0) (vI 0) (vI 0) (vI 0) (vI 0) (vI 0) (vI 0) (vI 0) (vI 0) (vI 0) (vI 0) (vI 0) (vI (-1)) (vI 0) (vI 0) (vI 0) (vI 0) (vI 0) (vI 0) (vI 0) (vI 0) (vI 0) (vI 0) (vI 0) (vI 0) (vI 0) (vI 0) (vI 0) (vI 0) (vI 0) (vI 0) (vI 0) (vI 0) (vI 0) (vI 0))) f_MO_16 d_MO_feed_75 h80 rfl ?_
  refine ab_bipush (v := 12) d_MO_feed_78 (by decide) ?_
  refine ab_iload d_MO_feed_80 rfl ?_
  refine ab_iadd d_MO_feed_82 ?_
  refine ab_topi (y := 15) (by decide) ?_
  refine ab_iload d_MO_feed_83 rfl ?_
  refine ab_iload d_MO_feed_85 rfl ?_
  refine ab_ishr d_MO_feed_87 ?_
  refine ab_sipush (v := 255) d_MO_feed_88 (by decide) ?_
  refine ab_iand d_MO_feed_91 ?_
  refine ab_iast d_MO_feed_92 h83 (by unfold vp_in; decide) (by decide) ?_
  obtain ⟨G20, eG20⟩ : ∃ z : ab_G, z = List.set G19 83 (ab_if 20 ((upd f83_18 15 (((xs 4) >>> (0 &&& 31)) &&& 255)))) := ⟨_, rfl⟩
  have h80 := ab_keep eG20 (by decide) h80
  have hlen := ab_klen eG20 hlen
  have hsl := ab_ksl 20 eG20 h83 rfl rfl hsl
  have hfr := hfr.wr eG20 (by decide)
  have h83 := ab_kept eG20 h83
  change ab_W _ _ _ (List.set G19 83 (ab_if 20 ((upd f83_18 15 (((xs 4) >>> (0 &&& 31)) &&& 255))))) 93 [some (vR 80), some (vI (xs 1)), some (vI (xs 2)), some (vI (xs 3)), some (vI (xs 4)), some (vI (xs 5)), some (vI 3), some (vI 0)] [] _
  rw [← eG20]
  obtain ⟨f83_19, h83⟩ : ∃ g : Nat → Int32, G20[83]? = some (ab_if 20 (g)) := ⟨_, h83⟩
  refine ab_aload_n d_MO_feed_93 rfl ?_
  refine ab_getf (fs := (m_fv (vI 0) (vI 0) (vI 0) (vI 0) (vI 0) (vI 0) (vI 0) (vI 0) (vI 0) (vI 0) (vI 0) (vI 0) (vI (-1)) (vI 0) (vI 0) (vI 0) (vI 0) (vI 0) (vI 0) (vI 0) (vI 0) (vI 0) (vI 0) (vI 0) (vI 0) (vI 0) (vI 0) (vI 0) (vI 0) (vI 0) (vI 0) (vI 0) (vI 0) (vI 0) (vI 0))) f_MO_16 d_MO_feed_94 h80 rfl ?_
  refine ab_bipush (v := 16) d_MO_feed_97 (by decide) ?_
  refine ab_iload d_MO_feed_99 rfl ?_
  refine ab_iadd d_MO_feed_101 ?_
  refine ab_topi (y := 19) (by decide) ?_
  refine ab_iload d_MO_feed_102 rfl ?_
  refine ab_iload d_MO_feed_104 rfl ?_
  refine ab_ishr d_MO_feed_106 ?_
  refine ab_sipush (v := 255) d_MO_feed_107 (by decide) ?_
  refine ab_iand d_MO_feed_110 ?_
  refine ab_iast d_MO_feed_111 h83 (by unfold vp_in; decide) (by decide) ?_
  obtain ⟨G21, eG21⟩ : ∃ z : ab_G, z = List.set G20 83 (ab_if 20 ((upd f83_19 19 (((xs 5) >>> (0 &&& 31)) &&& 255)))) := ⟨_, rfl⟩
  have h80 := ab_keep eG21 (by decide) h80
  have hlen := ab_klen eG21 hlen
  have hsl := ab_ksl 20 eG21 h83 rfl rfl hsl
  have hfr := hfr.wr eG21 (by decide)
  have h83 := ab_kept eG21 h83
  change ab_W _ _ _ (List.set G20 83 (ab_if 20 ((upd f83_19 19 (((xs 5) >>> (0 &&& 31)) &&& 255))))) 112 [some (vR 80), some (vI (xs 1)), some (vI (xs 2)), some (vI (xs 3)), some (vI (xs 4)), some (vI (xs 5)), some (vI 3), some (vI 0)] [] _
  rw [← eG21]
  obtain ⟨f83_20, h83⟩ : ∃ g : Nat → Int32, G21[83]? = some (ab_if 20 (g)) := ⟨_, h83⟩
  refine ab_iinc (v := 4) d_MO_feed_112 rfl (by decide) (Nat.le_of_ble_eq_true rfl) (Nat.le_of_ble_eq_true rfl) rfl ?_
  change ab_W _ _ _ G21 115 [some (vR 80), some (vI (xs 1)), some (vI (xs 2)), some (vI (xs 3)), some (vI (xs 4)), some (vI (xs 5)), some (vI 4), some (vI 0)] [] _
  refine ab_goto (tgt := 8) d_MO_feed_115 (by decide) ?_
  refine ab_iload d_MO_feed_8 rfl ?_
  refine ab_iconst (v := 4) d_MO_feed_10 (by decide) ?_
  refine ab_icmp_ge (tgt := 118) d_MO_feed_11 (by decide) (fun _ => ?_) (fun c => absurd c (by decide))
  exact ab_vret rfl d_MO_feed_118 (by rw [hQ]; exact ⟨rfl, hfr, hlen, hsl, h80, ⟨_, h83⟩⟩)
set_option maxRecDepth 100000 in
set_option maxHeartbeats 4000000 in
theorem lc_0 {X : ab_X} {d : Nat} {G : ab_G} {xs : Nat → Int32} (hlen : G.length = 149) (hsl : ab_slots G = 1890753) (h0 : G[0]? = some (ab_if 6 (xs))) (h18 : G[18]? = some (ab_ob 0 [vR 19, vR 20, vR 22, vR 30, vR 31, vR 36, vR 37, vR 46, vR 51, vR 60, vR 69, vR 70, vR 72, vR 74, vR 76, vR 78, vI 0, vI 0])) (h19 : G[19]? = some (ab_if 20 ((fun _ => 0)))) (h80 : G[80]? = some (ab_ob 12 (m_fv (vI 0) (vI 0) (vI 0) (vI 0) (vI 0) (vI 0) (vI 0) (vI 0) (vI 0) (vI 0) (vI 0) (vI 0) (vI (-1)) (vI 0) (vI 0) (vI 0) (vI 0) (vI 0) (vI 0) (vI 0) (vI 0) (vI 0) (vI 0) (vI 0) (vI 0) (vI 0) (vI 0) (vI 0) (vI 0) (vI 0) (vI 0) (vI 0) (vI 0) (vI 0) (vI 0)))) (h83 : G[83]? = some (ab_if 20 ((fun _ => 0)))) (hd : 2 ≤ d) : ab_W X ab_LW d G 132 [some (vR 0), some (vR 18), some (vR 80), some (vR 148), some (vI 0), none, none] [] (fun o _ => o = .returned (some (vI 1))) := by
  obtain ⟨Q, hQ⟩ : ∃ z : Outcome → ab_G → Prop, z = (fun o _ => o = .returned (some (vI 1))) := ⟨_, rfl⟩
  rw [← hQ]
  have hfr : ab_fr [19, 80, 83] G G := ab_fr.rf
  refine ab_aload_n d_LA_law_132 rfl ?_
  refine ab_aload_n d_LA_law_133 rfl ?_
  refine ab_iload d_LA_law_134 rfl ?_
  refine ab_iconst (v := 1) d_LA_law_136 (by decide) ?_
  refine ab_iadd d_LA_law_137 ?_
  refine ab_topi (y := 1) (by decide) ?_
  refine ab_iald d_LA_law_138 h0 (by unfold vp_in; decide) ?_
  refine ab_topi (y := (xs 1)) rfl ?_
  refine ab_aload_n d_LA_law_139 rfl ?_
  refine ab_iload d_LA_law_140 rfl ?_
  refine ab_iconst (v := 2) d_LA_law_142 (by decide) ?_
  refine ab_iadd d_LA_law_143 ?_
  refine ab_topi (y := 2) (by decide) ?_
  refine ab_iald d_LA_law_144 h0 (by unfold vp_in; decide) ?_
  refine ab_topi (y := (xs 2)) rfl ?_
  refine ab_aload_n d_LA_law_145 rfl ?_
  refine ab_iload d_LA_law_146 rfl ?_
  refine ab_iconst (v := 3) d_LA_law_148 (by decide) ?_
  refine ab_iadd d_LA_law_149 ?_
  refine ab_topi (y := 3) (by decide) ?_
  refine ab_iald d_LA_law_150 h0 (by unfold vp_in; decide) ?_
  refine ab_topi (y := (xs 3)) rfl ?_
  refine ab_aload_n d_LA_law_151 rfl ?_
  refine ab_iload d_LA_law_152 rfl ?_
  refine ab_iconst (v := 4) d_LA_law_154 (by decide) ?_
  refine ab_iadd d_LA_law_155 ?_
  refine ab_topi (y := 4) (by decide) ?_
  refine ab_iald d_LA_law_156 h0 (by unfold vp_in; decide) ?_
  refine ab_topi (y := (xs 4)) rfl ?_
  refine ab_aload_n d_LA_law_157 rfl ?_
  refine ab_iload d_LA_law_158 rfl ?_
  refine ab_iconst (v := 5) d_LA_law_160 (by decide) ?_
  refine ab_iadd d_LA_law_161 ?_
  refine ab_topi (y := 5) (by decide) ?_
  refine ab_iald d_LA_law_162 h0 (by unfold vp_in; decide) ?_
  refine ab_topi (y := (xs 5)) rfl ?_
  refine ab_callV (d' := d - 1) (as := [vI (xs 1), vI (xs 2), vI (xs 3), vI (xs 4), vI (xs 5)]) (st := []) (r := _) (q_PW_feed_0 (xs := xs) hlen hsl h18 h19 (by omega)) (fun o G2 h => ⟨_, h.1⟩) (by omega) m_PW_feed ml_LA_37 im_PW_feed se_PW_feed c_PW h18 (Nat.le_of_ble_eq_true rfl) d_LA_law_163 rfl ?_
  intro v G1 hq
  obtain ⟨hv, hfk, hlen, hsl, ⟨f19_1, h19⟩⟩ := hq
  cases hv
  have h0 := hfk.get (by decide) h0
  have h18 := hfk.get (by decide) h18
  have h80 := hfk.get (by decide) h80
  have h83 := hfk.get (by decide) h83
  have hfr := hfr.cl hfk (by decide)
  change ab_W _ _ _ G1 166 [some (vR 0), some (vR 18), some (vR 80), some (vR 148), some (vI 0), none, none] [] _
  refine ab_aload_n d_LA_law_166 rfl ?_
  refine ab_aload_n d_LA_law_167 rfl ?_
  refine ab_iload d_LA_law_168 rfl ?_
  refine ab_iconst (v := 1) d_LA_law_170 (by decide) ?_
  refine ab_iadd d_LA_law_171 ?_
  refine ab_topi (y := 1) (by decide) ?_
  refine ab_iald d_LA_law_172 h0 (by unfold vp_in; decide) ?_
  refine ab_topi (y := (xs 1)) rfl ?_
  refine ab_aload_n d_LA_law_173 rfl ?_
  refine ab_iload d_LA_law_174 rfl ?_
  refine ab_iconst (v := 2) d_LA_law_176 (by decide) ?_
  refine ab_iadd d_LA_law_177 ?_
  refine ab_topi (y := 2) (by decide) ?_
  refine ab_iald d_LA_law_178 h0 (by unfold vp_in; decide) ?_
  refine ab_topi (y := (xs 2)) rfl ?_
  refine ab_aload_n d_LA_law_179 rfl ?_
  refine ab_iload d_LA_law_180 rfl ?_
  refine ab_iconst (v := 3) d_LA_law_182 (by decide) ?_
  refine ab_iadd d_LA_law_183 ?_
  refine ab_topi (y := 3) (by decide) ?_
  refine ab_iald d_LA_law_184 h0 (by unfold vp_in; decide) ?_
  refine ab_topi (y := (xs 3)) rfl ?_
  refine ab_aload_n d_LA_law_185 rfl ?_
  refine ab_iload d_LA_law_186 rfl ?_
  refine ab_iconst (v := 4) d_LA_law_188 (by decide) ?_
  refine ab_iadd d_LA_law_189 ?_
  refine ab_topi (y := 4) (by decide) ?_
  refine ab_iald d_LA_law_190 h0 (by unfold vp_in; decide) ?_
  refine ab_topi (y := (xs 4)) rfl ?_
  refine ab_aload_n d_LA_law_191 rfl ?_
  refine ab_iload d_LA_law_192 rfl ?_
  refine ab_iconst (v := 5) d_LA_law_194 (by decide) ?_
  refine ab_iadd d_LA_law_195 ?_
  refine ab_topi (y := 5) (by decide) ?_
  refine ab_iald d_LA_law_196 h0 (by unfold vp_in; decide) ?_
  refine ab_topi (y := (xs 5)) rfl ?_
  refine ab_callV (d' := d - 1) (as := [vI (xs 1), vI (xs 2), vI (xs 3), vI (xs 4), vI (xs 5)]) (st := []) (r := _) (q_MO_feed_0 (xs := xs) hlen hsl h80 h83) (fun o G2 h => ⟨_, h.1⟩) (by omega) m_MO_feed ml_LA_41 im_MO_feed se_MO_feed c_MO h80 (Nat.le_of_ble_eq_true rfl) d_LA_law_197 rfl ?_
  intro v G2 hq
  obtain ⟨hv, hfk, hlen, hsl, h80, ⟨f83_2, h83⟩⟩ := hq
  cases hv
  have h0 := hfk.get (by decide) h0
  have h18 := hfk.get (by decide) h18
  have h19 := hfk.get (by decide) h19
  have hfr := hfr.cl hfk (by decide)
  change ab_W _ _ _ G2 200 [some (vR 0), some (vR 18), some (vR 80), some (vR 148), some (vI 0), none, none] [] _
  refine ab_goto (tgt := 931) d_LA_law_200 (by decide) ?_
  refine ab_iinc (v := 6) d_LA_law_931 rfl (by decide) (Nat.le_of_ble_eq_true rfl) (Nat.le_of_ble_eq_true rfl) rfl ?_
  change ab_W _ _ _ G2 934 [some (vR 0), some (vR 18), some (vR 80), some (vR 148), some (vI 6), none, none] [] _
  refine ab_goto (tgt := 23) d_LA_law_934 (by decide) ?_
  refine ab_iload d_LA_law_23 rfl ?_
  refine ab_aload_n d_LA_law_25 rfl ?_
  refine ab_alen (v := 6) d_LA_law_26 h0 (by first | decide | rfl) ?_
  refine ab_bipush (v := 6) d_LA_law_27 (by decide) ?_
  refine ab_isub d_LA_law_29 ?_
  refine ab_topi (y := 0) (by decide) ?_
  refine ab_icmp_gt (tgt := 937) d_LA_law_30 (by decide) (fun _ => ?_) (fun c => absurd c (by decide))
  refine ab_iconst (v := 1) d_LA_law_937 (by decide) ?_
  exact ab_iret (rt := .boolean) rfl (by decide) d_LA_law_938 (by rw [hQ])
set_option maxRecDepth 100000 in
set_option maxHeartbeats 4000000 in
theorem q_PW_end_0 {X : ab_X} {d : Nat} {G : ab_G} {xs : Nat → Int32} (hlen : G.length = 149) (hsl : ab_slots G = 1890753) (c0 : (xs 1) < 0) : ab_F X d y_PW_end (.code y_PW_end b_PW_end 2 (some (.int))) [vR 18, vI (xs 1)] G (fun o G2 => o = .returned (some (vI (-1))) ∧ ab_fr [] G G2 ∧ G2.length = 149 ∧ ab_slots G2 = 1890753) := by
  refine ab_F_of (by decide +kernel) (Nat.le_of_ble_eq_true rfl) ?_
  obtain ⟨Q, hQ⟩ : ∃ z : Outcome → ab_G → Prop, z = (fun o G2 => o = .returned (some (vI (-1))) ∧ ab_fr [] G G2 ∧ G2.length = 149 ∧ ab_slots G2 = 1890753) := ⟨_, rfl⟩
  rw [← hQ]
  change ab_W X (ab_pl y_PW_end b_PW_end 2 (some (.int))) d G 0 [some (vR 18), some (vI (xs 1))] [] Q
  have hfr : ab_fr [] G G := ab_fr.rf
  refine ab_iload_n d_PW_end_0 rfl ?_
  refine ab_if_lt (tgt := 25) d_PW_end_1 (by decide) (fun c1 => ?_) (fun c1 => ?_)
  · refine ab_iconst (v := (-1)) d_PW_end_25 (by decide) ?_
    exact ab_iret (rt := .int) rfl rfl d_PW_end_26 (by rw [hQ]; exact ⟨rfl, hfr, hlen, hsl⟩)
  · exfalso; have l0 := (show (0 : Int32).toInt = 0 by decide); simp only [Int32.le_iff_toInt_le, Int32.lt_iff_toInt_lt, ← Int32.toInt_inj] at c0 c1; omega
