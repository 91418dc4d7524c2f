set_option maxRecDepth 100000 in
set_option maxHeartbeats 4000000 in
theorem s_MO_end_59_0 {X : ab_X} {d : Nat} {G : ab_G} {Q : Outcome → ab_G → Prop} {xs : Nat → Int32} (hlen : G.length = 149) (hsl : ab_slots G = 1890753) (h80 : G[80]? = some (ab_ob 12 (m_fv (vI 0) (vI 0) (vI 0) (vI 0) (vI 0) (vI 0) (vI 0) (vI 0) (vI 0) (vI 0) (vI 0) (vI 0) (vI (-1)) (vI 0) (vI 0) (vI 0) (vI 0) (vI 0) (vI 0) (vI 0) (vI 0) (vI 0) (vI 0) (vI 0) (vI 0) (vI 0) (vI 0) (vI 0) (vI 0) (vI 0) (vI 0) (vI 0) (vI 0) (vI 0) (vI 0)))) (h83 : G[83]? = some (ab_if 20 ((fun _ => 0)))) (hk : ∀ o G2, (o = .returned (some (vI (xs 1))) ∧ ab_fr [80, 83] G G2 ∧ G2.length = 149 ∧ ab_slots G2 = 1890753 ∧ G2[80]? = some (ab_ob 12 (m_fv (vI 0) (vI (xs 1)) (vI 0) (vI 0) (vI 0) (vI 0) (vI 0) (vI 0) (vI 0) (vI 0) (vI 0) (vI 0) (vI (-1)) (vI 0) (vI 0) (vI 0) (vI 0) (vI 0) (vI 0) (vI 0) (vI 0) (vI 0) (vI 0) (vI 0) (vI 0) (vI 0) (vI 0) (vI 0) (vI 0) (vI 0) (vI 0) (vI 0) (vI 0) (vI 0) (vI 0))) ∧ (∃ g : Nat → Int32, G2[83]? = some (ab_if 20 (g)))) → Q o G2) : ab_W X (ab_pl y_MO_end b_MO_end 3 (some (.int))) d G 59 [some (vR 80), some (vI (xs 1)), none] [] Q := by
  have hfr : ab_fr [80, 83] G G := ab_fr.rf
  refine ab_aload_n d_MO_end_59 rfl ?_
  refine ab_dup d_MO_end_60 rfl ?_
  refine ab_getf (fs := (m_fv (vI 0) (vI 0) (vI 0) (vI 0) (vI 0) (vI 0) (vI 0) (vI 0) (vI 0) (vI 0) (vI 0) (vI 0) (vI (-1)) (vI 0) (vI 0) (vI 0) (vI 0) (vI 0) (vI 0) (vI 0) (vI 0) (vI 0) (vI 0) (vI 0) (vI 0) (vI 0) (vI 0) (vI 0) (vI 0) (vI 0) (vI 0) (vI 0) (vI 0) (vI 0) (vI 0))) f_MO_223 d_MO_end_61 h80 rfl ?_
  refine ab_iload_n d_MO_end_64 rfl ?_
  refine ab_iadd d_MO_end_65 ?_
  refine ab_topi (y := (xs 1)) (Int32.zero_add _) ?_
  refine ab_putf (fs := (m_fv (vI 0) (vI 0) (vI 0) (vI 0) (vI 0) (vI 0) (vI 0) (vI 0) (vI 0) (vI 0) (vI 0) (vI 0) (vI (-1)) (vI 0) (vI 0) (vI 0) (vI 0) (vI 0) (vI 0) (vI 0) (vI 0) (vI 0) (vI 0) (vI 0) (vI 0) (vI 0) (vI 0) (vI 0) (vI 0) (vI 0) (vI 0) (vI 0) (vI 0) (vI 0) (vI 0))) f_MO_223 (Or.inl rfl) d_MO_end_66 h80 (Nat.le_of_ble_eq_true rfl) (fun _ => ⟨rfl, rfl⟩) (by decide) ?_
  obtain ⟨G1, eG1⟩ : ∃ z : ab_G, z = List.set G 80 (ab_ob 12 (m_fv (vI 0) (vI (xs 1)) (vI 0) (vI 0) (vI 0) (vI 0) (vI 0) (vI 0) (vI 0) (vI 0) (vI 0) (vI 0) (vI (-1)) (vI 0) (vI 0) (vI 0) (vI 0) (vI 0) (vI 0) (vI 0) (vI 0) (vI 0) (vI 0) (vI 0) (vI 0) (vI 0) (vI 0) (vI 0) (vI 0) (vI 0) (vI 0) (vI 0) (vI 0) (vI 0) (vI 0))) := ⟨_, rfl⟩
  have h83 := ab_keep eG1 (by decide) h83
  have hlen := ab_klen eG1 hlen
  have hsl := ab_ksl 102 eG1 h80 rfl rfl hsl
  have hfr := hfr.wr eG1 (by decide)
  have h80 := ab_kept eG1 h80
  change ab_W _ _ _ (List.set G 80 (ab_ob 12 (m_fv (vI 0) (vI (xs 1)) (vI 0) (vI 0) (vI 0) (vI 0) (vI 0) (vI 0) (vI 0) (vI 0) (vI 0) (vI 0) (vI (-1)) (vI 0) (vI 0) (vI 0) (vI 0) (vI 0) (vI 0) (vI 0) (vI 0) (vI 0) (vI 0) (vI 0) (vI 0) (vI 0) (vI 0) (vI 0) (vI 0) (vI 0) (vI 0) (vI 0) (vI 0) (vI 0) (vI 0)))) 69 [some (vR 80), some (vI (xs 1)), none] [] _
  rw [← eG1]
  refine ab_iconst (v := 0) d_MO_end_69 (by decide) ?_
  refine ab_istore_n d_MO_end_70 (Nat.le_of_ble_eq_true rfl) (Nat.le_of_ble_eq_true rfl) rfl ?_
  change ab_W _ _ _ G1 71 [some (vR 80), some (vI (xs 1)), some (vI 0)] [] _
  refine ab_iload_n d_MO_end_71 rfl ?_
  refine ab_bipush (v := 20) d_MO_end_72 (by decide) ?_
  refine ab_icmp_ge (tgt := 90) d_MO_end_74 (by decide) (fun c => absurd c (by decide)) (fun _ => ?_)
  refine ab_aload_n d_MO_end_77 rfl ?_
  refine ab_getf (fs := (m_fv (vI 0) (vI (xs 1)) (vI 0) (vI 0) (vI 0) (vI 0) (vI 0) (vI 0) (vI 0) (vI 0) (vI 0) (vI 0) (vI (-1)) (vI 0) (vI 0) (vI 0) (vI 0) (vI 0) (vI 0) (vI 0) (vI 0) (vI 0) (vI 0) (vI 0) (vI 0) (vI 0) (vI 0) (vI 0) (vI 0) (vI 0) (vI 0) (vI 0) (vI 0) (vI 0) (vI 0))) f_MO_16 d_MO_end_78 h80 rfl ?_
  refine ab_iload_n d_MO_end_81 rfl ?_
  refine ab_iconst (v := 0) d_MO_end_82 (by decide) ?_
  refine ab_iast d_MO_end_83 h83 (by unfold vp_in; decide) (by decide) ?_
  obtain ⟨G2, eG2⟩ : ∃ z : ab_G, z = List.set G1 83 (ab_if 20 ((upd (fun _ => 0) 0 0))) := ⟨_, rfl⟩
  have h80 := ab_keep eG2 (by decide) h80
  have hlen := ab_klen eG2 hlen
  have hsl := ab_ksl 20 eG2 h83 rfl rfl hsl
  have hfr := hfr.wr eG2 (by decide)
  have h83 := ab_kept eG2 h83
  change ab_W _ _ _ (List.set G1 83 (ab_if 20 ((upd (fun _ => 0) 0 0)))) 84 [some (vR 80), some (vI (xs 1)), some (vI 0)] [] _
  rw [← eG2]
  obtain ⟨f83_1, h83⟩ : ∃ g : Nat → Int32, G2[83]? = some (ab_if 20 (g)) := ⟨_, h83⟩
  refine ab_iinc (v := 1) d_MO_end_84 rfl (by decide) (Nat.le_of_ble_eq_true rfl) (Nat.le_of_ble_eq_true rfl) rfl ?_
  change ab_W _ _ _ G2 87 [some (vR 80), some (vI (xs 1)), some (vI 1)] [] _
  refine ab_goto (tgt := 71) d_MO_end_87 (by decide) ?_
  refine ab_iload_n d_MO_end_71 rfl ?_
  refine ab_bipush (v := 20) d_MO_end_72 (by decide) ?_
  refine ab_icmp_ge (tgt := 90) d_MO_end_74 (by decide) (fun c => absurd c (by decide)) (fun _ => ?_)
  refine ab_aload_n d_MO_end_77 rfl ?_
  refine ab_getf (fs := (m_fv (vI 0) (vI (xs 1)) (vI 0) (vI 0) (vI 0) (vI 0) (vI 0) (vI 0) (vI 0) (vI 0) (vI 0) (vI 0) (vI (-1)) (vI 0) (vI 0) (vI 0) (vI 0) (vI 0) (vI 0) (vI 0) (vI 0) (vI 0) (vI 0) (vI 0) (vI 0) (vI 0) (vI 0) (vI 0) (vI 0) (vI 0) (vI 0) (vI 0) (vI 0) (vI 0) (vI 0))) f_MO_16 d_MO_end_78 h80 rfl ?_
  refine ab_iload_n d_MO_end_81 rfl ?_
  refine ab_iconst (v := 0) d_MO_end_82 (by decide) ?_
  refine ab_iast d_MO_end_83 h83 (by unfold vp_in; decide) (by decide) ?_
  obtain ⟨G3, eG3⟩ : ∃ z : ab_G, z = List.set G2 83 (ab_if 20 ((upd f83_1 1 0))) := ⟨_, rfl⟩
  have h80 := ab_keep eG3 (by decide) h80
  have hlen := ab_klen eG3 hlen
  have hsl := ab_ksl 20 eG3 h83 rfl rfl hsl
  have hfr := hfr.wr eG3 (by decide)
  have h83 := ab_kept eG3 h83
  change ab_W _ _ _ (List.set G2 83 (ab_if 20 ((upd f83_1 1 0)))) 84 [some (vR 80), some (vI (xs 1)), some (vI 1)] [] _
  rw [← eG3]
  obtain ⟨f83_2, h83⟩ : ∃ g : Nat → Int32, G3[83]? = some (ab_if 20 (g)) := ⟨_, h83⟩
  refine ab_iinc (v := 2) d_MO_end_84 rfl (by decide) (Nat.le_of_ble_eq_true rfl) (Nat.le_of_ble_eq_true rfl) rfl ?_
  change ab_W _ _ _ G3 87 [some (vR 80), some (vI (xs 1)), some (vI 2)] [] _
  refine ab_goto (tgt := 71) d_MO_end_87 (by decide) ?_
  refine ab_iload_n d_MO_end_71 rfl ?_
  refine ab_bipush (v := 20) d_MO_end_72 (by decide) ?_
  refine ab_icmp_ge (tgt := 90) d_MO_end_74 (by decide) (fun c => absurd c (by decide)) (fun _ => ?_)
  refine ab_aload_n d_MO_end_77 rfl ?_
  refine ab_getf (fs := (m_fv (vI 0) (vI (xs 1)) (vI 0) (vI 0) (vI 0) (vI 0) (vI 0) (vI 0) (vI 0) (vI 0) (vI 0) (vI 0) (vI (-1)) (vI 0) (vI 0) (vI 0) (vI 0) (vI 0) (vI 0) (vI 0) (vI 0) (vI 0) (vI 0) (vI 0) (vI 0) (vI 0) (vI 0) (vI 0) (vI 0) (vI 0) (vI 0) (vI 0) (vI 0) (vI 0) (vI 0))) f_MO_16 d_MO_end_78 h80 rfl ?_
  refine ab_iload_n d_MO_end_81 rfl ?_
  refine ab_iconst (v := 0) d_MO_end_82 (by decide) ?_
  refine ab_iast d_MO_end_83 h83 (by unfold vp_in; decide) (by decide) ?_
  obtain ⟨G4, eG4⟩ : ∃ z : ab_G, z = List.set G3 83 (ab_if 20 ((upd f83_2 2 0))) := ⟨_, rfl⟩
  have h80 := ab_keep eG4 (by decide) h80
  have hlen := ab_klen eG4 hlen
  have hsl := ab_ksl 20 eG4 h83 rfl rfl hsl
  have hfr := hfr.wr eG4 (by decide)
  have h83 := ab_kept eG4 h83
  change ab_W _ _ _ (List.set G3 83 (ab_if 20 ((upd f83_2 2 0)))) 84 [some (vR 80), some (vI (xs 1)), some (vI 2)] [] _
  rw [← eG4]
  obtain ⟨f83_3, h83⟩ : ∃ g : Nat → Int32, G4[83]? = some (ab_if 20 (g)) := ⟨_, h83⟩
  refine ab_iinc (v := 3) d_MO_end_84 rfl (by decide) (Nat.le_of_ble_eq_true rfl) (Nat.le_of_ble_eq_true rfl) rfl ?_
  change ab_W _ _ _ G4 87 [some (vR 80), some (vI (xs 1)), some (vI 3)] [] _
  refine ab_goto (tgt := 71) d_MO_end_87 (by decide) ?_
  refine ab_iload_n d_MO_end_71 rfl ?_
  refine ab_bipush (v := 20) d_MO_end_72 (by decide) ?_
  refine ab_icmp_ge (tgt := 90) d_MO_end_74 (by decide) (fun c => absurd c (by decide)) (fun _ => ?_)
  refine ab_aload_n d_MO_end_77 rfl ?_
  refine ab_getf (fs := (m_fv (vI 0) (vI (xs 1)) (vI 0) (vI 0) (vI 0) (vI 0) (vI 0) (vI 0) (vI 0) (vI 0) (vI 0) (vI 0) (vI (-1)) (vI 0) (vI 0) (vI 0) (vI 0) (vI 0) (vI 0) (vI 0) (vI 0) (vI 0) (vI 0) (vI 0) (vI 0) (vI 0) (vI 0) (vI 0) (vI 0) (vI 0) (vI 0) (vI 0) (vI 0) (vI 0) (vI 0))) f_MO_16 d_MO_end_78 h80 rfl ?_
  refine ab_iload_n d_MO_end_81 rfl ?_
  refine ab_iconst (v := 0) d_MO_end_82 (by decide) ?_
  refine ab_iast d_MO_end_83 h83 (by unfold vp_in; decide) (by decide) ?_
  obtain ⟨G5, eG5⟩ : ∃ z : ab_G, z = List.set G4 83 (ab_if 20 ((upd f83_3 3 0))) := ⟨_, rfl⟩
  have h80 := ab_keep eG5 (by decide) h80
  have hlen := ab_klen eG5 hlen
  have hsl := ab_ksl 20 eG5 h83 rfl rfl hsl
  have hfr := hfr.wr eG5 (by decide)
  have h83 := ab_kept eG5 h83
  change ab_W _ _ _ (List.set G4 83 (ab_if 20 ((upd f83_3 3 0)))) 84 [some (vR 80), some (vI (xs 1)), some (vI 3)] [] _
  rw [← eG5]
  obtain ⟨f83_4, h83⟩ : ∃ g : Nat → Int32, G5[83]? = some (ab_if 20 (g)) := ⟨_, h83⟩
  refine ab_iinc (v := 4) d_MO_end_84 rfl (by decide) (Nat.le_of_ble_eq_true rfl) (Nat.le_of_ble_eq_true rfl) rfl ?_
  change ab_W _ _ _ G5 87 [some (vR 80), some (vI (xs 1)), some (vI 4)] [] _
  refine ab_goto (tgt := 71) d_MO_end_87 (by decide) ?_
  refine ab_iload_n d_MO_end_71 rfl ?_
  refine ab_bipush (v := 20) d_MO_end_72 (by decide) ?_
  refine ab_icmp_ge (tgt := 90) d_MO_end_74 (by decide) (fun c => absurd c (by decide)) (fun _ => ?_)
  refine ab_aload_n d_MO_end_77 rfl ?_
  refine ab_getf (fs := (m_fv (vI 0) (vI (xs 1)) (vI 0) (vI 0) (vI 0) (vI 0) (vI 0) (vI 0) (vI 0) (vI 0) (vI 0) (vI 0) (vI (-1)) (vI 0) (vI 0) (vI 0) (vI 0) (vI 0) (vI 0) (vI 0) (vI 0) (vI 0) (vI 0) (vI 0) (vI 0) (vI 0) (vI 0) (vI 0) (vI 0) (vI 0) (vI 0) (vI 0) (vI 0) (vI 0) (vI 0))) f_MO_16 d_MO_end_78 h80 rfl ?_
  refine ab_iload_n d_MO_end_81 rfl ?_
  refine ab_iconst (v := 0) d_MO_end_82 (by decide) ?_
  refine ab_iast d_MO_end_83 h83 (by unfold vp_in; decide) (by decide) ?_
  obtain ⟨G6, eG6⟩ : ∃ z : ab_G, z = List.set G5 83 (ab_if 20 ((upd f83_4 4 0))) := ⟨_, rfl⟩
  have h80 := ab_keep eG6 (by decide) h80
  have hlen := ab_klen eG6 hlen
  have hsl := ab_ksl 20 eG6 h83 rfl rfl hsl
  have hfr := hfr.wr eG6 (by decide)
  have h83 := ab_kept eG6 h83
  change ab_W _ _ _ (List.set G5 83 (ab_if 20 ((upd f83_4 4 0)))) 84 [some (vR 80), some (vI (xs 1)), some (vI 4)] [] _
  rw [← eG6]
  obtain ⟨f83_5, h83⟩ : ∃ g : Nat → Int32, G6[83]? = some (ab_if 20 (g)) := ⟨_, h83⟩
  refine ab_iinc (v := 5) d_MO_end_84 rfl (by decide) (Nat.le_of_ble_eq_true rfl) (Nat.le_of_ble_eq_true rfl) rfl ?_
  change ab_W _ _ _ G6 87 [some (vR 80), some (vI (xs 1)), some (vI 5)] [] _
  refine ab_goto (tgt := 71) d_MO_end_87 (by decide) ?_
  refine ab_iload_n d_MO_end_71 rfl ?_
  refine ab_bipush (v := 20) d_MO_end_72 (by decide) ?_
  refine ab_icmp_ge (tgt := 90) d_MO_end_74 (by decide) (fun c => absurd c (by decide)) (fun _ => ?_)
  refine ab_aload_n d_MO_end_77 rfl ?_
  refine ab_getf (fs := (m_fv (vI 0) (vI (xs 1)) (vI 0) (vI 0) (vI 0) (vI 0) (vI 0) (vI 0) (vI 0) (vI 0) (vI 0) (vI 0) (vI (-1)) (vI 0) (vI 0) (vI 0) (vI 0) (vI 0) (vI 0) (vI 0) (vI 0) (vI 0) (vI 0) (vI 0) (vI 0) (vI 0) (vI 0) (vI 0) (vI 0) (vI 0) (vI 0) (vI 0) (vI 0) (vI 0) (vI 0))) f_MO_16 d_MO_end_78 h80 rfl ?_
  refine ab_iload_n d_MO_end_81 rfl ?_
  refine ab_iconst (v := 0) d_MO_end_82 (by decide) ?_
  refine ab_iast d_MO_end_83 h83 (by unfold vp_in; decide) (by decide) ?_
  obtain ⟨G7, eG7⟩ : ∃ z : ab_G, z = List.set G6 83 (ab_if 20 ((upd f83_5 5 0))) := ⟨_, rfl⟩
  have h80 := ab_keep eG7 (by decide) h80
  have hlen := ab_klen eG7 hlen
  have hsl := ab_ksl 20 eG7 h83 rfl rfl hsl
  have hfr := hfr.wr eG7 (by decide)
  have h83 := ab_kept eG7 h83
  change ab_W _ _ _ (List.set G6 83 (ab_if 20 ((upd f83_5 5 0)))) 84 [some (vR 80), some (vI (xs 1)), some (vI 5)] [] _
  rw [← eG7]
  obtain ⟨f83_6, h83⟩ : ∃ g : Nat → Int32, G7[83]? = some (ab_if 20 (g)) := ⟨_, h83⟩
  refine ab_iinc (v := 6) d_MO_end_84 rfl (by decide) (Nat.le_of_ble_eq_true rfl) (Nat.le_of_ble_eq_true rfl) rfl ?_
  change ab_W _ _ _ G7 87 [some (vR 80), some (vI (xs 1)), some (vI 6)] [] _
  refine ab_goto (tgt := 71) d_MO_end_87 (by decide) ?_
  refine ab_iload_n d_MO_end_71 rfl ?_
  refine ab_bipush (v := 20) d_MO_end_72 (by decide) ?_
  refine ab_icmp_ge (tgt := 90) d_MO_end_74 (by decide) (fun c => absurd c (by decide)) (fun _ => ?_)
  refine ab_aload_n d_MO_end_77 rfl ?_
  refine ab_getf (fs := (m_fv (vI 0) (vI (xs 1)) (vI 0) (vI 0) (vI 0) (vI 0) (vI 0) (vI 0) (vI 0) (vI 0) (vI 0) (vI 0) (vI (-1)) (vI 0) (vI 0) (vI 0) (vI 0) (vI 0) (vI 0) (vI 0) (vI 0) (vI 0) (vI 0) (vI 0) (vI 0) (vI 0) (vI 0) (vI 0) (vI 0) (vI 0) (vI 0) (vI 0) (vI 0) (vI 0) (vI 0))) f_MO_16 d_MO_end_78 h80 rfl ?_
  refine ab_iload_n d_MO_end_81 rfl ?_
  refine ab_iconst (v := 0) d_MO_end_82 (by decide) ?_
  refine ab_iast d_MO_end_83 h83 (by unfold vp_in; decide) (by decide) ?_
  obtain ⟨G8, eG8⟩ : ∃ z : ab_G, z = List.set G7 83 (ab_if 20 ((upd f83_6 6 0))) := ⟨_, rfl⟩
  have h80 := ab_keep eG8 (by decide) h80
  have hlen := ab_klen eG8 hlen
  have hsl := ab_ksl 20 eG8 h83 rfl rfl hsl
  have hfr := hfr.wr eG8 (by decide)
  have h83 := ab_kept eG8 h83
  change ab_W _ _ _ (List.set G7 83 (ab_if 20 ((upd f83_6 6 0)))) 84 [some (vR 80), some (vI (xs 1)), some (vI 6)] [] _
  rw [← eG8]
  obtain ⟨f83_7, h83⟩ : ∃ g : Nat → Int32, G8[83]? = some (ab_if 20 (g)) := ⟨_, h83⟩
  refine ab_iinc (v := 7) d_MO_end_84 rfl (by decide) (Nat.le_of_ble_eq_true rfl) (Nat.le_of_ble_eq_true rfl) rfl ?_
  change ab_W _ _ _ G8 87 [some (vR 80), some (vI (xs 1)), some (vI 7)] [] _
  refine ab_goto (tgt := 71) d_MO_end_87 (by decide) ?_
  refine ab_iload_n d_MO_end_71 rfl ?_
  refine ab_bipush (v := 20) d_MO_end_72 (by decide) ?_
  refine ab_icmp_ge (tgt := 90) d_MO_end_74 (by decide) (fun c => absurd c (by decide)) (fun _ => ?_)
  refine ab_aload_n d_MO_end_77 rfl ?_
  refine ab_getf (fs := (m_fv (vI 0) (vI (xs 1)) (vI 0) (vI 0) (vI 0) (vI 0) (vI 0) (vI 0) (vI 0) (vI 0) (vI 0) (vI 0) (vI (-1)) (vI 0) (vI 0) (vI 0) (vI 0) (vI 0) (vI 0) (vI 0) (vI 0) (vI 0) (vI 0) (vI 0) (vI 0) (vI 0) (vI 0) (vI 0) (vI 0) (vI 0) (vI 0) (vI 0) (vI 0) (vI 0) (vI 0))) f_MO_16 d_MO_end_78 h80 rfl ?_
  refine ab_iload_n d_MO_end_81 rfl ?_
  refine ab_iconst (v := 0) d_MO_end_82 (by decide) ?_
  refine ab_iast d_MO_end_83 h83 (by unfold vp_in; decide) (by decide) ?_
  obtain ⟨G9, eG9⟩ : ∃ z : ab_G, z = List.set G8 83 (ab_if 20 ((upd f83_7 7 0))) := ⟨_, rfl⟩
  have h80 := ab_keep eG9 (by decide) h80
  have hlen := ab_klen eG9 hlen
  have hsl := ab_ksl 20 eG9 h83 rfl rfl hsl
  have hfr := hfr.wr eG9 (by decide)
  have h83 := ab_kept eG9 h83
  change ab_W _ _ _ (List.set G8 83 (ab_if 20 ((upd f83_7 7 0)))) 84 [some (vR 80), some (vI (xs 1)), some (vI 7)] [] _
  rw [← eG9]
  obtain ⟨f83_8, h83⟩ : ∃ g : Nat → Int32, G9[83]? = some (ab_if 20 (g)) := ⟨_, h83⟩
  refine ab_iinc (v := 8) d_MO_end_84 rfl (by decide) (Nat.le_of_ble_eq_true rfl) (Nat.le_of_ble_eq_true rfl) rfl ?_
  change ab_W _ _ _ G9 87 [some (vR 80), some (vI (xs 1)), some (vI 8)] [] _
  refine ab_goto (tgt := 71) d_MO_end_87 (by decide) ?_
  refine ab_iload_n d_MO_end_71 rfl ?_
  refine ab_bipush (v := 20) d_MO_end_72 (by decide) ?_
  refine ab_icmp_ge (tgt := 90) d_MO_end_74 (by decide) (fun c => absurd c (by decide)) (fun _ => ?_)
  refine ab_aload_n d_MO_end_77 rfl ?_
  refine ab_getf (fs := (m_fv (vI 0) (vI (xs 1)) (vI 0) (vI 0) (vI 0) (vI 0) (vI 0) (vI 0) (vI 0) (vI 0) (vI 0) (vI 0) (vI (-1)) (vI 0) (vI 0) (vI 0) (vI 0) (vI 0) (vI 0) (vI 0) (vI 0) (vI 0) (vI 0) (vI 0) (vI 0) (vI 0) (vI 0) (vI 0) (vI 0) (vI 0) (vI 0) (vI 0) (vI 0) (vI 0) (vI 0))) f_MO_16 d_MO_end_78 h80 rfl ?_
  refine ab_iload_n d_MO_end_81 rfl ?_
  refine ab_iconst (v := 0) d_MO_end_82 (by decide) ?_
  refine ab_iast d_MO_end_83 h83 (by unfold vp_in; decide) (by decide) ?_
  obtain ⟨G10, eG10⟩ : ∃ z : ab_G, z = List.set G9 83 (ab_if 20 ((upd f83_8 8 0))) := ⟨_, rfl⟩
  have h80 := ab_keep eG10 (by decide) h80
  have hlen := ab_klen eG10 hlen
  have hsl := ab_ksl 20 eG10 h83 rfl rfl hsl
  have hfr := hfr.wr eG10 (by decide)
  have h83 := ab_kept eG10 h83
  change ab_W _ _ _ (List.set G9 83 (ab_if 20 ((upd f83_8 8 0)))) 84 [some (vR 80), some (vI (xs 1)), some (vI 8)] [] _
  rw [← eG10]
  obtain ⟨f83_9, h83⟩ : ∃ g : Nat → Int32, G10[83]? = some (ab_if 20 (g)) := ⟨_, h83⟩
  refine ab_iinc (v := 9) d_MO_end_84 rfl (by decide) (Nat.le_of_ble_eq_true rfl) (Nat.le_of_ble_eq_true rfl) rfl ?_
  change ab_W _ _ _ G10 87 [some (vR 80), some (vI (xs 1)), some (vI 9)] [] _
  refine ab_goto (tgt := 71) d_MO_end_87 (by decide) ?_
  refine ab_iload_n d_MO_end_71 rfl ?_
  refine ab_bipush (v := 20) d_MO_end_72 (by decide) ?_
  refine ab_icmp_ge (tgt := 90) d_MO_end_74 (by decide) (fun c => absurd c (by decide)) (fun _ => ?_)
  refine ab_aload_n d_MO_end_77 rfl ?_
  refine ab_getf (fs := (m_fv (vI 0) (vI (xs 1)) (vI 0) (vI 0) (vI 0) (vI 0) (vI 0) (vI 0) (vI 0) (vI 0) (vI 0) (vI 0) (vI (-1)) (vI 0) (vI 0) (vI 0) (vI 0) (vI 0) (vI 0) (vI 0) (vI 0) (vI 0) (vI 0) (vI 0) (vI 0) (vI 0) (vI 0) (vI 0) (vI 0) (vI 0) (vI 0) (vI 0) (vI 0) (vI 0) (vI 0))) f_MO_16 d_MO_end_78 h80 rfl ?_
  refine ab_iload_n d_MO_end_81 rfl ?_
  refine ab_iconst (v := 0) d_MO_end_82 (by decide) ?_
  refine ab_iast d_MO_end_83 h83 (by unfold vp_in; decide) (by decide) ?_
  obtain ⟨G11, eG11⟩ : ∃ z : ab_G, z = List.set G10 83 (ab_if 20 ((upd f83_9 9 0))) := ⟨_, rfl⟩
  have h80 := ab_keep eG11 (by decide) h80
  have hlen := ab_klen eG11 hlen
  have hsl := ab_ksl 20 eG11 h83 rfl rfl hsl
  have hfr := hfr.wr eG11 (by decide)
  have h83 := ab_kept eG11 h83
  change ab_W _ _ _ (List.set G10 83 (ab_if 20 ((upd f83_9 9 0)))) 84 [some (vR 80), some (vI (xs 1)), some (vI 9)] [] _
  rw [← eG11]
  obtain ⟨f83_10, h83⟩ : ∃ g : Nat → Int32, G11[83]? = some (ab_if 20 (g)) := ⟨_, h83⟩
  refine ab_iinc (v := 10) d_MO_end_84 rfl (by decide) (Nat.le_of_ble_eq_true rfl) (Nat.le_of_ble_eq_true rfl) rfl ?_
  change ab_W _ _ _ G11 87 [some (vR 80), some (vI (xs 1)), some (vI 10)] [] _
  refine ab_goto (tgt := 71) d_MO_end_87 (by decide) ?_
  refine ab_iload_n d_MO_end_71 rfl ?_
  refine ab_bipush (v := 20) d_MO_end_72 (by decide) ?_
  refine ab_icmp_ge (tgt := 90) d_MO_end_74 (by decide) (fun c => absurd c (by decide)) (fun _ => ?_)
  refine ab_aload_n d_MO_end_77 rfl ?_
  refine ab_getf (fs := (m_fv (vI 0) (vI (xs 1)) (vI 0) (vI 0) (vI 0) (vI 0) (vI 0) (vI 0) (vI 0) (vI 0) (vI 0) (vI 0) (vI (-1)) (vI 0) (vI 0) (vI 0) (vI 0) (vI 0) (vI 0) (vI 0) (vI 0) (vI 0) (vI 0) (vI 0) (vI 0) (vI 0) (vI 0) (vI 0) (vI 0) (vI 0) (vI 0) (vI 0) (vI 0) (vI 0) (vI 0))) f_MO_16 d_MO_end_78 h80 rfl ?_
  refine ab_iload_n d_MO_end_81 rfl ?_
  refine ab_iconst (v := 0) d_MO_end_82 (by decide) ?_
  refine ab_iast d_MO_end_83 h83 (by unfold vp_in; decide) (by decide) ?_
  obtain ⟨G12, eG12⟩ : ∃ z : ab_G, z = List.set G11 83 (ab_if 20 ((upd f83_10 10 0))) := ⟨_, rfl⟩
  have h80 := ab_keep eG12 (by decide) h80
  have hlen := ab_klen eG12 hlen
  have hsl := ab_ksl 20 eG12 h83 rfl rfl hsl
  have hfr := hfr.wr eG12 (by decide)
  have h83 := ab_kept eG12 h83
  change ab_W _ _ _ (List.set G11 83 (ab_if 20 ((upd f83_10 10 0)))) 84 [some (vR 80), some (vI (xs 1)), some (vI 10)] [] _
  rw [← eG12]
  obtain ⟨f83_11, h83⟩ : ∃ g : Nat → Int32, G12[83]? = some (ab_if 20 (g)) := ⟨_, h83⟩
  refine ab_iinc (v := 11) d_MO_end_84 rfl (by decide) (Nat.le_of_ble_eq_true rfl) (Nat.le_of_ble_eq_true rfl) rfl ?_
  change ab_W _ _ _ G12 87 [some (vR 80), some (vI (xs 1)), some (vI 11)] [] _
  refine ab_goto (tgt := 71) d_MO_end_87 (by decide) ?_
  refine ab_iload_n d_MO_end_71 rfl ?_
  refine ab_bipush (v := 20) d_MO_end_72 (by decide) ?_
  refine ab_icmp_ge (tgt := 90) d_MO_end_74 (by decide) (fun c => absurd c (by decide)) (fun _ => ?_)
  refine ab_aload_n d_MO_end_77 rfl ?_
  refine ab_getf (fs := (m_fv (vI 0) (vI (xs 1)) (vI 0) (vI 0) (vI 0) (vI 0) (vI 0) (vI 0) (vI 0) (vI 0) (vI 0) (vI 0) (vI (-1)) (vI 0) (vI 0) (vI 0) (vI 0) (vI 0) (vI 0) (vI 0) (vI 0) (vI 0) (vI 0) (vI 0) (vI 0) (vI 0) (vI 0) (vI 0) (vI 0) (vI 0) (vI 0) (vI 0) (vI 0) (vI 0) (vI 0))) f_MO_16 d_MO_end_78 h80 rfl ?_
  refine ab_iload_n d_MO_end_81 rfl ?_
  refine ab_iconst (v := 0) d_MO_end_82 (by decide) ?_
  refine ab_iast d_MO_end_83 h83 (by unfold vp_in; decide) (by decide) ?_
  obtain ⟨G13, eG13⟩ : ∃ z : ab_G, z = List.set G12 83 (ab_if 20 ((upd f83_11 11 0))) := ⟨_, rfl⟩
  have h80 := ab_keep eG13 (by decide) h80
  have hlen := ab_klen eG13 hlen
  have hsl := ab_ksl 20 eG13 h83 rfl rfl hsl
  have hfr := hfr.wr eG13 (by decide)
  have h83 := ab_kept eG13 h83
  change ab_W _ _ _ (List.set G12 83 (ab_if 20 ((upd f83_11 11 0)))) 84 [some (vR 80), some (vI (xs 1)), some (vI 11)] [] _
  rw [← eG13]
  obtain ⟨f83_12, h83⟩ : ∃ g : Nat → Int32, G13[83]? = some (ab_if 20 (g)) := ⟨_, h83⟩
  refine ab_iinc (v := 12) d_MO_end_84 rfl (by decide) (Nat.le_of_ble_eq_true rfl) (Nat.le_of_ble_eq_true rfl) rfl ?_
  change ab_W _ _ _ G13 87 [some (vR 80), some (vI (xs 1)), some (vI 12)] [] _
  refine ab_goto (tgt := 71) d_MO_end_87 (by decide) ?_
  refine ab_iload_n d_MO_end_71 rfl ?_
  refine ab_bipush (v := 20) d_MO_end_72 (by decide) ?_
  refine ab_icmp_ge (tgt := 90) d_MO_end_74 (by decide) (fun c => absurd c (by decide)) (fun _ => ?_)
  refine ab_aload_n d_MO_end_77 rfl ?_
  refine ab_getf (fs := (m_fv (vI 0) (vI (xs 1)) (vI 0) (vI 0) (vI 0) (vI 0) (vI 0) (vI 0) (vI 0) (vI 0) (vI 0) (vI 0) (vI (-1)) (vI 0) (vI 0) (vI 0) (vI 0) (vI 0) (vI 0) (vI 0) (vI 0) (vI 0) (vI 0) (vI 0) (vI 0) (vI 0) (vI 0) (vI 0) (vI 0) (vI 0) (vI 0) (vI 0) (vI 0) (vI 0) (vI 0))) f_MO_16 d_MO_end_78 h80 rfl ?_
  refine ab_iload_n d_MO_end_81 rfl ?_
  refine ab_iconst (v := 0) d_MO_end_82 (by decide) ?_
  refine ab_iast d_MO_end_83 h83 (by unfold vp_in; decide) (by decide) ?_
  obtain ⟨G14, eG14⟩ : ∃ z : ab_G, z = List.set G13 83 (ab_if 20 ((upd f83_12 12 0))) := ⟨_, rfl⟩
  have h80 := ab_keep eG14 (by decide) h80
  have hlen := ab_klen eG14 hlen
  have hsl := ab_ksl 20 eG14 h83 rfl rfl hsl
  have hfr := hfr.wr eG14 (by decide)
  have h83 := ab_kept eG14 h83
  change ab_W _ _ _ (List.set G13 83 (ab_if 20 ((upd f83_12 12 0)))) 84 [some (vR 80), some (vI (xs 1)), some (vI 12)] [] _
  rw [← eG14]
  obtain ⟨f83_13, h83⟩ : ∃ g : Nat → Int32, G14[83]? = some (ab_if 20 (g)) := ⟨_, h83⟩
  refine ab_iinc (v := 13) d_MO_end_84 rfl (by decide) (Nat.le_of_ble_eq_true rfl) (Nat.le_of_ble_eq_true rfl) rfl ?_
  change ab_W _ _ _ G14 87 [some (vR 80), some (vI (xs 1)), some (vI 13)] [] _
  refine ab_goto (tgt := 71) d_MO_end_87 (by decide) ?_
  refine ab_iload_n d_MO_end_71 rfl ?_
  refine ab_bipush (v := 20) d_MO_end_72 (by decide) ?_
  refine ab_icmp_ge (tgt := 90) d_MO_end_74 (by decide) (fun c => absurd c (by decide)) (fun _ => ?_)
  refine ab_aload_n d_MO_end_77 rfl ?_
  refine ab_getf (fs := (m_fv (vI 0) (vI (xs 1)) (vI 0) (vI 0) (vI 0) (vI 0) (vI 0) (vI 0) (vI 0) (vI 0) (vI 0) (vI 0) (vI (-1)) (vI 0) (vI 0) (vI 0) (vI 0) (vI 0) (vI 0) (vI 0) (vI 0) (vI 0) (vI 0) (vI 0) (vI 0) (vI 0) (vI 0) (vI 0) (vI 0) (vI 0) (vI 0) (vI 0) (vI 0) (vI 0) (vI 0))) f_MO_16 d_MO_end_78 h80 rfl ?_
  refine ab_iload_n d_MO_end_81 rfl ?_
  refine ab_iconst (v := 0) d_MO_end_82 (by decide) ?_
  refine ab_iast d_MO_end_83 h83 (by unfold vp_in; decide) (by decide) ?_
  obtain ⟨G15, eG15⟩ : ∃ z : ab_G, z = List.set G14 83 (ab_if 20 ((upd f83_13 13 0))) := ⟨_, rfl⟩
  have h80 := ab_keep eG15 (by decide) h80
  have hlen := ab_klen eG15 hlen
  have hsl := ab_ksl 20 eG15 h83 rfl rfl hsl
  have hfr := hfr.wr eG15 (by decide)
  have h83 := ab_kept eG15 h83
  change ab_W _ _ _ (List.set G14 83 (ab_if 20 ((upd f83_13 13 0)))) 84 [some (vR 80), some (vI (xs 1)), some (vI 13)] [] _
  rw [← eG15]
  obtain ⟨f83_14, h83⟩ : ∃ g : Nat → Int32, G15[83]? = some (ab_if 20 (g)) := ⟨_, h83⟩
  refine ab_iinc (v := 14) d_MO_end_84 rfl (by decide) (Nat.le_of_ble_eq_true rfl) (Nat.le_of_ble_eq_true rfl) rfl ?_
  change ab_W _ _ _ G15 87 [some (vR 80), some (vI (xs 1)), some (vI 14)] [] _
  refine ab_goto (tgt := 71) d_MO_end_87 (by decide) ?_
  refine ab_iload_n d_MO_end_71 rfl ?_
  refine ab_bipush (v := 20) d_MO_end_72 (by decide) ?_
  refine ab_icmp_ge (tgt := 90) d_MO_end_74 (by decide) (fun c => absurd c (by decide)) (fun _ => ?_)
  refine ab_aload_n d_MO_end_77 rfl ?_
  refine ab_getf (fs := (m_fv (vI 0) (vI (xs 1)) (vI 0) (vI 0) (vI 0) (vI 0) (vI 0) (vI 0) (vI 0) (vI 0) (vI 0) (vI 0) (vI (-1)) (vI 0) (vI 0) (vI 0) (vI 0) (vI 0) (vI 0) (vI 0) (vI 0) (vI 0) (vI 0) (vI 0) (vI 0) (vI 0) (vI 0) (vI 0) (vI 0) (vI 0) (vI 0) (vI 0) (vI 0) (vI 0) (vI 0))) f_MO_16 d_MO_end_78 h80 rfl ?_
  refine ab_iload_n d_MO_end_81 rfl ?_
  refine ab_iconst (v := 0) d_MO_end_82 (by decide) ?_
  refine ab_iast d_MO_end_83 h83 (by unfold vp_in; decide) (by decide) ?_
  obtain ⟨G16, eG16⟩ : ∃ z : ab_G, z = List.set G15 83 (ab_if 20 ((upd f83_14 14 0))) := ⟨_, rfl⟩
  have h80 := ab_keep eG16 (by decide) h80
  have hlen := ab_klen eG16 hlen
  have hsl := ab_ksl 20 eG16 h83 rfl rfl hsl
  have hfr := hfr.wr eG16 (by decide)
  have h83 := ab_kept eG16 h83
  change ab_W _ _ _ (List.set G15 83 (ab_if 20 ((upd f83_14 14 0)))) 84 [some (vR 80), some (vI (xs 1)), some (vI 14)] [] _
  rw [← eG16]
  obtain ⟨f83_15, h83⟩ : ∃ g : Nat → Int32, G16[83]? = some (ab_if 20 (g)) := ⟨_, h83⟩
  refine ab_iinc (v := 15) d_MO_end_84 rfl (by decide) (Nat.le_of_ble_eq_true rfl) (Nat.le_of_ble_eq_true rfl) rfl ?_
  change ab_W _ _ _ G16 87 [some (vR 80), some (vI (xs 1)), some (vI 15)] [] _
  refine ab_goto (tgt := 71) d_MO_end_87 (by decide) ?_
  refine ab_iload_n d_MO_end_71 rfl ?_
  refine ab_bipush (v := 20) d_MO_end_72 (by decide) ?_
  refine ab_icmp_ge (tgt := 90) d_MO_end_74 (by decide) (fun c => absurd c (by decide)) (fun _ => ?_)
  refine ab_aload_n d_MO_end_77 rfl ?_
  refine ab_getf (fs := (m_fv (vI 0) (vI (xs 1)) (vI 0) (vI 0) (vI 0) (vI 0) (vI 0) (vI 0) (vI 0) (vI 0) (vI 0) (vI 0) (vI (-1)) (vI 0) (vI 0) (vI 0) (vI 0) (vI 0) (vI 0) (vI 0) (vI 0) (vI 0) (vI 0) (vI 0) (vI 0) (vI 0) (vI 0) (vI 0) (vI 0) (vI 0) (vI 0) (vI 0) (vI 0) (vI 0) (vI 0))) f_MO_16 d_MO_end_78 h80 rfl ?_
  refine ab_iload_n d_MO_end_81 rfl ?_
  refine ab_iconst (v := 0) d_MO_end_82 (by decide) ?_
  refine ab_iast d_MO_end_83 h83 (by unfold vp_in; decide) (by decide) ?_
  obtain ⟨G17, eG17⟩ : ∃ z : ab_G, z = List.set G16 83 (ab_if 20 ((upd f83_15 15 0))) := ⟨_, rfl⟩
  have h80 := ab_keep eG17 (by decide) h80
  have hlen := ab_klen eG17 hlen
  have hsl := ab_ksl 20 eG17 h83 rfl rfl hsl
  have hfr := hfr.wr eG17 (by decide)
  have h83 := ab_kept eG17 h83
  change ab_W _ _ _ (List.set G16 83 (ab_if 20 ((upd f83_15 15 0)))) 84 [some (vR 80), some (vI (xs 1)), some (vI 15)] [] _
  rw [← eG17]
  obtain ⟨f83_16, h83⟩ : ∃ g : Nat → Int32, G17[83]? = some (ab_if 20 (g)) := ⟨_, h83⟩
  refine ab_iinc (v := 16) d_MO_end_84 rfl (by decide) (Nat.le_of_ble_eq_true rfl) (Nat.le_of_ble_eq_true rfl) rfl ?_
  change ab_W _ _ _ G17 87 [some (vR 80), some (vI (xs 1)), some (vI 16)] [] _
  refine ab_goto (tgt := 71) d_MO_end_87 (by decide) ?_
  refine ab_iload_n d_MO_end_71 rfl ?_
  refine ab_bipush (v := 20) d_MO_end_72 (by decide) ?_
  refine ab_icmp_ge (tgt := 90) d_MO_end_74 (by decide) (fun c => absurd c (by decide)) (fun _ => ?_)
  refine ab_aload_n d_MO_end_77 rfl ?_
  refine ab_getf (fs := (m_fv (vI 0) (vI (xs 1)) (vI 0) (vI 0) (vI 0) (vI 0) (vI 0) (vI 0) (vI 0) (vI 0) (vI 0) (vI 0) (vI (-1)) (vI 0) (vI 0) (vI 0) (vI 0) (vI 0) (vI 0) (vI 0) (vI 0) (vI 0) (vI 0) (vI 0) (vI 0) (vI 0) (vI 0) (vI 0) (vI 0) (vI 0) (vI 0) (vI 0) (vI 0) (vI 0) (vI 0))) f_MO_16 d_MO_end_78 h80 rfl ?_
  refine ab_iload_n d_MO_end_81 rfl ?_
  refine ab_iconst (v := 0) d_MO_end_82 (by decide) ?_
  refine ab_iast d_MO_end_83 h83 (by unfold vp_in; decide) (by decide) ?_
  obtain ⟨G18, eG18⟩ : ∃ z : ab_G, z = List.set G17 83 (ab_if 20 ((upd f83_16 16 0))) := ⟨_, rfl⟩
  have h80 := ab_keep eG18 (by decide) h80
  have hlen := ab_klen eG18 hlen
  have hsl := ab_ksl 20 eG18 h83 rfl rfl hsl
  have hfr := hfr.wr eG18 (by decide)
  have h83 := ab_kept eG18 h83
  change ab_W _ _ _ (List.set G17 83 (ab_if 20 ((upd f83_16 16 0)))) 84 [some (vR 80), some (vI (xs 1)), some (vI 16)] [] _
  rw [← eG18]
  obtain ⟨f83_17, h83⟩ : ∃ g : Nat → Int32, G18[83]? = some (ab_if 20 (g)) := ⟨_, h83⟩
  refine ab_iinc (v := 17) d_MO_end_84 rfl (by decide) (Nat.le_of_ble_eq_true rfl) (Nat.le_of_ble_eq_true rfl) rfl ?_
  change ab_W _ _ _ G18 87 [some (vR 80), some (vI (xs 1)), some (vI 17)] [] _
  refine ab_goto (tgt := 71) d_MO_end_87 (by decide) ?_
  refine ab_iload_n d_MO_end_71 rfl ?_
  refine ab_bipush (v := 20) d_MO_end_72 (by decide) ?_
  refine ab_icmp_ge (tgt := 90) d_MO_end_74 (by decide) (fun c => absurd c (by decide)) (fun _ => ?_)
  refine ab_aload_n d_MO_end_77 rfl ?_
  refine ab_getf (fs := (m_fv (vI 0) (vI (xs 1)) (vI 0) (vI 0) (vI 0) (vI 0) (vI 0) (vI 0) (vI 0) (vI 0) (vI 0) (vI 0) (vI (-1)) (vI 0) (vI 0) (vI 0) (vI 0) (vI 0) (vI 0) (vI 0) (vI 0) (vI 0) (vI 0) (vI 0) (vI 0) (vI 0) (vI 0) (vI 0) (vI 0) (vI 0) (vI 0) (vI 0) (vI 0) (vI 0) (vI 0))) f_MO_16 d_MO_end_78 h80 rfl ?_
  refine ab_iload_n d_MO_end_81 rfl ?_
  refine ab_iconst (v := 0) d_MO_end_82 (by decide) ?_
  refine ab_iast d_MO_end_83 h83 (by unfold vp_in; decide) (by decide) ?_
  obtain ⟨G19, eG19⟩ : ∃ z : ab_G, z = List.set G18 83 (ab_if 20 ((upd f83_17 17 0))) := ⟨_, rfl⟩
  have h80 := ab_keep eG19 (by decide) h80
  have hlen := ab_klen eG19 hlen
  have hsl := ab_ksl 20 eG19 h83 rfl rfl hsl
  have hfr := hfr.wr eG19 (by decide)
  have h83 := ab_kept eG19 h83
  change ab_W _ _ _ (List.set G18 83 (ab_if 20 ((upd f83_17 17 0)))) 84 [some (vR 80), some (vI (xs 1)), some (vI 17)] [] _
  rw [← eG19]
  obtain ⟨f83_18, h83⟩ : ∃ g : Nat → Int32, G19[83]? = some (ab_if 20 (g)) := ⟨_, h83⟩
  refine ab_iinc (v := 18) d_MO_end_84 rfl (by decide) (Nat.le_of_ble_eq_true rfl) (Nat.le_of_ble_eq_true rfl) rfl ?_
  change ab_W _ _ _ G19 87 [some (vR 80), some (vI (xs 1)), some (vI 18)] [] _
  refine ab_goto (tgt := 71) d_MO_end_87 (by decide) ?_
  refine ab_iload_n d_MO_end_71 rfl ?_
  refine ab_bipush (v := 20) d_MO_end_72 (by decide) ?_
  refine ab_icmp_ge (tgt := 90) d_MO_end_74 (by decide) (fun c => absurd c (by decide)) (fun _ => ?_)
  refine ab_aload_n d_MO_end_77 rfl ?_
  refine ab_getf (fs := (m_fv (vI 0) (vI (xs 1)) (vI 0) (vI 0) (vI 0) (vI 0) (vI 0) (vI 0) (vI 0) (vI 0) (vI 0) (vI 0) (vI (-1)) (vI 0) (vI 0) (vI 0) (vI 0) (vI 0) (vI 0) (vI 0) (vI 0) (vI 0) (vI 0) (vI 0) (vI 0) (vI 0) (vI 0) (vI 0) (vI 0) (vI 0) (vI 0) (vI 0) (vI 0) (vI 0) (vI 0))) f_MO_16 d_MO_end_78 h80 rfl ?_
  refine ab_iload_n d_MO_end_81 rfl ?_
  refine ab_iconst (v := 0) d_MO_end_82 (by decide) ?_
  refine ab_iast d_MO_end_83 h83 (by unfold vp_in; decide) (by decide) ?_
  obtain ⟨G20, eG20⟩ : ∃ z : ab_G, z = List.set G19 83 (ab_if 20 ((upd f83_18 18 0))) := ⟨_, rfl⟩
  have h80 := ab_keep eG20 (by decide) h80
  have hlen := ab_klen eG20 hlen
  have hsl := ab_ksl 20 eG20 h83 rfl rfl hsl
  have hfr := hfr.wr eG20 (by decide)
  have h83 := ab_kept eG20 h83
  change ab_W _ _ _ (List.set G19 83 (ab_if 20 ((upd f83_18 18 0)))) 84 [some (vR 80), some (vI (xs 1)), some (vI 18)] [] _
  rw [← eG20]
  obtain ⟨f83_19, h83⟩ : ∃ g : Nat → Int32, G20[83]? = some (ab_if 20 (g)) := ⟨_, h83⟩
  refine ab_iinc (v := 19) d_MO_end_84 rfl (by decide) (Nat.le_of_ble_eq_true rfl) (Nat.le_of_ble_eq_true rfl) rfl ?_
  change ab_W _ _ _ G20 87 [some (vR 80), some (vI (xs 1)), some (vI 19)] [] _
  refine ab_goto (tgt := 71) d_MO_end_87 (by decide) ?_
  refine ab_iload_n d_MO_end_71 rfl ?_
  refine ab_bipush (v := 20) d_MO_end_72 (by decide) ?_
  refine ab_icmp_ge (tgt := 90) d_MO_end_74 (by decide) (fun c => absurd c (by decide)) (fun _ => ?_)
  refine ab_aload_n d_MO_end_77 rfl ?_
  refine ab_getf (fs := (m_fv (vI 0) (vI (xs 1)) (vI 0) (vI 0) (vI 0) (vI 0) (vI 0) (vI 0) (vI 0) (vI 0) (vI 0) (vI 0) (vI (-1)) (vI 0) (vI 0) (vI 0) (vI 0) (vI 0) (vI 0) (vI 0) (vI 0) (vI 0) (vI 0) (vI 0) (vI 0) (vI 0) (vI 0) (vI 0) (vI 0) (vI 0) (vI 0) (vI 0) (vI 0) (vI 0) (vI 0))) f_MO_16 d_MO_end_78 h80 rfl ?_
  refine ab_iload_n d_MO_end_81 rfl ?_
  refine ab_iconst (v := 0) d_MO_end_82 (by decide) ?_
  refine ab_iast d_MO_end_83 h83 (by unfold vp_in; decide) (by decide) ?_
  obtain ⟨G21, eG21⟩ : ∃ z : ab_G, z = List.set G20 83 (ab_if 20 ((upd f83_19 19 0))) := ⟨_, rfl⟩
  have h80 := ab_keep eG21 (by decide) h80
  have hlen := ab_klen eG21 hlen
  have hsl := ab_ksl 20 eG21 h83 rfl rfl hsl
  have hfr := hfr.wr eG21 (by decide)
  have h83 := ab_kept eG21 h83
  change ab_W _ _ _ (List.set G20 83 (ab_if 20 ((upd f83_19 19 0)))) 84 [some (vR 80), some (vI (xs 1)), some (vI 19)] [] _
  rw [← eG21]
  obtain ⟨f83_20, h83⟩ : ∃ g : Nat → Int32, G21[83]? = some (ab_if 20 (g)) := ⟨_, h83⟩
  refine ab_iinc (v := 20) d_MO_end_84 rfl (by decide) (Nat.le_of_ble_eq_true rfl) (Nat.le_of_ble_eq_true rfl) rfl ?_
  change ab_W _ _ _ G21 87 [some (vR 80), some (vI (xs 1)), some (vI 20)] [] _
  refine ab_goto (tgt := 71) d_MO_end_87 (by decide) ?_
  refine ab_iload_n d_MO_end_71 rfl ?_
  refine ab_bipush (v := 20) d_MO_end_72 (by decide) ?_
  refine ab_icmp_ge (tgt := 90) d_MO_end_74 (by decide) (fun _ => ?_) (fun c => absurd c (by decide))
  refine ab_aload_n d_MO_end_90 rfl ?_
  refine ab_getf (fs := (m_fv (vI 0) (vI (xs 1)) (vI 0) (vI 0) (vI 0) (vI 0) (vI 0) (vI 0) (vI 0) (vI 0) (vI 0) (vI 0) (vI (-1)) (vI 0) (vI 0) (vI 0) (vI 0) (vI 0) (vI 0) (vI 0) (vI 0) (vI 0) (vI 0) (vI 0) (vI 0) (vI 0) (vI 0) (vI 0) (vI 0) (vI 0) (vI 0) (vI 0) (vI 0) (vI 0) (vI 0))) f_MO_223 d_MO_end_91 h80 rfl ?_
  exact ab_iret (rt := .int) rfl rfl d_MO_end_94 (hk _ _ ⟨rfl, hfr, hlen, hsl, h80, ⟨_, h83⟩⟩)
set_option maxRecDepth 100000 in
set_option maxHeartbeats 4000000 in
theorem q_MO_end_1 {X : ab_X} {d : Nat} {G : ab_G} {xs : Nat → Int32} (hlen : G.length = 149) (hsl : ab_slots G = 1890753) (h80 : G[80]? = some (ab_ob 12 (m_fv (vI 0) (vI 0) (vI 0) (vI 0) (vI 0) (vI 0) (vI 0) (vI 0) (vI 0) (vI 0) (vI 0) (vI 0) (vI (-1)) (vI 0) (vI 0) (vI 0) (vI 0) (vI 0) (vI 0) (vI 0) (vI 0) (vI 0) (vI 0) (vI 0) (vI 0) (vI 0) (vI 0) (vI 0) (vI 0) (vI 0) (vI 0) (vI 0) (vI 0) (vI 0) (vI 0)))) (c0 : (xs 1) < 0) : ab_F X d y_MO_end (.code y_MO_end b_MO_end 3 (some (.int))) [vR 80, vI (xs 1)] G (fun o G2 => o = .returned (some (vI (-1))) ∧ ab_fr [80] G G2 ∧ G2.length = 149 ∧ ab_slots G2 = 1890753 ∧ G2[80]? = some (ab_ob 12 (m_fv (vI 0) (vI 0) (vI 0) (vI 0) (vI 0) (vI 0) (vI 0) (vI 0) (vI 0) (vI 0) (vI 0) (vI 0) (vI (-1)) (vI 0) (vI 0) (vI 0) (vI 0) (vI 0) (vI 0) (vI 0) (vI 0) (vI 0) (vI 0) (vI 0) (vI 0) (vI 0) (vI 0) (vI 0) (vI 0) (vI 0) (vI 0) (vI 0) (vI 0) (vI 0) (vI 0)))) := by
  refine ab_F_of (by decide +kernel) (Nat.le_of_ble_eq_true rfl) ?_
  obtain ⟨Q, hQ⟩ : ∃ z : Outcome → ab_G → Prop, z = (fun o G2 => o = .returned (some (vI (-1))) ∧ ab_fr [80] G G2 ∧ G2.length = 149 ∧ ab_slots G2 = 1890753 ∧ G2[80]? = some (ab_ob 12 (m_fv (vI 0) (vI 0) (vI 0) (vI 0) (vI 0) (vI 0) (vI 0) (vI 0) (vI 0) (vI 0) (vI 0) (vI 0) (vI (-1)) (vI 0) (vI 0) (vI 0) (vI 0) (vI 0) (vI 0) (vI 0) (vI 0) (vI 0) (vI 0) (vI 0) (vI 0) (vI 0) (vI 0) (vI 0) (vI 0) (vI 0) (vI 0) (vI 0) (vI 0) (vI 0) (vI 0)))) := ⟨_, rfl⟩
  rw [← hQ]
  change ab_W X (ab_pl y_MO_end b_MO_end 3 (some (.int))) d G 0 [some (vR 80), some (vI (xs 1)), none] [] Q
  have hfr : ab_fr [80] G G := ab_fr.rf
  refine ab_aload_n d_MO_end_0 rfl ?_
  refine ab_iconst (v := 0) d_MO_end_1 (by decide) ?_
  refine ab_putf (fs := (m_fv (vI 0) (vI 0) (vI 0) (vI 0) (vI 0) (vI 0) (vI 0) (vI 0) (vI 0) (vI 0) (vI 0) (vI 0) (vI (-1)) (vI 0) (vI 0) (vI 0) (vI 0) (vI 0) (vI 0) (vI 0) (vI 0) (vI 0) (vI 0) (vI 0) (vI 0) (vI 0) (vI 0) (vI 0) (vI 0) (vI 0) (vI 0) (vI 0) (vI 0) (vI 0) (vI 0))) f_MO_220 (Or.inl rfl) d_MO_end_2 h80 (Nat.le_of_ble_eq_true rfl) (fun _ => ⟨rfl, rfl⟩) (by decide) ?_
  obtain ⟨G1, eG1⟩ : ∃ z : ab_G, z = List.set G 80 (ab_ob 12 (m_fv (vI 0) (vI 0) (vI 0) (vI 0) (vI 0) (vI 0) (vI 0) (vI 0) (vI 0) (vI 0) (vI 0) (vI 0) (vI (-1)) (vI 0) (vI 0) (vI 0) (vI 0) (vI 0) (vI 0) (vI 0) (vI 0) (vI 0) (vI 0) (vI 0) (vI 0) (vI 0) (vI 0) (vI 0) (vI 0) (vI 0) (vI 0) (vI 0) (vI 0) (vI 0) (vI 0))) := ⟨_, rfl⟩
  have hlen := ab_klen eG1 hlen
  have hsl := ab_ksl 102 eG1 h80 rfl rfl hsl
  have hfr := hfr.wr eG1 (by decide)
  have h80 := ab_kept eG1 h80
  change ab_W _ _ _ (List.set G 80 (ab_ob 12 (m_fv (vI 0) (vI 0) (vI 0) (vI 0) (vI 0) (vI 0) (vI 0) (vI 0) (vI 0) (vI 0) (vI 0) (vI 0) (vI (-1)) (vI 0) (vI 0) (vI 0) (vI 0) (vI 0) (vI 0) (vI 0) (vI 0) (vI 0) (vI 0) (vI 0) (vI 0) (vI 0) (vI 0) (vI 0) (vI 0) (vI 0) (vI 0) (vI 0) (vI 0) (vI 0) (vI 0)))) 5 [some (vR 80), some (vI (xs 1)), none] [] _
  rw [← eG1]
  refine ab_iload_n d_MO_end_5 rfl ?_
  refine ab_if_lt (tgt := 27) d_MO_end_6 (by decide) (fun c1 => ?_) (fun c1 => ?_)
  · refine ab_iconst (v := (-1)) d_MO_end_27 (by decide) ?_
    exact ab_iret (rt := .int) rfl rfl d_MO_end_28 (by rw [hQ]; exact ⟨rfl, hfr, hlen, hsl, h80⟩)
  · exfalso; have l0 := (show (0 : Int32).toInt = 0 by decide); simp only [Int32.le_iff_toInt_le, Int32.lt_iff_toInt_lt, ← Int32.toInt_inj] at c0 c1; omega
set_option maxRecDepth 100000 in
set_option maxHeartbeats 4000000 in
theorem lc_1a {X : ab_X} {d : Nat} {G : ab_G} {xs : Nat → Int32} (hlen : G.length = 149) (hsl : ab_slots G = 1890753) (h0 : G[0]? = some (ab_if 6 (xs))) (h18 : G[18]? = some (ab_ob 0 [vR 19, vR 20, vR 22, vR 30, vR 31, vR 36, vR 37, vR 46, vR 51, vR 60, vR 69, vR 70, vR 72, vR 74, vR 76, vR 78, vI 0, vI 0])) (h80 : G[80]? = some (ab_ob 12 (m_fv (vI 0) (vI 0) (vI 0) (vI 0) (vI 0) (vI 0) (vI 0) (vI 0) (vI 0) (vI 0) (vI 0) (vI 0) (vI (-1)) (vI 0) (vI 0) (vI 0) (vI 0) (vI 0) (vI 0) (vI 0) (vI 0) (vI 0) (vI 0) (vI 0) (vI 0) (vI 0) (vI 0) (vI 0) (vI 0) (vI 0) (vI 0) (vI 0) (vI 0) (vI 0) (vI 0)))) (c0 : (xs 1) < 0) (hd : 1 ≤ d) : ab_W X ab_LW d G 203 [some (vR 0), some (vR 18), some (vR 80), some (vR 148), some (vI 0), none, none] [] (fun o _ => o = .returned (some (vI 1))) := by
  obtain ⟨Q, hQ⟩ : ∃ z : Outcome → ab_G → Prop, z = (fun o _ => o = .returned (some (vI 1))) := ⟨_, rfl⟩
  rw [← hQ]
  have hfr : ab_fr [80] G G := ab_fr.rf
  refine ab_aload_n d_LA_law_203 rfl ?_
  refine ab_aload_n d_LA_law_204 rfl ?_
  refine ab_iload d_LA_law_205 rfl ?_
  refine ab_iconst (v := 1) d_LA_law_207 (by decide) ?_
  refine ab_iadd d_LA_law_208 ?_
  refine ab_topi (y := 1) (by decide) ?_
  refine ab_iald d_LA_law_209 h0 (by unfold vp_in; decide) ?_
  refine ab_topi (y := (xs 1)) rfl ?_
  refine ab_callV (d' := d - 1) (as := [vI (xs 1)]) (st := []) (r := _) (q_PW_end_0 (xs := xs) hlen hsl c0) (fun o G2 h => ⟨_, h.1⟩) (by omega) m_PW_end ml_LA_42 im_PW_end se_PW_end c_PW h18 (Nat.le_of_ble_eq_true rfl) d_LA_law_210 rfl ?_
  intro v G1 hq
  obtain ⟨hv, hfk, hlen, hsl⟩ := hq
  cases hv
  have h0 := hfk.get (by decide) h0
  have h18 := hfk.get (by decide) h18
  have h80 := hfk.get (by decide) h80
  have hfr := hfr.cl hfk (by decide)
  change ab_W _ _ _ G1 213 [some (vR 0), some (vR 18), some (vR 80), some (vR 148), some (vI 0), none, none] [vI (-1)] _
  refine ab_aload_n d_LA_law_213 rfl ?_
  refine ab_aload_n d_LA_law_214 rfl ?_
  refine ab_iload d_LA_law_215 rfl ?_
  refine ab_iconst (v := 1) d_LA_law_217 (by decide) ?_
  refine ab_iadd d_LA_law_218 ?_
  refine ab_topi (y := 1) (by decide) ?_
  refine ab_iald d_LA_law_219 h0 (by unfold vp_in; decide) ?_
  refine ab_topi (y := (xs 1)) rfl ?_
  refine ab_callV (d' := d - 1) (as := [vI (xs 1)]) (st := [vI (-1)]) (r := _) (q_MO_end_1 (xs := xs) hlen hsl h80 c0) (fun o G2 h => ⟨_, h.1⟩) (by omega) m_MO_end ml_LA_45 im_MO_end se_MO_end c_MO h80 (Nat.le_of_ble_eq_true rfl) d_LA_law_220 rfl ?_
  intro v G2 hq
  obtain ⟨hv, hfk, hlen, hsl, h80⟩ := hq
  cases hv
  have h0 := hfk.get (by decide) h0
  have h18 := hfk.get (by decide) h18
  have hfr := hfr.cl hfk (by decide)
  change ab_W _ _ _ G2 223 [some (vR 0), some (vR 18), some (vR 80), some (vR 148), some (vI 0), none, none] [vI (-1), vI (-1)] _
  refine ab_icmp_eq (tgt := 931) d_LA_law_223 (by decide) (fun _ => ?_) (fun c => absurd c (by decide))
  refine ab_iinc (v := 6) d_LA_law_931 rfl (by decide) (Nat.le_of_ble_eq_true rfl) (Nat.le_of_ble_eq_true rfl) rfl ?_
  change ab_W _ _ _ G2 934 [some (vR 0), some (vR 18), some (vR 80), some (vR 148), some (vI 6), none, none] [] _
  refine ab_goto (tgt := 23) d_LA_law_934 (by decide) ?_
  refine ab_iload d_LA_law_23 rfl ?_
  refine ab_aload_n d_LA_law_25 rfl ?_
  refine ab_alen (v := 6) d_LA_law_26 h0 (by first | decide | rfl) ?_
  refine ab_bipush (v := 6) d_LA_law_27 (by decide) ?_
  refine ab_isub d_LA_law_29 ?_
  refine ab_topi (y := 0) (by decide) ?_
  refine ab_icmp_gt (tgt := 937) d_LA_law_30 (by decide) (fun _ => ?_) (fun c => absurd c (by decide))
  refine ab_iconst (v := 1) d_LA_law_937 (by decide) ?_
  exact ab_iret (rt := .boolean) rfl (by decide) d_LA_law_938 (by rw [hQ])
set_option maxRecDepth 100000 in
set_option maxHeartbeats 4000000 in
theorem q_PW_end_1 {X : ab_X} {d : Nat} {G : ab_G} {xs : Nat → Int32} (hlen : G.length = 149) (hsl : ab_slots G = 1890753) (c0 : 0 ≤ (xs 1)) (c1 : 20 < (xs 1)) : ab_F X d y_PW_end (.code y_PW_end b_PW_end 2 (some (.int))) [vR 18, vI (xs 1)] G (fun o G2 => o = .returned (some (vI (-1))) ∧ ab_fr [] G G2 ∧ G2.length = 149 ∧ ab_slots G2 = 1890753) := by
  refine ab_F_of (by decide +kernel) (Nat.le_of_ble_eq_true rfl) ?_
  obtain ⟨Q, hQ⟩ : ∃ z : Outcome → ab_G → Prop, z = (fun o G2 => o = .returned (some (vI (-1))) ∧ ab_fr [] G G2 ∧ G2.length = 149 ∧ ab_slots G2 = 1890753) := ⟨_, rfl⟩
  rw [← hQ]
  change ab_W X (ab_pl y_PW_end b_PW_end 2 (some (.int))) d G 0 [some (vR 18), some (vI (xs 1))] [] Q
  have hfr : ab_fr [] G G := ab_fr.rf
  refine ab_iload_n d_PW_end_0 rfl ?_
  refine ab_if_lt (tgt := 25) d_PW_end_1 (by decide) (fun c2 => ?_) (fun c2 => ?_)
  · exfalso; have l0 := (show (0 : Int32).toInt = 0 by decide); have l1 := (show (20 : Int32).toInt = 20 by decide); simp only [Int32.le_iff_toInt_le, Int32.lt_iff_toInt_lt, ← Int32.toInt_inj] at c0 c1 c2; omega
  · refine ab_iload_n d_PW_end_4 rfl ?_
    refine ab_bipush (v := 20) d_PW_end_5 (by decide) ?_
    refine ab_icmp_gt (tgt := 25) d_PW_end_7 (by decide) (fun c3 => ?_) (fun c3 => ?_)
    · refine ab_iconst (v := (-1)) d_PW_end_25 (by decide) ?_
      exact ab_iret (rt := .int) rfl rfl d_PW_end_26 (by rw [hQ]; exact ⟨rfl, hfr, hlen, hsl⟩)
    · exfalso; have l0 := (show (0 : Int32).toInt = 0 by decide); have l1 := (show (20 : Int32).toInt = 20 by decide); simp only [Int32.le_iff_toInt_le, Int32.lt_iff_toInt_lt, ← Int32.toInt_inj] at c0 c1 c2 c3; omega
set_option maxRecDepth 100000 in
set_option maxHeartbeats 4000000 in
theorem q_MO_end_2 {X : ab_X} {d : Nat} {G : ab_G} {xs : Nat → Int32} (hlen : G.length = 149) (hsl : ab_slots G = 1890753) (h80 : G[80]? = some (ab_ob 12 (m_fv (vI 0) (vI 0) (vI 0) (vI 0) (vI 0) (vI 0) (vI 0) (vI 0) (vI 0) (vI 0) (vI 0) (vI 0) (vI (-1)) (vI 0) (vI 0) (vI 0) (vI 0) (vI 0) (vI 0) (vI 0) (vI 0) (vI 0) (vI 0) (vI 0) (vI 0) (vI 0) (vI 0) (vI 0) (vI 0) (vI 0) (vI 0) (vI 0) (vI 0) (vI 0) (vI 0)))) (c0 : 0 ≤ (xs 1)) (c1 : 20 < (xs 1)) : ab_F X d y_MO_end (.code y_MO_end b_MO_end 3 (some (.int))) [vR 80, vI (xs 1)] G (fun o G2 => o = .returned (some (vI (-1))) ∧ ab_fr [80] G G2 ∧ G2.length = 149 ∧ ab_slots G2 = 1890753 ∧ G2[80]? = some (ab_ob 12 (m_fv (vI 0) (vI 0) (vI 0) (vI 0) (vI 0) (vI 0) (vI 0) (vI 0) (vI 0) (vI 0) (vI 0) (vI 0) (vI (-1)) (vI 0) (vI 0) (vI 0) (vI 0) (vI 0) (vI 0) (vI 0) (vI 0) (vI 0) (vI 0) (vI 0) (vI 0) (vI 0) (vI 0) (vI 0) (vI 0) (vI 0) (vI 0) (vI 0) (vI 0) (vI 0) (vI 0)))) := by
  refine ab_F_of (by decide +kernel) (Nat.le_of_ble_eq_true rfl) ?_
  obtain ⟨Q, hQ⟩ : ∃ z : Outcome → ab_G → Prop, z = (fun o G2 => o = .returned (some (vI (-1))) ∧ ab_fr [80] G G2 ∧ G2.length = 149 ∧ ab_slots G2 = 1890753 ∧ G2[80]? = some (ab_ob 12 (m_fv (vI 0) (vI 0) (vI 0) (vI 0) (vI 0) (vI 0) (vI 0) (vI 0) (vI 0) (vI 0) (vI 0) (vI 0) (vI (-1)) (vI 0) (vI 0) (vI 0) (vI 0) (vI 0) (vI 0) (vI 0) (vI 0) (vI 0) (vI 0) (vI 0) (vI 0) (vI 0) (vI 0) (vI 0) (vI 0) (vI 0) (vI 0) (vI 0) (vI 0) (vI 0) (vI 0)))) := ⟨_, rfl⟩
  rw [← hQ]
  change ab_W X (ab_pl y_MO_end b_MO_end 3 (some (.int))) d G 0 [some (vR 80), some (vI (xs 1)), none] [] Q
  have hfr : ab_fr [80] G G := ab_fr.rf
  refine ab_aload_n d_MO_end_0 rfl ?_
  refine ab_iconst (v := 0) d_MO_end_1 (by decide) ?_
  refine ab_putf (fs := (m_fv (vI 0) (vI 0) (vI 0) (vI 0) (vI 0) (vI 0) (vI 0) (vI 0) (vI 0) (vI 0) (vI 0) (vI 0) (vI (-1)) (vI 0) (vI 0) (vI 0) (vI 0) (vI 0) (vI 0) (vI 0) (vI 0) (vI 0) (vI 0) (vI 0) (vI 0) (vI 0) (vI 0) (vI 0) (vI 0) (vI 0) (vI 0) (vI 0) (vI 0) (vI 0) (vI 0))) f_MO_220 (Or.inl rfl) d_MO_end_2 h80 (Nat.le_of_ble_eq_true rfl) (fun _ => ⟨rfl, rfl⟩) (by decide) ?_
  obtain ⟨G1, eG1⟩ : ∃ z : ab_G, z = List.set G 80 (ab_ob 12 (m_fv (vI 0) (vI 0) (vI 0) (vI 0) (vI 0) (vI 0) (vI 0) (vI 0) (vI 0) (vI 0) (vI 0) (vI 0) (vI (-1)) (vI 0) (vI 0) (vI 0) (vI 0) (vI 0) (vI 0) (vI 0) (vI 0) (vI 0) (vI 0) (vI 0) (vI 0) (vI 0) (vI 0) (vI 0) (vI 0) (vI 0) (vI 0) (vI 0) (vI 0) (vI 0) (vI 0))) := ⟨_, rfl⟩
  have hlen := ab_klen eG1 hlen
  have hsl := ab_ksl 102 eG1 h80 rfl rfl hsl
  have hfr := hfr.wr eG1 (by decide)
  have h80 := ab_kept eG1 h80
  change ab_W _ _ _ (List.set G 80 (ab_ob 12 (m_fv (vI 0) (vI 0) (vI 0) (vI 0) (vI 0) (vI 0) (vI 0) (vI 0) (vI 0) (vI 0) (vI 0) (vI 0) (vI (-1)) (vI 0) (vI 0) (vI 0) (vI 0) (vI 0) (vI 0) (vI 0) (vI 0) (vI 0) (vI 0) (vI 0) (vI 0) (vI 0) (vI 0) (vI 0) (vI 0) (vI 0) (vI 0) (vI 0) (vI 0) (vI 0) (vI 0)))) 5 [some (vR 80), some (vI (xs 1)), none] [] _
  rw [← eG1]
  refine ab_iload_n d_MO_end_5 rfl ?_
  refine ab_if_lt (tgt := 27) d_MO_end_6 (by decide) (fun c2 => ?_) (fun c2 => ?_)
  · exfalso; have l0 := (show (0 : Int32).toInt = 0 by decide); have l1 := (show (20 : Int32).toInt = 20 by decide); simp only [Int32.le_iff_toInt_le, Int32.lt_iff_toInt_lt, ← Int32.toInt_inj] at c0 c1 c2; omega
  · refine ab_iload_n d_MO_end_9 rfl ?_
    refine ab_bipush (v := 20) d_MO_end_10 (by decide) ?_
    refine ab_icmp_gt (tgt := 27) d_MO_end_12 (by decide) (fun c3 => ?_) (fun c3 => ?_)
    · refine ab_iconst (v := (-1)) d_MO_end_27 (by decide) ?_
      exact ab_iret (rt := .int) rfl rfl d_MO_end_28 (by rw [hQ]; exact ⟨rfl, hfr, hlen, hsl, h80⟩)
    · exfalso; have l0 := (show (0 : Int32).toInt = 0 by decide); have l1 := (show (20 : Int32).toInt = 20 by decide); simp only [Int32.le_iff_toInt_le, Int32.lt_iff_toInt_lt, ← Int32.toInt_inj] at c0 c1 c2 c3; omega
set_option maxRecDepth 100000 in
set_option maxHeartbeats 4000000 in
theorem lc_1b {X : ab_X} {d : Nat} {G : ab_G} {xs : Nat → Int32} (hlen : G.length = 149) (hsl : ab_slots G = 1890753) (h0 : G[0]? = some (ab_if 6 (xs))) (h18 : G[18]? = some (ab_ob 0 [vR 19, vR 20, vR 22, vR 30, vR 31, vR 36, vR 37, vR 46, vR 51, vR 60, vR 69, vR 70, vR 72, vR 74, vR 76, vR 78, vI 0, vI 0])) (h80 : G[80]? = some (ab_ob 12 (m_fv (vI 0) (vI 0) (vI 0) (vI 0) (vI 0) (vI 0) (vI 0) (vI 0) (vI 0) (vI 0) (vI 0) (vI 0) (vI (-1)) (vI 0) (vI 0) (vI 0) (vI 0) (vI 0) (vI 0) (vI 0) (vI 0) (vI 0) (vI 0) (vI 0) (vI 0) (vI 0) (vI 0) (vI 0) (vI 0) (vI 0) (vI 0) (vI 0) (vI 0) (vI 0) (vI 0)))) (c0 : 0 ≤ (xs 1)) (c1 : 20 < (xs 1)) (hd : 1 ≤ d) : ab_W X ab_LW d G 203 [some (vR 0), some (vR 18), some (vR 80), some (vR 148), some (vI 0), none, none] [] (fun o _ => o = .returned (some (vI 1))) := by
  obtain ⟨Q, hQ⟩ : ∃ z : Outcome → ab_G → Prop, z = (fun o _ => o = .returned (some (vI 1))) := ⟨_, rfl⟩
  rw [← hQ]
  have hfr : ab_fr [80] G G := ab_fr.rf
  refine ab_aload_n d_LA_law_203 rfl ?_
  refine ab_aload_n d_LA_law_204 rfl ?_
  refine ab_iload d_LA_law_205 rfl ?_
  refine ab_iconst (v := 1) d_LA_law_207 (by decide) ?_
  refine ab_iadd d_LA_law_208 ?_
  refine ab_topi (y := 1) (by decide) ?_
  refine ab_iald d_LA_law_209 h0 (by unfold vp_in; decide) ?_
  refine ab_topi (y := (xs 1)) rfl ?_
  refine ab_callV (d' := d - 1) (as := [vI (xs 1)]) (st := []) (r := _) (q_PW_end_1 (xs := xs) hlen hsl c0 c1) (fun o G2 h => ⟨_, h.1⟩) (by omega) m_PW_end ml_LA_42 im_PW_end se_PW_end c_PW h18 (Nat.le_of_ble_eq_true rfl) d_LA_law_210 rfl ?_
  intro v G1 hq
  obtain ⟨hv, hfk, hlen, hsl⟩ := hq
  cases hv
  have h0 := hfk.get (by decide) h0
  have h18 := hfk.get (by decide) h18
  have h80 := hfk.get (by decide) h80
  have hfr := hfr.cl hfk (by decide)
  change ab_W _ _ _ G1 213 [some (vR 0), some (vR 18), some (vR 80), some (vR 148), some (vI 0), none, none] [vI (-1)] _
  refine ab_aload_n d_LA_law_213 rfl ?_
  refine ab_aload_n d_LA_law_214 rfl ?_
  refine ab_iload d_LA_law_215 rfl ?_
  refine ab_iconst (v := 1) d_LA_law_217 (by decide) ?_
  refine ab_iadd d_LA_law_218 ?_
  refine ab_topi (y := 1) (by decide) ?_
  refine ab_iald d_LA_law_219 h0 (by unfold vp_in; decide) ?_
  refine ab_topi (y := (xs 1)) rfl ?_
  refine ab_callV (d' := d - 1) (as := [vI (xs 1)]) (st := [vI (-1)]) (r := _) (q_MO_end_2 (xs := xs) hlen hsl h80 c0 c1) (fun o G2 h => ⟨_, h.1⟩) (by omega) m_MO_end ml_LA_45 im_MO_end se_MO_end c_MO h80 (Nat.le_of_ble_eq_true rfl) d_LA_law_220 rfl ?_
  intro v G2 hq
  obtain ⟨hv, hfk, hlen, hsl, h80⟩ := hq
  cases hv
  have h0 := hfk.get (by decide) h0
  have h18 := hfk.get (by decide) h18
  have hfr := hfr.cl hfk (by decide)
  change ab_W _ _ _ G2 223 [some (vR 0), some (vR 18), some (vR 80), some (vR 148), some (vI 0), none, none] [vI (-1), vI (-1)] _
  refine ab_icmp_eq (tgt := 931) d_LA_law_223 (by decide) (fun _ => ?_) (fun c => absurd c (by decide))
  refine ab_iinc (v := 6) d_LA_law_931 rfl (by decide) (Nat.le_of_ble_eq_true rfl) (Nat.le_of_ble_eq_true rfl) rfl ?_
  change ab_W _ _ _ G2 934 [some (vR 0), some (vR 18), some (vR 80), some (vR 148), some (vI 6), none, none] [] _
  refine ab_goto (tgt := 23) d_LA_law_934 (by decide) ?_
  refine ab_iload d_LA_law_23 rfl ?_
  refine ab_aload_n d_LA_law_25 rfl ?_
  refine ab_alen (v := 6) d_LA_law_26 h0 (by first | decide | rfl) ?_
  refine ab_bipush (v := 6) d_LA_law_27 (by decide) ?_
  refine ab_isub d_LA_law_29 ?_
  refine ab_topi (y := 0) (by decide) ?_
  refine ab_icmp_gt (tgt := 937) d_LA_law_30 (by decide) (fun _ => ?_) (fun c => absurd c (by decide))
  refine ab_iconst (v := 1) d_LA_law_937 (by decide) ?_
  exact ab_iret (rt := .boolean) rfl (by decide) d_LA_law_938 (by rw [hQ])
set_option maxRecDepth 100000 in
set_option maxHeartbeats 4000000 in
theorem q_RW_makeRoom_1 {X : ab_X} {d : Nat} {G : ab_G} {xs : Nat → Int32} (hlen : G.length = 149) (hsl : ab_slots G = 1890753) (h20 : G[20]? = some (ab_ob 7 [vI 2000, vR 21, vI 0])) (h21 : G[21]? = some (ab_if 32 ((fun _ => 0)))) (c0 : 0 ≤ (xs 1)) (c1 : (xs 1) ≤ 20) (c2 : ¬ ((xs 1) < 0)) (c3 : ¬ (20 < (xs 1))) (c4 : (xs 1) ≤ 2000) (c5 : ¬ ((xs 1) < 0)) : ab_F X d y_RW_makeRoom (.code y_RW_makeRoom b_RW_makeRoom 2 (some (.boolean))) [vR 20, vI (xs 1)] G (fun o G2 => o = .returned (some (vI 1)) ∧ ab_fr [] G G2 ∧ G2.length = 149 ∧ ab_slots G2 = 1890753) := by
  refine ab_F_of (by decide +kernel) (Nat.le_of_ble_eq_true rfl) ?_
  obtain ⟨Q, hQ⟩ : ∃ z : Outcome → ab_G → Prop, z = (fun o G2 => o = .returned (some (vI 1)) ∧ ab_fr [] G G2 ∧ G2.length = 149 ∧ ab_slots G2 = 1890753) := ⟨_, rfl⟩
  rw [← hQ]
  change ab_W X (ab_pl y_RW_makeRoom b_RW_makeRoom 2 (some (.boolean))) d G 0 [some (vR 20), some (vI (xs 1))] [] Q
  have hfr : ab_fr [] G G := ab_fr.rf
  refine ab_aload_n d_RW_makeRoom_0 rfl ?_
  refine ab_getf (fs := [vI 2000, vR 21, vI 0]) f_RW_19 d_RW_makeRoom_1 h20 rfl ?_
  refine ab_iload_n d_RW_makeRoom_4 rfl ?_
  refine ab_iadd d_RW_makeRoom_5 ?_
  refine ab_topi (y := (xs 1)) (Int32.zero_add _) ?_
  refine ab_aload_n d_RW_makeRoom_6 rfl ?_
  refine ab_getf (fs := [vI 2000, vR 21, vI 0]) f_RW_15 d_RW_makeRoom_7 h20 rfl ?_
  refine ab_icmp_le (tgt := 15) d_RW_makeRoom_10 (by decide) (fun c6 => ?_) (fun c6 => ?_)
  · refine ab_aload_n d_RW_makeRoom_15 rfl ?_
    refine ab_getf (fs := [vI 2000, vR 21, vI 0]) f_RW_19 d_RW_makeRoom_16 h20 rfl ?_
    refine ab_iload_n d_RW_makeRoom_19 rfl ?_
    refine ab_iadd d_RW_makeRoom_20 ?_
    refine ab_topi (y := (xs 1)) (Int32.zero_add _) ?_
    refine ab_aload_n d_RW_makeRoom_21 rfl ?_
    refine ab_getf (fs := [vI 2000, vR 21, vI 0]) f_RW_9 d_RW_makeRoom_22 h20 rfl ?_
    refine ab_alen (v := 32) d_RW_makeRoom_25 h21 (by first | decide | rfl) ?_
    refine ab_icmp_le (tgt := 63) d_RW_makeRoom_26 (by decide) (fun c7 => ?_) (fun c7 => ?_)
    · refine ab_iconst (v := 1) d_RW_makeRoom_63 (by decide) ?_
      exact ab_iret (rt := .boolean) rfl (by decide) d_RW_makeRoom_64 (by rw [hQ]; exact ⟨rfl, hfr, hlen, hsl⟩)
    · exfalso; have l0 := (show (0 : Int32).toInt = 0 by decide); have l1 := (show (20 : Int32).toInt = 20 by decide); have l2 := (show (32 : Int32).toInt = 32 by decide); have l3 := (show (2000 : Int32).toInt = 2000 by decide); simp only [Int32.le_iff_toInt_le, Int32.lt_iff_toInt_lt, ← Int32.toInt_inj] at c0 c1 c2 c3 c4 c5 c6 c7; omega
  · exfalso; have l0 := (show (0 : Int32).toInt = 0 by decide); have l1 := (show (20 : Int32).toInt = 20 by decide); have l2 := (show (2000 : Int32).toInt = 2000 by decide); simp only [Int32.le_iff_toInt_le, Int32.lt_iff_toInt_lt, ← Int32.toInt_inj] at c0 c1 c2 c3 c4 c5 c6; omega
set_option maxRecDepth 100000 in
set_option maxHeartbeats 4000000 in
theorem q_RW_addAll_1 {X : ab_X} {d : Nat} {G : ab_G} {xs : Nat → Int32} (hlen : G.length = 149) (hsl : ab_slots G = 1890753) (h19 : G[19]? = some (ab_if 20 ((fun _ => 0)))) (h20 : G[20]? = some (ab_ob 7 [vI 2000, vR 21, vI 0])) (h21 : G[21]? = some (ab_if 32 ((fun _ => 0)))) (c0 : 0 ≤ (xs 1)) (c1 : (xs 1) ≤ 20) (c2 : ¬ ((xs 1) < 0)) (c3 : ¬ (20 < (xs 1))) (c4 : (xs 1) ≤ 2000) (hd : 1 ≤ d) : ab_F X d y_RW_addAll (.code y_RW_addAll b_RW_addAll 4 (some (.boolean))) [vR 20, vR 19, vI 0, vI (xs 1)] G (fun o G2 => o = .returned (some (vI 1)) ∧ ab_fr [20, 21] G G2 ∧ G2.length = 149 ∧ ab_slots G2 = 1890753 ∧ G2[20]? = some (ab_ob 7 [vI 2000, vR 21, vI (xs 1)]) ∧ G2[21]? = some (ab_if 32 ((va_cpy (fun _ => 0) (fun _ => 0) (Int32.toNatClampNeg 0) (Int32.toNatClampNeg 0) (Int32.toNatClampNeg (xs 1)))))) := by
  refine ab_F_of (by decide +kernel) (Nat.le_of_ble_eq_true rfl) ?_
  obtain ⟨Q, hQ⟩ : ∃ z : Outcome → ab_G → Prop, z = (fun o G2 => o = .returned (some (vI 1)) ∧ ab_fr [20, 21] G G2 ∧ G2.length = 149 ∧ ab_slots G2 = 1890753 ∧ G2[20]? = some (ab_ob 7 [vI 2000, vR 21, vI (xs 1)]) ∧ G2[21]? = some (ab_if 32 ((va_cpy (fun _ => 0) (fun _ => 0) (Int32.toNatClampNeg 0) (Int32.toNatClampNeg 0) (Int32.toNatClampNeg (xs 1)))))) := ⟨_, rfl⟩
  rw [← hQ]
  change ab_W X (ab_pl y_RW_addAll b_RW_addAll 4 (some (.boolean))) d G 0 [some (vR 20), some (vR 19), some (vI 0), some (vI (xs 1))] [] Q
  have hfr : ab_fr [20, 21] G G := ab_fr.rf
  refine ab_iload_n d_RW_addAll_0 rfl ?_
  refine ab_iload_n d_RW_addAll_1 rfl ?_
  refine ab_icmp_lt (tgt := 15) d_RW_addAll_2 (by decide) (fun c5 => ?_) (fun c5 => ?_)
  · exfalso; have l0 := (show (0 : Int32).toInt = 0 by decide); have l1 := (show (20 : Int32).toInt = 20 by decide); have l2 := (show (2000 : Int32).toInt = 2000 by decide); simp only [Int32.le_iff_toInt_le, Int32.lt_iff_toInt_lt, ← Int32.toInt_inj] at c0 c1 c2 c3 c4 c5; omega
  · refine ab_aload_n d_RW_addAll_5 rfl ?_
    refine ab_iload_n d_RW_addAll_6 rfl ?_
    refine ab_iload_n d_RW_addAll_7 rfl ?_
    refine ab_isub d_RW_addAll_8 ?_
    refine ab_topi (y := (xs 1)) (Int32.sub_zero _) ?_
    refine ab_callV (d' := d - 1) (as := [vI (xs 1)]) (st := []) (r := _) (q_RW_makeRoom_1 (xs := xs) hlen hsl h20 h21 c0 c1 c2 c3 c4 c5) (fun o G2 h => ⟨_, h.1⟩) (by omega) m_RW_makeRoom ml_RW_22 im_RW_makeRoom se_RW_makeRoom c_RW h20 (Nat.le_of_ble_eq_true rfl) d_RW_addAll_9 rfl ?_
    intro v G1 hq
    obtain ⟨hv, hfk, hlen, hsl⟩ := hq
    cases hv
    have h19 := hfk.get (by decide) h19
    have h20 := hfk.get (by decide) h20
    have h21 := hfk.get (by decide) h21
    have hfr := hfr.cl hfk (by decide)
    change ab_W _ _ _ G1 12 [some (vR 20), some (vR 19), some (vI 0), some (vI (xs 1))] [vI 1] _
    refine ab_if_ne (tgt := 17) d_RW_addAll_12 (by decide) (fun _ => ?_) (fun c => absurd c (by decide))
    refine ab_aload_n d_RW_addAll_17 rfl ?_
    refine ab_iload_n d_RW_addAll_18 rfl ?_
    refine ab_aload_n d_RW_addAll_19 rfl ?_
    refine ab_getf (fs := [vI 2000, vR 21, vI 0]) f_RW_9 d_RW_addAll_20 h20 rfl ?_
    refine ab_aload_n d_RW_addAll_23 rfl ?_
    refine ab_getf (fs := [vI 2000, vR 21, vI 0]) f_RW_19 d_RW_addAll_24 h20 rfl ?_
    refine ab_iload_n d_RW_addAll_27 rfl ?_
    refine ab_iload_n d_RW_addAll_28 rfl ?_
    refine ab_isub d_RW_addAll_29 ?_
    refine ab_topi (y := (xs 1)) (Int32.sub_zero _) ?_
    refine ab_copy mj_RW_26 cp_nat cp_st ini_SY d_RW_addAll_30 h19 h21 (by decide) (by decide) (by decide) (by intro hneg; simp only [Int32.lt_iff_toInt_lt] at hneg; have l0 := (show (0 : Int32).toInt = 0 by decide); have l1 := (show (20 : Int32).toInt = 20 by decide); have l2 := (show (2000 : Int32).toInt = 2000 by decide); simp only [Int32.le_iff_toInt_le, Int32.lt_iff_toInt_lt, ← Int32.toInt_inj] at c0 c1 c2 c3 c4 c5; have z0 := (show (0 : Int32).toInt = 0 by decide); omega) (by rw [← Int32.toNat_toInt, ← Int32.toNat_toInt]; have l0 := (show (0 : Int32).toInt = 0 by decide); have l1 := (show (20 : Int32).toInt = 20 by decide); have l2 := (show (2000 : Int32).toInt = 2000 by decide); simp only [Int32.le_iff_toInt_le, Int32.lt_iff_toInt_lt, ← Int32.toInt_inj] at c0 c1 c2 c3 c4 c5; (try simp only [show (0 : Int32).toInt = 0 by decide]); omega) (by rw [← Int32.toNat_toInt, ← Int32.toNat_toInt]; have l0 := (show (0 : Int32).toInt = 0 by decide); have l1 := (show (20 : Int32).toInt = 20 by decide); have l2 := (show (2000 : Int32).toInt = 2000 by decide); simp only [Int32.le_iff_toInt_le, Int32.lt_iff_toInt_lt, ← Int32.toInt_inj] at c0 c1 c2 c3 c4 c5; (try simp only [show (0 : Int32).toInt = 0 by decide]); omega) (Nat.le_of_ble_eq_true rfl) (by omega) ?_
    obtain ⟨G2, eG2⟩ : ∃ z : ab_G, z = List.set G1 21 (ab_if 32 ((va_cpy (fun _ => 0) (fun _ => 0) (Int32.toNatClampNeg 0) (Int32.toNatClampNeg 0) (Int32.toNatClampNeg (xs 1))))) := ⟨_, rfl⟩
    have h19 := ab_keep eG2 (by decide) h19
    have h20 := ab_keep eG2 (by decide) h20
    have hlen := ab_klen eG2 hlen
    have hsl := ab_ksl 32 eG2 h21 rfl rfl hsl
    have hfr := hfr.wr eG2 (by decide)
    have h21 := ab_kept eG2 h21
    change ab_W _ _ _ (List.set G1 21 (ab_if 32 ((va_cpy (fun _ => 0) (fun _ => 0) (Int32.toNatClampNeg 0) (Int32.toNatClampNeg 0) (Int32.toNatClampNeg (xs 1)))))) 33 [some (vR 20), some (vR 19), some (vI 0), some (vI (xs 1))] [] _
    rw [← eG2]
    refine ab_aload_n d_RW_addAll_33 rfl ?_
    refine ab_dup d_RW_addAll_34 rfl ?_
    refine ab_getf (fs := [vI 2000, vR 21, vI 0]) f_RW_19 d_RW_addAll_35 h20 rfl ?_
    refine ab_iload_n d_RW_addAll_38 rfl ?_
    refine ab_iload_n d_RW_addAll_39 rfl ?_
    refine ab_isub d_RW_addAll_40 ?_
    refine ab_topi (y := (xs 1)) (Int32.sub_zero _) ?_
    refine ab_iadd d_RW_addAll_41 ?_
    refine ab_topi (y := (xs 1)) (Int32.zero_add _) ?_
    refine ab_putf (fs := [vI 2000, vR 21, vI 0]) f_RW_19 (Or.inl rfl) d_RW_addAll_42 h20 (Nat.le_of_ble_eq_true rfl) (fun _ => ⟨rfl, rfl⟩) (by decide) ?_
    obtain ⟨G3, eG3⟩ : ∃ z : ab_G, z = List.set G2 20 (ab_ob 7 [vI 2000, vR 21, vI (xs 1)]) := ⟨_, rfl⟩
    have h19 := ab_keep eG3 (by decide) h19
    have h21 := ab_keep eG3 (by decide) h21
    have hlen := ab_klen eG3 hlen
    have hsl := ab_ksl 3 eG3 h20 rfl rfl hsl
    have hfr := hfr.wr eG3 (by decide)
    have h20 := ab_kept eG3 h20
    change ab_W _ _ _ (List.set G2 20 (ab_ob 7 [vI 2000, vR 21, vI (xs 1)])) 45 [some (vR 20), some (vR 19), some (vI 0), some (vI (xs 1))] [] _
    rw [← eG3]
    refine ab_iconst (v := 1) d_RW_addAll_45 (by decide) ?_
    exact ab_iret (rt := .boolean) rfl (by decide) d_RW_addAll_46 (by rw [hQ]; exact ⟨rfl, hfr, hlen, hsl, h20, h21⟩)
set_option maxRecDepth 100000 in
set_option maxHeartbeats 4000000 in
theorem q_PW_end_2 {X : ab_X} {d : Nat} {G : ab_G} {xs : Nat → Int32} (hlen : G.length = 149) (hsl : ab_slots G = 1890753) (h18 : G[18]? = some (ab_ob 0 [vR 19, vR 20, vR 22, vR 30, vR 31, vR 36, vR 37, vR 46, vR 51, vR 60, vR 69, vR 70, vR 72, vR 74, vR 76, vR 78, vI 0, vI 0])) (h19 : G[19]? = some (ab_if 20 ((fun _ => 0)))) (h20 : G[20]? = some (ab_ob 7 [vI 2000, vR 21, vI 0])) (h21 : G[21]? = some (ab_if 32 ((fun _ => 0)))) (c0 : 0 ≤ (xs 1)) (c1 : (xs 1) ≤ 20) (hd : 2 ≤ d) : ab_F X d y_PW_end (.code y_PW_end b_PW_end 2 (some (.int))) [vR 18, vI (xs 1)] G (fun o G2 => o = .returned (some (vI (xs 1))) ∧ ab_fr [19, 20, 21] G G2 ∧ G2.length = 149 ∧ ab_slots G2 = 1890753 ∧ (∃ g : Nat → Int32, G2[19]? = some (ab_if 20 (g))) ∧ G2[20]? = some (ab_ob 7 [vI 2000, vR 21, vI (xs 1)]) ∧ G2[21]? = some (ab_if 32 ((va_cpy (fun _ => 0) (fun _ => 0) (Int32.toNatClampNeg 0) (Int32.toNatClampNeg 0) (Int32.toNatClampNeg (xs 1)))))) := by
  refine ab_F_of (by decide +kernel) (Nat.le_of_ble_eq_true rfl) ?_
  obtain ⟨Q, hQ⟩ : ∃ z : Outcome → ab_G → Prop, z = (fun o G2 => o = .returned (some (vI (xs 1))) ∧ ab_fr [19, 20, 21] G G2 ∧ G2.length = 149 ∧ ab_slots G2 = 1890753 ∧ (∃ g : Nat → Int32, G2[19]? = some (ab_if 20 (g))) ∧ G2[20]? = some (ab_ob 7 [vI 2000, vR 21, vI (xs 1)]) ∧ G2[21]? = some (ab_if 32 ((va_cpy (fun _ => 0) (fun _ => 0) (Int32.toNatClampNeg 0) (Int32.toNatClampNeg 0) (Int32.toNatClampNeg (xs 1)))))) := ⟨_, rfl⟩
  rw [← hQ]
  change ab_W X (ab_pl y_PW_end b_PW_end 2 (some (.int))) d G 0 [some (vR 18), some (vI (xs 1))] [] Q
  have hfr : ab_fr [19, 20, 21] G G := ab_fr.rf
  refine ab_iload_n d_PW_end_0 rfl ?_
  refine ab_if_lt (tgt := 25) d_PW_end_1 (by decide) (fun c2 => ?_) (fun c2 => ?_)
  · exfalso; have l0 := (show (0 : Int32).toInt = 0 by decide); have l1 := (show (20 : Int32).toInt = 20 by decide); simp only [Int32.le_iff_toInt_le, Int32.lt_iff_toInt_lt, ← Int32.toInt_inj] at c0 c1 c2; omega
  · refine ab_iload_n d_PW_end_4 rfl ?_
    refine ab_bipush (v := 20) d_PW_end_5 (by decide) ?_
    refine ab_icmp_gt (tgt := 25) d_PW_end_7 (by decide) (fun c3 => ?_) (fun c3 => ?_)
    · exfalso; have l0 := (show (0 : Int32).toInt = 0 by decide); have l1 := (show (20 : Int32).toInt = 20 by decide); simp only [Int32.le_iff_toInt_le, Int32.lt_iff_toInt_lt, ← Int32.toInt_inj] at c0 c1 c2 c3; omega
    · refine ab_aload_n d_PW_end_10 rfl ?_
      refine ab_getf (fs := [vR 19, vR 20, vR 22, vR 30, vR 31, vR 36, vR 37, vR 46, vR 51, vR 60, vR 69, vR 70, vR 72, vR 74, vR 76, vR 78, vI 0, vI 0]) f_PW_18 d_PW_end_11 h18 rfl ?_
      refine ab_getf (fs := [vI 2000, vR 21, vI 0]) f_PW_101 d_PW_end_14 h20 rfl ?_
      refine ab_iload_n d_PW_end_17 rfl ?_
      refine ab_iadd d_PW_end_18 ?_
      refine ab_topi (y := (xs 1)) (Int32.zero_add _) ?_
      refine ab_sipush (v := 2000) d_PW_end_19 (by decide) ?_
      refine ab_icmp_le (tgt := 27) d_PW_end_22 (by decide) (fun c4 => ?_) (fun c4 => ?_)
      · refine ab_aload_n d_PW_end_27 rfl ?_
        refine ab_getf (fs := [vR 19, vR 20, vR 22, vR 30, vR 31, vR 36, vR 37, vR 46, vR 51, vR 60, vR 69, vR 70, vR 72, vR 74, vR 76, vR 78, vI 0, vI 0]) f_PW_18 d_PW_end_28 h18 rfl ?_
        refine ab_aload_n d_PW_end_31 rfl ?_
        refine ab_getf (fs := [vR 19, vR 20, vR 22, vR 30, vR 31, vR 36, vR 37, vR 46, vR 51, vR 60, vR 69, vR 70, vR 72, vR 74, vR 76, vR 78, vI 0, vI 0]) f_PW_9 d_PW_end_32 h18 rfl ?_
        refine ab_iconst (v := 0) d_PW_end_35 (by decide) ?_
        refine ab_iload_n d_PW_end_36 rfl ?_
        refine ab_callV (d' := d - 1) (as := [vR 19, vI 0, vI (xs 1)]) (st := []) (r := _) (q_RW_addAll_1 (xs := xs) hlen hsl h19 h20 h21 c0 c1 c2 c3 c4 (by omega)) (fun o G2 h => ⟨_, h.1⟩) (by omega) m_RW_addAll ml_PW_105 im_RW_addAll se_RW_addAll c_RW h20 (Nat.le_of_ble_eq_true rfl) d_PW_end_37 rfl ?_
        intro v G1 hq
        obtain ⟨hv, hfk, hlen, hsl, h20, h21⟩ := hq
        cases hv
        have h18 := hfk.get (by decide) h18
        have h19 := hfk.get (by decide) h19
        have hfr := hfr.cl hfk (by decide)
        change ab_W _ _ _ G1 40 [some (vR 18), some (vI (xs 1))] [vI 1] _
        refine ab_pop d_PW_end_40 rfl ?_
        refine ab_aload_n d_PW_end_41 rfl ?_
        refine ab_getf (fs := [vR 19, vR 20, vR 22, vR 30, vR 31, vR 36, vR 37, vR 46, vR 51, vR 60, vR 69, vR 70, vR 72, vR 74, vR 76, vR 78, vI 0, vI 0]) f_PW_9 d_PW_end_42 h18 rfl ?_
        refine ab_iconst (v := 0) d_PW_end_45 (by decide) ?_
        refine ab_callS (d' := d - 1) (as := [vR 19, vI 0]) (st := []) (c_AR_fill (by decide) h19 (by decide)) (fun o G2 h => ⟨_, h.1⟩) (by omega) m_AR_fill ml_PW_91 st_AR_fill (Nat.le_of_ble_eq_true rfl) d_PW_end_46 rfl ?_
        intro v Gf hq; obtain ⟨hv, hq⟩ := hq; cases hv; subst hq
        obtain ⟨G2, eG2⟩ : ∃ z : ab_G, z = List.set G1 19 (ab_if 20 ((fun j => if j < 20 then 0 else 0))) := ⟨_, rfl⟩
        have h18 := ab_keep eG2 (by decide) h18
        have h20 := ab_keep eG2 (by decide) h20
        have h21 := ab_keep eG2 (by decide) h21
        have hlen := ab_klen eG2 hlen
        have hsl := ab_ksl 20 eG2 h19 rfl rfl hsl
        have hfr := hfr.wr eG2 (by decide)
        have h19 := ab_kept eG2 h19
        change ab_W _ _ _ (List.set G1 19 (ab_if 20 ((fun j => if j < 20 then 0 else 0)))) 49 [some (vR 18), some (vI (xs 1))] [] _
        rw [← eG2]
        obtain ⟨f19_1, h19⟩ : ∃ g : Nat → Int32, G2[19]? = some (ab_if 20 (g)) := ⟨_, h19⟩
        refine ab_aload_n d_PW_end_49 rfl ?_
        refine ab_getf (fs := [vR 19, vR 20, vR 22, vR 30, vR 31, vR 36, vR 37, vR 46, vR 51, vR 60, vR 69, vR 70, vR 72, vR 74, vR 76, vR 78, vI 0, vI 0]) f_PW_18 d_PW_end_50 h18 rfl ?_
        refine ab_getf (fs := [vI 2000, vR 21, vI (xs 1)]) f_PW_101 d_PW_end_53 h20 rfl ?_
        exact ab_iret (rt := .int) rfl rfl d_PW_end_56 (by rw [hQ]; exact ⟨rfl, hfr, hlen, hsl, ⟨_, h19⟩, h20, h21⟩)
      · exfalso; have l0 := (show (0 : Int32).toInt = 0 by decide); have l1 := (show (20 : Int32).toInt = 20 by decide); have l2 := (show (2000 : Int32).toInt = 2000 by decide); simp only [Int32.le_iff_toInt_le, Int32.lt_iff_toInt_lt, ← Int32.toInt_inj] at c0 c1 c2 c3 c4; omega
