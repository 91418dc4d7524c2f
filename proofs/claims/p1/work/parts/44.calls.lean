set_option maxRecDepth 100000 in
set_option maxHeartbeats 4000000 in
theorem q_PA_init_0 {X : ab_X} {d : Nat} {G : ab_G}  (hlen : G.length = 150) (hsl : ab_slots G = 1890768) (h149 : G[149]? = some (ab_ob 4 [vI 0, vI 0, vN, vI 0, vI 0, vN, vN, vN, vI 0, vI 0, vI 0, vI 0, vI 0, vI 0, vI 0])) (hd : 1 ≤ d) : ab_F X d y_PA_init (.code y_PA_init b_PA_init 5 none) [vR (149), vI 4, vI 0, vI 0, vI 0] G (fun o G2 => o = .returned none ∧ ab_fr [149] G G2 ∧ G2.length = 150 ∧ ab_slots G2 = 1890768 ∧ G2[149]? = some (ab_ob 4 [vI 4, vI 0, vN, vI (-1), vI 0, vN, vN, vN, vI 0, vI 0, vI 0, vI 0, vI 0, vI 0, vI (-1)])) := by
  refine ab_F_of (by decide +kernel) (Nat.le_of_ble_eq_true rfl) ?_
  obtain ⟨Q, hQ⟩ : ∃ z : Outcome → ab_G → Prop, z = (fun o G2 => o = .returned none ∧ ab_fr [149] G G2 ∧ G2.length = 150 ∧ ab_slots G2 = 1890768 ∧ G2[149]? = some (ab_ob 4 [vI 4, vI 0, vN, vI (-1), vI 0, vN, vN, vN, vI 0, vI 0, vI 0, vI 0, vI 0, vI 0, vI (-1)])) := ⟨_, rfl⟩
  rw [← hQ]
  change ab_W X (ab_pl y_PA_init b_PA_init 5 none) d G 0 [some (vR (149)), some (vI 4), some (vI 0), some (vI 0), some (vI 0)] [] Q
  have hfr : ab_fr [149] G G := ab_fr.rf
  refine ab_aload_n d_PA_init_0 rfl ?_
  refine ab_objInit mj_PA_3 ob_inst ob_code d_PA_init_1 (Nat.le_of_ble_eq_true rfl) (by omega) ?_
  change ab_W _ _ _ G 4 [some (vR (149)), some (vI 4), some (vI 0), some (vI 0), some (vI 0)] [] _
  refine ab_aload_n d_PA_init_4 rfl ?_
  refine ab_iconst (v := (-1)) d_PA_init_5 (by decide) ?_
  refine ab_putf (fs := [vI 0, vI 0, vN, vI 0, vI 0, vN, vN, vN, vI 0, vI 0, vI 0, vI 0, vI 0, vI 0, vI 0]) f_PA_9 (Or.inl rfl) d_PA_init_6 h149 (Nat.le_of_ble_eq_true rfl) (fun _ => ⟨rfl, rfl⟩) (by decide) ?_
  obtain ⟨G1, eG1⟩ : ∃ z : ab_G, z = List.set G 149 (ab_ob 4 [vI 0, vI 0, vN, vI (-1), vI 0, vN, vN, vN, vI 0, vI 0, vI 0, vI 0, vI 0, vI 0, vI 0]) := ⟨_, rfl⟩
  have hlen := ab_klen eG1 hlen
  have hsl := ab_ksl 15 eG1 h149 rfl rfl hsl
  have hfr := hfr.wr eG1 (by decide)
  have h149 := ab_kept eG1 h149
  change ab_W _ _ _ (List.set G 149 (ab_ob 4 [vI 0, vI 0, vN, vI (-1), vI 0, vN, vN, vN, vI 0, vI 0, vI 0, vI 0, vI 0, vI 0, vI 0])) 9 [some (vR (149)), some (vI 4), some (vI 0), some (vI 0), some (vI 0)] [] _
  rw [← eG1]
  refine ab_aload_n d_PA_init_9 rfl ?_
  refine ab_iconst (v := (-1)) d_PA_init_10 (by decide) ?_
  refine ab_putf (fs := [vI 0, vI 0, vN, vI (-1), vI 0, vN, vN, vN, vI 0, vI 0, vI 0, vI 0, vI 0, vI 0, vI 0]) f_PA_15 (Or.inl rfl) d_PA_init_11 h149 (Nat.le_of_ble_eq_true rfl) (fun _ => ⟨rfl, rfl⟩) (by decide) ?_
  obtain ⟨G2, eG2⟩ : ∃ z : ab_G, z = List.set G1 149 (ab_ob 4 [vI 0, vI 0, vN, vI (-1), vI 0, vN, vN, vN, vI 0, vI 0, vI 0, vI 0, vI 0, vI 0, vI (-1)]) := ⟨_, rfl⟩
  have hlen := ab_klen eG2 hlen
  have hsl := ab_ksl 15 eG2 h149 rfl rfl hsl
  have hfr := hfr.wr eG2 (by decide)
  have h149 := ab_kept eG2 h149
  change ab_W _ _ _ (List.set G1 149 (ab_ob 4 [vI 0, vI 0, vN, vI (-1), vI 0, vN, vN, vN, vI 0, vI 0, vI 0, vI 0, vI 0, vI 0, vI (-1)])) 14 [some (vR (149)), some (vI 4), some (vI 0), some (vI 0), some (vI 0)] [] _
  rw [← eG2]
  refine ab_aload_n d_PA_init_14 rfl ?_
  refine ab_iload_n d_PA_init_15 rfl ?_
  refine ab_putf (fs := [vI 0, vI 0, vN, vI (-1), vI 0, vN, vN, vN, vI 0, vI 0, vI 0, vI 0, vI 0, vI 0, vI (-1)]) f_PA_18 (Or.inr ⟨rfl, _, c_PA, rfl⟩) d_PA_init_16 h149 (Nat.le_of_ble_eq_true rfl) (fun _ => ⟨rfl, rfl⟩) (by decide) ?_
  obtain ⟨G3, eG3⟩ : ∃ z : ab_G, z = List.set G2 149 (ab_ob 4 [vI 4, vI 0, vN, vI (-1), vI 0, vN, vN, vN, vI 0, vI 0, vI 0, vI 0, vI 0, vI 0, vI (-1)]) := ⟨_, rfl⟩
  have hlen := ab_klen eG3 hlen
  have hsl := ab_ksl 15 eG3 h149 rfl rfl hsl
  have hfr := hfr.wr eG3 (by decide)
  have h149 := ab_kept eG3 h149
  change ab_W _ _ _ (List.set G2 149 (ab_ob 4 [vI 4, vI 0, vN, vI (-1), vI 0, vN, vN, vN, vI 0, vI 0, vI 0, vI 0, vI 0, vI 0, vI (-1)])) 19 [some (vR (149)), some (vI 4), some (vI 0), some (vI 0), some (vI 0)] [] _
  rw [← eG3]
  refine ab_aload_n d_PA_init_19 rfl ?_
  refine ab_iload_n d_PA_init_20 rfl ?_
  refine ab_putf (fs := [vI 4, vI 0, vN, vI (-1), vI 0, vN, vN, vN, vI 0, vI 0, vI 0, vI 0, vI 0, vI 0, vI (-1)]) f_PA_21 (Or.inr ⟨rfl, _, c_PA, rfl⟩) d_PA_init_21 h149 (Nat.le_of_ble_eq_true rfl) (fun _ => ⟨rfl, rfl⟩) (by decide) ?_
  obtain ⟨G4, eG4⟩ : ∃ z : ab_G, z = List.set G3 149 (ab_ob 4 [vI 4, vI 0, vN, vI (-1), vI 0, vN, vN, vN, vI 0, vI 0, vI 0, vI 0, vI 0, vI 0, vI (-1)]) := ⟨_, rfl⟩
  have hlen := ab_klen eG4 hlen
  have hsl := ab_ksl 15 eG4 h149 rfl rfl hsl
  have hfr := hfr.wr eG4 (by decide)
  have h149 := ab_kept eG4 h149
  change ab_W _ _ _ (List.set G3 149 (ab_ob 4 [vI 4, vI 0, vN, vI (-1), vI 0, vN, vN, vN, vI 0, vI 0, vI 0, vI 0, vI 0, vI 0, vI (-1)])) 24 [some (vR (149)), some (vI 4), some (vI 0), some (vI 0), some (vI 0)] [] _
  rw [← eG4]
  refine ab_aload_n d_PA_init_24 rfl ?_
  refine ab_iload_n d_PA_init_25 rfl ?_
  refine ab_putf (fs := [vI 4, vI 0, vN, vI (-1), vI 0, vN, vN, vN, vI 0, vI 0, vI 0, vI 0, vI 0, vI 0, vI (-1)]) f_PA_24 (Or.inl rfl) d_PA_init_26 h149 (Nat.le_of_ble_eq_true rfl) (fun _ => ⟨rfl, rfl⟩) (by decide) ?_
  obtain ⟨G5, eG5⟩ : ∃ z : ab_G, z = List.set G4 149 (ab_ob 4 [vI 4, vI 0, vN, vI (-1), vI 0, vN, vN, vN, vI 0, vI 0, vI 0, vI 0, vI 0, vI 0, vI (-1)]) := ⟨_, rfl⟩
  have hlen := ab_klen eG5 hlen
  have hsl := ab_ksl 15 eG5 h149 rfl rfl hsl
  have hfr := hfr.wr eG5 (by decide)
  have h149 := ab_kept eG5 h149
  change ab_W _ _ _ (List.set G4 149 (ab_ob 4 [vI 4, vI 0, vN, vI (-1), vI 0, vN, vN, vN, vI 0, vI 0, vI 0, vI 0, vI 0, vI 0, vI (-1)])) 29 [some (vR (149)), some (vI 4), some (vI 0), some (vI 0), some (vI 0)] [] _
  rw [← eG5]
  refine ab_aload_n d_PA_init_29 rfl ?_
  refine ab_iload d_PA_init_30 rfl ?_
  refine ab_putf (fs := [vI 4, vI 0, vN, vI (-1), vI 0, vN, vN, vN, vI 0, vI 0, vI 0, vI 0, vI 0, vI 0, vI (-1)]) f_PA_27 (Or.inl rfl) d_PA_init_32 h149 (Nat.le_of_ble_eq_true rfl) ab_fb0 (by decide) ?_
  obtain ⟨G6, eG6⟩ : ∃ z : ab_G, z = List.set G5 149 (ab_ob 4 [vI 4, vI 0, vN, vI (-1), vI 0, vN, vN, vN, vI 0, vI 0, vI 0, vI 0, vI 0, vI 0, vI (-1)]) := ⟨_, rfl⟩
  have hlen := ab_klen eG6 hlen
  have hsl := ab_ksl 15 eG6 h149 rfl rfl hsl
  have hfr := hfr.wr eG6 (by decide)
  have h149 := ab_kept eG6 h149
  change ab_W _ _ _ (List.set G5 149 (ab_ob 4 [vI 4, vI 0, vN, vI (-1), vI 0, vN, vN, vN, vI 0, vI 0, vI 0, vI 0, vI 0, vI 0, vI (-1)])) 35 [some (vR (149)), some (vI 4), some (vI 0), some (vI 0), some (vI 0)] [] _
  rw [← eG6]
  exact ab_vret rfl d_PA_init_35 (by rw [hQ]; exact ⟨rfl, hfr, hlen, hsl, h149⟩)
set_option maxRecDepth 100000 in
set_option maxHeartbeats 4000000 in
theorem q_PA_init_1 {X : ab_X} {d : Nat} {G : ab_G}  (hlen : G.length = 151) (hsl : ab_slots G = 1890783) (h150 : G[150]? = some (ab_ob 4 [vI 0, vI 0, vN, vI 0, vI 0, vN, vN, vN, vI 0, vI 0, vI 0, vI 0, vI 0, vI 0, vI 0])) (hd : 1 ≤ d) : ab_F X d y_PA_init (.code y_PA_init b_PA_init 5 none) [vR (150), vI 5, vI 0, vI 0, vI 1] G (fun o G2 => o = .returned none ∧ ab_fr [150] G G2 ∧ G2.length = 151 ∧ ab_slots G2 = 1890783 ∧ G2[150]? = some (ab_ob 4 [vI 5, vI 0, vN, vI (-1), vI 0, vN, vN, vN, vI 0, vI 1, vI 0, vI 0, vI 0, vI 0, vI (-1)])) := by
  refine ab_F_of (by decide +kernel) (Nat.le_of_ble_eq_true rfl) ?_
  obtain ⟨Q, hQ⟩ : ∃ z : Outcome → ab_G → Prop, z = (fun o G2 => o = .returned none ∧ ab_fr [150] G G2 ∧ G2.length = 151 ∧ ab_slots G2 = 1890783 ∧ G2[150]? = some (ab_ob 4 [vI 5, vI 0, vN, vI (-1), vI 0, vN, vN, vN, vI 0, vI 1, vI 0, vI 0, vI 0, vI 0, vI (-1)])) := ⟨_, rfl⟩
  rw [← hQ]
  change ab_W X (ab_pl y_PA_init b_PA_init 5 none) d G 0 [some (vR (150)), some (vI 5), some (vI 0), some (vI 0), some (vI 1)] [] Q
  have hfr : ab_fr [150] G G := ab_fr.rf
  refine ab_aload_n d_PA_init_0 rfl ?_
  refine ab_objInit mj_PA_3 ob_inst ob_code d_PA_init_1 (Nat.le_of_ble_eq_true rfl) (by omega) ?_
  change ab_W _ _ _ G 4 [some (vR (150)), some (vI 5), some (vI 0), some (vI 0), some (vI 1)] [] _
  refine ab_aload_n d_PA_init_4 rfl ?_
  refine ab_iconst (v := (-1)) d_PA_init_5 (by decide) ?_
  refine ab_putf (fs := [vI 0, vI 0, vN, vI 0, vI 0, vN, vN, vN, vI 0, vI 0, vI 0, vI 0, vI 0, vI 0, vI 0]) f_PA_9 (Or.inl rfl) d_PA_init_6 h150 (Nat.le_of_ble_eq_true rfl) (fun _ => ⟨rfl, rfl⟩) (by decide) ?_
  obtain ⟨G1, eG1⟩ : ∃ z : ab_G, z = List.set G 150 (ab_ob 4 [vI 0, vI 0, vN, vI (-1), vI 0, vN, vN, vN, vI 0, vI 0, vI 0, vI 0, vI 0, vI 0, vI 0]) := ⟨_, rfl⟩
  have hlen := ab_klen eG1 hlen
  have hsl := ab_ksl 15 eG1 h150 rfl rfl hsl
  have hfr := hfr.wr eG1 (by decide)
  have h150 := ab_kept eG1 h150
  change ab_W _ _ _ (List.set G 150 (ab_ob 4 [vI 0, vI 0, vN, vI (-1), vI 0, vN, vN, vN, vI 0, vI 0, vI 0, vI 0, vI 0, vI 0, vI 0])) 9 [some (vR (150)), some (vI 5), some (vI 0), some (vI 0), some (vI 1)] [] _
  rw [← eG1]
  refine ab_aload_n d_PA_init_9 rfl ?_
  refine ab_iconst (v := (-1)) d_PA_init_10 (by decide) ?_
  refine ab_putf (fs := [vI 0, vI 0, vN, vI (-1), vI 0, vN, vN, vN, vI 0, vI 0, vI 0, vI 0, vI 0, vI 0, vI 0]) f_PA_15 (Or.inl rfl) d_PA_init_11 h150 (Nat.le_of_ble_eq_true rfl) (fun _ => ⟨rfl, rfl⟩) (by decide) ?_
  obtain ⟨G2, eG2⟩ : ∃ z : ab_G, z = List.set G1 150 (ab_ob 4 [vI 0, vI 0, vN, vI (-1), vI 0, vN, vN, vN, vI 0, vI 0, vI 0, vI 0, vI 0, vI 0, vI (-1)]) := ⟨_, rfl⟩
  have hlen := ab_klen eG2 hlen
  have hsl := ab_ksl 15 eG2 h150 rfl rfl hsl
  have hfr := hfr.wr eG2 (by decide)
  have h150 := ab_kept eG2 h150
  change ab_W _ _ _ (List.set G1 150 (ab_ob 4 [vI 0, vI 0, vN, vI (-1), vI 0, vN, vN, vN, vI 0, vI 0, vI 0, vI 0, vI 0, vI 0, vI (-1)])) 14 [some (vR (150)), some (vI 5), some (vI 0), some (vI 0), some (vI 1)] [] _
  rw [← eG2]
  refine ab_aload_n d_PA_init_14 rfl ?_
  refine ab_iload_n d_PA_init_15 rfl ?_
  refine ab_putf (fs := [vI 0, vI 0, vN, vI (-1), vI 0, vN, vN, vN, vI 0, vI 0, vI 0, vI 0, vI 0, vI 0, vI (-1)]) f_PA_18 (Or.inr ⟨rfl, _, c_PA, rfl⟩) d_PA_init_16 h150 (Nat.le_of_ble_eq_true rfl) (fun _ => ⟨rfl, rfl⟩) (by decide) ?_
  obtain ⟨G3, eG3⟩ : ∃ z : ab_G, z = List.set G2 150 (ab_ob 4 [vI 5, vI 0, vN, vI (-1), vI 0, vN, vN, vN, vI 0, vI 0, vI 0, vI 0, vI 0, vI 0, vI (-1)]) := ⟨_, rfl⟩
  have hlen := ab_klen eG3 hlen
  have hsl := ab_ksl 15 eG3 h150 rfl rfl hsl
  have hfr := hfr.wr eG3 (by decide)
  have h150 := ab_kept eG3 h150
  change ab_W _ _ _ (List.set G2 150 (ab_ob 4 [vI 5, vI 0, vN, vI (-1), vI 0, vN, vN, vN, vI 0, vI 0, vI 0, vI 0, vI 0, vI 0, vI (-1)])) 19 [some (vR (150)), some (vI 5), some (vI 0), some (vI 0), some (vI 1)] [] _
  rw [← eG3]
  refine ab_aload_n d_PA_init_19 rfl ?_
  refine ab_iload_n d_PA_init_20 rfl ?_
  refine ab_putf (fs := [vI 5, vI 0, vN, vI (-1), vI 0, vN, vN, vN, vI 0, vI 0, vI 0, vI 0, vI 0, vI 0, vI (-1)]) f_PA_21 (Or.inr ⟨rfl, _, c_PA, rfl⟩) d_PA_init_21 h150 (Nat.le_of_ble_eq_true rfl) (fun _ => ⟨rfl, rfl⟩) (by decide) ?_
  obtain ⟨G4, eG4⟩ : ∃ z : ab_G, z = List.set G3 150 (ab_ob 4 [vI 5, vI 0, vN, vI (-1), vI 0, vN, vN, vN, vI 0, vI 0, vI 0, vI 0, vI 0, vI 0, vI (-1)]) := ⟨_, rfl⟩
  have hlen := ab_klen eG4 hlen
  have hsl := ab_ksl 15 eG4 h150 rfl rfl hsl
  have hfr := hfr.wr eG4 (by decide)
  have h150 := ab_kept eG4 h150
  change ab_W _ _ _ (List.set G3 150 (ab_ob 4 [vI 5, vI 0, vN, vI (-1), vI 0, vN, vN, vN, vI 0, vI 0, vI 0, vI 0, vI 0, vI 0, vI (-1)])) 24 [some (vR (150)), some (vI 5), some (vI 0), some (vI 0), some (vI 1)] [] _
  rw [← eG4]
  refine ab_aload_n d_PA_init_24 rfl ?_
  refine ab_iload_n d_PA_init_25 rfl ?_
  refine ab_putf (fs := [vI 5, vI 0, vN, vI (-1), vI 0, vN, vN, vN, vI 0, vI 0, vI 0, vI 0, vI 0, vI 0, vI (-1)]) f_PA_24 (Or.inl rfl) d_PA_init_26 h150 (Nat.le_of_ble_eq_true rfl) (fun _ => ⟨rfl, rfl⟩) (by decide) ?_
  obtain ⟨G5, eG5⟩ : ∃ z : ab_G, z = List.set G4 150 (ab_ob 4 [vI 5, vI 0, vN, vI (-1), vI 0, vN, vN, vN, vI 0, vI 0, vI 0, vI 0, vI 0, vI 0, vI (-1)]) := ⟨_, rfl⟩
  have hlen := ab_klen eG5 hlen
  have hsl := ab_ksl 15 eG5 h150 rfl rfl hsl
  have hfr := hfr.wr eG5 (by decide)
  have h150 := ab_kept eG5 h150
  change ab_W _ _ _ (List.set G4 150 (ab_ob 4 [vI 5, vI 0, vN, vI (-1), vI 0, vN, vN, vN, vI 0, vI 0, vI 0, vI 0, vI 0, vI 0, vI (-1)])) 29 [some (vR (150)), some (vI 5), some (vI 0), some (vI 0), some (vI 1)] [] _
  rw [← eG5]
  refine ab_aload_n d_PA_init_29 rfl ?_
  refine ab_iload d_PA_init_30 rfl ?_
  refine ab_putf (fs := [vI 5, vI 0, vN, vI (-1), vI 0, vN, vN, vN, vI 0, vI 0, vI 0, vI 0, vI 0, vI 0, vI (-1)]) f_PA_27 (Or.inl rfl) d_PA_init_32 h150 (Nat.le_of_ble_eq_true rfl) ab_fb1 (by decide) ?_
  obtain ⟨G6, eG6⟩ : ∃ z : ab_G, z = List.set G5 150 (ab_ob 4 [vI 5, vI 0, vN, vI (-1), vI 0, vN, vN, vN, vI 0, vI 1, vI 0, vI 0, vI 0, vI 0, vI (-1)]) := ⟨_, rfl⟩
  have hlen := ab_klen eG6 hlen
  have hsl := ab_ksl 15 eG6 h150 rfl rfl hsl
  have hfr := hfr.wr eG6 (by decide)
  have h150 := ab_kept eG6 h150
  change ab_W _ _ _ (List.set G5 150 (ab_ob 4 [vI 5, vI 0, vN, vI (-1), vI 0, vN, vN, vN, vI 0, vI 1, vI 0, vI 0, vI 0, vI 0, vI (-1)])) 35 [some (vR (150)), some (vI 5), some (vI 0), some (vI 0), some (vI 1)] [] _
  rw [← eG6]
  exact ab_vret rfl d_PA_init_35 (by rw [hQ]; exact ⟨rfl, hfr, hlen, hsl, h150⟩)
set_option maxRecDepth 100000 in
set_option maxHeartbeats 4000000 in
theorem q_PA_push_0 {X : ab_X} {d : Nat} {G : ab_G}  (hlen : G.length = 151) (hsl : ab_slots G = 1890783) (h149 : G[149]? = some (ab_ob 4 [vI 4, vI 0, vN, vI (-1), vI 0, vN, vN, vN, vI 0, vI 0, vI 0, vI 0, vI 0, vI 0, vI (-1)])) (h150 : G[150]? = some (ab_ob 4 [vI 5, vI 0, vN, vI (-1), vI 0, vN, vN, vN, vI 0, vI 1, vI 0, vI 0, vI 0, vI 0, vI (-1)])) : ab_F X d y_PA_push (.code y_PA_push b_PA_push 2 none) [vR (149), vR (150)] G (fun o G2 => o = .returned none ∧ ab_fr [149, 150] G G2 ∧ G2.length = 151 ∧ ab_slots G2 = 1890783 ∧ G2[149]? = some (ab_ob 4 [vI 4, vI 0, vN, vI (-1), vI 0, vN, vR (150), vN, vI 0, vI 0, vI 0, vI 0, vI 0, vI 0, vI (-1)]) ∧ G2[150]? = some (ab_ob 4 [vI 5, vI 0, vN, vI (-1), vI 0, vN, vN, vN, vI 0, vI 1, vI 0, vI 0, vI 0, vI 0, vI (-1)])) := by
  refine ab_F_of (by decide +kernel) (Nat.le_of_ble_eq_true rfl) ?_
  obtain ⟨Q, hQ⟩ : ∃ z : Outcome → ab_G → Prop, z = (fun o G2 => o = .returned none ∧ ab_fr [149, 150] G G2 ∧ G2.length = 151 ∧ ab_slots G2 = 1890783 ∧ G2[149]? = some (ab_ob 4 [vI 4, vI 0, vN, vI (-1), vI 0, vN, vR (150), vN, vI 0, vI 0, vI 0, vI 0, vI 0, vI 0, vI (-1)]) ∧ G2[150]? = some (ab_ob 4 [vI 5, vI 0, vN, vI (-1), vI 0, vN, vN, vN, vI 0, vI 1, vI 0, vI 0, vI 0, vI 0, vI (-1)])) := ⟨_, rfl⟩
  rw [← hQ]
  change ab_W X (ab_pl y_PA_push b_PA_push 2 none) d G 0 [some (vR (149)), some (vR (150))] [] Q
  have hfr : ab_fr [149, 150] G G := ab_fr.rf
  refine ab_aload_n d_PA_push_0 rfl ?_
  refine ab_aload_n d_PA_push_1 rfl ?_
  refine ab_getf (fs := [vI 4, vI 0, vN, vI (-1), vI 0, vN, vN, vN, vI 0, vI 0, vI 0, vI 0, vI 0, vI 0, vI (-1)]) f_PA_31 d_PA_push_2 h149 rfl ?_
  refine ab_putf (fs := [vI 5, vI 0, vN, vI (-1), vI 0, vN, vN, vN, vI 0, vI 1, vI 0, vI 0, vI 0, vI 0, vI (-1)]) f_PA_35 (Or.inl rfl) d_PA_push_5 h150 (Nat.le_of_ble_eq_true rfl) (fun _ => ⟨rfl, rfl⟩) (by decide) ?_
  obtain ⟨G1, eG1⟩ : ∃ z : ab_G, z = List.set G 150 (ab_ob 4 [vI 5, vI 0, vN, vI (-1), vI 0, vN, vN, vN, vI 0, vI 1, vI 0, vI 0, vI 0, vI 0, vI (-1)]) := ⟨_, rfl⟩
  have h149 := ab_keep eG1 (by decide) h149
  have hlen := ab_klen eG1 hlen
  have hsl := ab_ksl 15 eG1 h150 rfl rfl hsl
  have hfr := hfr.wr eG1 (by decide)
  have h150 := ab_kept eG1 h150
  change ab_W _ _ _ (List.set G 150 (ab_ob 4 [vI 5, vI 0, vN, vI (-1), vI 0, vN, vN, vN, vI 0, vI 1, vI 0, vI 0, vI 0, vI 0, vI (-1)])) 8 [some (vR (149)), some (vR (150))] [] _
  rw [← eG1]
  refine ab_aload_n d_PA_push_8 rfl ?_
  refine ab_aload_n d_PA_push_9 rfl ?_
  refine ab_putf (fs := [vI 4, vI 0, vN, vI (-1), vI 0, vN, vN, vN, vI 0, vI 0, vI 0, vI 0, vI 0, vI 0, vI (-1)]) f_PA_31 (Or.inl rfl) d_PA_push_10 h149 (Nat.le_of_ble_eq_true rfl) (fun _ => ⟨rfl, rfl⟩) (by decide) ?_
  obtain ⟨G2, eG2⟩ : ∃ z : ab_G, z = List.set G1 149 (ab_ob 4 [vI 4, vI 0, vN, vI (-1), vI 0, vN, vR (150), vN, vI 0, vI 0, vI 0, vI 0, vI 0, vI 0, vI (-1)]) := ⟨_, rfl⟩
  have h150 := ab_keep eG2 (by decide) h150
  have hlen := ab_klen eG2 hlen
  have hsl := ab_ksl 15 eG2 h149 rfl rfl hsl
  have hfr := hfr.wr eG2 (by decide)
  have h149 := ab_kept eG2 h149
  change ab_W _ _ _ (List.set G1 149 (ab_ob 4 [vI 4, vI 0, vN, vI (-1), vI 0, vN, vR (150), vN, vI 0, vI 0, vI 0, vI 0, vI 0, vI 0, vI (-1)])) 13 [some (vR (149)), some (vR (150))] [] _
  rw [← eG2]
  exact ab_vret rfl d_PA_push_13 (by rw [hQ]; exact ⟨rfl, hfr, hlen, hsl, h149, h150⟩)
set_option maxRecDepth 100000 in
set_option maxHeartbeats 4000000 in
theorem q_PA_closeRows_0 {X : ab_X} {d : Nat} {G : ab_G}  (hlen : G.length = 151) (hsl : ab_slots G = 1890783) (h149 : G[149]? = some (ab_ob 4 [vI 4, vI 0, vN, vI (-1), vI 0, vN, vR (150), vN, vI 0, vI 0, vI 0, vI 0, vI 0, vI 0, vI (-1)])) (h150 : G[150]? = some (ab_ob 4 [vI 5, vI 0, vN, vI (-1), vI 0, vN, vN, vN, vI 0, vI 1, vI 0, vI 0, vI 0, vI 0, vI (-1)])) (hd : 1 ≤ d) : ab_F X d y_PA_closeRows (.code y_PA_closeRows b_PA_closeRows 3 none) [vR (149)] G (fun o G2 => o = .returned none ∧ ab_fr [149] G G2 ∧ G2.length = 151 ∧ ab_slots G2 = 1890783 ∧ G2[149]? = some (ab_ob 4 [vI 4, vI 0, vN, vI (-1), vI 0, vN, vR (150), vN, vI 0, vI 1, vI 0, vI 0, vI 0, vI 0, vI (-1)])) := by
  refine ab_F_of (by decide +kernel) (Nat.le_of_ble_eq_true rfl) ?_
  obtain ⟨Q, hQ⟩ : ∃ z : Outcome → ab_G → Prop, z = (fun o G2 => o = .returned none ∧ ab_fr [149] G G2 ∧ G2.length = 151 ∧ ab_slots G2 = 1890783 ∧ G2[149]? = some (ab_ob 4 [vI 4, vI 0, vN, vI (-1), vI 0, vN, vR (150), vN, vI 0, vI 1, vI 0, vI 0, vI 0, vI 0, vI (-1)])) := ⟨_, rfl⟩
  rw [← hQ]
  change ab_W X (ab_pl y_PA_closeRows b_PA_closeRows 3 none) d G 0 [some (vR (149)), none, none] [] Q
  have hfr : ab_fr [149] G G := ab_fr.rf
  refine ab_aload_n d_PA_closeRows_0 rfl ?_
  refine ab_getf (fs := [vI 4, vI 0, vN, vI (-1), vI 0, vN, vR (150), vN, vI 0, vI 0, vI 0, vI 0, vI 0, vI 0, vI (-1)]) f_PA_31 d_PA_closeRows_1 h149 rfl ?_
  refine ab_astore_n d_PA_closeRows_4 (Nat.le_of_ble_eq_true rfl) (Nat.le_of_ble_eq_true rfl) rfl ?_
  change ab_W _ _ _ G 5 [some (vR (149)), some (vR (150)), none] [] _
  refine ab_aload_n d_PA_closeRows_5 rfl ?_
  refine ab_ifnull d_PA_closeRows_6 ?_
  refine ab_aload_n d_PA_closeRows_9 rfl ?_
  refine ab_getf (fs := [vI 5, vI 0, vN, vI (-1), vI 0, vN, vN, vN, vI 0, vI 1, vI 0, vI 0, vI 0, vI 0, vI (-1)]) f_PA_35 d_PA_closeRows_10 h150 rfl ?_
  refine ab_ifnonnullN d_PA_closeRows_13 ?_
  refine ab_iconst (v := 0) d_PA_closeRows_16 (by decide) ?_
  refine ab_goto (tgt := 21) d_PA_closeRows_17 (by decide) ?_
  refine ab_istore_n d_PA_closeRows_21 (Nat.le_of_ble_eq_true rfl) (Nat.le_of_ble_eq_true rfl) rfl ?_
  change ab_W _ _ _ G 22 [some (vR (149)), some (vR (150)), some (vI 0)] [] _
  refine ab_aload_n d_PA_closeRows_22 rfl ?_
  refine ab_ldc (v := 1000000) d_PA_closeRows_23 cn_PA_42 ?_
  refine ab_aload_n d_PA_closeRows_25 rfl ?_
  refine ab_getf (fs := [vI 4, vI 0, vN, vI (-1), vI 0, vN, vR (150), vN, vI 0, vI 0, vI 0, vI 0, vI 0, vI 0, vI (-1)]) f_PA_24 d_PA_closeRows_26 h149 rfl ?_
  refine ab_aload_n d_PA_closeRows_29 rfl ?_
  refine ab_getf (fs := [vI 5, vI 0, vN, vI (-1), vI 0, vN, vN, vN, vI 0, vI 1, vI 0, vI 0, vI 0, vI 0, vI (-1)]) f_PA_24 d_PA_closeRows_30 h150 rfl ?_
  refine ab_iadd d_PA_closeRows_33 ?_
  refine ab_topi (y := 0) (by decide) ?_
  refine ab_iload_n d_PA_closeRows_34 rfl ?_
  refine ab_iadd d_PA_closeRows_35 ?_
  refine ab_topi (y := 0) (by decide) ?_
  refine ab_mmin mj_PA_43 mm_min_st ini_MA mm_min_cd d_PA_closeRows_36 (Nat.le_of_ble_eq_true rfl) (by omega) ?_
  refine ab_topi (y := 0) (by decide) ?_
  refine ab_putf (fs := [vI 4, vI 0, vN, vI (-1), vI 0, vN, vR (150), vN, vI 0, vI 0, vI 0, vI 0, vI 0, vI 0, vI (-1)]) f_PA_24 (Or.inl rfl) d_PA_closeRows_39 h149 (Nat.le_of_ble_eq_true rfl) (fun _ => ⟨rfl, rfl⟩) (by decide) ?_
  obtain ⟨G1, eG1⟩ : ∃ z : ab_G, z = List.set G 149 (ab_ob 4 [vI 4, vI 0, vN, vI (-1), vI 0, vN, vR (150), vN, vI 0, vI 0, vI 0, vI 0, vI 0, vI 0, vI (-1)]) := ⟨_, rfl⟩
  have h150 := ab_keep eG1 (by decide) h150
  have hlen := ab_klen eG1 hlen
  have hsl := ab_ksl 15 eG1 h149 rfl rfl hsl
  have hfr := hfr.wr eG1 (by decide)
  have h149 := ab_kept eG1 h149
  change ab_W _ _ _ (List.set G 149 (ab_ob 4 [vI 4, vI 0, vN, vI (-1), vI 0, vN, vR (150), vN, vI 0, vI 0, vI 0, vI 0, vI 0, vI 0, vI (-1)])) 42 [some (vR (149)), some (vR (150)), some (vI 0)] [] _
  rw [← eG1]
  refine ab_aload_n d_PA_closeRows_42 rfl ?_
  refine ab_dup d_PA_closeRows_43 rfl ?_
  refine ab_getf (fs := [vI 4, vI 0, vN, vI (-1), vI 0, vN, vR (150), vN, vI 0, vI 0, vI 0, vI 0, vI 0, vI 0, vI (-1)]) f_PA_27 d_PA_closeRows_44 h149 rfl ?_
  refine ab_aload_n d_PA_closeRows_47 rfl ?_
  refine ab_getf (fs := [vI 5, vI 0, vN, vI (-1), vI 0, vN, vN, vN, vI 0, vI 1, vI 0, vI 0, vI 0, vI 0, vI (-1)]) f_PA_27 d_PA_closeRows_48 h150 rfl ?_
  refine ab_ior d_PA_closeRows_51 ?_
  refine ab_topi (y := 1) (by decide) ?_
  refine ab_putf (fs := [vI 4, vI 0, vN, vI (-1), vI 0, vN, vR (150), vN, vI 0, vI 0, vI 0, vI 0, vI 0, vI 0, vI (-1)]) f_PA_27 (Or.inl rfl) d_PA_closeRows_52 h149 (Nat.le_of_ble_eq_true rfl) ab_fb1 (by decide) ?_
  obtain ⟨G2, eG2⟩ : ∃ z : ab_G, z = List.set G1 149 (ab_ob 4 [vI 4, vI 0, vN, vI (-1), vI 0, vN, vR (150), vN, vI 0, vI 1, vI 0, vI 0, vI 0, vI 0, vI (-1)]) := ⟨_, rfl⟩
  have h150 := ab_keep eG2 (by decide) h150
  have hlen := ab_klen eG2 hlen
  have hsl := ab_ksl 15 eG2 h149 rfl rfl hsl
  have hfr := hfr.wr eG2 (by decide)
  have h149 := ab_kept eG2 h149
  change ab_W _ _ _ (List.set G1 149 (ab_ob 4 [vI 4, vI 0, vN, vI (-1), vI 0, vN, vR (150), vN, vI 0, vI 1, vI 0, vI 0, vI 0, vI 0, vI (-1)])) 55 [some (vR (149)), some (vR (150)), some (vI 0)] [] _
  rw [← eG2]
  refine ab_aload_n d_PA_closeRows_55 rfl ?_
  refine ab_getf (fs := [vI 5, vI 0, vN, vI (-1), vI 0, vN, vN, vN, vI 0, vI 1, vI 0, vI 0, vI 0, vI 0, vI (-1)]) f_PA_35 d_PA_closeRows_56 h150 rfl ?_
  refine ab_astore_nN d_PA_closeRows_59 (Nat.le_of_ble_eq_true rfl) (Nat.le_of_ble_eq_true rfl) rfl ?_
  change ab_W _ _ _ G2 60 [some (vR (149)), some (vN), some (vI 0)] [] _
  refine ab_goto (tgt := 5) d_PA_closeRows_60 (by decide) ?_
  refine ab_aload_nN d_PA_closeRows_5 rfl ?_
  refine ab_ifnullN (tgt := 63) d_PA_closeRows_6 (by decide) ?_
  exact ab_vret rfl d_PA_closeRows_63 (by rw [hQ]; exact ⟨rfl, hfr, hlen, hsl, h149⟩)
set_option maxRecDepth 100000 in
set_option maxHeartbeats 4000000 in
theorem q_RD_read_0 {X : ab_X} {d : Nat} {G : ab_G} {xs : Nat → Int32} (hlen : G.length = 149) (hsl : ab_slots G = 1890753) (h20 : G[20]? = some (ab_ob 7 [vI 2000, vR 21, vI 0])) (h22 : G[22]? = some (ab_ob 6 [vR 23, vR 27, vI 0, vI 0, vI 0, vR 28, vR 29, vI 0, vI 0, vI 0])) (h23 : G[23]? = some (ab_ob 10 [vR 24, vR 26, vI 0, vI 0, vI 0, vI (-1), vR 1, vI 0])) (hd : 2 ≤ d) : ab_F X d y_RD_read (.code y_RD_read b_RD_read 6 (some (.object "PatternWorks$Part"))) [vR 22, vR 20, vI (xs 2)] G (fun o G2 => o = .returned (some (vR (149))) ∧ ab_fr [22, 23, 149, 150] G G2 ∧ G2.length = 151 ∧ ab_slots G2 = 1890783 ∧ G2[22]? = some (ab_ob 6 [vR 23, vR (149), vI 0, vI (xs 2), vI 0, vR 28, vR 29, vI 0, vI 0, vI 0]) ∧ G2[23]? = some (ab_ob 10 [vR 24, vR 21, vI 0, vI 0, vI 0, vI (-1), vR 1, vI 0]) ∧ G2[149]? = some (ab_ob 4 [vI 4, vI 0, vN, vI (-1), vI 0, vN, vR (150), vN, vI 0, vI 1, vI 0, vI 0, vI 0, vI 0, vI (-1)]) ∧ G2[150]? = some (ab_ob 4 [vI 5, vI 0, vN, vI (-1), vI 0, vN, vN, vN, vI 0, vI 1, vI 0, vI 0, vI 0, vI 0, vI (-1)])) := by
  refine ab_F_of (by decide +kernel) (Nat.le_of_ble_eq_true rfl) ?_
  obtain ⟨Q, hQ⟩ : ∃ z : Outcome → ab_G → Prop, z = (fun o G2 => o = .returned (some (vR (149))) ∧ ab_fr [22, 23, 149, 150] G G2 ∧ G2.length = 151 ∧ ab_slots G2 = 1890783 ∧ G2[22]? = some (ab_ob 6 [vR 23, vR (149), vI 0, vI (xs 2), vI 0, vR 28, vR 29, vI 0, vI 0, vI 0]) ∧ G2[23]? = some (ab_ob 10 [vR 24, vR 21, vI 0, vI 0, vI 0, vI (-1), vR 1, vI 0]) ∧ G2[149]? = some (ab_ob 4 [vI 4, vI 0, vN, vI (-1), vI 0, vN, vR (150), vN, vI 0, vI 1, vI 0, vI 0, vI 0, vI 0, vI (-1)]) ∧ G2[150]? = some (ab_ob 4 [vI 5, vI 0, vN, vI (-1), vI 0, vN, vN, vN, vI 0, vI 1, vI 0, vI 0, vI 0, vI 0, vI (-1)])) := ⟨_, rfl⟩
  rw [← hQ]
  change ab_W X (ab_pl y_RD_read b_RD_read 6 (some (.object "PatternWorks$Part"))) d G 0 [some (vR 22), some (vR 20), some (vI (xs 2)), none, none, none] [] Q
  have hfr : ab_fr [22, 23, 149, 150] G G := ab_fr.rf
  refine ab_aload_n d_RD_read_0 rfl ?_
  refine ab_getf (fs := [vR 23, vR 27, vI 0, vI 0, vI 0, vR 28, vR 29, vI 0, vI 0, vI 0]) f_RD_12 d_RD_read_1 h22 rfl ?_
  refine ab_aload_n d_RD_read_4 rfl ?_
  refine ab_callV (d' := d - 1) (as := [vR 20]) (st := []) (r := _) (q_TX_begin_0  hlen hsl h20 h23) (fun o G2 h => ⟨_, h.1⟩) (by omega) m_TX_begin ml_RD_34 im_TX_begin se_TX_begin c_TX h23 (Nat.le_of_ble_eq_true rfl) d_RD_read_5 rfl ?_
  intro v G1 hq
  obtain ⟨hv, hfk, hlen, hsl, h23⟩ := hq
  cases hv
  have h20 := hfk.get (by decide) h20
  have h22 := hfk.get (by decide) h22
  have hfr := hfr.cl hfk (by decide)
  change ab_W _ _ _ G1 8 [some (vR 22), some (vR 20), some (vI (xs 2)), none, none, none] [] _
  refine ab_aload_n d_RD_read_8 rfl ?_
  refine ab_iload_n d_RD_read_9 rfl ?_
  refine ab_putf (fs := [vR 23, vR 27, vI 0, vI 0, vI 0, vR 28, vR 29, vI 0, vI 0, vI 0]) f_RD_38 (Or.inl rfl) d_RD_read_10 h22 (Nat.le_of_ble_eq_true rfl) (fun _ => ⟨rfl, rfl⟩) (by decide) ?_
  obtain ⟨G2, eG2⟩ : ∃ z : ab_G, z = List.set G1 22 (ab_ob 6 [vR 23, vR 27, vI 0, vI (xs 2), vI 0, vR 28, vR 29, vI 0, vI 0, vI 0]) := ⟨_, rfl⟩
  have h20 := ab_keep eG2 (by decide) h20
  have h23 := ab_keep eG2 (by decide) h23
  have hlen := ab_klen eG2 hlen
  have hsl := ab_ksl 10 eG2 h22 rfl rfl hsl
  have hfr := hfr.wr eG2 (by decide)
  have h22 := ab_kept eG2 h22
  change ab_W _ _ _ (List.set G1 22 (ab_ob 6 [vR 23, vR 27, vI 0, vI (xs 2), vI 0, vR 28, vR 29, vI 0, vI 0, vI 0])) 13 [some (vR 22), some (vR 20), some (vI (xs 2)), none, none, none] [] _
  rw [← eG2]
  refine ab_aload_n d_RD_read_13 rfl ?_
  refine ab_iconst (v := 0) d_RD_read_14 (by decide) ?_
  refine ab_putf (fs := [vR 23, vR 27, vI 0, vI (xs 2), vI 0, vR 28, vR 29, vI 0, vI 0, vI 0]) f_RD_42 (Or.inl rfl) d_RD_read_15 h22 (Nat.le_of_ble_eq_true rfl) (fun _ => ⟨rfl, rfl⟩) (by decide) ?_
  obtain ⟨G3, eG3⟩ : ∃ z : ab_G, z = List.set G2 22 (ab_ob 6 [vR 23, vR 27, vI 0, vI (xs 2), vI 0, vR 28, vR 29, vI 0, vI 0, vI 0]) := ⟨_, rfl⟩
  have h20 := ab_keep eG3 (by decide) h20
  have h23 := ab_keep eG3 (by decide) h23
  have hlen := ab_klen eG3 hlen
  have hsl := ab_ksl 10 eG3 h22 rfl rfl hsl
  have hfr := hfr.wr eG3 (by decide)
  have h22 := ab_kept eG3 h22
  change ab_W _ _ _ (List.set G2 22 (ab_ob 6 [vR 23, vR 27, vI 0, vI (xs 2), vI 0, vR 28, vR 29, vI 0, vI 0, vI 0])) 18 [some (vR 22), some (vR 20), some (vI (xs 2)), none, none, none] [] _
  rw [← eG3]
  refine ab_aload_n d_RD_read_18 rfl ?_
  refine ab_iconst (v := 0) d_RD_read_19 (by decide) ?_
  refine ab_putf (fs := [vR 23, vR 27, vI 0, vI (xs 2), vI 0, vR 28, vR 29, vI 0, vI 0, vI 0]) f_RD_45 (Or.inl rfl) d_RD_read_20 h22 (Nat.le_of_ble_eq_true rfl) (fun _ => ⟨rfl, rfl⟩) (by decide) ?_
  obtain ⟨G4, eG4⟩ : ∃ z : ab_G, z = List.set G3 22 (ab_ob 6 [vR 23, vR 27, vI 0, vI (xs 2), vI 0, vR 28, vR 29, vI 0, vI 0, vI 0]) := ⟨_, rfl⟩
  have h20 := ab_keep eG4 (by decide) h20
  have h23 := ab_keep eG4 (by decide) h23
  have hlen := ab_klen eG4 hlen
  have hsl := ab_ksl 10 eG4 h22 rfl rfl hsl
  have hfr := hfr.wr eG4 (by decide)
  have h22 := ab_kept eG4 h22
  change ab_W _ _ _ (List.set G3 22 (ab_ob 6 [vR 23, vR 27, vI 0, vI (xs 2), vI 0, vR 28, vR 29, vI 0, vI 0, vI 0])) 23 [some (vR 22), some (vR 20), some (vI (xs 2)), none, none, none] [] _
  rw [← eG4]
  refine ab_new (fs := [vI 0, vI 0, vN, vI 0, vI 0, vN, vN, vN, vI 0, vI 0, vI 0, vI 0, vI 0, vI 0, vI 0]) k_PA rfl cl_RD_18 inst_PA ini_PA d_RD_read_23 (by decide) (fun _ => rfl) (by rw [hlen]; decide) (by rw [hsl]; decide) ?_
  rw [hlen]
  obtain ⟨G5, eG5⟩ : ∃ z : ab_G, z = G4 ++ [ab_ob 4 [vI 0, vI 0, vN, vI 0, vI 0, vN, vN, vN, vI 0, vI 0, vI 0, vI 0, vI 0, vI 0, vI 0]] := ⟨_, rfl⟩
  have h20 := ab_akeep eG5 h20
  have h22 := ab_akeep eG5 h22
  have h23 := ab_akeep eG5 h23
  have h149 := ab_anew1 eG5 hlen
  have hsl : ab_slots G5 = 1890768 := ab_asl (z := 15) eG5 hlen (by decide) hsl rfl (by decide)
  have hlen : G5.length = 150 := ab_alen1 eG5 hlen
  have hfr := hfr.ap eG5
  change ab_W _ _ _ (G4 ++ [ab_ob 4 [vI 0, vI 0, vN, vI 0, vI 0, vN, vN, vN, vI 0, vI 0, vI 0, vI 0, vI 0, vI 0, vI 0]]) 26 [some (vR 22), some (vR 20), some (vI (xs 2)), none, none, none] [vR (149)] _
  rw [← eG5]
  refine ab_dup d_RD_read_26 rfl ?_
  refine ab_iconst (v := 4) d_RD_read_27 (by decide) ?_
  refine ab_iconst (v := 0) d_RD_read_28 (by decide) ?_
  refine ab_iconst (v := 0) d_RD_read_29 (by decide) ?_
  refine ab_iconst (v := 0) d_RD_read_30 (by decide) ?_
  refine ab_callI (d' := d - 1) (as := [vI 4, vI 0, vI 0, vI 0]) (st := [vR (149)]) (q_PA_init_0  hlen hsl h149 (by omega)) (fun o G2 h => ⟨_, h.1⟩) (by omega) m_PA_init ml_RD_20 im_PA_init rfl (Nat.le_of_ble_eq_true rfl) d_RD_read_31 rfl ?_
  intro v G6 hq
  obtain ⟨hv, hfk, hlen, hsl, h149⟩ := hq
  cases hv
  have h20 := hfk.get (by decide) h20
  have h22 := hfk.get (by decide) h22
  have h23 := hfk.get (by decide) h23
  have hfr := hfr.cl hfk (by decide)
  change ab_W _ _ _ G6 34 [some (vR 22), some (vR 20), some (vI (xs 2)), none, none, none] [vR (149)] _
  refine ab_astore_n d_RD_read_34 (Nat.le_of_ble_eq_true rfl) (Nat.le_of_ble_eq_true rfl) rfl ?_
  change ab_W _ _ _ G6 35 [some (vR 22), some (vR 20), some (vI (xs 2)), some (vR (149)), none, none] [] _
  refine ab_aload_n d_RD_read_35 rfl ?_
  refine ab_new (fs := [vI 0, vI 0, vN, vI 0, vI 0, vN, vN, vN, vI 0, vI 0, vI 0, vI 0, vI 0, vI 0, vI 0]) k_PA rfl cl_RD_18 inst_PA ini_PA d_RD_read_36 (by decide) (fun _ => rfl) (by rw [hlen]; decide) (by rw [hsl]; decide) ?_
  rw [hlen]
  obtain ⟨G7, eG7⟩ : ∃ z : ab_G, z = G6 ++ [ab_ob 4 [vI 0, vI 0, vN, vI 0, vI 0, vN, vN, vN, vI 0, vI 0, vI 0, vI 0, vI 0, vI 0, vI 0]] := ⟨_, rfl⟩
  have h20 := ab_akeep eG7 h20
  have h22 := ab_akeep eG7 h22
  have h23 := ab_akeep eG7 h23
  have h149 := ab_akeep eG7 h149
  have h150 := ab_anew1 eG7 hlen
  have hsl : ab_slots G7 = 1890783 := ab_asl (z := 15) eG7 hlen (by decide) hsl rfl (by decide)
  have hlen : G7.length = 151 := ab_alen1 eG7 hlen
  have hfr := hfr.ap eG7
  change ab_W _ _ _ (G6 ++ [ab_ob 4 [vI 0, vI 0, vN, vI 0, vI 0, vN, vN, vN, vI 0, vI 0, vI 0, vI 0, vI 0, vI 0, vI 0]]) 39 [some (vR 22), some (vR 20), some (vI (xs 2)), some (vR (149)), none, none] [vR (150), vR (149)] _
  rw [← eG7]
  refine ab_dup d_RD_read_39 rfl ?_
  refine ab_iconst (v := 5) d_RD_read_40 (by decide) ?_
  refine ab_iconst (v := 0) d_RD_read_41 (by decide) ?_
  refine ab_iconst (v := 0) d_RD_read_42 (by decide) ?_
  refine ab_iconst (v := 1) d_RD_read_43 (by decide) ?_
  refine ab_callI (d' := d - 1) (as := [vI 5, vI 0, vI 0, vI 1]) (st := [vR (150), vR (149)]) (q_PA_init_1  hlen hsl h150 (by omega)) (fun o G2 h => ⟨_, h.1⟩) (by omega) m_PA_init ml_RD_20 im_PA_init rfl (Nat.le_of_ble_eq_true rfl) d_RD_read_44 rfl ?_
  intro v G8 hq
  obtain ⟨hv, hfk, hlen, hsl, h150⟩ := hq
  cases hv
  have h20 := hfk.get (by decide) h20
  have h22 := hfk.get (by decide) h22
  have h23 := hfk.get (by decide) h23
  have h149 := hfk.get (by decide) h149
  have hfr := hfr.cl hfk (by decide)
  change ab_W _ _ _ G8 47 [some (vR 22), some (vR 20), some (vI (xs 2)), some (vR (149)), none, none] [vR (150), vR (149)] _
  refine ab_callV (d' := d - 1) (as := [vR (150)]) (st := []) (r := _) (q_PA_push_0  hlen hsl h149 h150) (fun o G2 h => ⟨_, h.1⟩) (by omega) m_PA_push ml_RD_48 im_PA_push se_PA_push c_PA h149 (Nat.le_of_ble_eq_true rfl) d_RD_read_47 rfl ?_
  intro v G9 hq
  obtain ⟨hv, hfk, hlen, hsl, h149, h150⟩ := hq
  cases hv
  have h20 := hfk.get (by decide) h20
  have h22 := hfk.get (by decide) h22
  have h23 := hfk.get (by decide) h23
  have hfr := hfr.cl hfk (by decide)
  change ab_W _ _ _ G9 50 [some (vR 22), some (vR 20), some (vI (xs 2)), some (vR (149)), none, none] [] _
  refine ab_aload_n d_RD_read_50 rfl ?_
  refine ab_aload_n d_RD_read_51 rfl ?_
  refine ab_putf (fs := [vR 23, vR 27, vI 0, vI (xs 2), vI 0, vR 28, vR 29, vI 0, vI 0, vI 0]) f_RD_23 (Or.inl rfl) d_RD_read_52 h22 (Nat.le_of_ble_eq_true rfl) (fun _ => ⟨rfl, rfl⟩) (by decide) ?_
  obtain ⟨G10, eG10⟩ : ∃ z : ab_G, z = List.set G9 22 (ab_ob 6 [vR 23, vR (149), vI 0, vI (xs 2), vI 0, vR 28, vR 29, vI 0, vI 0, vI 0]) := ⟨_, rfl⟩
  have h20 := ab_keep eG10 (by decide) h20
  have h23 := ab_keep eG10 (by decide) h23
  have h149 := ab_keep eG10 (by decide) h149
  have h150 := ab_keep eG10 (by decide) h150
  have hlen := ab_klen eG10 hlen
  have hsl := ab_ksl 10 eG10 h22 rfl rfl hsl
  have hfr := hfr.wr eG10 (by decide)
  have h22 := ab_kept eG10 h22
  change ab_W _ _ _ (List.set G9 22 (ab_ob 6 [vR 23, vR (149), vI 0, vI (xs 2), vI 0, vR 28, vR 29, vI 0, vI 0, vI 0])) 55 [some (vR 22), some (vR 20), some (vI (xs 2)), some (vR (149)), none, none] [] _
  rw [← eG10]
  refine ab_iconst (v := 0) d_RD_read_55 (by decide) ?_
  refine ab_istore d_RD_read_56 (Nat.le_of_ble_eq_true rfl) (Nat.le_of_ble_eq_true rfl) rfl ?_
  change ab_W _ _ _ G10 58 [some (vR 22), some (vR 20), some (vI (xs 2)), some (vR (149)), some (vI 0), none] [] _
  refine ab_iload d_RD_read_58 rfl ?_
  refine ab_aload_n d_RD_read_60 rfl ?_
  refine ab_getf (fs := [vR 23, vR (149), vI 0, vI (xs 2), vI 0, vR 28, vR 29, vI 0, vI 0, vI 0]) f_RD_12 d_RD_read_61 h22 rfl ?_
  refine ab_getf (fs := [vR 24, vR 21, vI 0, vI 0, vI 0, vI (-1), vR 1, vI 0]) f_RD_52 d_RD_read_64 h23 rfl ?_
  refine ab_icmp_ge (tgt := 120) d_RD_read_67 (by decide) (fun _ => ?_) (fun c => absurd c (by decide))
  refine ab_aload_n d_RD_read_120 rfl ?_
  refine ab_getf (fs := [vR 23, vR (149), vI 0, vI (xs 2), vI 0, vR 28, vR 29, vI 0, vI 0, vI 0]) f_RD_45 d_RD_read_121 h22 rfl ?_
  refine ab_if_le (tgt := 143) d_RD_read_124 (by decide) (fun _ => ?_) (fun c => absurd c (by decide))
  refine ab_aload_n d_RD_read_143 rfl ?_
  refine ab_callV (d' := d - 1) (as := []) (st := []) (r := _) (q_PA_closeRows_0  hlen hsl h149 h150 (by omega)) (fun o G2 h => ⟨_, h.1⟩) (by omega) m_PA_closeRows ml_RD_73 im_PA_closeRows se_PA_closeRows c_PA h149 (Nat.le_of_ble_eq_true rfl) d_RD_read_144 rfl ?_
  intro v G11 hq
  obtain ⟨hv, hfk, hlen, hsl, h149⟩ := hq
  cases hv
  have h20 := hfk.get (by decide) h20
  have h22 := hfk.get (by decide) h22
  have h23 := hfk.get (by decide) h23
  have h150 := hfk.get (by decide) h150
  have hfr := hfr.cl hfk (by decide)
  change ab_W _ _ _ G11 147 [some (vR 22), some (vR 20), some (vI (xs 2)), some (vR (149)), some (vI 0), none] [] _
  refine ab_aload_n d_RD_read_147 rfl ?_
  refine ab_getf (fs := [vI 4, vI 0, vN, vI (-1), vI 0, vN, vR (150), vN, vI 0, vI 1, vI 0, vI 0, vI 0, vI 0, vI (-1)]) f_RD_76 d_RD_read_148 h149 rfl ?_
  refine ab_sipush (v := 400) d_RD_read_151 (by decide) ?_
  refine ab_icmp_le (tgt := 168) d_RD_read_154 (by decide) (fun _ => ?_) (fun c => absurd c (by decide))
  refine ab_aload_n d_RD_read_168 rfl ?_
  refine ab_getf (fs := [vR 23, vR (149), vI 0, vI (xs 2), vI 0, vR 28, vR 29, vI 0, vI 0, vI 0]) f_RD_12 d_RD_read_169 h22 rfl ?_
  refine ab_getf (fs := [vR 24, vR 21, vI 0, vI 0, vI 0, vI (-1), vR 1, vI 0]) f_RD_58 d_RD_read_172 h23 rfl ?_
  refine ab_if_ne (tgt := 182) d_RD_read_175 (by decide) (fun c => absurd c (by decide)) (fun _ => ?_)
  refine ab_aload_n d_RD_read_178 rfl ?_
  refine ab_goto (tgt := 183) d_RD_read_179 (by decide) ?_
  exact ab_aret (rt := _) rfl (Or.inl ⟨_, rfl⟩) (Or.inr ⟨_, rfl⟩) d_RD_read_183 (by rw [hQ]; exact ⟨rfl, hfr, hlen, hsl, h22, h23, h149, h150⟩)
set_option maxRecDepth 100000 in
set_option maxHeartbeats 4000000 in
theorem q_RW_clear_0 {X : ab_X} {d : Nat} {G : ab_G}  (hlen : G.length = 151) (hsl : ab_slots G = 1890783) (h20 : G[20]? = some (ab_ob 7 [vI 2000, vR 21, vI 0])) : ab_F X d y_RW_clear (.code y_RW_clear b_RW_clear 1 none) [vR 20] G (fun o G2 => o = .returned none ∧ ab_fr [20] G G2 ∧ G2.length = 151 ∧ ab_slots G2 = 1890783 ∧ G2[20]? = some (ab_ob 7 [vI 2000, vR 21, vI 0])) := by
  refine ab_F_of (by decide +kernel) (Nat.le_of_ble_eq_true rfl) ?_
  obtain ⟨Q, hQ⟩ : ∃ z : Outcome → ab_G → Prop, z = (fun o G2 => o = .returned none ∧ ab_fr [20] G G2 ∧ G2.length = 151 ∧ ab_slots G2 = 1890783 ∧ G2[20]? = some (ab_ob 7 [vI 2000, vR 21, vI 0])) := ⟨_, rfl⟩
  rw [← hQ]
  change ab_W X (ab_pl y_RW_clear b_RW_clear 1 none) d G 0 [some (vR 20)] [] Q
  have hfr : ab_fr [20] G G := ab_fr.rf
  refine ab_aload_n d_RW_clear_0 rfl ?_
  refine ab_iconst (v := 0) d_RW_clear_1 (by decide) ?_
  refine ab_putf (fs := [vI 2000, vR 21, vI 0]) f_RW_19 (Or.inl rfl) d_RW_clear_2 h20 (Nat.le_of_ble_eq_true rfl) (fun _ => ⟨rfl, rfl⟩) (by decide) ?_
  obtain ⟨G1, eG1⟩ : ∃ z : ab_G, z = List.set G 20 (ab_ob 7 [vI 2000, vR 21, vI 0]) := ⟨_, rfl⟩
  have hlen := ab_klen eG1 hlen
  have hsl := ab_ksl 3 eG1 h20 rfl rfl hsl
  have hfr := hfr.wr eG1 (by decide)
  have h20 := ab_kept eG1 h20
  change ab_W _ _ _ (List.set G 20 (ab_ob 7 [vI 2000, vR 21, vI 0])) 5 [some (vR 20)] [] _
  rw [← eG1]
  exact ab_vret rfl d_RW_clear_5 (by rw [hQ]; exact ⟨rfl, hfr, hlen, hsl, h20⟩)
set_option maxRecDepth 100000 in
set_option maxHeartbeats 4000000 in
theorem q_PR_init_0 {X : ab_X} {d : Nat} {G : ab_G}  (hlen : G.length = 152) (hsl : ab_slots G = 1890799) (h151 : G[151]? = some (ab_ob 5 [vN, vN, vN, vI 0, vI 0, vI 0, vN, vI 0, vI 0, vI 0, vI 0, vI 0, vI 0, vI 0, vN, vN])) (hd : 1 ≤ d) : ab_F X d y_PR_init (.code y_PR_init b_PR_init 1 none) [vR (151)] G (fun o G2 => o = .returned none ∧ ab_fr [151, 152, 153, 154, 155, 156, 157] G G2 ∧ G2.length = 158 ∧ ab_slots G2 = 1893385 ∧ G2[151]? = some (ab_ob 5 [vR (152), vR (153), vR (154), vI 0, vI 0, vI 0, vR (155), vI 0, vI 0, vI 0, vI 0, vI 0, vI 0, vI 0, vR (156), vR (157)]) ∧ G2[152]? = some (ab_if 808 ((fun _ => 0))) ∧ G2[153]? = some (ab_if 808 ((fun _ => 0))) ∧ G2[154]? = some (ab_if 808 ((fun _ => 0))) ∧ G2[155]? = some (ab_if 32 ((fun _ => 0))) ∧ G2[156]? = some (ab_if 120 ((fun _ => 0))) ∧ G2[157]? = some (ab_if 10 ((fun _ => 0)))) := by
  refine ab_F_of (by decide +kernel) (Nat.le_of_ble_eq_true rfl) ?_
  obtain ⟨Q, hQ⟩ : ∃ z : Outcome → ab_G → Prop, z = (fun o G2 => o = .returned none ∧ ab_fr [151, 152, 153, 154, 155, 156, 157] G G2 ∧ G2.length = 158 ∧ ab_slots G2 = 1893385 ∧ G2[151]? = some (ab_ob 5 [vR (152), vR (153), vR (154), vI 0, vI 0, vI 0, vR (155), vI 0, vI 0, vI 0, vI 0, vI 0, vI 0, vI 0, vR (156), vR (157)]) ∧ G2[152]? = some (ab_if 808 ((fun _ => 0))) ∧ G2[153]? = some (ab_if 808 ((fun _ => 0))) ∧ G2[154]? = some (ab_if 808 ((fun _ => 0))) ∧ G2[155]? = some (ab_if 32 ((fun _ => 0))) ∧ G2[156]? = some (ab_if 120 ((fun _ => 0))) ∧ G2[157]? = some (ab_if 10 ((fun _ => 0)))) := ⟨_, rfl⟩
  rw [← hQ]
  change ab_W X (ab_pl y_PR_init b_PR_init 1 none) d G 0 [some (vR (151))] [] Q
  have hfr : ab_fr [151, 152, 153, 154, 155, 156, 157] G G := ab_fr.rf
  refine ab_aload_n d_PR_init_0 rfl ?_
  refine ab_objInit mj_PR_3 ob_inst ob_code d_PR_init_1 (Nat.le_of_ble_eq_true rfl) (by omega) ?_
  change ab_W _ _ _ G 4 [some (vR (151))] [] _
  refine ab_aload_n d_PR_init_4 rfl ?_
  refine ab_sipush (v := 808) d_PR_init_5 (by decide) ?_
  refine ab_newI (N := 808) a_int d_PR_init_8 (by decide) (by decide) (by rw [hlen]; decide) (by rw [hsl]; decide) ?_
  rw [hlen]
  obtain ⟨G1, eG1⟩ : ∃ z : ab_G, z = G ++ [ab_if 808 ((fun _ => 0))] := ⟨_, rfl⟩
  have h151 := ab_akeep eG1 h151
  have h152 := ab_anew1 eG1 hlen
  have hsl : ab_slots G1 = 1891607 := ab_asl (z := 808) eG1 hlen (by decide) hsl rfl (by decide)
  have hlen : G1.length = 153 := ab_alen1 eG1 hlen
  have hfr := hfr.ap eG1
  change ab_W _ _ _ (G ++ [ab_if 808 ((fun _ => 0))]) 10 [some (vR (151))] [vR (152), vR (151)] _
  rw [← eG1]
  refine ab_putf (fs := [vN, vN, vN, vI 0, vI 0, vI 0, vN, vI 0, vI 0, vI 0, vI 0, vI 0, vI 0, vI 0, vN, vN]) f_PR_9 (Or.inr ⟨rfl, _, c_PR, rfl⟩) d_PR_init_10 h151 (Nat.le_of_ble_eq_true rfl) (fun _ => ⟨rfl, rfl⟩) (by decide) ?_
  obtain ⟨G2, eG2⟩ : ∃ z : ab_G, z = List.set G1 151 (ab_ob 5 [vR (152), vN, vN, vI 0, vI 0, vI 0, vN, vI 0, vI 0, vI 0, vI 0, vI 0, vI 0, vI 0, vN, vN]) := ⟨_, rfl⟩
  have h152 := ab_keep eG2 (by decide) h152
  have hlen := ab_klen eG2 hlen
  have hsl := ab_ksl 16 eG2 h151 rfl rfl hsl
  have hfr := hfr.wr eG2 (by decide)
  have h151 := ab_kept eG2 h151
  change ab_W _ _ _ (List.set G1 151 (ab_ob 5 [vR (152), vN, vN, vI 0, vI 0, vI 0, vN, vI 0, vI 0, vI 0, vI 0, vI 0, vI 0, vI 0, vN, vN])) 13 [some (vR (151))] [] _
  rw [← eG2]
  refine ab_aload_n d_PR_init_13 rfl ?_
  refine ab_sipush (v := 808) d_PR_init_14 (by decide) ?_
  refine ab_newI (N := 808) a_int d_PR_init_17 (by decide) (by decide) (by rw [hlen]; decide) (by rw [hsl]; decide) ?_
  rw [hlen]
  obtain ⟨G3, eG3⟩ : ∃ z : ab_G, z = G2 ++ [ab_if 808 ((fun _ => 0))] := ⟨_, rfl⟩
  have h151 := ab_akeep eG3 h151
  have h152 := ab_akeep eG3 h152
  have h153 := ab_anew1 eG3 hlen
  have hsl : ab_slots G3 = 1892415 := ab_asl (z := 808) eG3 hlen (by decide) hsl rfl (by decide)
  have hlen : G3.length = 154 := ab_alen1 eG3 hlen
  have hfr := hfr.ap eG3
  change ab_W _ _ _ (G2 ++ [ab_if 808 ((fun _ => 0))]) 19 [some (vR (151))] [vR (153), vR (151)] _
  rw [← eG3]
  refine ab_putf (fs := [vR (152), vN, vN, vI 0, vI 0, vI 0, vN, vI 0, vI 0, vI 0, vI 0, vI 0, vI 0, vI 0, vN, vN]) f_PR_15 (Or.inr ⟨rfl, _, c_PR, rfl⟩) d_PR_init_19 h151 (Nat.le_of_ble_eq_true rfl) (fun _ => ⟨rfl, rfl⟩) (by decide) ?_
  obtain ⟨G4, eG4⟩ : ∃ z : ab_G, z = List.set G3 151 (ab_ob 5 [vR (152), vR (153), vN, vI 0, vI 0, vI 0, vN, vI 0, vI 0, vI 0, vI 0, vI 0, vI 0, vI 0, vN, vN]) := ⟨_, rfl⟩
  have h152 := ab_keep eG4 (by decide) h152
  have h153 := ab_keep eG4 (by decide) h153
  have hlen := ab_klen eG4 hlen
  have hsl := ab_ksl 16 eG4 h151 rfl rfl hsl
  have hfr := hfr.wr eG4 (by decide)
  have h151 := ab_kept eG4 h151
  change ab_W _ _ _ (List.set G3 151 (ab_ob 5 [vR (152), vR (153), vN, vI 0, vI 0, vI 0, vN, vI 0, vI 0, vI 0, vI 0, vI 0, vI 0, vI 0, vN, vN])) 22 [some (vR (151))] [] _
  rw [← eG4]
  refine ab_aload_n d_PR_init_22 rfl ?_
  refine ab_sipush (v := 808) d_PR_init_23 (by decide) ?_
  refine ab_newI (N := 808) a_int d_PR_init_26 (by decide) (by decide) (by rw [hlen]; decide) (by rw [hsl]; decide) ?_
  rw [hlen]
  obtain ⟨G5, eG5⟩ : ∃ z : ab_G, z = G4 ++ [ab_if 808 ((fun _ => 0))] := ⟨_, rfl⟩
  have h151 := ab_akeep eG5 h151
  have h152 := ab_akeep eG5 h152
  have h153 := ab_akeep eG5 h153
  have h154 := ab_anew1 eG5 hlen
  have hsl : ab_slots G5 = 1893223 := ab_asl (z := 808) eG5 hlen (by decide) hsl rfl (by decide)
  have hlen : G5.length = 155 := ab_alen1 eG5 hlen
  have hfr := hfr.ap eG5
  change ab_W _ _ _ (G4 ++ [ab_if 808 ((fun _ => 0))]) 28 [some (vR (151))] [vR (154), vR (151)] _
  rw [← eG5]
  refine ab_putf (fs := [vR (152), vR (153), vN, vI 0, vI 0, vI 0, vN, vI 0, vI 0, vI 0, vI 0, vI 0, vI 0, vI 0, vN, vN]) f_PR_18 (Or.inr ⟨rfl, _, c_PR, rfl⟩) d_PR_init_28 h151 (Nat.le_of_ble_eq_true rfl) (fun _ => ⟨rfl, rfl⟩) (by decide) ?_
  obtain ⟨G6, eG6⟩ : ∃ z : ab_G, z = List.set G5 151 (ab_ob 5 [vR (152), vR (153), vR (154), vI 0, vI 0, vI 0, vN, vI 0, vI 0, vI 0, vI 0, vI 0, vI 0, vI 0, vN, vN]) := ⟨_, rfl⟩
  have h152 := ab_keep eG6 (by decide) h152
  have h153 := ab_keep eG6 (by decide) h153
  have h154 := ab_keep eG6 (by decide) h154
  have hlen := ab_klen eG6 hlen
  have hsl := ab_ksl 16 eG6 h151 rfl rfl hsl
  have hfr := hfr.wr eG6 (by decide)
  have h151 := ab_kept eG6 h151
  change ab_W _ _ _ (List.set G5 151 (ab_ob 5 [vR (152), vR (153), vR (154), vI 0, vI 0, vI 0, vN, vI 0, vI 0, vI 0, vI 0, vI 0, vI 0, vI 0, vN, vN])) 31 [some (vR (151))] [] _
  rw [← eG6]
  refine ab_aload_n d_PR_init_31 rfl ?_
  refine ab_bipush (v := 32) d_PR_init_32 (by decide) ?_
  refine ab_newI (N := 32) a_int d_PR_init_34 (by decide) (by decide) (by rw [hlen]; decide) (by rw [hsl]; decide) ?_
  rw [hlen]
  obtain ⟨G7, eG7⟩ : ∃ z : ab_G, z = G6 ++ [ab_if 32 ((fun _ => 0))] := ⟨_, rfl⟩
  have h151 := ab_akeep eG7 h151
  have h152 := ab_akeep eG7 h152
  have h153 := ab_akeep eG7 h153
  have h154 := ab_akeep eG7 h154
  have h155 := ab_anew1 eG7 hlen
  have hsl : ab_slots G7 = 1893255 := ab_asl (z := 32) eG7 hlen (by decide) hsl rfl (by decide)
  have hlen : G7.length = 156 := ab_alen1 eG7 hlen
  have hfr := hfr.ap eG7
  change ab_W _ _ _ (G6 ++ [ab_if 32 ((fun _ => 0))]) 36 [some (vR (151))] [vR (155), vR (151)] _
  rw [← eG7]
  refine ab_putf (fs := [vR (152), vR (153), vR (154), vI 0, vI 0, vI 0, vN, vI 0, vI 0, vI 0, vI 0, vI 0, vI 0, vI 0, vN, vN]) f_PR_21 (Or.inl rfl) d_PR_init_36 h151 (Nat.le_of_ble_eq_true rfl) (fun _ => ⟨rfl, rfl⟩) (by decide) ?_
  obtain ⟨G8, eG8⟩ : ∃ z : ab_G, z = List.set G7 151 (ab_ob 5 [vR (152), vR (153), vR (154), vI 0, vI 0, vI 0, vR (155), vI 0, vI 0, vI 0, vI 0, vI 0, vI 0, vI 0, vN, vN]) := ⟨_, rfl⟩
  have h152 := ab_keep eG8 (by decide) h152
  have h153 := ab_keep eG8 (by decide) h153
  have h154 := ab_keep eG8 (by decide) h154
  have h155 := ab_keep eG8 (by decide) h155
  have hlen := ab_klen eG8 hlen
  have hsl := ab_ksl 16 eG8 h151 rfl rfl hsl
  have hfr := hfr.wr eG8 (by decide)
  have h151 := ab_kept eG8 h151
  change ab_W _ _ _ (List.set G7 151 (ab_ob 5 [vR (152), vR (153), vR (154), vI 0, vI 0, vI 0, vR (155), vI 0, vI 0, vI 0, vI 0, vI 0, vI 0, vI 0, vN, vN])) 39 [some (vR (151))] [] _
  rw [← eG8]
  refine ab_aload_n d_PR_init_39 rfl ?_
  refine ab_bipush (v := 120) d_PR_init_40 (by decide) ?_
  refine ab_newI (N := 120) a_int d_PR_init_42 (by decide) (by decide) (by rw [hlen]; decide) (by rw [hsl]; decide) ?_
  rw [hlen]
  obtain ⟨G9, eG9⟩ : ∃ z : ab_G, z = G8 ++ [ab_if 120 ((fun _ => 0))] := ⟨_, rfl⟩
  have h151 := ab_akeep eG9 h151
  have h152 := ab_akeep eG9 h152
  have h153 := ab_akeep eG9 h153
  have h154 := ab_akeep eG9 h154
  have h155 := ab_akeep eG9 h155
  have h156 := ab_anew1 eG9 hlen
  have hsl : ab_slots G9 = 1893375 := ab_asl (z := 120) eG9 hlen (by decide) hsl rfl (by decide)
  have hlen : G9.length = 157 := ab_alen1 eG9 hlen
  have hfr := hfr.ap eG9
  change ab_W _ _ _ (G8 ++ [ab_if 120 ((fun _ => 0))]) 44 [some (vR (151))] [vR (156), vR (151)] _
  rw [← eG9]
  refine ab_putf (fs := [vR (152), vR (153), vR (154), vI 0, vI 0, vI 0, vR (155), vI 0, vI 0, vI 0, vI 0, vI 0, vI 0, vI 0, vN, vN]) f_PR_24 (Or.inr ⟨rfl, _, c_PR, rfl⟩) d_PR_init_44 h151 (Nat.le_of_ble_eq_true rfl) (fun _ => ⟨rfl, rfl⟩) (by decide) ?_
  obtain ⟨G10, eG10⟩ : ∃ z : ab_G, z = List.set G9 151 (ab_ob 5 [vR (152), vR (153), vR (154), vI 0, vI 0, vI 0, vR (155), vI 0, vI 0, vI 0, vI 0, vI 0, vI 0, vI 0, vR (156), vN]) := ⟨_, rfl⟩
  have h152 := ab_keep eG10 (by decide) h152
  have h153 := ab_keep eG10 (by decide) h153
  have h154 := ab_keep eG10 (by decide) h154
  have h155 := ab_keep eG10 (by decide) h155
  have h156 := ab_keep eG10 (by decide) h156
  have hlen := ab_klen eG10 hlen
  have hsl := ab_ksl 16 eG10 h151 rfl rfl hsl
  have hfr := hfr.wr eG10 (by decide)
  have h151 := ab_kept eG10 h151
  change ab_W _ _ _ (List.set G9 151 (ab_ob 5 [vR (152), vR (153), vR (154), vI 0, vI 0, vI 0, vR (155), vI 0, vI 0, vI 0, vI 0, vI 0, vI 0, vI 0, vR (156), vN])) 47 [some (vR (151))] [] _
  rw [← eG10]
  refine ab_aload_n d_PR_init_47 rfl ?_
  refine ab_bipush (v := 10) d_PR_init_48 (by decide) ?_
  refine ab_newI (N := 10) a_int d_PR_init_50 (by decide) (by decide) (by rw [hlen]; decide) (by rw [hsl]; decide) ?_
  rw [hlen]
  obtain ⟨G11, eG11⟩ : ∃ z : ab_G, z = G10 ++ [ab_if 10 ((fun _ => 0))] := ⟨_, rfl⟩
  have h151 := ab_akeep eG11 h151
  have h152 := ab_akeep eG11 h152
  have h153 := ab_akeep eG11 h153
  have h154 := ab_akeep eG11 h154
  have h155 := ab_akeep eG11 h155
  have h156 := ab_akeep eG11 h156
  have h157 := ab_anew1 eG11 hlen
  have hsl : ab_slots G11 = 1893385 := ab_asl (z := 10) eG11 hlen (by decide) hsl rfl (by decide)
  have hlen : G11.length = 158 := ab_alen1 eG11 hlen
  have hfr := hfr.ap eG11
  change ab_W _ _ _ (G10 ++ [ab_if 10 ((fun _ => 0))]) 52 [some (vR (151))] [vR (157), vR (151)] _
  rw [← eG11]
  refine ab_putf (fs := [vR (152), vR (153), vR (154), vI 0, vI 0, vI 0, vR (155), vI 0, vI 0, vI 0, vI 0, vI 0, vI 0, vI 0, vR (156), vN]) f_PR_27 (Or.inr ⟨rfl, _, c_PR, rfl⟩) d_PR_init_52 h151 (Nat.le_of_ble_eq_true rfl) (fun _ => ⟨rfl, rfl⟩) (by decide) ?_
  obtain ⟨G12, eG12⟩ : ∃ z : ab_G, z = List.set G11 151 (ab_ob 5 [vR (152), vR (153), vR (154), vI 0, vI 0, vI 0, vR (155), vI 0, vI 0, vI 0, vI 0, vI 0, vI 0, vI 0, vR (156), vR (157)]) := ⟨_, rfl⟩
  have h152 := ab_keep eG12 (by decide) h152
  have h153 := ab_keep eG12 (by decide) h153
  have h154 := ab_keep eG12 (by decide) h154
  have h155 := ab_keep eG12 (by decide) h155
  have h156 := ab_keep eG12 (by decide) h156
  have h157 := ab_keep eG12 (by decide) h157
  have hlen := ab_klen eG12 hlen
  have hsl := ab_ksl 16 eG12 h151 rfl rfl hsl
  have hfr := hfr.wr eG12 (by decide)
  have h151 := ab_kept eG12 h151
  change ab_W _ _ _ (List.set G11 151 (ab_ob 5 [vR (152), vR (153), vR (154), vI 0, vI 0, vI 0, vR (155), vI 0, vI 0, vI 0, vI 0, vI 0, vI 0, vI 0, vR (156), vR (157)])) 55 [some (vR (151))] [] _
  rw [← eG12]
  exact ab_vret rfl d_PR_init_55 (by rw [hQ]; exact ⟨rfl, hfr, hlen, hsl, h151, h152, h153, h154, h155, h156, h157⟩)
set_option maxRecDepth 100000 in
set_option maxHeartbeats 4000000 in
theorem q_PR_add_0 {X : ab_X} {d : Nat} {G : ab_G} {xs : Nat → Int32} (hlen : G.length = 158) (hsl : ab_slots G = 1893385) (h151 : G[151]? = some (ab_ob 5 [vR (152), vR (153), vR (154), vI 0, vI 0, vI 0, vR (155), vI 0, vI 0, vI 2, vI 0, vI (xs 2), vI 1, vI 0, vR (156), vR (157)])) (h152 : G[152]? = some (ab_if 808 ((fun _ => 0)))) (h153 : G[153]? = some (ab_if 808 ((fun _ => 0)))) (h154 : G[154]? = some (ab_if 808 ((fun _ => 0)))) : ab_F X d y_PR_add (.code y_PR_add b_PR_add 4 (some (.int))) [vR 151, vI 9, vI 0, vI 0] G (fun o G2 => o = .returned (some (vI 0)) ∧ ab_fr [151, 152, 153, 154] G G2 ∧ G2.length = 158 ∧ ab_slots G2 = 1893385 ∧ G2[151]? = some (ab_ob 5 [vR (152), vR (153), vR (154), vI 1, vI 0, vI 0, vR (155), vI 0, vI 0, vI 2, vI 0, vI (xs 2), vI 1, vI 0, vR (156), vR (157)]) ∧ G2[152]? = some (ab_if 808 ((upd (fun _ => 0) 0 9))) ∧ G2[153]? = some (ab_if 808 ((upd (fun _ => 0) 0 0))) ∧ G2[154]? = some (ab_if 808 ((upd (fun _ => 0) 0 0)))) := by
  refine ab_F_of (by decide +kernel) (Nat.le_of_ble_eq_true rfl) ?_
  obtain ⟨Q, hQ⟩ : ∃ z : Outcome → ab_G → Prop, z = (fun o G2 => o = .returned (some (vI 0)) ∧ ab_fr [151, 152, 153, 154] G G2 ∧ G2.length = 158 ∧ ab_slots G2 = 1893385 ∧ G2[151]? = some (ab_ob 5 [vR (152), vR (153), vR (154), vI 1, vI 0, vI 0, vR (155), vI 0, vI 0, vI 2, vI 0, vI (xs 2), vI 1, vI 0, vR (156), vR (157)]) ∧ G2[152]? = some (ab_if 808 ((upd (fun _ => 0) 0 9))) ∧ G2[153]? = some (ab_if 808 ((upd (fun _ => 0) 0 0))) ∧ G2[154]? = some (ab_if 808 ((upd (fun _ => 0) 0 0)))) := ⟨_, rfl⟩
  rw [← hQ]
  change ab_W X (ab_pl y_PR_add b_PR_add 4 (some (.int))) d G 0 [some (vR 151), some (vI 9), some (vI 0), some (vI 0)] [] Q
  have hfr : ab_fr [151, 152, 153, 154] G G := ab_fr.rf
  refine ab_aload_n d_PR_add_0 rfl ?_
  refine ab_getf (fs := [vR (152), vR (153), vR (154), vI 0, vI 0, vI 0, vR (155), vI 0, vI 0, vI 2, vI 0, vI (xs 2), vI 1, vI 0, vR (156), vR (157)]) f_PR_74 d_PR_add_1 h151 rfl ?_
  refine ab_sipush (v := 808) d_PR_add_4 (by decide) ?_
  refine ab_icmp_lt (tgt := 12) d_PR_add_7 (by decide) (fun _ => ?_) (fun c => absurd c (by decide))
  refine ab_aload_n d_PR_add_12 rfl ?_
  refine ab_getf (fs := [vR (152), vR (153), vR (154), vI 0, vI 0, vI 0, vR (155), vI 0, vI 0, vI 2, vI 0, vI (xs 2), vI 1, vI 0, vR (156), vR (157)]) f_PR_9 d_PR_add_13 h151 rfl ?_
  refine ab_aload_n d_PR_add_16 rfl ?_
  refine ab_getf (fs := [vR (152), vR (153), vR (154), vI 0, vI 0, vI 0, vR (155), vI 0, vI 0, vI 2, vI 0, vI (xs 2), vI 1, vI 0, vR (156), vR (157)]) f_PR_74 d_PR_add_17 h151 rfl ?_
  refine ab_iload_n d_PR_add_20 rfl ?_
  refine ab_iast d_PR_add_21 h152 (by unfold vp_in; decide) (by decide) ?_
  obtain ⟨G1, eG1⟩ : ∃ z : ab_G, z = List.set G 152 (ab_if 808 ((upd (fun _ => 0) 0 9))) := ⟨_, rfl⟩
  have h151 := ab_keep eG1 (by decide) h151
  have h153 := ab_keep eG1 (by decide) h153
  have h154 := ab_keep eG1 (by decide) h154
  have hlen := ab_klen eG1 hlen
  have hsl := ab_ksl 808 eG1 h152 rfl rfl hsl
  have hfr := hfr.wr eG1 (by decide)
  have h152 := ab_kept eG1 h152
  change ab_W _ _ _ (List.set G 152 (ab_if 808 ((upd (fun _ => 0) 0 9)))) 22 [some (vR 151), some (vI 9), some (vI 0), some (vI 0)] [] _
  rw [← eG1]
  refine ab_aload_n d_PR_add_22 rfl ?_
  refine ab_getf (fs := [vR (152), vR (153), vR (154), vI 0, vI 0, vI 0, vR (155), vI 0, vI 0, vI 2, vI 0, vI (xs 2), vI 1, vI 0, vR (156), vR (157)]) f_PR_15 d_PR_add_23 h151 rfl ?_
  refine ab_aload_n d_PR_add_26 rfl ?_
  refine ab_getf (fs := [vR (152), vR (153), vR (154), vI 0, vI 0, vI 0, vR (155), vI 0, vI 0, vI 2, vI 0, vI (xs 2), vI 1, vI 0, vR (156), vR (157)]) f_PR_74 d_PR_add_27 h151 rfl ?_
  refine ab_iload_n d_PR_add_30 rfl ?_
  refine ab_iast d_PR_add_31 h153 (by unfold vp_in; decide) (by decide) ?_
  obtain ⟨G2, eG2⟩ : ∃ z : ab_G, z = List.set G1 153 (ab_if 808 ((upd (fun _ => 0) 0 0))) := ⟨_, rfl⟩
  have h151 := ab_keep eG2 (by decide) h151
  have h152 := ab_keep eG2 (by decide) h152
  have h154 := ab_keep eG2 (by decide) h154
  have hlen := ab_klen eG2 hlen
  have hsl := ab_ksl 808 eG2 h153 rfl rfl hsl
  have hfr := hfr.wr eG2 (by decide)
  have h153 := ab_kept eG2 h153
  change ab_W _ _ _ (List.set G1 153 (ab_if 808 ((upd (fun _ => 0) 0 0)))) 32 [some (vR 151), some (vI 9), some (vI 0), some (vI 0)] [] _
  rw [← eG2]
  refine ab_aload_n d_PR_add_32 rfl ?_
  refine ab_getf (fs := [vR (152), vR (153), vR (154), vI 0, vI 0, vI 0, vR (155), vI 0, vI 0, vI 2, vI 0, vI (xs 2), vI 1, vI 0, vR (156), vR (157)]) f_PR_18 d_PR_add_33 h151 rfl ?_
  refine ab_aload_n d_PR_add_36 rfl ?_
  refine ab_getf (fs := [vR (152), vR (153), vR (154), vI 0, vI 0, vI 0, vR (155), vI 0, vI 0, vI 2, vI 0, vI (xs 2), vI 1, vI 0, vR (156), vR (157)]) f_PR_74 d_PR_add_37 h151 rfl ?_
  refine ab_iload_n d_PR_add_40 rfl ?_
  refine ab_iast d_PR_add_41 h154 (by unfold vp_in; decide) (by decide) ?_
  obtain ⟨G3, eG3⟩ : ∃ z : ab_G, z = List.set G2 154 (ab_if 808 ((upd (fun _ => 0) 0 0))) := ⟨_, rfl⟩
  have h151 := ab_keep eG3 (by decide) h151
  have h152 := ab_keep eG3 (by decide) h152
  have h153 := ab_keep eG3 (by decide) h153
  have hlen := ab_klen eG3 hlen
  have hsl := ab_ksl 808 eG3 h154 rfl rfl hsl
  have hfr := hfr.wr eG3 (by decide)
  have h154 := ab_kept eG3 h154
  change ab_W _ _ _ (List.set G2 154 (ab_if 808 ((upd (fun _ => 0) 0 0)))) 42 [some (vR 151), some (vI 9), some (vI 0), some (vI 0)] [] _
  rw [← eG3]
  refine ab_aload_n d_PR_add_42 rfl ?_
  refine ab_dup d_PR_add_43 rfl ?_
  refine ab_getf (fs := [vR (152), vR (153), vR (154), vI 0, vI 0, vI 0, vR (155), vI 0, vI 0, vI 2, vI 0, vI (xs 2), vI 1, vI 0, vR (156), vR (157)]) f_PR_80 d_PR_add_44 h151 rfl ?_
  refine ab_iload_n d_PR_add_47 rfl ?_
  refine ab_iconst (v := 3) d_PR_add_48 (by decide) ?_
  refine ab_icmp_ne (tgt := 56) d_PR_add_49 (by decide) (fun _ => ?_) (fun c => absurd c (by decide))
  refine ab_iconst (v := 0) d_PR_add_56 (by decide) ?_
  refine ab_ior d_PR_add_57 ?_
  refine ab_topi (y := 0) (by decide) ?_
  refine ab_putf (fs := [vR (152), vR (153), vR (154), vI 0, vI 0, vI 0, vR (155), vI 0, vI 0, vI 2, vI 0, vI (xs 2), vI 1, vI 0, vR (156), vR (157)]) f_PR_80 (Or.inl rfl) d_PR_add_58 h151 (Nat.le_of_ble_eq_true rfl) ab_fb0 (by decide) ?_
  obtain ⟨G4, eG4⟩ : ∃ z : ab_G, z = List.set G3 151 (ab_ob 5 [vR (152), vR (153), vR (154), vI 0, vI 0, vI 0, vR (155), vI 0, vI 0, vI 2, vI 0, vI (xs 2), vI 1, vI 0, vR (156), vR (157)]) := ⟨_, rfl⟩
  have h152 := ab_keep eG4 (by decide) h152
  have h153 := ab_keep eG4 (by decide) h153
  have h154 := ab_keep eG4 (by decide) h154
  have hlen := ab_klen eG4 hlen
  have hsl := ab_ksl 16 eG4 h151 rfl rfl hsl
  have hfr := hfr.wr eG4 (by decide)
  have h151 := ab_kept eG4 h151
  change ab_W _ _ _ (List.set G3 151 (ab_ob 5 [vR (152), vR (153), vR (154), vI 0, vI 0, vI 0, vR (155), vI 0, vI 0, vI 2, vI 0, vI (xs 2), vI 1, vI 0, vR (156), vR (157)])) 61 [some (vR 151), some (vI 9), some (vI 0), some (vI 0)] [] _
  rw [← eG4]
  refine ab_aload_n d_PR_add_61 rfl ?_
  refine ab_dup d_PR_add_62 rfl ?_
  refine ab_getf (fs := [vR (152), vR (153), vR (154), vI 0, vI 0, vI 0, vR (155), vI 0, vI 0, vI 2, vI 0, vI (xs 2), vI 1, vI 0, vR (156), vR (157)]) f_PR_74 d_PR_add_63 h151 rfl ?_
  refine ab_iconst (v := 1) d_PR_add_66 (by decide) ?_
  refine ab_iadd d_PR_add_67 ?_
  refine ab_topi (y := 1) (by decide) ?_
  refine ab_putf (fs := [vR (152), vR (153), vR (154), vI 0, vI 0, vI 0, vR (155), vI 0, vI 0, vI 2, vI 0, vI (xs 2), vI 1, vI 0, vR (156), vR (157)]) f_PR_74 (Or.inl rfl) d_PR_add_68 h151 (Nat.le_of_ble_eq_true rfl) (fun _ => ⟨rfl, rfl⟩) (by decide) ?_
  obtain ⟨G5, eG5⟩ : ∃ z : ab_G, z = List.set G4 151 (ab_ob 5 [vR (152), vR (153), vR (154), vI 1, vI 0, vI 0, vR (155), vI 0, vI 0, vI 2, vI 0, vI (xs 2), vI 1, vI 0, vR (156), vR (157)]) := ⟨_, rfl⟩
  have h152 := ab_keep eG5 (by decide) h152
  have h153 := ab_keep eG5 (by decide) h153
  have h154 := ab_keep eG5 (by decide) h154
  have hlen := ab_klen eG5 hlen
  have hsl := ab_ksl 16 eG5 h151 rfl rfl hsl
  have hfr := hfr.wr eG5 (by decide)
  have h151 := ab_kept eG5 h151
  change ab_W _ _ _ (List.set G4 151 (ab_ob 5 [vR (152), vR (153), vR (154), vI 1, vI 0, vI 0, vR (155), vI 0, vI 0, vI 2, vI 0, vI (xs 2), vI 1, vI 0, vR (156), vR (157)])) 71 [some (vR 151), some (vI 9), some (vI 0), some (vI 0)] [] _
  rw [← eG5]
  refine ab_aload_n d_PR_add_71 rfl ?_
  refine ab_getf (fs := [vR (152), vR (153), vR (154), vI 1, vI 0, vI 0, vR (155), vI 0, vI 0, vI 2, vI 0, vI (xs 2), vI 1, vI 0, vR (156), vR (157)]) f_PR_74 d_PR_add_72 h151 rfl ?_
  refine ab_iconst (v := 1) d_PR_add_75 (by decide) ?_
  refine ab_isub d_PR_add_76 ?_
  refine ab_topi (y := 0) (by decide) ?_
  exact ab_iret (rt := .int) rfl rfl d_PR_add_77 (by rw [hQ]; exact ⟨rfl, hfr, hlen, hsl, h151, h152, h153, h154⟩)
set_option maxRecDepth 100000 in
set_option maxHeartbeats 4000000 in
theorem q_PR_add_1 {X : ab_X} {d : Nat} {G : ab_G} {xs : Nat → Int32} (hlen : G.length = 158) (hsl : ab_slots G = 1893385) (h151 : G[151]? = some (ab_ob 5 [vR (152), vR (153), vR (154), vI 1, vI 0, vI 0, vR (155), vI 0, vI 0, vI 2, vI 0, vI (xs 2), vI 1, vI 0, vR (156), vR (157)])) (h152 : G[152]? = some (ab_if 808 ((upd (fun _ => 0) 0 9)))) (h153 : G[153]? = some (ab_if 808 ((upd (fun _ => 0) 0 0)))) (h154 : G[154]? = some (ab_if 808 ((upd (fun _ => 0) 0 0)))) : ab_F X d y_PR_add (.code y_PR_add b_PR_add 4 (some (.int))) [vR 151, vI 8, vI 0, vI 0] G (fun o G2 => o = .returned (some (vI 1)) ∧ ab_fr [151, 152, 153, 154] G G2 ∧ G2.length = 158 ∧ ab_slots G2 = 1893385 ∧ G2[151]? = some (ab_ob 5 [vR (152), vR (153), vR (154), vI 2, vI 0, vI 0, vR (155), vI 0, vI 0, vI 2, vI 0, vI (xs 2), vI 1, vI 0, vR (156), vR (157)]) ∧ G2[152]? = some (ab_if 808 ((upd (upd (fun _ => 0) 0 9) 1 8))) ∧ G2[153]? = some (ab_if 808 ((upd (upd (fun _ => 0) 0 0) 1 0))) ∧ G2[154]? = some (ab_if 808 ((upd (upd (fun _ => 0) 0 0) 1 0)))) := by
  refine ab_F_of (by decide +kernel) (Nat.le_of_ble_eq_true rfl) ?_
  obtain ⟨Q, hQ⟩ : ∃ z : Outcome → ab_G → Prop, z = (fun o G2 => o = .returned (some (vI 1)) ∧ ab_fr [151, 152, 153, 154] G G2 ∧ G2.length = 158 ∧ ab_slots G2 = 1893385 ∧ G2[151]? = some (ab_ob 5 [vR (152), vR (153), vR (154), vI 2, vI 0, vI 0, vR (155), vI 0, vI 0, vI 2, vI 0, vI (xs 2), vI 1, vI 0, vR (156), vR (157)]) ∧ G2[152]? = some (ab_if 808 ((upd (upd (fun _ => 0) 0 9) 1 8))) ∧ G2[153]? = some (ab_if 808 ((upd (upd (fun _ => 0) 0 0) 1 0))) ∧ G2[154]? = some (ab_if 808 ((upd (upd (fun _ => 0) 0 0) 1 0)))) := ⟨_, rfl⟩
  rw [← hQ]
  change ab_W X (ab_pl y_PR_add b_PR_add 4 (some (.int))) d G 0 [some (vR 151), some (vI 8), some (vI 0), some (vI 0)] [] Q
  have hfr : ab_fr [151, 152, 153, 154] G G := ab_fr.rf
  refine ab_aload_n d_PR_add_0 rfl ?_
  refine ab_getf (fs := [vR (152), vR (153), vR (154), vI 1, vI 0, vI 0, vR (155), vI 0, vI 0, vI 2, vI 0, vI (xs 2), vI 1, vI 0, vR (156), vR (157)]) f_PR_74 d_PR_add_1 h151 rfl ?_
  refine ab_sipush (v := 808) d_PR_add_4 (by decide) ?_
  refine ab_icmp_lt (tgt := 12) d_PR_add_7 (by decide) (fun _ => ?_) (fun c => absurd c (by decide))
  refine ab_aload_n d_PR_add_12 rfl ?_
  refine ab_getf (fs := [vR (152), vR (153), vR (154), vI 1, vI 0, vI 0, vR (155), vI 0, vI 0, vI 2, vI 0, vI (xs 2), vI 1, vI 0, vR (156), vR (157)]) f_PR_9 d_PR_add_13 h151 rfl ?_
  refine ab_aload_n d_PR_add_16 rfl ?_
  refine ab_getf (fs := [vR (152), vR (153), vR (154), vI 1, vI 0, vI 0, vR (155), vI 0, vI 0, vI 2, vI 0, vI (xs 2), vI 1, vI 0, vR (156), vR (157)]) f_PR_74 d_PR_add_17 h151 rfl ?_
  refine ab_iload_n d_PR_add_20 rfl ?_
  refine ab_iast d_PR_add_21 h152 (by unfold vp_in; decide) (by decide) ?_
  obtain ⟨G1, eG1⟩ : ∃ z : ab_G, z = List.set G 152 (ab_if 808 ((upd (upd (fun _ => 0) 0 9) 1 8))) := ⟨_, rfl⟩
  have h151 := ab_keep eG1 (by decide) h151
  have h153 := ab_keep eG1 (by decide) h153
  have h154 := ab_keep eG1 (by decide) h154
  have hlen := ab_klen eG1 hlen
  have hsl := ab_ksl 808 eG1 h152 rfl rfl hsl
  have hfr := hfr.wr eG1 (by decide)
  have h152 := ab_kept eG1 h152
  change ab_W _ _ _ (List.set G 152 (ab_if 808 ((upd (upd (fun _ => 0) 0 9) 1 8)))) 22 [some (vR 151), some (vI 8), some (vI 0), some (vI 0)] [] _
  rw [← eG1]
  refine ab_aload_n d_PR_add_22 rfl ?_
  refine ab_getf (fs := [vR (152), vR (153), vR (154), vI 1, vI 0, vI 0, vR (155), vI 0, vI 0, vI 2, vI 0, vI (xs 2), vI 1, vI 0, vR (156), vR (157)]) f_PR_15 d_PR_add_23 h151 rfl ?_
  refine ab_aload_n d_PR_add_26 rfl ?_
  refine ab_getf (fs := [vR (152), vR (153), vR (154), vI 1, vI 0, vI 0, vR (155), vI 0, vI 0, vI 2, vI 0, vI (xs 2), vI 1, vI 0, vR (156), vR (157)]) f_PR_74 d_PR_add_27 h151 rfl ?_
  refine ab_iload_n d_PR_add_30 rfl ?_
  refine ab_iast d_PR_add_31 h153 (by unfold vp_in; decide) (by decide) ?_
  obtain ⟨G2, eG2⟩ : ∃ z : ab_G, z = List.set G1 153 (ab_if 808 ((upd (upd (fun _ => 0) 0 0) 1 0))) := ⟨_, rfl⟩
  have h151 := ab_keep eG2 (by decide) h151
  have h152 := ab_keep eG2 (by decide) h152
  have h154 := ab_keep eG2 (by decide) h154
  have hlen := ab_klen eG2 hlen
  have hsl := ab_ksl 808 eG2 h153 rfl rfl hsl
  have hfr := hfr.wr eG2 (by decide)
  have h153 := ab_kept eG2 h153
  change ab_W _ _ _ (List.set G1 153 (ab_if 808 ((upd (upd (fun _ => 0) 0 0) 1 0)))) 32 [some (vR 151), some (vI 8), some (vI 0), some (vI 0)] [] _
  rw [← eG2]
  refine ab_aload_n d_PR_add_32 rfl ?_
  refine ab_getf (fs := [vR (152), vR (153), vR (154), vI 1, vI 0, vI 0, vR (155), vI 0, vI 0, vI 2, vI 0, vI (xs 2), vI 1, vI 0, vR (156), vR (157)]) f_PR_18 d_PR_add_33 h151 rfl ?_
  refine ab_aload_n d_PR_add_36 rfl ?_
  refine ab_getf (fs := [vR (152), vR (153), vR (154), vI 1, vI 0, vI 0, vR (155), vI 0, vI 0, vI 2, vI 0, vI (xs 2), vI 1, vI 0, vR (156), vR (157)]) f_PR_74 d_PR_add_37 h151 rfl ?_
  refine ab_iload_n d_PR_add_40 rfl ?_
  refine ab_iast d_PR_add_41 h154 (by unfold vp_in; decide) (by decide) ?_
  obtain ⟨G3, eG3⟩ : ∃ z : ab_G, z = List.set G2 154 (ab_if 808 ((upd (upd (fun _ => 0) 0 0) 1 0))) := ⟨_, rfl⟩
  have h151 := ab_keep eG3 (by decide) h151
  have h152 := ab_keep eG3 (by decide) h152
  have h153 := ab_keep eG3 (by decide) h153
  have hlen := ab_klen eG3 hlen
  have hsl := ab_ksl 808 eG3 h154 rfl rfl hsl
  have hfr := hfr.wr eG3 (by decide)
  have h154 := ab_kept eG3 h154
  change ab_W _ _ _ (List.set G2 154 (ab_if 808 ((upd (upd (fun _ => 0) 0 0) 1 0)))) 42 [some (vR 151), some (vI 8), some (vI 0), some (vI 0)] [] _
  rw [← eG3]
  refine ab_aload_n d_PR_add_42 rfl ?_
  refine ab_dup d_PR_add_43 rfl ?_
  refine ab_getf (fs := [vR (152), vR (153), vR (154), vI 1, vI 0, vI 0, vR (155), vI 0, vI 0, vI 2, vI 0, vI (xs 2), vI 1, vI 0, vR (156), vR (157)]) f_PR_80 d_PR_add_44 h151 rfl ?_
  refine ab_iload_n d_PR_add_47 rfl ?_
  refine ab_iconst (v := 3) d_PR_add_48 (by decide) ?_
  refine ab_icmp_ne (tgt := 56) d_PR_add_49 (by decide) (fun _ => ?_) (fun c => absurd c (by decide))
  refine ab_iconst (v := 0) d_PR_add_56 (by decide) ?_
  refine ab_ior d_PR_add_57 ?_
  refine ab_topi (y := 0) (by decide) ?_
  refine ab_putf (fs := [vR (152), vR (153), vR (154), vI 1, vI 0, vI 0, vR (155), vI 0, vI 0, vI 2, vI 0, vI (xs 2), vI 1, vI 0, vR (156), vR (157)]) f_PR_80 (Or.inl rfl) d_PR_add_58 h151 (Nat.le_of_ble_eq_true rfl) ab_fb0 (by decide) ?_
  obtain ⟨G4, eG4⟩ : ∃ z : ab_G, z = List.set G3 151 (ab_ob 5 [vR (152), vR (153), vR (154), vI 1, vI 0, vI 0, vR (155), vI 0, vI 0, vI 2, vI 0, vI (xs 2), vI 1, vI 0, vR (156), vR (157)]) := ⟨_, rfl⟩
  have h152 := ab_keep eG4 (by decide) h152
  have h153 := ab_keep eG4 (by decide) h153
  have h154 := ab_keep eG4 (by decide) h154
  have hlen := ab_klen eG4 hlen
  have hsl := ab_ksl 16 eG4 h151 rfl rfl hsl
  have hfr := hfr.wr eG4 (by decide)
  have h151 := ab_kept eG4 h151
  change ab_W _ _ _ (List.set G3 151 (ab_ob 5 [vR (152), vR (153), vR (154), vI 1, vI 0, vI 0, vR (155), vI 0, vI 0, vI 2, vI 0, vI (xs 2), vI 1, vI 0, vR (156), vR (157)])) 61 [some (vR 151), some (vI 8), some (vI 0), some (vI 0)] [] _
  rw [← eG4]
  refine ab_aload_n d_PR_add_61 rfl ?_
  refine ab_dup d_PR_add_62 rfl ?_
  refine ab_getf (fs := [vR (152), vR (153), vR (154), vI 1, vI 0, vI 0, vR (155), vI 0, vI 0, vI 2, vI 0, vI (xs 2), vI 1, vI 0, vR (156), vR (157)]) f_PR_74 d_PR_add_63 h151 rfl ?_
  refine ab_iconst (v := 1) d_PR_add_66 (by decide) ?_
  refine ab_iadd d_PR_add_67 ?_
  refine ab_topi (y := 2) (by decide) ?_
  refine ab_putf (fs := [vR (152), vR (153), vR (154), vI 1, vI 0, vI 0, vR (155), vI 0, vI 0, vI 2, vI 0, vI (xs 2), vI 1, vI 0, vR (156), vR (157)]) f_PR_74 (Or.inl rfl) d_PR_add_68 h151 (Nat.le_of_ble_eq_true rfl) (fun _ => ⟨rfl, rfl⟩) (by decide) ?_
  obtain ⟨G5, eG5⟩ : ∃ z : ab_G, z = List.set G4 151 (ab_ob 5 [vR (152), vR (153), vR (154), vI 2, vI 0, vI 0, vR (155), vI 0, vI 0, vI 2, vI 0, vI (xs 2), vI 1, vI 0, vR (156), vR (157)]) := ⟨_, rfl⟩
  have h152 := ab_keep eG5 (by decide) h152
  have h153 := ab_keep eG5 (by decide) h153
  have h154 := ab_keep eG5 (by decide) h154
  have hlen := ab_klen eG5 hlen
  have hsl := ab_ksl 16 eG5 h151 rfl rfl hsl
  have hfr := hfr.wr eG5 (by decide)
  have h151 := ab_kept eG5 h151
  change ab_W _ _ _ (List.set G4 151 (ab_ob 5 [vR (152), vR (153), vR (154), vI 2, vI 0, vI 0, vR (155), vI 0, vI 0, vI 2, vI 0, vI (xs 2), vI 1, vI 0, vR (156), vR (157)])) 71 [some (vR 151), some (vI 8), some (vI 0), some (vI 0)] [] _
  rw [← eG5]
  refine ab_aload_n d_PR_add_71 rfl ?_
  refine ab_getf (fs := [vR (152), vR (153), vR (154), vI 2, vI 0, vI 0, vR (155), vI 0, vI 0, vI 2, vI 0, vI (xs 2), vI 1, vI 0, vR (156), vR (157)]) f_PR_74 d_PR_add_72 h151 rfl ?_
  refine ab_iconst (v := 1) d_PR_add_75 (by decide) ?_
  refine ab_isub d_PR_add_76 ?_
  refine ab_topi (y := 1) (by decide) ?_
  exact ab_iret (rt := .int) rfl rfl d_PR_add_77 (by rw [hQ]; exact ⟨rfl, hfr, hlen, hsl, h151, h152, h153, h154⟩)
set_option maxRecDepth 100000 in
set_option maxHeartbeats 4000000 in
theorem q_PR_pair_0 {X : ab_X} {d : Nat} {G : ab_G}  (hlen : G.length = 158) (hsl : ab_slots G = 1893385) : ab_F X d y_PR_pair (.code y_PR_pair b_PR_pair 2 (some (.long))) [vI 1, vI 1] G (fun o G2 => o = .returned (some (vJ 4294967297)) ∧ ab_fr [] G G2 ∧ G2.length = 158 ∧ ab_slots G2 = 1893385) := by
  refine ab_F_of (by decide +kernel) (Nat.le_of_ble_eq_true rfl) ?_
  obtain ⟨Q, hQ⟩ : ∃ z : Outcome → ab_G → Prop, z = (fun o G2 => o = .returned (some (vJ 4294967297)) ∧ ab_fr [] G G2 ∧ G2.length = 158 ∧ ab_slots G2 = 1893385) := ⟨_, rfl⟩
  rw [← hQ]
  change ab_W X (ab_pl y_PR_pair b_PR_pair 2 (some (.long))) d G 0 [some (vI 1), some (vI 1)] [] Q
  have hfr : ab_fr [] G G := ab_fr.rf
  refine ab_iload_n d_PR_pair_0 rfl ?_
  refine ab_i2l d_PR_pair_1 ?_
  refine ab_topl (y := 1) (by decide) ?_
  refine ab_bipush (v := 32) d_PR_pair_2 (by decide) ?_
  refine ab_lshl d_PR_pair_4 ?_
  refine ab_topl (y := 4294967296) (by decide) ?_
  refine ab_iload_n d_PR_pair_5 rfl ?_
  refine ab_i2l d_PR_pair_6 ?_
  refine ab_topl (y := 1) (by decide) ?_
  refine ab_lor d_PR_pair_7 ?_
  refine ab_topl (y := 4294967297) (by decide) ?_
  exact ab_lret rfl d_PR_pair_8 (by rw [hQ]; exact ⟨rfl, hfr, hlen, hsl⟩)
set_option maxRecDepth 100000 in
set_option maxHeartbeats 4000000 in
theorem q_PR_row_0 {X : ab_X} {d : Nat} {G : ab_G}  (hlen : G.length = 158) (hsl : ab_slots G = 1893385) (h150 : G[150]? = some (ab_ob 4 [vI 5, vI 0, vN, vI (-1), vI 0, vN, vN, vN, vI 0, vI 1, vI 0, vI 0, vI 0, vI 0, vI (-1)])) : ab_F X d y_PR_row (.code y_PR_row b_PR_row 8 (some (.long))) [vR 151, vR (150), vJ 4294967297, vI 0] G (fun o G2 => o = .returned (some (vJ 4294967297)) ∧ ab_fr [] G G2 ∧ G2.length = 158 ∧ ab_slots G2 = 1893385) := by
  refine ab_F_of (by decide +kernel) (Nat.le_of_ble_eq_true rfl) ?_
  obtain ⟨Q, hQ⟩ : ∃ z : Outcome → ab_G → Prop, z = (fun o G2 => o = .returned (some (vJ 4294967297)) ∧ ab_fr [] G G2 ∧ G2.length = 158 ∧ ab_slots G2 = 1893385) := ⟨_, rfl⟩
  rw [← hQ]
  change ab_W X (ab_pl y_PR_row b_PR_row 8 (some (.long))) d G 0 [some (vR 151), some (vR (150)), some (vJ 4294967297), none, some (vI 0), none, none, none] [] Q
  have hfr : ab_fr [] G G := ab_fr.rf
  refine ab_lload_n d_PR_row_0 rfl ?_
  refine ab_lstore d_PR_row_1 (Nat.le_of_ble_eq_true rfl) (Nat.le_of_ble_eq_true rfl) rfl ?_
  change ab_W _ _ _ G 3 [some (vR 151), some (vR (150)), some (vJ 4294967297), none, some (vI 0), some (vJ 4294967297), none, none] [] _
  refine ab_aload_n d_PR_row_3 rfl ?_
  refine ab_getf (fs := [vI 5, vI 0, vN, vI (-1), vI 0, vN, vN, vN, vI 0, vI 1, vI 0, vI 0, vI 0, vI 0, vI (-1)]) f_PR_127 d_PR_row_4 h150 rfl ?_
  refine ab_astoreN d_PR_row_7 (Nat.le_of_ble_eq_true rfl) (Nat.le_of_ble_eq_true rfl) rfl ?_
  change ab_W _ _ _ G 9 [some (vR 151), some (vR (150)), some (vJ 4294967297), none, some (vI 0), some (vJ 4294967297), none, some (vN)] [] _
  refine ab_aloadN d_PR_row_9 rfl ?_
  refine ab_ifnullN (tgt := 36) d_PR_row_11 (by decide) ?_
  refine ab_lload d_PR_row_36 rfl ?_
  exact ab_lret rfl d_PR_row_38 (by rw [hQ]; exact ⟨rfl, hfr, hlen, hsl⟩)
set_option maxRecDepth 100000 in
set_option maxHeartbeats 4000000 in
theorem q_PR_rows_0 {X : ab_X} {d : Nat} {G : ab_G} {xs : Nat → Int32} (hlen : G.length = 158) (hsl : ab_slots G = 1893385) (h149 : G[149]? = some (ab_ob 4 [vI 4, vI 0, vN, vI (-1), vI 0, vN, vR (150), vN, vI 0, vI 1, vI 0, vI 0, vI 0, vI 0, vI (-1)])) (h150 : G[150]? = some (ab_ob 4 [vI 5, vI 0, vN, vI (-1), vI 0, vN, vN, vN, vI 0, vI 1, vI 0, vI 0, vI 0, vI 0, vI (-1)])) (h151 : G[151]? = some (ab_ob 5 [vR (152), vR (153), vR (154), vI 2, vI 0, vI 0, vR (155), vI 0, vI 0, vI 2, vI 0, vI (xs 2), vI 1, vI 0, vR (156), vR (157)])) (hd : 1 ≤ d) : ab_F X d y_PR_rows (.code y_PR_rows b_PR_rows 8 (some (.long))) [vR 151, vR (149), vJ 4294967297, vI 0] G (fun o G2 => o = .returned (some (vJ 4294967297)) ∧ ab_fr [] G G2 ∧ G2.length = 158 ∧ ab_slots G2 = 1893385) := by
  refine ab_F_of (by decide +kernel) (Nat.le_of_ble_eq_true rfl) ?_
  obtain ⟨Q, hQ⟩ : ∃ z : Outcome → ab_G → Prop, z = (fun o G2 => o = .returned (some (vJ 4294967297)) ∧ ab_fr [] G G2 ∧ G2.length = 158 ∧ ab_slots G2 = 1893385) := ⟨_, rfl⟩
  rw [← hQ]
  change ab_W X (ab_pl y_PR_rows b_PR_rows 8 (some (.long))) d G 0 [some (vR 151), some (vR (149)), some (vJ 4294967297), none, some (vI 0), none, none, none] [] Q
  have hfr : ab_fr [] G G := ab_fr.rf
  refine ab_aload_n d_PR_rows_0 rfl ?_
  refine ab_getf (fs := [vI 4, vI 0, vN, vI (-1), vI 0, vN, vR (150), vN, vI 0, vI 1, vI 0, vI 0, vI 0, vI 0, vI (-1)]) f_PR_127 d_PR_rows_1 h149 rfl ?_
  refine ab_ifnull d_PR_rows_4 ?_
  refine ab_iload d_PR_rows_7 rfl ?_
  refine ab_bipush (v := 30) d_PR_rows_9 (by decide) ?_
  refine ab_icmp_le (tgt := 16) d_PR_rows_11 (by decide) (fun _ => ?_) (fun c => absurd c (by decide))
  refine ab_aload_n d_PR_rows_16 rfl ?_
  refine ab_aload_n d_PR_rows_17 rfl ?_
  refine ab_getf (fs := [vI 4, vI 0, vN, vI (-1), vI 0, vN, vR (150), vN, vI 0, vI 1, vI 0, vI 0, vI 0, vI 0, vI (-1)]) f_PR_127 d_PR_rows_18 h149 rfl ?_
  refine ab_lload_n d_PR_rows_21 rfl ?_
  refine ab_iload d_PR_rows_22 rfl ?_
  refine ab_callV (d' := d - 1) (as := [vR (150), vJ 4294967297, vI 0]) (st := []) (r := _) (q_PR_row_0  hlen hsl h150) (fun o G2 h => ⟨_, h.1⟩) (by omega) m_PR_row ml_PR_131 im_PR_row se_PR_row c_PR h151 (Nat.le_of_ble_eq_true rfl) d_PR_rows_24 rfl ?_
  intro v G1 hq
  obtain ⟨hv, hfk, hlen, hsl⟩ := hq
  cases hv
  have h149 := hfk.get (by decide) h149
  have h150 := hfk.get (by decide) h150
  have h151 := hfk.get (by decide) h151
  have hfr := hfr.cl hfk (by decide)
  change ab_W _ _ _ G1 27 [some (vR 151), some (vR (149)), some (vJ 4294967297), none, some (vI 0), none, none, none] [vJ 4294967297] _
  refine ab_lstore d_PR_rows_27 (Nat.le_of_ble_eq_true rfl) (Nat.le_of_ble_eq_true rfl) rfl ?_
  change ab_W _ _ _ G1 29 [some (vR 151), some (vR (149)), some (vJ 4294967297), none, some (vI 0), some (vJ 4294967297), none, none] [] _
  refine ab_aload_n d_PR_rows_29 rfl ?_
  refine ab_getf (fs := [vI 4, vI 0, vN, vI (-1), vI 0, vN, vR (150), vN, vI 0, vI 1, vI 0, vI 0, vI 0, vI 0, vI (-1)]) f_PR_127 d_PR_rows_30 h149 rfl ?_
  refine ab_getf (fs := [vI 5, vI 0, vN, vI (-1), vI 0, vN, vN, vN, vI 0, vI 1, vI 0, vI 0, vI 0, vI 0, vI (-1)]) f_PR_134 d_PR_rows_33 h150 rfl ?_
  refine ab_astoreN d_PR_rows_36 (Nat.le_of_ble_eq_true rfl) (Nat.le_of_ble_eq_true rfl) rfl ?_
  change ab_W _ _ _ G1 38 [some (vR 151), some (vR (149)), some (vJ 4294967297), none, some (vI 0), some (vJ 4294967297), none, some (vN)] [] _
  refine ab_aloadN d_PR_rows_38 rfl ?_
  refine ab_ifnullN (tgt := 70) d_PR_rows_40 (by decide) ?_
  refine ab_lload d_PR_rows_70 rfl ?_
  exact ab_lret rfl d_PR_rows_72 (by rw [hQ]; exact ⟨rfl, hfr, hlen, hsl⟩)
set_option maxRecDepth 100000 in
set_option maxHeartbeats 4000000 in
theorem q_PR_fresh_0 {X : ab_X} {d : Nat} {G : ab_G}  (hlen : G.length = 158) (hsl : ab_slots G = 1893385) : ab_F X d y_PR_fresh (.code y_PR_fresh b_PR_fresh 2 (some (.int))) [vJ 4294967297] G (fun o G2 => o = .returned (some (vI 1)) ∧ ab_fr [] G G2 ∧ G2.length = 158 ∧ ab_slots G2 = 1893385) := by
  refine ab_F_of (by decide +kernel) (Nat.le_of_ble_eq_true rfl) ?_
  obtain ⟨Q, hQ⟩ : ∃ z : Outcome → ab_G → Prop, z = (fun o G2 => o = .returned (some (vI 1)) ∧ ab_fr [] G G2 ∧ G2.length = 158 ∧ ab_slots G2 = 1893385) := ⟨_, rfl⟩
  rw [← hQ]
  change ab_W X (ab_pl y_PR_fresh b_PR_fresh 2 (some (.int))) d G 0 [some (vJ 4294967297), none] [] Q
  have hfr : ab_fr [] G G := ab_fr.rf
  refine ab_lload_n d_PR_fresh_0 rfl ?_
  refine ab_bipush (v := 32) d_PR_fresh_1 (by decide) ?_
  refine ab_lshr d_PR_fresh_3 ?_
  refine ab_topl (y := 1) (by decide) ?_
  refine ab_l2i d_PR_fresh_4 ?_
  refine ab_topi (y := 1) (by decide) ?_
  exact ab_iret (rt := .int) rfl rfl d_PR_fresh_5 (by rw [hQ]; exact ⟨rfl, hfr, hlen, hsl⟩)
