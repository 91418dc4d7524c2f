set_option maxRecDepth 100000 in
set_option maxHeartbeats 4000000 in
theorem z90_PA_init {X : ab_X} {d : Nat} {o : Nat → Nat} {G : ab_G} {a : Nat} {k0 : Int} {v0 : Int} {s0 : Int} {m0 : Int} {ps : Nat → Nat} {wt : Nat → Wt} {bs : Nat} {gr : Int} {Pr : Int → Prop} {ph : Int} (ha : cc o G a 90 (ab_ob 4 [vz 0, vz 0, vN, vz 0, vz 0, vN, vN, vN, vz 0, vz 0, vz 0, vz 0, vz 0, vz 0, vz 0])) (ppaI_0 : paI o G 0 ps wt bs gr Pr ph) (n18 : ab_n0 = 18) (hnp : ¬ ps a = 90 ∧ ¬ ps a = 94) (cm : 0 ≤ m0 ∧ m0 ≤ 1) (hd : 1 ≤ d) : ab_F X d y_PA_init (.code y_PA_init b_PA_init 5 none) [vR a, vz k0, vz v0, vz s0, vz m0] G (fun oc G2 => oc = .returned none ∧ fx o o [90] G G2 ∧ G2.length = G.length ∧ ab_slots G2 = ab_slots G ∧ cc o G2 a 90 (ab_ob 4 [vz k0, vz v0, vN, vz (-1), vz 0, vN, vN, vN, vz s0, vz m0, vz 0, vz 0, vz 0, vz 0, vz (-1)]) ∧ paI o G2 0 ps wt bs gr Pr ph ∧ (fz ps [] G G2)) := by
  refine ab_F_of (by decide +kernel) (Nat.le_of_ble_eq_true rfl) ?_
  obtain ⟨Q, hQ⟩ : ∃ z : Outcome → ab_G → Prop, z = (fun oc G2 => oc = .returned none ∧ fx o o [90] G G2 ∧ G2.length = G.length ∧ ab_slots G2 = ab_slots G ∧ cc o G2 a 90 (ab_ob 4 [vz k0, vz v0, vN, vz (-1), vz 0, vN, vN, vN, vz s0, vz m0, vz 0, vz 0, vz 0, vz 0, vz (-1)]) ∧ paI o G2 0 ps wt bs gr Pr ph ∧ (fz ps [] G G2)) := ⟨_, rfl⟩
  rw [← hQ]
  change ab_W X (ab_pl y_PA_init b_PA_init 5 none) d G 0 [some (vR a), some (vz k0), some (vz v0), some (vz s0), some (vz m0)] [] Q
  have hfr : fx o o [90] G G := fx.rf
  have hlen : G.length = G.length := rfl
  have hsl : ab_slots G = ab_slots G := rfl
  have hfz : fz ps [] G G := fz.rf
  refine ab_aload_n d_PA_init_0 rfl ?_
  refine ab_objInit mj_PA_3 ob_inst ob_code d_PA_init_1 (Nat.le_of_ble_eq_true rfl) (by omega) ?_
  change ab_W _ _ _ G 4 [some (vR a), some (vz k0), some (vz v0), some (vz s0), some (vz m0)] [] _
  refine ab_aload_n d_PA_init_4 rfl ?_
  refine zz_iconst d_PA_init_5 ?_
  refine ab_putf (fs := [vz 0, vz 0, vN, vz 0, vz 0, vN, vN, vN, vz 0, vz 0, vz 0, vz 0, vz 0, vz 0, vz 0]) f_PA_9 (Or.inl rfl) d_PA_init_6 ha.2.2 (Nat.le_of_ble_eq_true rfl) (fun _ => ⟨rfl, rfl⟩) (ha.2.1 (by decide)) ?_
  obtain ⟨G1, eG1⟩ : ∃ z : ab_G, z = List.set G a (ab_ob 4 [vz 0, vz 0, vN, vz (-1), vz 0, vN, vN, vN, vz 0, vz 0, vz 0, vz 0, vz 0, vz 0, vz 0]) := ⟨_, rfl⟩
  have hfz := hfz.wnp eG1 hnp
  have hst := (fx.rf (o := o) (S := [90]) (G := G)).wr ha eG1 (List.mem_singleton.mpr rfl)
  have ppaI_0 := ppaI_0.wnp hnp ha eG1 (by decide)
  have hlen := (z_len eG1).trans hlen
  have hsl := (z_sl ha eG1 rfl).trans hsl
  have hfr := hfr.wr ha eG1 (by decide)
  have ha := ha.kept eG1
  change ab_W _ _ _ (List.set G a (ab_ob 4 [vz 0, vz 0, vN, vz (-1), vz 0, vN, vN, vN, vz 0, vz 0, vz 0, vz 0, vz 0, vz 0, vz 0])) 9 [some (vR a), some (vz k0), some (vz v0), some (vz s0), some (vz m0)] [] _
  rw [← eG1]
  refine ab_aload_n d_PA_init_9 rfl ?_
  refine zz_iconst d_PA_init_10 ?_
  refine ab_putf (fs := [vz 0, vz 0, vN, vz (-1), vz 0, vN, vN, vN, vz 0, vz 0, vz 0, vz 0, vz 0, vz 0, vz 0]) f_PA_15 (Or.inl rfl) d_PA_init_11 ha.2.2 (Nat.le_of_ble_eq_true rfl) (fun _ => ⟨rfl, rfl⟩) (ha.2.1 (by decide)) ?_
  obtain ⟨G2, eG2⟩ : ∃ z : ab_G, z = List.set G1 a (ab_ob 4 [vz 0, vz 0, vN, vz (-1), vz 0, vN, vN, vN, vz 0, vz 0, vz 0, vz 0, vz 0, vz 0, vz (-1)]) := ⟨_, rfl⟩
  have hfz := hfz.wnp eG2 hnp
  have hst := (fx.rf (o := o) (S := [90]) (G := G1)).wr ha eG2 (List.mem_singleton.mpr rfl)
  have ppaI_0 := ppaI_0.wnp hnp ha eG2 (by decide)
  have hlen := (z_len eG2).trans hlen
  have hsl := (z_sl ha eG2 rfl).trans hsl
  have hfr := hfr.wr ha eG2 (by decide)
  have ha := ha.kept eG2
  change ab_W _ _ _ (List.set G1 a (ab_ob 4 [vz 0, vz 0, vN, vz (-1), vz 0, vN, vN, vN, vz 0, vz 0, vz 0, vz 0, vz 0, vz 0, vz (-1)])) 14 [some (vR a), some (vz k0), some (vz v0), some (vz s0), some (vz m0)] [] _
  rw [← eG2]
  refine ab_aload_n d_PA_init_14 rfl ?_
  refine ab_iload_n d_PA_init_15 rfl ?_
  refine ab_putf (fs := [vz 0, vz 0, vN, vz (-1), vz 0, vN, vN, vN, vz 0, vz 0, vz 0, vz 0, vz 0, vz 0, vz (-1)]) f_PA_18 (Or.inr ⟨rfl, _, c_PA, rfl⟩) d_PA_init_16 ha.2.2 (Nat.le_of_ble_eq_true rfl) (fun _ => ⟨rfl, rfl⟩) (ha.2.1 (by decide)) ?_
  obtain ⟨G3, eG3⟩ : ∃ z : ab_G, z = List.set G2 a (ab_ob 4 [vz k0, vz 0, vN, vz (-1), vz 0, vN, vN, vN, vz 0, vz 0, vz 0, vz 0, vz 0, vz 0, vz (-1)]) := ⟨_, rfl⟩
  have hfz := hfz.wnp eG3 hnp
  have hst := (fx.rf (o := o) (S := [90]) (G := G2)).wr ha eG3 (List.mem_singleton.mpr rfl)
  have ppaI_0 := ppaI_0.wnp hnp ha eG3 (by decide)
  have hlen := (z_len eG3).trans hlen
  have hsl := (z_sl ha eG3 rfl).trans hsl
  have hfr := hfr.wr ha eG3 (by decide)
  have ha := ha.kept eG3
  change ab_W _ _ _ (List.set G2 a (ab_ob 4 [vz k0, vz 0, vN, vz (-1), vz 0, vN, vN, vN, vz 0, vz 0, vz 0, vz 0, vz 0, vz 0, vz (-1)])) 19 [some (vR a), some (vz k0), some (vz v0), some (vz s0), some (vz m0)] [] _
  rw [← eG3]
  refine ab_aload_n d_PA_init_19 rfl ?_
  refine ab_iload_n d_PA_init_20 rfl ?_
  refine ab_putf (fs := [vz k0, vz 0, vN, vz (-1), vz 0, vN, vN, vN, vz 0, vz 0, vz 0, vz 0, vz 0, vz 0, vz (-1)]) f_PA_21 (Or.inr ⟨rfl, _, c_PA, rfl⟩) d_PA_init_21 ha.2.2 (Nat.le_of_ble_eq_true rfl) (fun _ => ⟨rfl, rfl⟩) (ha.2.1 (by decide)) ?_
  obtain ⟨G4, eG4⟩ : ∃ z : ab_G, z = List.set G3 a (ab_ob 4 [vz k0, vz v0, vN, vz (-1), vz 0, vN, vN, vN, vz 0, vz 0, vz 0, vz 0, vz 0, vz 0, vz (-1)]) := ⟨_, rfl⟩
  have hfz := hfz.wnp eG4 hnp
  have hst := (fx.rf (o := o) (S := [90]) (G := G3)).wr ha eG4 (List.mem_singleton.mpr rfl)
  have ppaI_0 := ppaI_0.wnp hnp ha eG4 (by decide)
  have hlen := (z_len eG4).trans hlen
  have hsl := (z_sl ha eG4 rfl).trans hsl
  have hfr := hfr.wr ha eG4 (by decide)
  have ha := ha.kept eG4
  change ab_W _ _ _ (List.set G3 a (ab_ob 4 [vz k0, vz v0, vN, vz (-1), vz 0, vN, vN, vN, vz 0, vz 0, vz 0, vz 0, vz 0, vz 0, vz (-1)])) 24 [some (vR a), some (vz k0), some (vz v0), some (vz s0), some (vz m0)] [] _
  rw [← eG4]
  refine ab_aload_n d_PA_init_24 rfl ?_
  refine ab_iload_n d_PA_init_25 rfl ?_
  refine ab_putf (fs := [vz k0, vz v0, vN, vz (-1), vz 0, vN, vN, vN, vz 0, vz 0, vz 0, vz 0, vz 0, vz 0, vz (-1)]) f_PA_24 (Or.inl rfl) d_PA_init_26 ha.2.2 (Nat.le_of_ble_eq_true rfl) (fun _ => ⟨rfl, rfl⟩) (ha.2.1 (by decide)) ?_
  obtain ⟨G5, eG5⟩ : ∃ z : ab_G, z = List.set G4 a (ab_ob 4 [vz k0, vz v0, vN, vz (-1), vz 0, vN, vN, vN, vz s0, vz 0, vz 0, vz 0, vz 0, vz 0, vz (-1)]) := ⟨_, rfl⟩
  have hfz := hfz.wnp eG5 hnp
  have hst := (fx.rf (o := o) (S := [90]) (G := G4)).wr ha eG5 (List.mem_singleton.mpr rfl)
  have ppaI_0 := ppaI_0.wnp hnp ha eG5 (by decide)
  have hlen := (z_len eG5).trans hlen
  have hsl := (z_sl ha eG5 rfl).trans hsl
  have hfr := hfr.wr ha eG5 (by decide)
  have ha := ha.kept eG5
  change ab_W _ _ _ (List.set G4 a (ab_ob 4 [vz k0, vz v0, vN, vz (-1), vz 0, vN, vN, vN, vz s0, vz 0, vz 0, vz 0, vz 0, vz 0, vz (-1)])) 29 [some (vR a), some (vz k0), some (vz v0), some (vz s0), some (vz m0)] [] _
  rw [← eG5]
  refine ab_aload_n d_PA_init_29 rfl ?_
  refine ab_iload d_PA_init_30 rfl ?_
  refine ab_putf (fs := [vz k0, vz v0, vN, vz (-1), vz 0, vN, vN, vN, vz s0, vz 0, vz 0, vz 0, vz 0, vz 0, vz (-1)]) f_PA_27 (Or.inl rfl) d_PA_init_32 ha.2.2 (Nat.le_of_ble_eq_true rfl) (ab_fbz (by omega)) (ha.2.1 (by decide)) ?_
  obtain ⟨G6, eG6⟩ : ∃ z : ab_G, z = List.set G5 a (ab_ob 4 [vz k0, vz v0, vN, vz (-1), vz 0, vN, vN, vN, vz s0, vz m0, vz 0, vz 0, vz 0, vz 0, vz (-1)]) := ⟨_, rfl⟩
  have hfz := hfz.wnp eG6 hnp
  have hst := (fx.rf (o := o) (S := [90]) (G := G5)).wr ha eG6 (List.mem_singleton.mpr rfl)
  have ppaI_0 := ppaI_0.wnp hnp ha eG6 (by decide)
  have hlen := (z_len eG6).trans hlen
  have hsl := (z_sl ha eG6 rfl).trans hsl
  have hfr := hfr.wr ha eG6 (by decide)
  have ha := ha.kept eG6
  change ab_W _ _ _ (List.set G5 a (ab_ob 4 [vz k0, vz v0, vN, vz (-1), vz 0, vN, vN, vN, vz s0, vz m0, vz 0, vz 0, vz 0, vz 0, vz (-1)])) 35 [some (vR a), some (vz k0), some (vz v0), some (vz s0), some (vz m0)] [] _
  rw [← eG6]
  refine ab_vret rfl d_PA_init_35 ?_
  rw [hQ]; exact ⟨rfl, hfr, hlen, hsl, ha, ppaI_0, (by exact hfz)⟩
set_option maxRecDepth 100000 in
set_option maxHeartbeats 4000000 in
theorem z94_PA_init {X : ab_X} {d : Nat} {o : Nat → Nat} {G : ab_G} {a : Nat} {k0 : Int} {v0 : Int} {s0 : Int} {m0 : Int} {ps : Nat → Nat} {wt : Nat → Wt} {bs : Nat} {gr : Int} {Pr : Int → Prop} {ph : Int} (ha : cc o G a 94 (ab_ob 4 [vz 0, vz 0, vN, vz 0, vz 0, vN, vN, vN, vz 0, vz 0, vz 0, vz 0, vz 0, vz 0, vz 0])) (ppaI_0 : paI o G 0 ps wt bs gr Pr ph) (n18 : ab_n0 = 18) (hnp : ¬ ps a = 90 ∧ ¬ ps a = 94) (cm : 0 ≤ m0 ∧ m0 ≤ 1) (hd : 1 ≤ d) : ab_F X d y_PA_init (.code y_PA_init b_PA_init 5 none) [vR a, vz k0, vz v0, vz s0, vz m0] G (fun oc G2 => oc = .returned none ∧ fx o o [94] G G2 ∧ G2.length = G.length ∧ ab_slots G2 = ab_slots G ∧ cc o G2 a 94 (ab_ob 4 [vz k0, vz v0, vN, vz (-1), vz 0, vN, vN, vN, vz s0, vz m0, vz 0, vz 0, vz 0, vz 0, vz (-1)]) ∧ paI o G2 0 ps wt bs gr Pr ph ∧ (fz ps [] G G2)) := by
  refine ab_F_of (by decide +kernel) (Nat.le_of_ble_eq_true rfl) ?_
  obtain ⟨Q, hQ⟩ : ∃ z : Outcome → ab_G → Prop, z = (fun oc G2 => oc = .returned none ∧ fx o o [94] G G2 ∧ G2.length = G.length ∧ ab_slots G2 = ab_slots G ∧ cc o G2 a 94 (ab_ob 4 [vz k0, vz v0, vN, vz (-1), vz 0, vN, vN, vN, vz s0, vz m0, vz 0, vz 0, vz 0, vz 0, vz (-1)]) ∧ paI o G2 0 ps wt bs gr Pr ph ∧ (fz ps [] G G2)) := ⟨_, rfl⟩
  rw [← hQ]
  change ab_W X (ab_pl y_PA_init b_PA_init 5 none) d G 0 [some (vR a), some (vz k0), some (vz v0), some (vz s0), some (vz m0)] [] Q
  have hfr : fx o o [94] G G := fx.rf
  have hlen : G.length = G.length := rfl
  have hsl : ab_slots G = ab_slots G := rfl
  have hfz : fz ps [] G G := fz.rf
  refine ab_aload_n d_PA_init_0 rfl ?_
  refine ab_objInit mj_PA_3 ob_inst ob_code d_PA_init_1 (Nat.le_of_ble_eq_true rfl) (by omega) ?_
  change ab_W _ _ _ G 4 [some (vR a), some (vz k0), some (vz v0), some (vz s0), some (vz m0)] [] _
  refine ab_aload_n d_PA_init_4 rfl ?_
  refine zz_iconst d_PA_init_5 ?_
  refine ab_putf (fs := [vz 0, vz 0, vN, vz 0, vz 0, vN, vN, vN, vz 0, vz 0, vz 0, vz 0, vz 0, vz 0, vz 0]) f_PA_9 (Or.inl rfl) d_PA_init_6 ha.2.2 (Nat.le_of_ble_eq_true rfl) (fun _ => ⟨rfl, rfl⟩) (ha.2.1 (by decide)) ?_
  obtain ⟨G1, eG1⟩ : ∃ z : ab_G, z = List.set G a (ab_ob 4 [vz 0, vz 0, vN, vz (-1), vz 0, vN, vN, vN, vz 0, vz 0, vz 0, vz 0, vz 0, vz 0, vz 0]) := ⟨_, rfl⟩
  have hfz := hfz.wnp eG1 hnp
  have hst := (fx.rf (o := o) (S := [94]) (G := G)).wr ha eG1 (List.mem_singleton.mpr rfl)
  have ppaI_0 := ppaI_0.wnp hnp ha eG1 (by decide)
  have hlen := (z_len eG1).trans hlen
  have hsl := (z_sl ha eG1 rfl).trans hsl
  have hfr := hfr.wr ha eG1 (by decide)
  have ha := ha.kept eG1
  change ab_W _ _ _ (List.set G a (ab_ob 4 [vz 0, vz 0, vN, vz (-1), vz 0, vN, vN, vN, vz 0, vz 0, vz 0, vz 0, vz 0, vz 0, vz 0])) 9 [some (vR a), some (vz k0), some (vz v0), some (vz s0), some (vz m0)] [] _
  rw [← eG1]
  refine ab_aload_n d_PA_init_9 rfl ?_
  refine zz_iconst d_PA_init_10 ?_
  refine ab_putf (fs := [vz 0, vz 0, vN, vz (-1), vz 0, vN, vN, vN, vz 0, vz 0, vz 0, vz 0, vz 0, vz 0, vz 0]) f_PA_15 (Or.inl rfl) d_PA_init_11 ha.2.2 (Nat.le_of_ble_eq_true rfl) (fun _ => ⟨rfl, rfl⟩) (ha.2.1 (by decide)) ?_
  obtain ⟨G2, eG2⟩ : ∃ z : ab_G, z = List.set G1 a (ab_ob 4 [vz 0, vz 0, vN, vz (-1), vz 0, vN, vN, vN, vz 0, vz 0, vz 0, vz 0, vz 0, vz 0, vz (-1)]) := ⟨_, rfl⟩
  have hfz := hfz.wnp eG2 hnp
  have hst := (fx.rf (o := o) (S := [94]) (G := G1)).wr ha eG2 (List.mem_singleton.mpr rfl)
  have ppaI_0 := ppaI_0.wnp hnp ha eG2 (by decide)
  have hlen := (z_len eG2).trans hlen
  have hsl := (z_sl ha eG2 rfl).trans hsl
  have hfr := hfr.wr ha eG2 (by decide)
  have ha := ha.kept eG2
  change ab_W _ _ _ (List.set G1 a (ab_ob 4 [vz 0, vz 0, vN, vz (-1), vz 0, vN, vN, vN, vz 0, vz 0, vz 0, vz 0, vz 0, vz 0, vz (-1)])) 14 [some (vR a), some (vz k0), some (vz v0), some (vz s0), some (vz m0)] [] _
  rw [← eG2]
  refine ab_aload_n d_PA_init_14 rfl ?_
  refine ab_iload_n d_PA_init_15 rfl ?_
  refine ab_putf (fs := [vz 0, vz 0, vN, vz (-1), vz 0, vN, vN, vN, vz 0, vz 0, vz 0, vz 0, vz 0, vz 0, vz (-1)]) f_PA_18 (Or.inr ⟨rfl, _, c_PA, rfl⟩) d_PA_init_16 ha.2.2 (Nat.le_of_ble_eq_true rfl) (fun _ => ⟨rfl, rfl⟩) (ha.2.1 (by decide)) ?_
  obtain ⟨G3, eG3⟩ : ∃ z : ab_G, z = List.set G2 a (ab_ob 4 [vz k0, vz 0, vN, vz (-1), vz 0, vN, vN, vN, vz 0, vz 0, vz 0, vz 0, vz 0, vz 0, vz (-1)]) := ⟨_, rfl⟩
  have hfz := hfz.wnp eG3 hnp
  have hst := (fx.rf (o := o) (S := [94]) (G := G2)).wr ha eG3 (List.mem_singleton.mpr rfl)
  have ppaI_0 := ppaI_0.wnp hnp ha eG3 (by decide)
  have hlen := (z_len eG3).trans hlen
  have hsl := (z_sl ha eG3 rfl).trans hsl
  have hfr := hfr.wr ha eG3 (by decide)
  have ha := ha.kept eG3
  change ab_W _ _ _ (List.set G2 a (ab_ob 4 [vz k0, vz 0, vN, vz (-1), vz 0, vN, vN, vN, vz 0, vz 0, vz 0, vz 0, vz 0, vz 0, vz (-1)])) 19 [some (vR a), some (vz k0), some (vz v0), some (vz s0), some (vz m0)] [] _
  rw [← eG3]
  refine ab_aload_n d_PA_init_19 rfl ?_
  refine ab_iload_n d_PA_init_20 rfl ?_
  refine ab_putf (fs := [vz k0, vz 0, vN, vz (-1), vz 0, vN, vN, vN, vz 0, vz 0, vz 0, vz 0, vz 0, vz 0, vz (-1)]) f_PA_21 (Or.inr ⟨rfl, _, c_PA, rfl⟩) d_PA_init_21 ha.2.2 (Nat.le_of_ble_eq_true rfl) (fun _ => ⟨rfl, rfl⟩) (ha.2.1 (by decide)) ?_
  obtain ⟨G4, eG4⟩ : ∃ z : ab_G, z = List.set G3 a (ab_ob 4 [vz k0, vz v0, vN, vz (-1), vz 0, vN, vN, vN, vz 0, vz 0, vz 0, vz 0, vz 0, vz 0, vz (-1)]) := ⟨_, rfl⟩
  have hfz := hfz.wnp eG4 hnp
  have hst := (fx.rf (o := o) (S := [94]) (G := G3)).wr ha eG4 (List.mem_singleton.mpr rfl)
  have ppaI_0 := ppaI_0.wnp hnp ha eG4 (by decide)
  have hlen := (z_len eG4).trans hlen
  have hsl := (z_sl ha eG4 rfl).trans hsl
  have hfr := hfr.wr ha eG4 (by decide)
  have ha := ha.kept eG4
  change ab_W _ _ _ (List.set G3 a (ab_ob 4 [vz k0, vz v0, vN, vz (-1), vz 0, vN, vN, vN, vz 0, vz 0, vz 0, vz 0, vz 0, vz 0, vz (-1)])) 24 [some (vR a), some (vz k0), some (vz v0), some (vz s0), some (vz m0)] [] _
  rw [← eG4]
  refine ab_aload_n d_PA_init_24 rfl ?_
  refine ab_iload_n d_PA_init_25 rfl ?_
  refine ab_putf (fs := [vz k0, vz v0, vN, vz (-1), vz 0, vN, vN, vN, vz 0, vz 0, vz 0, vz 0, vz 0, vz 0, vz (-1)]) f_PA_24 (Or.inl rfl) d_PA_init_26 ha.2.2 (Nat.le_of_ble_eq_true rfl) (fun _ => ⟨rfl, rfl⟩) (ha.2.1 (by decide)) ?_
  obtain ⟨G5, eG5⟩ : ∃ z : ab_G, z = List.set G4 a (ab_ob 4 [vz k0, vz v0, vN, vz (-1), vz 0, vN, vN, vN, vz s0, vz 0, vz 0, vz 0, vz 0, vz 0, vz (-1)]) := ⟨_, rfl⟩
  have hfz := hfz.wnp eG5 hnp
  have hst := (fx.rf (o := o) (S := [94]) (G := G4)).wr ha eG5 (List.mem_singleton.mpr rfl)
  have ppaI_0 := ppaI_0.wnp hnp ha eG5 (by decide)
  have hlen := (z_len eG5).trans hlen
  have hsl := (z_sl ha eG5 rfl).trans hsl
  have hfr := hfr.wr ha eG5 (by decide)
  have ha := ha.kept eG5
  change ab_W _ _ _ (List.set G4 a (ab_ob 4 [vz k0, vz v0, vN, vz (-1), vz 0, vN, vN, vN, vz s0, vz 0, vz 0, vz 0, vz 0, vz 0, vz (-1)])) 29 [some (vR a), some (vz k0), some (vz v0), some (vz s0), some (vz m0)] [] _
  rw [← eG5]
  refine ab_aload_n d_PA_init_29 rfl ?_
  refine ab_iload d_PA_init_30 rfl ?_
  refine ab_putf (fs := [vz k0, vz v0, vN, vz (-1), vz 0, vN, vN, vN, vz s0, vz 0, vz 0, vz 0, vz 0, vz 0, vz (-1)]) f_PA_27 (Or.inl rfl) d_PA_init_32 ha.2.2 (Nat.le_of_ble_eq_true rfl) (ab_fbz (by omega)) (ha.2.1 (by decide)) ?_
  obtain ⟨G6, eG6⟩ : ∃ z : ab_G, z = List.set G5 a (ab_ob 4 [vz k0, vz v0, vN, vz (-1), vz 0, vN, vN, vN, vz s0, vz m0, vz 0, vz 0, vz 0, vz 0, vz (-1)]) := ⟨_, rfl⟩
  have hfz := hfz.wnp eG6 hnp
  have hst := (fx.rf (o := o) (S := [94]) (G := G5)).wr ha eG6 (List.mem_singleton.mpr rfl)
  have ppaI_0 := ppaI_0.wnp hnp ha eG6 (by decide)
  have hlen := (z_len eG6).trans hlen
  have hsl := (z_sl ha eG6 rfl).trans hsl
  have hfr := hfr.wr ha eG6 (by decide)
  have ha := ha.kept eG6
  change ab_W _ _ _ (List.set G5 a (ab_ob 4 [vz k0, vz v0, vN, vz (-1), vz 0, vN, vN, vN, vz s0, vz m0, vz 0, vz 0, vz 0, vz 0, vz (-1)])) 35 [some (vR a), some (vz k0), some (vz v0), some (vz s0), some (vz m0)] [] _
  rw [← eG6]
  refine ab_vret rfl d_PA_init_35 ?_
  rw [hQ]; exact ⟨rfl, hfr, hlen, hsl, ha, ppaI_0, (by exact hfz)⟩
set_option maxRecDepth 100000 in
set_option maxHeartbeats 4000000 in
theorem z94_PA_push {X : ab_X} {d : Nat} {o : Nat → Nat} {G : ab_G} {k : Int} {v : Int} {rg : Value} {pl : Int} {fl : Int} {ou : Value} {ls : Value} {bf : Value} {sz : Int} {mb : Int} {oe : Int} {le : Int} {mo : Int} {la : Int} {rc : Int} {lr : Value} {br : Value} {sr : Int} {mr : Int} {ps : Nat → Nat} {wt : Nat → Wt} {bs : Nat} {gr : Int} {Pr : Int → Prop} {ph : Int} {r : Nat} {p : Nat} (hp : cc o G p 90 (ab_ob 4 [vz k, vz v, rg, vz pl, vz fl, ou, ls, bf, vz sz, vz mb, vz oe, vz le, vz mo, vz la, vz rc])) (hr : cc o G r 94 (ab_ob 4 [vz 5, vz 0, vN, vz (-1), vz 0, vN, lr, br, vz sr, vz mr, vz 0, vz 0, vz 0, vz 0, vz (-1)])) (ppaI_0 : paI o G 0 ps wt bs gr Pr ph) (n18 : ab_n0 = 18) (hpp : ps p = 90) (hpr : ps r = 94) (hn : paN gr Pr k v rc) (cb : (-1 ≤ pl ∧ pl ≤ 2100) ∧ (0 ≤ fl ∧ fl ≤ 31) ∧ (0 ≤ sz ∧ sz ≤ 1000000) ∧ (0 ≤ mb ∧ mb ≤ 1) ∧ (0 ≤ oe ∧ oe ≤ 1) ∧ (0 ≤ le ∧ le ≤ 1000) ∧ (0 ≤ mo ∧ mo ≤ 1000) ∧ (0 ≤ la ∧ la ≤ 1)) (cr : (0 ≤ sr ∧ sr ≤ 1000000) ∧ (0 ≤ mr ∧ mr ≤ 1)) (ho : plk ps 90 p ou) (hl : plk ps 94 G.length ls) (hf : plk ps 90 p bf) (hlr : plk ps 90 G.length lr) (hbr : plk ps 94 r br) (hlp : plk ps 90 p lr) (cp : p < G.length) : ab_F X d y_PA_push (.code y_PA_push b_PA_push 2 none) [vR r, vR p] G (fun oc G2 => oc = .returned none ∧ fx o o [90, 94] G G2 ∧ G2.length = G.length ∧ ab_slots G2 = ab_slots G ∧ cc o G2 p 90 (ab_ob 4 [vz k, vz v, rg, vz pl, vz fl, ou, ls, lr, vz sz, vz mb, vz oe, vz le, vz mo, vz la, vz rc]) ∧ cc o G2 r 94 (ab_ob 4 [vz 5, vz 0, vN, vz (-1), vz 0, vN, vR p, br, vz sr, vz mr, vz 0, vz 0, vz 0, vz 0, vz (-1)]) ∧ paI o G2 0 ps wt bs gr Pr ph ∧ (fz ps [r, p] G G2)) := by
  refine ab_F_of (by decide +kernel) (Nat.le_of_ble_eq_true rfl) ?_
  obtain ⟨Q, hQ⟩ : ∃ z : Outcome → ab_G → Prop, z = (fun oc G2 => oc = .returned none ∧ fx o o [90, 94] G G2 ∧ G2.length = G.length ∧ ab_slots G2 = ab_slots G ∧ cc o G2 p 90 (ab_ob 4 [vz k, vz v, rg, vz pl, vz fl, ou, ls, lr, vz sz, vz mb, vz oe, vz le, vz mo, vz la, vz rc]) ∧ cc o G2 r 94 (ab_ob 4 [vz 5, vz 0, vN, vz (-1), vz 0, vN, vR p, br, vz sr, vz mr, vz 0, vz 0, vz 0, vz 0, vz (-1)]) ∧ paI o G2 0 ps wt bs gr Pr ph ∧ (fz ps [r, p] G G2)) := ⟨_, rfl⟩
  rw [← hQ]
  change ab_W X (ab_pl y_PA_push b_PA_push 2 none) d G 0 [some (vR r), some (vR p)] [] Q
  have hfr : fx o o [90, 94] G G := fx.rf
  have hlen : G.length = G.length := rfl
  have hsl : ab_slots G = ab_slots G := rfl
  have hfz : fz ps [r, p] G G := fz.rf
  refine ab_aload_n d_PA_push_0 rfl ?_
  refine ab_aload_n d_PA_push_1 rfl ?_
  refine ab_getf (fs := [vz 5, vz 0, vN, vz (-1), vz 0, vN, lr, br, vz sr, vz mr, vz 0, vz 0, vz 0, vz 0, vz (-1)]) f_PA_31 d_PA_push_2 hr.2.2 rfl ?_
  change ab_W _ _ _ G 5 [some (vR r), some (vR p)] [lr, vR p] _
  rcases hlp with hz2 | ⟨b1, hz2, hp3, hl4⟩
  · subst hz2
    change ab_W _ _ _ G 5 [some (vR r), some (vR p)] [vN, vR p] _
    refine ab_putf (fs := [vz k, vz v, rg, vz pl, vz fl, ou, ls, bf, vz sz, vz mb, vz oe, vz le, vz mo, vz la, vz rc]) f_PA_35 (Or.inl rfl) d_PA_push_5 hp.2.2 (Nat.le_of_ble_eq_true rfl) (fun _ => ⟨rfl, rfl⟩) (hp.2.1 (by decide)) ?_
    obtain ⟨G5, eG5⟩ : ∃ z : ab_G, z = List.set G p (ab_ob 4 [vz k, vz v, rg, vz pl, vz fl, ou, ls, vN, vz sz, vz mb, vz oe, vz le, vz mo, vz la, vz rc]) := ⟨_, rfl⟩
    have hr := hr.keep hp eG5 (by decide)
    have hfz := hfz.wr eG5 (by simp)
    have hst := (fx.rf (o := o) (S := [90]) (G := G)).wr hp eG5 (List.mem_singleton.mpr rfl)
    have ppaI_0 := ppaI_0.w90 hpp hp hn eG5 (by unfold pnB; omega) (ho.up (by omega)) (hl.up (by omega)) (Or.inl rfl)
    have hlen := (z_len eG5).trans hlen
    have hsl := (z_sl hp eG5 rfl).trans hsl
    have hfr := hfr.wr hp eG5 (by decide)
    have hp := hp.kept eG5
    change ab_W _ _ _ (List.set G p (ab_ob 4 [vz k, vz v, rg, vz pl, vz fl, ou, ls, vN, vz sz, vz mb, vz oe, vz le, vz mo, vz la, vz rc])) 8 [some (vR r), some (vR p)] [] _
    rw [← eG5]
    refine ab_aload_n d_PA_push_8 rfl ?_
    refine ab_aload_n d_PA_push_9 rfl ?_
    refine ab_putf (fs := [vz 5, vz 0, vN, vz (-1), vz 0, vN, vN, br, vz sr, vz mr, vz 0, vz 0, vz 0, vz 0, vz (-1)]) f_PA_31 (Or.inl rfl) d_PA_push_10 hr.2.2 (Nat.le_of_ble_eq_true rfl) (fun _ => ⟨rfl, rfl⟩) (hr.2.1 (by decide)) ?_
    obtain ⟨G6, eG6⟩ : ∃ z : ab_G, z = List.set G5 r (ab_ob 4 [vz 5, vz 0, vN, vz (-1), vz 0, vN, vR p, br, vz sr, vz mr, vz 0, vz 0, vz 0, vz 0, vz (-1)]) := ⟨_, rfl⟩
    have hp := hp.keep hr eG6 (by decide)
    have hfz := hfz.wr eG6 (by simp)
    have hst := (fx.rf (o := o) (S := [94]) (G := G5)).wr hr eG6 (List.mem_singleton.mpr rfl)
    have ppaI_0 := ppaI_0.w94 hpr hr eG6 (by omega) (Or.inr ⟨_, rfl, hpp, by have hlt := hp.lt; omega⟩) (hbr.up (by omega))
    have hlen := (z_len eG6).trans hlen
    have hsl := (z_sl hr eG6 rfl).trans hsl
    have hfr := hfr.wr hr eG6 (by decide)
    have hr := hr.kept eG6
    change ab_W _ _ _ (List.set G5 r (ab_ob 4 [vz 5, vz 0, vN, vz (-1), vz 0, vN, vR p, br, vz sr, vz mr, vz 0, vz 0, vz 0, vz 0, vz (-1)])) 13 [some (vR r), some (vR p)] [] _
    rw [← eG6]
    refine ab_vret rfl d_PA_push_13 ?_
    rw [hQ]; exact ⟨rfl, hfr, hlen, hsl, hp, hr, ppaI_0, (by exact hfz)⟩
  · subst hz2
    change ab_W _ _ _ G 5 [some (vR r), some (vR p)] [vR b1, vR p] _
    refine ab_putf (fs := [vz k, vz v, rg, vz pl, vz fl, ou, ls, bf, vz sz, vz mb, vz oe, vz le, vz mo, vz la, vz rc]) f_PA_35 (Or.inl rfl) d_PA_push_5 hp.2.2 (Nat.le_of_ble_eq_true rfl) (fun _ => ⟨rfl, rfl⟩) (hp.2.1 (by decide)) ?_
    obtain ⟨G7, eG7⟩ : ∃ z : ab_G, z = List.set G p (ab_ob 4 [vz k, vz v, rg, vz pl, vz fl, ou, ls, vR b1, vz sz, vz mb, vz oe, vz le, vz mo, vz la, vz rc]) := ⟨_, rfl⟩
    have hr := hr.keep hp eG7 (by decide)
    have hfz := hfz.wr eG7 (by simp)
    have hst := (fx.rf (o := o) (S := [90]) (G := G)).wr hp eG7 (List.mem_singleton.mpr rfl)
    have ppaI_0 := ppaI_0.w90 hpp hp hn eG7 (by unfold pnB; omega) (ho.up (by omega)) (hl.up (by omega)) (Or.inr ⟨_, rfl, hp3, by omega⟩)
    have hlen := (z_len eG7).trans hlen
    have hsl := (z_sl hp eG7 rfl).trans hsl
    have hfr := hfr.wr hp eG7 (by decide)
    have hp := hp.kept eG7
    change ab_W _ _ _ (List.set G p (ab_ob 4 [vz k, vz v, rg, vz pl, vz fl, ou, ls, vR b1, vz sz, vz mb, vz oe, vz le, vz mo, vz la, vz rc])) 8 [some (vR r), some (vR p)] [] _
    rw [← eG7]
    refine ab_aload_n d_PA_push_8 rfl ?_
    refine ab_aload_n d_PA_push_9 rfl ?_
    refine ab_putf (fs := [vz 5, vz 0, vN, vz (-1), vz 0, vN, vR b1, br, vz sr, vz mr, vz 0, vz 0, vz 0, vz 0, vz (-1)]) f_PA_31 (Or.inl rfl) d_PA_push_10 hr.2.2 (Nat.le_of_ble_eq_true rfl) (fun _ => ⟨rfl, rfl⟩) (hr.2.1 (by decide)) ?_
    obtain ⟨G8, eG8⟩ : ∃ z : ab_G, z = List.set G7 r (ab_ob 4 [vz 5, vz 0, vN, vz (-1), vz 0, vN, vR p, br, vz sr, vz mr, vz 0, vz 0, vz 0, vz 0, vz (-1)]) := ⟨_, rfl⟩
    have hp := hp.keep hr eG8 (by decide)
    have hfz := hfz.wr eG8 (by simp)
    have hst := (fx.rf (o := o) (S := [94]) (G := G7)).wr hr eG8 (List.mem_singleton.mpr rfl)
    have ppaI_0 := ppaI_0.w94 hpr hr eG8 (by omega) (Or.inr ⟨_, rfl, hpp, by have hlt := hp.lt; omega⟩) (hbr.up (by omega))
    have hlen := (z_len eG8).trans hlen
    have hsl := (z_sl hr eG8 rfl).trans hsl
    have hfr := hfr.wr hr eG8 (by decide)
    have hr := hr.kept eG8
    change ab_W _ _ _ (List.set G7 r (ab_ob 4 [vz 5, vz 0, vN, vz (-1), vz 0, vN, vR p, br, vz sr, vz mr, vz 0, vz 0, vz 0, vz 0, vz (-1)])) 13 [some (vR r), some (vR p)] [] _
    rw [← eG8]
    refine ab_vret rfl d_PA_push_13 ?_
    rw [hQ]; exact ⟨rfl, hfr, hlen, hsl, hp, hr, ppaI_0, (by exact hfz)⟩
set_option maxRecDepth 100000 in
set_option maxHeartbeats 4000000 in
theorem z90_PA_push {X : ab_X} {d : Nat} {o : Nat → Nat} {G : ab_G} {k : Int} {v : Int} {rg : Value} {pl : Int} {fl : Int} {ou : Value} {ls : Value} {bf : Value} {sz : Int} {mb : Int} {oe : Int} {le : Int} {mo : Int} {la : Int} {rc : Int} {lr : Value} {br : Value} {sr : Int} {mr : Int} {ps : Nat → Nat} {wt : Nat → Wt} {bs : Nat} {gr : Int} {Pr : Int → Prop} {ph : Int} {r : Nat} {p : Nat} (hp : cc o G p 90 (ab_ob 4 [vz k, vz v, rg, vz pl, vz fl, ou, ls, bf, vz sz, vz mb, vz oe, vz le, vz mo, vz la, vz rc])) (hr : cc o G r 94 (ab_ob 4 [vz 5, vz 0, vN, vz (-1), vz 0, vN, lr, br, vz sr, vz mr, vz 0, vz 0, vz 0, vz 0, vz (-1)])) (ppaI_0 : paI o G 0 ps wt bs gr Pr ph) (n18 : ab_n0 = 18) (hpp : ps p = 90) (hpr : ps r = 94) (hn : paN gr Pr k v rc) (cb : (-1 ≤ pl ∧ pl ≤ 2100) ∧ (0 ≤ fl ∧ fl ≤ 31) ∧ (0 ≤ sz ∧ sz ≤ 1000000) ∧ (0 ≤ mb ∧ mb ≤ 1) ∧ (0 ≤ oe ∧ oe ≤ 1) ∧ (0 ≤ le ∧ le ≤ 1000) ∧ (0 ≤ mo ∧ mo ≤ 1000) ∧ (0 ≤ la ∧ la ≤ 1)) (cr : (0 ≤ sr ∧ sr ≤ 1000000) ∧ (0 ≤ mr ∧ mr ≤ 1)) (ho : plk ps 90 p ou) (hl : plk ps 94 G.length ls) (hf : plk ps 90 p bf) (hlr : plk ps 90 G.length lr) (hbr : plk ps 94 r br) (hlp : plk ps 94 r ls) (cp : r < G.length) : ab_F X d y_PA_push (.code y_PA_push b_PA_push 2 none) [vR p, vR r] G (fun oc G2 => oc = .returned none ∧ fx o o [90, 94] G G2 ∧ G2.length = G.length ∧ ab_slots G2 = ab_slots G ∧ cc o G2 p 90 (ab_ob 4 [vz k, vz v, rg, vz pl, vz fl, ou, vR r, bf, vz sz, vz mb, vz oe, vz le, vz mo, vz la, vz rc]) ∧ cc o G2 r 94 (ab_ob 4 [vz 5, vz 0, vN, vz (-1), vz 0, vN, lr, ls, vz sr, vz mr, vz 0, vz 0, vz 0, vz 0, vz (-1)]) ∧ paI o G2 0 ps wt bs gr Pr ph ∧ (fz ps [p, r] G G2)) := by
  refine ab_F_of (by decide +kernel) (Nat.le_of_ble_eq_true rfl) ?_
  obtain ⟨Q, hQ⟩ : ∃ z : Outcome → ab_G → Prop, z = (fun oc G2 => oc = .returned none ∧ fx o o [90, 94] G G2 ∧ G2.length = G.length ∧ ab_slots G2 = ab_slots G ∧ cc o G2 p 90 (ab_ob 4 [vz k, vz v, rg, vz pl, vz fl, ou, vR r, bf, vz sz, vz mb, vz oe, vz le, vz mo, vz la, vz rc]) ∧ cc o G2 r 94 (ab_ob 4 [vz 5, vz 0, vN, vz (-1), vz 0, vN, lr, ls, vz sr, vz mr, vz 0, vz 0, vz 0, vz 0, vz (-1)]) ∧ paI o G2 0 ps wt bs gr Pr ph ∧ (fz ps [p, r] G G2)) := ⟨_, rfl⟩
  rw [← hQ]
  change ab_W X (ab_pl y_PA_push b_PA_push 2 none) d G 0 [some (vR p), some (vR r)] [] Q
  have hfr : fx o o [90, 94] G G := fx.rf
  have hlen : G.length = G.length := rfl
  have hsl : ab_slots G = ab_slots G := rfl
  have hfz : fz ps [p, r] G G := fz.rf
  refine ab_aload_n d_PA_push_0 rfl ?_
  refine ab_aload_n d_PA_push_1 rfl ?_
  refine ab_getf (fs := [vz k, vz v, rg, vz pl, vz fl, ou, ls, bf, vz sz, vz mb, vz oe, vz le, vz mo, vz la, vz rc]) f_PA_31 d_PA_push_2 hp.2.2 rfl ?_
  change ab_W _ _ _ G 5 [some (vR p), some (vR r)] [ls, vR r] _
  rcases hlp with hz2 | ⟨b1, hz2, hp3, hl4⟩
  · subst hz2
    change ab_W _ _ _ G 5 [some (vR p), some (vR r)] [vN, vR r] _
    refine ab_putf (fs := [vz 5, vz 0, vN, vz (-1), vz 0, vN, lr, br, vz sr, vz mr, vz 0, vz 0, vz 0, vz 0, vz (-1)]) f_PA_35 (Or.inl rfl) d_PA_push_5 hr.2.2 (Nat.le_of_ble_eq_true rfl) (fun _ => ⟨rfl, rfl⟩) (hr.2.1 (by decide)) ?_
    obtain ⟨G5, eG5⟩ : ∃ z : ab_G, z = List.set G r (ab_ob 4 [vz 5, vz 0, vN, vz (-1), vz 0, vN, lr, vN, vz sr, vz mr, vz 0, vz 0, vz 0, vz 0, vz (-1)]) := ⟨_, rfl⟩
    have hp := hp.keep hr eG5 (by decide)
    have hfz := hfz.wr eG5 (by simp)
    have hst := (fx.rf (o := o) (S := [94]) (G := G)).wr hr eG5 (List.mem_singleton.mpr rfl)
    have ppaI_0 := ppaI_0.w94 hpr hr eG5 (by omega) (hlr.up (by omega)) (Or.inl rfl)
    have hlen := (z_len eG5).trans hlen
    have hsl := (z_sl hr eG5 rfl).trans hsl
    have hfr := hfr.wr hr eG5 (by decide)
    have hr := hr.kept eG5
    change ab_W _ _ _ (List.set G r (ab_ob 4 [vz 5, vz 0, vN, vz (-1), vz 0, vN, lr, vN, vz sr, vz mr, vz 0, vz 0, vz 0, vz 0, vz (-1)])) 8 [some (vR p), some (vR r)] [] _
    rw [← eG5]
    refine ab_aload_n d_PA_push_8 rfl ?_
    refine ab_aload_n d_PA_push_9 rfl ?_
    refine ab_putf (fs := [vz k, vz v, rg, vz pl, vz fl, ou, vN, bf, vz sz, vz mb, vz oe, vz le, vz mo, vz la, vz rc]) f_PA_31 (Or.inl rfl) d_PA_push_10 hp.2.2 (Nat.le_of_ble_eq_true rfl) (fun _ => ⟨rfl, rfl⟩) (hp.2.1 (by decide)) ?_
    obtain ⟨G6, eG6⟩ : ∃ z : ab_G, z = List.set G5 p (ab_ob 4 [vz k, vz v, rg, vz pl, vz fl, ou, vR r, bf, vz sz, vz mb, vz oe, vz le, vz mo, vz la, vz rc]) := ⟨_, rfl⟩
    have hr := hr.keep hp eG6 (by decide)
    have hfz := hfz.wr eG6 (by simp)
    have hst := (fx.rf (o := o) (S := [90]) (G := G5)).wr hp eG6 (List.mem_singleton.mpr rfl)
    have ppaI_0 := ppaI_0.w90 hpp hp hn eG6 (by unfold pnB; omega) (ho.up (by omega)) (Or.inr ⟨_, rfl, hpr, by have hlt := hr.lt; omega⟩) (hf.up (by omega))
    have hlen := (z_len eG6).trans hlen
    have hsl := (z_sl hp eG6 rfl).trans hsl
    have hfr := hfr.wr hp eG6 (by decide)
    have hp := hp.kept eG6
    change ab_W _ _ _ (List.set G5 p (ab_ob 4 [vz k, vz v, rg, vz pl, vz fl, ou, vR r, bf, vz sz, vz mb, vz oe, vz le, vz mo, vz la, vz rc])) 13 [some (vR p), some (vR r)] [] _
    rw [← eG6]
    refine ab_vret rfl d_PA_push_13 ?_
    rw [hQ]; exact ⟨rfl, hfr, hlen, hsl, hp, hr, ppaI_0, (by exact hfz)⟩
  · subst hz2
    change ab_W _ _ _ G 5 [some (vR p), some (vR r)] [vR b1, vR r] _
    refine ab_putf (fs := [vz 5, vz 0, vN, vz (-1), vz 0, vN, lr, br, vz sr, vz mr, vz 0, vz 0, vz 0, vz 0, vz (-1)]) f_PA_35 (Or.inl rfl) d_PA_push_5 hr.2.2 (Nat.le_of_ble_eq_true rfl) (fun _ => ⟨rfl, rfl⟩) (hr.2.1 (by decide)) ?_
    obtain ⟨G7, eG7⟩ : ∃ z : ab_G, z = List.set G r (ab_ob 4 [vz 5, vz 0, vN, vz (-1), vz 0, vN, lr, vR b1, vz sr, vz mr, vz 0, vz 0, vz 0, vz 0, vz (-1)]) := ⟨_, rfl⟩
    have hp := hp.keep hr eG7 (by decide)
    have hfz := hfz.wr eG7 (by simp)
    have hst := (fx.rf (o := o) (S := [94]) (G := G)).wr hr eG7 (List.mem_singleton.mpr rfl)
    have ppaI_0 := ppaI_0.w94 hpr hr eG7 (by omega) (hlr.up (by omega)) (Or.inr ⟨_, rfl, hp3, by omega⟩)
    have hlen := (z_len eG7).trans hlen
    have hsl := (z_sl hr eG7 rfl).trans hsl
    have hfr := hfr.wr hr eG7 (by decide)
    have hr := hr.kept eG7
    change ab_W _ _ _ (List.set G r (ab_ob 4 [vz 5, vz 0, vN, vz (-1), vz 0, vN, lr, vR b1, vz sr, vz mr, vz 0, vz 0, vz 0, vz 0, vz (-1)])) 8 [some (vR p), some (vR r)] [] _
    rw [← eG7]
    refine ab_aload_n d_PA_push_8 rfl ?_
    refine ab_aload_n d_PA_push_9 rfl ?_
    refine ab_putf (fs := [vz k, vz v, rg, vz pl, vz fl, ou, vR b1, bf, vz sz, vz mb, vz oe, vz le, vz mo, vz la, vz rc]) f_PA_31 (Or.inl rfl) d_PA_push_10 hp.2.2 (Nat.le_of_ble_eq_true rfl) (fun _ => ⟨rfl, rfl⟩) (hp.2.1 (by decide)) ?_
    obtain ⟨G8, eG8⟩ : ∃ z : ab_G, z = List.set G7 p (ab_ob 4 [vz k, vz v, rg, vz pl, vz fl, ou, vR r, bf, vz sz, vz mb, vz oe, vz le, vz mo, vz la, vz rc]) := ⟨_, rfl⟩
    have hr := hr.keep hp eG8 (by decide)
    have hfz := hfz.wr eG8 (by simp)
    have hst := (fx.rf (o := o) (S := [90]) (G := G7)).wr hp eG8 (List.mem_singleton.mpr rfl)
    have ppaI_0 := ppaI_0.w90 hpp hp hn eG8 (by unfold pnB; omega) (ho.up (by omega)) (Or.inr ⟨_, rfl, hpr, by have hlt := hr.lt; omega⟩) (hf.up (by omega))
    have hlen := (z_len eG8).trans hlen
    have hsl := (z_sl hp eG8 rfl).trans hsl
    have hfr := hfr.wr hp eG8 (by decide)
    have hp := hp.kept eG8
    change ab_W _ _ _ (List.set G7 p (ab_ob 4 [vz k, vz v, rg, vz pl, vz fl, ou, vR r, bf, vz sz, vz mb, vz oe, vz le, vz mo, vz la, vz rc])) 13 [some (vR p), some (vR r)] [] _
    rw [← eG8]
    refine ab_vret rfl d_PA_push_13 ?_
    rw [hQ]; exact ⟨rfl, hfr, hlen, hsl, hp, hr, ppaI_0, (by exact hfz)⟩
set_option maxRecDepth 100000 in
set_option maxHeartbeats 4000000 in
theorem z_PA_repeat {X : ab_X} {d : Nat} {o : Nat → Nat} {G : ab_G} {k : Int} {v : Int} {rg : Value} {pl : Int} {fl : Int} {ou : Value} {ls : Value} {bf : Value} {sz : Int} {mb : Int} {oe : Int} {le : Int} {mo : Int} {la : Int} {rc : Int} {ps : Nat → Nat} {wt : Nat → Wt} {bs : Nat} {gr : Int} {Pr : Int → Prop} {ph : Int} {p : Nat} {l0 : Int} {m0 : Int} {z0 : Int} (hp : cc o G p 90 (ab_ob 4 [vz k, vz v, rg, vz pl, vz fl, ou, ls, bf, vz sz, vz mb, vz oe, vz le, vz mo, vz la, vz rc])) (ppaI_0 : paI o G 0 ps wt bs gr Pr ph) (n18 : ab_n0 = 18) (hpp : ps p = 90) (hn : paN gr Pr k v rc) (cb : (-1 ≤ pl ∧ pl ≤ 2100) ∧ (0 ≤ fl ∧ fl ≤ 31) ∧ (0 ≤ sz ∧ sz ≤ 1000000) ∧ (0 ≤ mb ∧ mb ≤ 1) ∧ (0 ≤ oe ∧ oe ≤ 1) ∧ (0 ≤ le ∧ le ≤ 1000) ∧ (0 ≤ mo ∧ mo ≤ 1000) ∧ (0 ≤ la ∧ la ≤ 1)) (ho : plk ps 90 p ou) (hl : plk ps 94 G.length ls) (hf : plk ps 90 p bf) (c0 : 0 ≤ l0 ∧ l0 ≤ 100 ∧ l0 ≤ m0 ∧ m0 ≤ 1000 ∧ 0 ≤ z0 ∧ z0 ≤ 1) (hd : 1 ≤ d) : ab_F X d y_PA_repeat (.code y_PA_repeat b_PA_repeat 6 none) [vR p, vz l0, vz m0, vz z0] G (fun oc G2 => ∃ sz2 : Int, ∃ mb2 : Int, ∃ oe2 : Int, oc = .returned none ∧ fx o o [90] G G2 ∧ G2.length = G.length ∧ ab_slots G2 = ab_slots G ∧ cc o G2 p 90 (ab_ob 4 [vz k, vz v, rg, vz pl, vz fl, ou, ls, bf, vz sz2, vz mb2, vz oe2, vz l0, vz m0, vz z0, vz rc]) ∧ paI o G2 0 ps wt bs gr Pr ph ∧ ((0 ≤ sz2 ∧ sz2 ≤ 1000000) ∧ (0 ≤ mb2 ∧ mb2 ≤ 1) ∧ (0 ≤ oe2 ∧ oe2 ≤ 1)) ∧ (fz ps [p] G G2) ∧ (ceq sz2 (tms l0 m0 * sz + mre l0 m0)) ∧ (oe2 = mb) ∧ (mb2 = 1 ∨ (mb = 0 ∧ 1 ≤ l0))) := by
  refine ab_F_of (by decide +kernel) (Nat.le_of_ble_eq_true rfl) ?_
  obtain ⟨Q, hQ⟩ : ∃ z : Outcome → ab_G → Prop, z = (fun oc G2 => ∃ sz2 : Int, ∃ mb2 : Int, ∃ oe2 : Int, oc = .returned none ∧ fx o o [90] G G2 ∧ G2.length = G.length ∧ ab_slots G2 = ab_slots G ∧ cc o G2 p 90 (ab_ob 4 [vz k, vz v, rg, vz pl, vz fl, ou, ls, bf, vz sz2, vz mb2, vz oe2, vz l0, vz m0, vz z0, vz rc]) ∧ paI o G2 0 ps wt bs gr Pr ph ∧ ((0 ≤ sz2 ∧ sz2 ≤ 1000000) ∧ (0 ≤ mb2 ∧ mb2 ≤ 1) ∧ (0 ≤ oe2 ∧ oe2 ≤ 1)) ∧ (fz ps [p] G G2) ∧ (ceq sz2 (tms l0 m0 * sz + mre l0 m0)) ∧ (oe2 = mb) ∧ (mb2 = 1 ∨ (mb = 0 ∧ 1 ≤ l0))) := ⟨_, rfl⟩
  rw [← hQ]
  change ab_W X (ab_pl y_PA_repeat b_PA_repeat 6 none) d G 0 [some (vR p), some (vz l0), some (vz m0), some (vz z0), none, none] [] Q
  have hfr : fx o o [90] G G := fx.rf
  have hlen : G.length = G.length := rfl
  have hsl : ab_slots G = ab_slots G := rfl
  have hfz : fz ps [p] G G := fz.rf
  refine ab_aload_n d_PA_repeat_0 rfl ?_
  refine ab_iload_n d_PA_repeat_1 rfl ?_
  refine ab_putf (fs := [vz k, vz v, rg, vz pl, vz fl, ou, ls, bf, vz sz, vz mb, vz oe, vz le, vz mo, vz la, vz rc]) f_PA_49 (Or.inl rfl) d_PA_repeat_2 hp.2.2 (Nat.le_of_ble_eq_true rfl) (fun _ => ⟨rfl, rfl⟩) (hp.2.1 (by decide)) ?_
  obtain ⟨G1, eG1⟩ : ∃ z : ab_G, z = List.set G p (ab_ob 4 [vz k, vz v, rg, vz pl, vz fl, ou, ls, bf, vz sz, vz mb, vz oe, vz l0, vz mo, vz la, vz rc]) := ⟨_, rfl⟩
  have hfz := hfz.wr eG1 (by simp)
  have hst := (fx.rf (o := o) (S := [90]) (G := G)).wr hp eG1 (List.mem_singleton.mpr rfl)
  have ppaI_0 := ppaI_0.w90 hpp hp hn eG1 (by unfold pnB; omega) (ho.up (by omega)) (hl.up (by omega)) (hf.up (by omega))
  have hlen := (z_len eG1).trans hlen
  have hsl := (z_sl hp eG1 rfl).trans hsl
  have hfr := hfr.wr hp eG1 (by decide)
  have hp := hp.kept eG1
  change ab_W _ _ _ (List.set G p (ab_ob 4 [vz k, vz v, rg, vz pl, vz fl, ou, ls, bf, vz sz, vz mb, vz oe, vz l0, vz mo, vz la, vz rc])) 5 [some (vR p), some (vz l0), some (vz m0), some (vz z0), none, none] [] _
  rw [← eG1]
  refine ab_aload_n d_PA_repeat_5 rfl ?_
  refine ab_iload_n d_PA_repeat_6 rfl ?_
  refine ab_putf (fs := [vz k, vz v, rg, vz pl, vz fl, ou, ls, bf, vz sz, vz mb, vz oe, vz l0, vz mo, vz la, vz rc]) f_PA_52 (Or.inl rfl) d_PA_repeat_7 hp.2.2 (Nat.le_of_ble_eq_true rfl) (fun _ => ⟨rfl, rfl⟩) (hp.2.1 (by decide)) ?_
  obtain ⟨G2, eG2⟩ : ∃ z : ab_G, z = List.set G1 p (ab_ob 4 [vz k, vz v, rg, vz pl, vz fl, ou, ls, bf, vz sz, vz mb, vz oe, vz l0, vz m0, vz la, vz rc]) := ⟨_, rfl⟩
  have hfz := hfz.wr eG2 (by simp)
  have hst := (fx.rf (o := o) (S := [90]) (G := G1)).wr hp eG2 (List.mem_singleton.mpr rfl)
  have ppaI_0 := ppaI_0.w90 hpp hp hn eG2 (by unfold pnB; omega) (ho.up (by omega)) (hl.up (by omega)) (hf.up (by omega))
  have hlen := (z_len eG2).trans hlen
  have hsl := (z_sl hp eG2 rfl).trans hsl
  have hfr := hfr.wr hp eG2 (by decide)
  have hp := hp.kept eG2
  change ab_W _ _ _ (List.set G1 p (ab_ob 4 [vz k, vz v, rg, vz pl, vz fl, ou, ls, bf, vz sz, vz mb, vz oe, vz l0, vz m0, vz la, vz rc])) 10 [some (vR p), some (vz l0), some (vz m0), some (vz z0), none, none] [] _
  rw [← eG2]
  refine ab_aload_n d_PA_repeat_10 rfl ?_
  refine ab_iload_n d_PA_repeat_11 rfl ?_
  refine ab_putf (fs := [vz k, vz v, rg, vz pl, vz fl, ou, ls, bf, vz sz, vz mb, vz oe, vz l0, vz m0, vz la, vz rc]) f_PA_55 (Or.inl rfl) d_PA_repeat_12 hp.2.2 (Nat.le_of_ble_eq_true rfl) (ab_fbz (by omega)) (hp.2.1 (by decide)) ?_
  obtain ⟨G3, eG3⟩ : ∃ z : ab_G, z = List.set G2 p (ab_ob 4 [vz k, vz v, rg, vz pl, vz fl, ou, ls, bf, vz sz, vz mb, vz oe, vz l0, vz m0, vz z0, vz rc]) := ⟨_, rfl⟩
  have hfz := hfz.wr eG3 (by simp)
  have hst := (fx.rf (o := o) (S := [90]) (G := G2)).wr hp eG3 (List.mem_singleton.mpr rfl)
  have ppaI_0 := ppaI_0.w90 hpp hp hn eG3 (by unfold pnB; omega) (ho.up (by omega)) (hl.up (by omega)) (hf.up (by omega))
  have hlen := (z_len eG3).trans hlen
  have hsl := (z_sl hp eG3 rfl).trans hsl
  have hfr := hfr.wr hp eG3 (by decide)
  have hp := hp.kept eG3
  change ab_W _ _ _ (List.set G2 p (ab_ob 4 [vz k, vz v, rg, vz pl, vz fl, ou, ls, bf, vz sz, vz mb, vz oe, vz l0, vz m0, vz z0, vz rc])) 15 [some (vR p), some (vz l0), some (vz m0), some (vz z0), none, none] [] _
  rw [← eG3]
  refine ab_iload_n d_PA_repeat_15 rfl ?_
  refine zz_sipush d_PA_repeat_16 (by decide) ?_
  refine zz_icmp_ne (tgt := 28) d_PA_repeat_19 (by decide) (by omega) (by decide) (fun c4 => ?_) (fun c4 => ?_)
  · refine ab_iload_n d_PA_repeat_28 rfl ?_
    refine ab_istore d_PA_repeat_29 (Nat.le_of_ble_eq_true rfl) (Nat.le_of_ble_eq_true rfl) rfl ?_
    change ab_W _ _ _ G3 31 [some (vR p), some (vz l0), some (vz m0), some (vz z0), some (vz m0), none] [] _
    refine ab_iload_n d_PA_repeat_31 rfl ?_
    refine zz_sipush d_PA_repeat_32 (by decide) ?_
    refine zz_icmp_ne (tgt := 42) d_PA_repeat_35 (by decide) (by omega) (by decide) (fun c5 => ?_) (fun c5 => absurd c5 (by omega))
    refine ab_iload_n d_PA_repeat_42 rfl ?_
    refine ab_iload_n d_PA_repeat_43 rfl ?_
    refine zz_isub d_PA_repeat_44 ?_
    refine ab_istore d_PA_repeat_45 (Nat.le_of_ble_eq_true rfl) (Nat.le_of_ble_eq_true rfl) rfl ?_
    change ab_W _ _ _ G3 47 [some (vR p), some (vz l0), some (vz m0), some (vz z0), some (vz m0), some (vz (m0 - l0))] [] _
    refine ab_aload_n d_PA_repeat_47 rfl ?_
    refine ab_aload_n d_PA_repeat_48 rfl ?_
    refine ab_getf (fs := [vz k, vz v, rg, vz pl, vz fl, ou, ls, bf, vz sz, vz mb, vz oe, vz l0, vz m0, vz z0, vz rc]) f_PA_27 d_PA_repeat_49 hp.2.2 rfl ?_
    refine ab_putf (fs := [vz k, vz v, rg, vz pl, vz fl, ou, ls, bf, vz sz, vz mb, vz oe, vz l0, vz m0, vz z0, vz rc]) f_PA_58 (Or.inl rfl) d_PA_repeat_52 hp.2.2 (Nat.le_of_ble_eq_true rfl) (ab_fbz (by omega)) (hp.2.1 (by decide)) ?_
    obtain ⟨G6, eG6⟩ : ∃ z : ab_G, z = List.set G3 p (ab_ob 4 [vz k, vz v, rg, vz pl, vz fl, ou, ls, bf, vz sz, vz mb, vz mb, vz l0, vz m0, vz z0, vz rc]) := ⟨_, rfl⟩
    have hfz := hfz.wr eG6 (by simp)
    have hst := (fx.rf (o := o) (S := [90]) (G := G3)).wr hp eG6 (List.mem_singleton.mpr rfl)
    have ppaI_0 := ppaI_0.w90 hpp hp hn eG6 (by unfold pnB; omega) (ho.up (by omega)) (hl.up (by omega)) (hf.up (by omega))
    have hlen := (z_len eG6).trans hlen
    have hsl := (z_sl hp eG6 rfl).trans hsl
    have hfr := hfr.wr hp eG6 (by decide)
    have hp := hp.kept eG6
    change ab_W _ _ _ (List.set G3 p (ab_ob 4 [vz k, vz v, rg, vz pl, vz fl, ou, ls, bf, vz sz, vz mb, vz mb, vz l0, vz m0, vz z0, vz rc])) 55 [some (vR p), some (vz l0), some (vz m0), some (vz z0), some (vz m0), some (vz (m0 - l0))] [] _
    rw [← eG6]
    refine ab_aload_n d_PA_repeat_55 rfl ?_
    refine zz_ldc 1000000 d_PA_repeat_56 cn_PA_42 (by decide) ?_
    refine ab_iload d_PA_repeat_58 rfl ?_
    refine ab_aload_n d_PA_repeat_60 rfl ?_
    refine ab_getf (fs := [vz k, vz v, rg, vz pl, vz fl, ou, ls, bf, vz sz, vz mb, vz mb, vz l0, vz m0, vz z0, vz rc]) f_PA_24 d_PA_repeat_61 hp.2.2 rfl ?_
    refine zz_imul d_PA_repeat_64 ?_
    obtain ⟨v7, hv7⟩ : ∃ z : Int, z = m0 * sz := ⟨_, rfl⟩
    rw [← hv7]
    have hv7b := z_mulb (a := m0) (b := sz) (A := 1001) (B := 1000000) (by omega) (by omega)
    rw [← hv7] at hv7b
    change ab_W _ _ _ G6 65 [some (vR p), some (vz l0), some (vz m0), some (vz z0), some (vz m0), some (vz (m0 - l0))] [vz v7, vz 1000000, vR p] _
    refine ab_iload d_PA_repeat_65 rfl ?_
    refine zz_iadd d_PA_repeat_67 ?_
    refine zz_mmin mj_PA_43 d_PA_repeat_68 (by decide) (by omega) (Nat.le_of_ble_eq_true rfl) (by omega) ?_
    obtain ⟨v8, hv8⟩ : ∃ z : Int, z = (min 1000000 (v7 + (m0 - l0))) := ⟨_, rfl⟩
    rw [← hv8]
    have hv8 : (1000000 ≤ (v7 + (m0 - l0)) ∧ v8 = 1000000) ∨ ((v7 + (m0 - l0)) < 1000000 ∧ v8 = (v7 + (m0 - l0))) := by omega
    change ab_W _ _ _ G6 71 [some (vR p), some (vz l0), some (vz m0), some (vz z0), some (vz m0), some (vz (m0 - l0))] [vz v8, vR p] _
    refine ab_putf (fs := [vz k, vz v, rg, vz pl, vz fl, ou, ls, bf, vz sz, vz mb, vz mb, vz l0, vz m0, vz z0, vz rc]) f_PA_24 (Or.inl rfl) d_PA_repeat_71 hp.2.2 (Nat.le_of_ble_eq_true rfl) (fun _ => ⟨rfl, rfl⟩) (hp.2.1 (by decide)) ?_
    obtain ⟨G9, eG9⟩ : ∃ z : ab_G, z = List.set G6 p (ab_ob 4 [vz k, vz v, rg, vz pl, vz fl, ou, ls, bf, vz v8, vz mb, vz mb, vz l0, vz m0, vz z0, vz rc]) := ⟨_, rfl⟩
    have hfz := hfz.wr eG9 (by simp)
    have hst := (fx.rf (o := o) (S := [90]) (G := G6)).wr hp eG9 (List.mem_singleton.mpr rfl)
    have ppaI_0 := ppaI_0.w90 hpp hp hn eG9 (by unfold pnB; omega) (ho.up (by omega)) (hl.up (by omega)) (hf.up (by omega))
    have hlen := (z_len eG9).trans hlen
    have hsl := (z_sl hp eG9 rfl).trans hsl
    have hfr := hfr.wr hp eG9 (by decide)
    have hp := hp.kept eG9
    change ab_W _ _ _ (List.set G6 p (ab_ob 4 [vz k, vz v, rg, vz pl, vz fl, ou, ls, bf, vz v8, vz mb, vz mb, vz l0, vz m0, vz z0, vz rc])) 74 [some (vR p), some (vz l0), some (vz m0), some (vz z0), some (vz m0), some (vz (m0 - l0))] [] _
    rw [← eG9]
    refine ab_aload_n d_PA_repeat_74 rfl ?_
    refine ab_dup d_PA_repeat_75 rfl ?_
    refine ab_getf (fs := [vz k, vz v, rg, vz pl, vz fl, ou, ls, bf, vz v8, vz mb, vz mb, vz l0, vz m0, vz z0, vz rc]) f_PA_27 d_PA_repeat_76 hp.2.2 rfl ?_
    refine ab_iload_n d_PA_repeat_79 rfl ?_
    refine zz_if_ne (tgt := 87) d_PA_repeat_80 (by decide) (by omega) (fun c10 => ?_) (fun c10 => ?_)
    · refine zz_iconst d_PA_repeat_87 ?_
      refine zz_ior01 d_PA_repeat_88 (by omega) (by omega) ?_
      obtain ⟨v11, hv11⟩ : ∃ z : Int, z = (max mb 0) := ⟨_, rfl⟩
      rw [← hv11]
      have hv11b : v11 = 0 ∨ v11 = 1 := by omega
      change ab_W _ _ _ G9 89 [some (vR p), some (vz l0), some (vz m0), some (vz z0), some (vz m0), some (vz (m0 - l0))] [vz v11, vR p] _
      refine ab_putf (fs := [vz k, vz v, rg, vz pl, vz fl, ou, ls, bf, vz v8, vz mb, vz mb, vz l0, vz m0, vz z0, vz rc]) f_PA_27 (Or.inl rfl) d_PA_repeat_89 hp.2.2 (Nat.le_of_ble_eq_true rfl) (ab_fbz (by omega)) (hp.2.1 (by decide)) ?_
      obtain ⟨G12, eG12⟩ : ∃ z : ab_G, z = List.set G9 p (ab_ob 4 [vz k, vz v, rg, vz pl, vz fl, ou, ls, bf, vz v8, vz v11, vz mb, vz l0, vz m0, vz z0, vz rc]) := ⟨_, rfl⟩
      have hfz := hfz.wr eG12 (by simp)
      have hst := (fx.rf (o := o) (S := [90]) (G := G9)).wr hp eG12 (List.mem_singleton.mpr rfl)
      have ppaI_0 := ppaI_0.w90 hpp hp hn eG12 (by unfold pnB; omega) (ho.up (by omega)) (hl.up (by omega)) (hf.up (by omega))
      have hlen := (z_len eG12).trans hlen
      have hsl := (z_sl hp eG12 rfl).trans hsl
      have hfr := hfr.wr hp eG12 (by decide)
      have hp := hp.kept eG12
      change ab_W _ _ _ (List.set G9 p (ab_ob 4 [vz k, vz v, rg, vz pl, vz fl, ou, ls, bf, vz v8, vz v11, vz mb, vz l0, vz m0, vz z0, vz rc])) 92 [some (vR p), some (vz l0), some (vz m0), some (vz z0), some (vz m0), some (vz (m0 - l0))] [] _
      rw [← eG12]
      refine ab_vret rfl d_PA_repeat_92 ?_
      rw [hQ]; exact ⟨_, _, _, rfl, hfr, hlen, hsl, hp, ppaI_0, (by omega), (by exact hfz), (by first | exact rep_ql (by omega) hv7 hv8 | exact rep_qe (by omega) hv7 hv8), (by omega), (by omega)⟩
    · refine zz_iconst d_PA_repeat_83 ?_
      refine ab_goto (tgt := 88) d_PA_repeat_84 (by decide) ?_
      refine zz_ior01 d_PA_repeat_88 (by omega) (by omega) ?_
      obtain ⟨v13, hv13⟩ : ∃ z : Int, z = (max mb 1) := ⟨_, rfl⟩
      rw [← hv13]
      have hv13b : v13 = 0 ∨ v13 = 1 := by omega
      change ab_W _ _ _ G9 89 [some (vR p), some (vz l0), some (vz m0), some (vz z0), some (vz m0), some (vz (m0 - l0))] [vz v13, vR p] _
      refine ab_putf (fs := [vz k, vz v, rg, vz pl, vz fl, ou, ls, bf, vz v8, vz mb, vz mb, vz l0, vz m0, vz z0, vz rc]) f_PA_27 (Or.inl rfl) d_PA_repeat_89 hp.2.2 (Nat.le_of_ble_eq_true rfl) (ab_fbz (by omega)) (hp.2.1 (by decide)) ?_
      obtain ⟨G14, eG14⟩ : ∃ z : ab_G, z = List.set G9 p (ab_ob 4 [vz k, vz v, rg, vz pl, vz fl, ou, ls, bf, vz v8, vz v13, vz mb, vz l0, vz m0, vz z0, vz rc]) := ⟨_, rfl⟩
      have hfz := hfz.wr eG14 (by simp)
      have hst := (fx.rf (o := o) (S := [90]) (G := G9)).wr hp eG14 (List.mem_singleton.mpr rfl)
      have ppaI_0 := ppaI_0.w90 hpp hp hn eG14 (by unfold pnB; omega) (ho.up (by omega)) (hl.up (by omega)) (hf.up (by omega))
      have hlen := (z_len eG14).trans hlen
      have hsl := (z_sl hp eG14 rfl).trans hsl
      have hfr := hfr.wr hp eG14 (by decide)
      have hp := hp.kept eG14
      change ab_W _ _ _ (List.set G9 p (ab_ob 4 [vz k, vz v, rg, vz pl, vz fl, ou, ls, bf, vz v8, vz v13, vz mb, vz l0, vz m0, vz z0, vz rc])) 92 [some (vR p), some (vz l0), some (vz m0), some (vz z0), some (vz m0), some (vz (m0 - l0))] [] _
      rw [← eG14]
      refine ab_vret rfl d_PA_repeat_92 ?_
      rw [hQ]; exact ⟨_, _, _, rfl, hfr, hlen, hsl, hp, ppaI_0, (by omega), (by exact hfz), (by first | exact rep_ql (by omega) hv7 hv8 | exact rep_qe (by omega) hv7 hv8), (by omega), (by omega)⟩
  · refine ab_iload_n d_PA_repeat_22 rfl ?_
    refine zz_iconst d_PA_repeat_23 ?_
    refine zz_iadd d_PA_repeat_24 ?_
    refine ab_goto (tgt := 29) d_PA_repeat_25 (by decide) ?_
    refine ab_istore d_PA_repeat_29 (Nat.le_of_ble_eq_true rfl) (Nat.le_of_ble_eq_true rfl) rfl ?_
    change ab_W _ _ _ G3 31 [some (vR p), some (vz l0), some (vz m0), some (vz z0), some (vz (l0 + 1)), none] [] _
    refine ab_iload_n d_PA_repeat_31 rfl ?_
    refine zz_sipush d_PA_repeat_32 (by decide) ?_
    refine zz_icmp_ne (tgt := 42) d_PA_repeat_35 (by decide) (by omega) (by decide) (fun c15 => absurd c15 (by omega)) (fun c15 => ?_)
    refine zz_iconst d_PA_repeat_38 ?_
    refine ab_goto (tgt := 45) d_PA_repeat_39 (by decide) ?_
    refine ab_istore d_PA_repeat_45 (Nat.le_of_ble_eq_true rfl) (Nat.le_of_ble_eq_true rfl) rfl ?_
    change ab_W _ _ _ G3 47 [some (vR p), some (vz l0), some (vz m0), some (vz z0), some (vz (l0 + 1)), some (vz 1)] [] _
    refine ab_aload_n d_PA_repeat_47 rfl ?_
    refine ab_aload_n d_PA_repeat_48 rfl ?_
    refine ab_getf (fs := [vz k, vz v, rg, vz pl, vz fl, ou, ls, bf, vz sz, vz mb, vz oe, vz l0, vz m0, vz z0, vz rc]) f_PA_27 d_PA_repeat_49 hp.2.2 rfl ?_
    refine ab_putf (fs := [vz k, vz v, rg, vz pl, vz fl, ou, ls, bf, vz sz, vz mb, vz oe, vz l0, vz m0, vz z0, vz rc]) f_PA_58 (Or.inl rfl) d_PA_repeat_52 hp.2.2 (Nat.le_of_ble_eq_true rfl) (ab_fbz (by omega)) (hp.2.1 (by decide)) ?_
    obtain ⟨G16, eG16⟩ : ∃ z : ab_G, z = List.set G3 p (ab_ob 4 [vz k, vz v, rg, vz pl, vz fl, ou, ls, bf, vz sz, vz mb, vz mb, vz l0, vz m0, vz z0, vz rc]) := ⟨_, rfl⟩
    have hfz := hfz.wr eG16 (by simp)
    have hst := (fx.rf (o := o) (S := [90]) (G := G3)).wr hp eG16 (List.mem_singleton.mpr rfl)
    have ppaI_0 := ppaI_0.w90 hpp hp hn eG16 (by unfold pnB; omega) (ho.up (by omega)) (hl.up (by omega)) (hf.up (by omega))
    have hlen := (z_len eG16).trans hlen
    have hsl := (z_sl hp eG16 rfl).trans hsl
    have hfr := hfr.wr hp eG16 (by decide)
    have hp := hp.kept eG16
    change ab_W _ _ _ (List.set G3 p (ab_ob 4 [vz k, vz v, rg, vz pl, vz fl, ou, ls, bf, vz sz, vz mb, vz mb, vz l0, vz m0, vz z0, vz rc])) 55 [some (vR p), some (vz l0), some (vz m0), some (vz z0), some (vz (l0 + 1)), some (vz 1)] [] _
    rw [← eG16]
    refine ab_aload_n d_PA_repeat_55 rfl ?_
    refine zz_ldc 1000000 d_PA_repeat_56 cn_PA_42 (by decide) ?_
    refine ab_iload d_PA_repeat_58 rfl ?_
    refine ab_aload_n d_PA_repeat_60 rfl ?_
    refine ab_getf (fs := [vz k, vz v, rg, vz pl, vz fl, ou, ls, bf, vz sz, vz mb, vz mb, vz l0, vz m0, vz z0, vz rc]) f_PA_24 d_PA_repeat_61 hp.2.2 rfl ?_
    refine zz_imul d_PA_repeat_64 ?_
    obtain ⟨v17, hv17⟩ : ∃ z : Int, z = (l0 + 1) * sz := ⟨_, rfl⟩
    rw [← hv17]
    have hv17b := z_mulb (a := (l0 + 1)) (b := sz) (A := 1001) (B := 1000000) (by omega) (by omega)
    rw [← hv17] at hv17b
    change ab_W _ _ _ G16 65 [some (vR p), some (vz l0), some (vz m0), some (vz z0), some (vz (l0 + 1)), some (vz 1)] [vz v17, vz 1000000, vR p] _
    refine ab_iload d_PA_repeat_65 rfl ?_
    refine zz_iadd d_PA_repeat_67 ?_
    refine zz_mmin mj_PA_43 d_PA_repeat_68 (by decide) (by omega) (Nat.le_of_ble_eq_true rfl) (by omega) ?_
    obtain ⟨v18, hv18⟩ : ∃ z : Int, z = (min 1000000 (v17 + 1)) := ⟨_, rfl⟩
    rw [← hv18]
    have hv18 : (1000000 ≤ (v17 + 1) ∧ v18 = 1000000) ∨ ((v17 + 1) < 1000000 ∧ v18 = (v17 + 1)) := by omega
    change ab_W _ _ _ G16 71 [some (vR p), some (vz l0), some (vz m0), some (vz z0), some (vz (l0 + 1)), some (vz 1)] [vz v18, vR p] _
    refine ab_putf (fs := [vz k, vz v, rg, vz pl, vz fl, ou, ls, bf, vz sz, vz mb, vz mb, vz l0, vz m0, vz z0, vz rc]) f_PA_24 (Or.inl rfl) d_PA_repeat_71 hp.2.2 (Nat.le_of_ble_eq_true rfl) (fun _ => ⟨rfl, rfl⟩) (hp.2.1 (by decide)) ?_
    obtain ⟨G19, eG19⟩ : ∃ z : ab_G, z = List.set G16 p (ab_ob 4 [vz k, vz v, rg, vz pl, vz fl, ou, ls, bf, vz v18, vz mb, vz mb, vz l0, vz m0, vz z0, vz rc]) := ⟨_, rfl⟩
    have hfz := hfz.wr eG19 (by simp)
    have hst := (fx.rf (o := o) (S := [90]) (G := G16)).wr hp eG19 (List.mem_singleton.mpr rfl)
    have ppaI_0 := ppaI_0.w90 hpp hp hn eG19 (by unfold pnB; omega) (ho.up (by omega)) (hl.up (by omega)) (hf.up (by omega))
    have hlen := (z_len eG19).trans hlen
    have hsl := (z_sl hp eG19 rfl).trans hsl
    have hfr := hfr.wr hp eG19 (by decide)
    have hp := hp.kept eG19
    change ab_W _ _ _ (List.set G16 p (ab_ob 4 [vz k, vz v, rg, vz pl, vz fl, ou, ls, bf, vz v18, vz mb, vz mb, vz l0, vz m0, vz z0, vz rc])) 74 [some (vR p), some (vz l0), some (vz m0), some (vz z0), some (vz (l0 + 1)), some (vz 1)] [] _
    rw [← eG19]
    refine ab_aload_n d_PA_repeat_74 rfl ?_
    refine ab_dup d_PA_repeat_75 rfl ?_
    refine ab_getf (fs := [vz k, vz v, rg, vz pl, vz fl, ou, ls, bf, vz v18, vz mb, vz mb, vz l0, vz m0, vz z0, vz rc]) f_PA_27 d_PA_repeat_76 hp.2.2 rfl ?_
    refine ab_iload_n d_PA_repeat_79 rfl ?_
    refine zz_if_ne (tgt := 87) d_PA_repeat_80 (by decide) (by omega) (fun c20 => ?_) (fun c20 => ?_)
    · refine zz_iconst d_PA_repeat_87 ?_
      refine zz_ior01 d_PA_repeat_88 (by omega) (by omega) ?_
      obtain ⟨v21, hv21⟩ : ∃ z : Int, z = (max mb 0) := ⟨_, rfl⟩
      rw [← hv21]
      have hv21b : v21 = 0 ∨ v21 = 1 := by omega
      change ab_W _ _ _ G19 89 [some (vR p), some (vz l0), some (vz m0), some (vz z0), some (vz (l0 + 1)), some (vz 1)] [vz v21, vR p] _
      refine ab_putf (fs := [vz k, vz v, rg, vz pl, vz fl, ou, ls, bf, vz v18, vz mb, vz mb, vz l0, vz m0, vz z0, vz rc]) f_PA_27 (Or.inl rfl) d_PA_repeat_89 hp.2.2 (Nat.le_of_ble_eq_true rfl) (ab_fbz (by omega)) (hp.2.1 (by decide)) ?_
      obtain ⟨G22, eG22⟩ : ∃ z : ab_G, z = List.set G19 p (ab_ob 4 [vz k, vz v, rg, vz pl, vz fl, ou, ls, bf, vz v18, vz v21, vz mb, vz l0, vz m0, vz z0, vz rc]) := ⟨_, rfl⟩
      have hfz := hfz.wr eG22 (by simp)
      have hst := (fx.rf (o := o) (S := [90]) (G := G19)).wr hp eG22 (List.mem_singleton.mpr rfl)
      have ppaI_0 := ppaI_0.w90 hpp hp hn eG22 (by unfold pnB; omega) (ho.up (by omega)) (hl.up (by omega)) (hf.up (by omega))
      have hlen := (z_len eG22).trans hlen
      have hsl := (z_sl hp eG22 rfl).trans hsl
      have hfr := hfr.wr hp eG22 (by decide)
      have hp := hp.kept eG22
      change ab_W _ _ _ (List.set G19 p (ab_ob 4 [vz k, vz v, rg, vz pl, vz fl, ou, ls, bf, vz v18, vz v21, vz mb, vz l0, vz m0, vz z0, vz rc])) 92 [some (vR p), some (vz l0), some (vz m0), some (vz z0), some (vz (l0 + 1)), some (vz 1)] [] _
      rw [← eG22]
      refine ab_vret rfl d_PA_repeat_92 ?_
      rw [hQ]; exact ⟨_, _, _, rfl, hfr, hlen, hsl, hp, ppaI_0, (by omega), (by exact hfz), (by first | exact rep_ql (by omega) hv17 hv18 | exact rep_qe (by omega) hv17 hv18), (by omega), (by omega)⟩
    · refine zz_iconst d_PA_repeat_83 ?_
      refine ab_goto (tgt := 88) d_PA_repeat_84 (by decide) ?_
      refine zz_ior01 d_PA_repeat_88 (by omega) (by omega) ?_
      obtain ⟨v23, hv23⟩ : ∃ z : Int, z = (max mb 1) := ⟨_, rfl⟩
      rw [← hv23]
      have hv23b : v23 = 0 ∨ v23 = 1 := by omega
      change ab_W _ _ _ G19 89 [some (vR p), some (vz l0), some (vz m0), some (vz z0), some (vz (l0 + 1)), some (vz 1)] [vz v23, vR p] _
      refine ab_putf (fs := [vz k, vz v, rg, vz pl, vz fl, ou, ls, bf, vz v18, vz mb, vz mb, vz l0, vz m0, vz z0, vz rc]) f_PA_27 (Or.inl rfl) d_PA_repeat_89 hp.2.2 (Nat.le_of_ble_eq_true rfl) (ab_fbz (by omega)) (hp.2.1 (by decide)) ?_
      obtain ⟨G24, eG24⟩ : ∃ z : ab_G, z = List.set G19 p (ab_ob 4 [vz k, vz v, rg, vz pl, vz fl, ou, ls, bf, vz v18, vz v23, vz mb, vz l0, vz m0, vz z0, vz rc]) := ⟨_, rfl⟩
      have hfz := hfz.wr eG24 (by simp)
      have hst := (fx.rf (o := o) (S := [90]) (G := G19)).wr hp eG24 (List.mem_singleton.mpr rfl)
      have ppaI_0 := ppaI_0.w90 hpp hp hn eG24 (by unfold pnB; omega) (ho.up (by omega)) (hl.up (by omega)) (hf.up (by omega))
      have hlen := (z_len eG24).trans hlen
      have hsl := (z_sl hp eG24 rfl).trans hsl
      have hfr := hfr.wr hp eG24 (by decide)
      have hp := hp.kept eG24
      change ab_W _ _ _ (List.set G19 p (ab_ob 4 [vz k, vz v, rg, vz pl, vz fl, ou, ls, bf, vz v18, vz v23, vz mb, vz l0, vz m0, vz z0, vz rc])) 92 [some (vR p), some (vz l0), some (vz m0), some (vz z0), some (vz (l0 + 1)), some (vz 1)] [] _
      rw [← eG24]
      refine ab_vret rfl d_PA_repeat_92 ?_
      rw [hQ]; exact ⟨_, _, _, rfl, hfr, hlen, hsl, hp, ppaI_0, (by omega), (by exact hfz), (by first | exact rep_ql (by omega) hv17 hv18 | exact rep_qe (by omega) hv17 hv18), (by omega), (by omega)⟩
set_option maxRecDepth 100000 in
set_option maxHeartbeats 4000000 in
theorem z_PA_pushInLastRow {X : ab_X} {d : Nat} {o : Nat → Nat} {G : ab_G} {k : Int} {v : Int} {rg : Value} {pl : Int} {fl : Int} {ou : Value} {ls : Value} {bf : Value} {sz : Int} {mb : Int} {oe : Int} {le : Int} {mo : Int} {la : Int} {rc : Int} {lr : Value} {br : Value} {sr : Int} {mr : Int} {ps : Nat → Nat} {wt : Nat → Wt} {bs : Nat} {gr : Int} {Pr : Int → Prop} {ph : Int} {r : Nat} {p : Nat} {kg : Int} {vg : Int} {rgg : Value} {plg : Int} {flg : Int} {oug : Value} {bfg : Value} {szg : Int} {mbg : Int} {oeg : Int} {leg : Int} {mog : Int} {lag : Int} {rcg : Int} {q : Nat} (hq : cc o G q 90 (ab_ob 4 [vz kg, vz vg, rgg, vz plg, vz flg, oug, vR r, bfg, vz szg, vz mbg, vz oeg, vz leg, vz mog, vz lag, vz rcg])) (hp : cc o G p 90 (ab_ob 4 [vz k, vz v, rg, vz pl, vz fl, ou, ls, bf, vz sz, vz mb, vz oe, vz le, vz mo, vz la, vz rc])) (hr : cc o G r 94 (ab_ob 4 [vz 5, vz 0, vN, vz (-1), vz 0, vN, lr, br, vz sr, vz mr, vz 0, vz 0, vz 0, vz 0, vz (-1)])) (ppaI_0 : paI o G 0 ps wt bs gr Pr ph) (n18 : ab_n0 = 18) (nqp : nq q p) (hpq : ps q = 90) (hpp : ps p = 90) (hpr : ps r = 94) (hn : paN gr Pr k v rc) (cb : (-1 ≤ pl ∧ pl ≤ 2100) ∧ (0 ≤ fl ∧ fl ≤ 31) ∧ (0 ≤ sz ∧ sz ≤ 1000000) ∧ (0 ≤ mb ∧ mb ≤ 1) ∧ (0 ≤ oe ∧ oe ≤ 1) ∧ (0 ≤ le ∧ le ≤ 1000) ∧ (0 ≤ mo ∧ mo ≤ 1000) ∧ (0 ≤ la ∧ la ≤ 1)) (cr : (0 ≤ sr ∧ sr ≤ 1000000) ∧ (0 ≤ mr ∧ mr ≤ 1)) (ho : plk ps 90 p ou) (hl : plk ps 94 G.length ls) (hf : plk ps 90 p bf) (hlr : plk ps 90 G.length lr) (hbr : plk ps 94 r br) (hlp : plk ps 90 p lr) (cp : p < G.length) (hd : 2 ≤ d) : ab_F X d y_PA_pushInLastRow (.code y_PA_pushInLastRow b_PA_pushInLastRow 2 none) [vR q, vR p] G (fun oc G2 => ∃ sr2 : Int, ∃ mr2 : Int, oc = .returned none ∧ fx o o [90, 94] G G2 ∧ G2.length = G.length ∧ ab_slots G2 = ab_slots G ∧ cc o G2 q 90 (ab_ob 4 [vz kg, vz vg, rgg, vz plg, vz flg, oug, vR r, bfg, vz szg, vz mbg, vz oeg, vz leg, vz mog, vz lag, vz rcg]) ∧ cc o G2 p 90 (ab_ob 4 [vz k, vz v, rg, vz pl, vz fl, ou, ls, lr, vz sz, vz mb, vz oe, vz le, vz mo, vz la, vz rc]) ∧ cc o G2 r 94 (ab_ob 4 [vz 5, vz 0, vN, vz (-1), vz 0, vN, vR p, br, vz sr2, vz mr2, vz 0, vz 0, vz 0, vz 0, vz (-1)]) ∧ paI o G2 0 ps wt bs gr Pr ph ∧ ((0 ≤ sr2 ∧ sr2 ≤ 1000000) ∧ (0 ≤ mr2 ∧ mr2 ≤ 1)) ∧ (fz ps [r, p] G G2) ∧ (ceq sr2 (sr + sz)) ∧ (mr2 = 1 ∨ mr = 0 ∨ mb = 0)) := by
  refine ab_F_of (by decide +kernel) (Nat.le_of_ble_eq_true rfl) ?_
  obtain ⟨Q, hQ⟩ : ∃ z : Outcome → ab_G → Prop, z = (fun oc G2 => ∃ sr2 : Int, ∃ mr2 : Int, oc = .returned none ∧ fx o o [90, 94] G G2 ∧ G2.length = G.length ∧ ab_slots G2 = ab_slots G ∧ cc o G2 q 90 (ab_ob 4 [vz kg, vz vg, rgg, vz plg, vz flg, oug, vR r, bfg, vz szg, vz mbg, vz oeg, vz leg, vz mog, vz lag, vz rcg]) ∧ cc o G2 p 90 (ab_ob 4 [vz k, vz v, rg, vz pl, vz fl, ou, ls, lr, vz sz, vz mb, vz oe, vz le, vz mo, vz la, vz rc]) ∧ cc o G2 r 94 (ab_ob 4 [vz 5, vz 0, vN, vz (-1), vz 0, vN, vR p, br, vz sr2, vz mr2, vz 0, vz 0, vz 0, vz 0, vz (-1)]) ∧ paI o G2 0 ps wt bs gr Pr ph ∧ ((0 ≤ sr2 ∧ sr2 ≤ 1000000) ∧ (0 ≤ mr2 ∧ mr2 ≤ 1)) ∧ (fz ps [r, p] G G2) ∧ (ceq sr2 (sr + sz)) ∧ (mr2 = 1 ∨ mr = 0 ∨ mb = 0)) := ⟨_, rfl⟩
  rw [← hQ]
  change ab_W X (ab_pl y_PA_pushInLastRow b_PA_pushInLastRow 2 none) d G 0 [some (vR q), some (vR p)] [] Q
  have hfr : fx o o [90, 94] G G := fx.rf
  have hlen : G.length = G.length := rfl
  have hsl : ab_slots G = ab_slots G := rfl
  have hfz : fz ps [r, p] G G := fz.rf
  refine ab_aload_n d_PA_pushInLastRow_0 rfl ?_
  refine ab_getf (fs := [vz kg, vz vg, rgg, vz plg, vz flg, oug, vR r, bfg, vz szg, vz mbg, vz oeg, vz leg, vz mog, vz lag, vz rcg]) f_PA_31 d_PA_pushInLastRow_1 hq.2.2 rfl ?_
  refine ab_ifnull d_PA_pushInLastRow_4 ?_
  refine ab_aload_n d_PA_pushInLastRow_7 rfl ?_
  refine ab_getf (fs := [vz kg, vz vg, rgg, vz plg, vz flg, oug, vR r, bfg, vz szg, vz mbg, vz oeg, vz leg, vz mog, vz lag, vz rcg]) f_PA_31 d_PA_pushInLastRow_8 hq.2.2 rfl ?_
  refine ab_aload_n d_PA_pushInLastRow_11 rfl ?_
  refine ab_callV (d' := d - 1) (as := [vR p]) (st := []) (r := _) (z94_PA_push (o := o) (k := k) (v := v) (rg := rg) (pl := pl) (fl := fl) (ou := ou) (ls := ls) (bf := bf) (sz := sz) (mb := mb) (oe := oe) (le := le) (mo := mo) (la := la) (rc := rc) (lr := lr) (br := br) (sr := sr) (mr := mr) (ps := ps) (wt := wt) (bs := bs) (gr := gr) (Pr := Pr) (ph := ph) (r := r) (p := p) hp hr ppaI_0 (by omega) hpp hpr hn (by omega) (by omega) (ho.up (by omega)) (hl.up (by omega)) (hf.up (by omega)) (hlp.up (by omega)) (hbr.up (by omega)) (hlp.up (by omega)) (by omega)) (fun oc G2 h => by rcases h with ⟨h, _⟩ <;> exact ⟨_, h⟩) (by omega) m_PA_push ml_PA_38 im_PA_push se_PA_push c_PA hr.2.2 (Nat.le_of_ble_eq_true rfl) d_PA_pushInLastRow_12 rfl ?_
  intro v G1 hq
  rcases hq with ⟨hv, hfk, hlk, hsk, hNp, hNr, pNpaI_0, hq2⟩
  cases hv
  have hKq := hq2.get hfk hq (Or.inl hpq) (by simp only [List.mem_cons, List.not_mem_nil, or_false, not_or]; exact ⟨(hq.ne hr (by decide)), (show q ≠ p from nqp)⟩)
  have hq := hKq
  have hfz := hfz.tr hq2 (by simp)
  have ppaI_0 := pNpaI_0
  have hfr := hfr.tr hfk (by decide)
  have hlen := hlk.trans hlen
  have hsl := hsk.trans hsl
  have hp := hNp
  have hr := hNr
  change ab_W _ _ _ G1 15 [some (vR q), some (vR p)] [] _
  refine ab_aload_n d_PA_pushInLastRow_15 rfl ?_
  refine ab_getf (fs := [vz kg, vz vg, rgg, vz plg, vz flg, oug, vR r, bfg, vz szg, vz mbg, vz oeg, vz leg, vz mog, vz lag, vz rcg]) f_PA_31 d_PA_pushInLastRow_16 hq.2.2 rfl ?_
  refine zz_ldc 1000000 d_PA_pushInLastRow_19 cn_PA_42 (by decide) ?_
  refine ab_aload_n d_PA_pushInLastRow_21 rfl ?_
  refine ab_getf (fs := [vz kg, vz vg, rgg, vz plg, vz flg, oug, vR r, bfg, vz szg, vz mbg, vz oeg, vz leg, vz mog, vz lag, vz rcg]) f_PA_31 d_PA_pushInLastRow_22 hq.2.2 rfl ?_
  refine ab_getf (fs := [vz 5, vz 0, vN, vz (-1), vz 0, vN, vR p, br, vz sr, vz mr, vz 0, vz 0, vz 0, vz 0, vz (-1)]) f_PA_24 d_PA_pushInLastRow_25 hr.2.2 rfl ?_
  refine ab_aload_n d_PA_pushInLastRow_28 rfl ?_
  refine ab_getf (fs := [vz k, vz v, rg, vz pl, vz fl, ou, ls, lr, vz sz, vz mb, vz oe, vz le, vz mo, vz la, vz rc]) f_PA_24 d_PA_pushInLastRow_29 hp.2.2 rfl ?_
  refine zz_iadd d_PA_pushInLastRow_32 ?_
  refine zz_mmin mj_PA_43 d_PA_pushInLastRow_33 (by decide) (by omega) (Nat.le_of_ble_eq_true rfl) (by omega) ?_
  obtain ⟨v3, hv3⟩ : ∃ z : Int, z = (min 1000000 (sr + sz)) := ⟨_, rfl⟩
  rw [← hv3]
  have hv3 : (1000000 ≤ (sr + sz) ∧ v3 = 1000000) ∨ ((sr + sz) < 1000000 ∧ v3 = (sr + sz)) := by omega
  change ab_W _ _ _ G1 36 [some (vR q), some (vR p)] [vz v3, vR r] _
  refine ab_putf (fs := [vz 5, vz 0, vN, vz (-1), vz 0, vN, vR p, br, vz sr, vz mr, vz 0, vz 0, vz 0, vz 0, vz (-1)]) f_PA_24 (Or.inl rfl) d_PA_pushInLastRow_36 hr.2.2 (Nat.le_of_ble_eq_true rfl) (fun _ => ⟨rfl, rfl⟩) (hr.2.1 (by decide)) ?_
  obtain ⟨G4, eG4⟩ : ∃ z : ab_G, z = List.set G1 r (ab_ob 4 [vz 5, vz 0, vN, vz (-1), vz 0, vN, vR p, br, vz v3, vz mr, vz 0, vz 0, vz 0, vz 0, vz (-1)]) := ⟨_, rfl⟩
  have hq := hq.keep hr eG4 (by decide)
  have hp := hp.keep hr eG4 (by decide)
  have hfz := hfz.wr eG4 (by simp)
  have hst := (fx.rf (o := o) (S := [94]) (G := G1)).wr hr eG4 (List.mem_singleton.mpr rfl)
  have ppaI_0 := ppaI_0.w94 hpr hr eG4 (by omega) (Or.inr ⟨_, rfl, hpp, by have hlt := hp.lt; omega⟩) (hbr.up (by omega))
  have hlen := (z_len eG4).trans hlen
  have hsl := (z_sl hr eG4 rfl).trans hsl
  have hfr := hfr.wr hr eG4 (by decide)
  have hr := hr.kept eG4
  change ab_W _ _ _ (List.set G1 r (ab_ob 4 [vz 5, vz 0, vN, vz (-1), vz 0, vN, vR p, br, vz v3, vz mr, vz 0, vz 0, vz 0, vz 0, vz (-1)])) 39 [some (vR q), some (vR p)] [] _
  rw [← eG4]
  refine ab_aload_n d_PA_pushInLastRow_39 rfl ?_
  refine ab_getf (fs := [vz kg, vz vg, rgg, vz plg, vz flg, oug, vR r, bfg, vz szg, vz mbg, vz oeg, vz leg, vz mog, vz lag, vz rcg]) f_PA_31 d_PA_pushInLastRow_40 hq.2.2 rfl ?_
  refine ab_dup d_PA_pushInLastRow_43 rfl ?_
  refine ab_getf (fs := [vz 5, vz 0, vN, vz (-1), vz 0, vN, vR p, br, vz v3, vz mr, vz 0, vz 0, vz 0, vz 0, vz (-1)]) f_PA_27 d_PA_pushInLastRow_44 hr.2.2 rfl ?_
  refine ab_aload_n d_PA_pushInLastRow_47 rfl ?_
  refine ab_getf (fs := [vz k, vz v, rg, vz pl, vz fl, ou, ls, lr, vz sz, vz mb, vz oe, vz le, vz mo, vz la, vz rc]) f_PA_27 d_PA_pushInLastRow_48 hp.2.2 rfl ?_
  refine zz_iand01 d_PA_pushInLastRow_51 (by omega) (by omega) ?_
  obtain ⟨v5, hv5⟩ : ∃ z : Int, z = (min mr mb) := ⟨_, rfl⟩
  rw [← hv5]
  have hv5b : v5 = 0 ∨ v5 = 1 := by omega
  change ab_W _ _ _ G4 52 [some (vR q), some (vR p)] [vz v5, vR r] _
  refine ab_putf (fs := [vz 5, vz 0, vN, vz (-1), vz 0, vN, vR p, br, vz v3, vz mr, vz 0, vz 0, vz 0, vz 0, vz (-1)]) f_PA_27 (Or.inl rfl) d_PA_pushInLastRow_52 hr.2.2 (Nat.le_of_ble_eq_true rfl) (ab_fbz (by omega)) (hr.2.1 (by decide)) ?_
  obtain ⟨G6, eG6⟩ : ∃ z : ab_G, z = List.set G4 r (ab_ob 4 [vz 5, vz 0, vN, vz (-1), vz 0, vN, vR p, br, vz v3, vz v5, vz 0, vz 0, vz 0, vz 0, vz (-1)]) := ⟨_, rfl⟩
  have hq := hq.keep hr eG6 (by decide)
  have hp := hp.keep hr eG6 (by decide)
  have hfz := hfz.wr eG6 (by simp)
  have hst := (fx.rf (o := o) (S := [94]) (G := G4)).wr hr eG6 (List.mem_singleton.mpr rfl)
  have ppaI_0 := ppaI_0.w94 hpr hr eG6 (by omega) (Or.inr ⟨_, rfl, hpp, by have hlt := hp.lt; omega⟩) (hbr.up (by omega))
  have hlen := (z_len eG6).trans hlen
  have hsl := (z_sl hr eG6 rfl).trans hsl
  have hfr := hfr.wr hr eG6 (by decide)
  have hr := hr.kept eG6
  change ab_W _ _ _ (List.set G4 r (ab_ob 4 [vz 5, vz 0, vN, vz (-1), vz 0, vN, vR p, br, vz v3, vz v5, vz 0, vz 0, vz 0, vz 0, vz (-1)])) 55 [some (vR q), some (vR p)] [] _
  rw [← eG6]
  refine ab_vret rfl d_PA_pushInLastRow_55 ?_
  rw [hQ]; exact ⟨_, _, rfl, hfr, hlen, hsl, hq, hp, hr, ppaI_0, (by omega), (by exact hfz), (by unfold ceq; omega), (by omega)⟩
