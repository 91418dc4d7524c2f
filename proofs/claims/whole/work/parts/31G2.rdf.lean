set_option maxRecDepth 100000 in
set_option maxHeartbeats 4000000 in
theorem zN_RD_classPart {X : ab_X} {d : Nat} {o : Nat → Nat} {G : ab_G} {d_ : Nat}  : ab_F X d y_RD_classPart (.code y_RD_classPart b_RD_classPart 3 (some (.object "PatternWorks$Part"))) [vR d_, vN] G (fun oc G2 => oc = .returned (some (vN)) ∧ G2 = G) := by
  refine ab_F_of (by decide +kernel) (Nat.le_of_ble_eq_true rfl) ?_
  obtain ⟨Q, hQ⟩ : ∃ z : Outcome → ab_G → Prop, z = (fun oc G2 => oc = .returned (some (vN)) ∧ G2 = G) := ⟨_, rfl⟩
  rw [← hQ]
  change ab_W X (ab_pl y_RD_classPart b_RD_classPart 3 (some (.object "PatternWorks$Part"))) d G 0 [some (vR d_), some (vN), none] [] Q
  have hfr : fx o o [] G G := fx.rf
  have hlen : G.length = G.length := rfl
  have hsl : ab_slots G = ab_slots G := rfl
  refine ab_aload_nN d_RD_classPart_0 rfl ?_
  refine ab_ifnonnullN d_RD_classPart_1 ?_
  refine ab_null d_RD_classPart_4 ?_
  refine ab_aret (rt := _) rfl (Or.inl ⟨_, rfl⟩) (Or.inl rfl) d_RD_classPart_5 ?_
  rw [hQ]; exact ⟨rfl, rfl⟩
set_option maxRecDepth 100000 in
set_option maxHeartbeats 4000000 in
theorem z93_RD_classPart {X : ab_X} {d : Nat} {o : Nat → Nat} {G : ab_G} {d_ : Nat} {w : Nat} {w2 : Nat} {q2 : Int → Int} {m2 : Int} {ps : Nat → Nat} {wt : Nat → Wt} {bs : Nat} {gr : Int} {ph : Int} (hw : cc o G w 93 (za w2 q2)) (ppaI_0 : paI o G 0 ps wt bs gr pr0 ph) (n18 : ab_n0 = 18) (cw : ↑w2 = 2 * m2 ∧ 0 ≤ m2 ∧ m2 ≤ 25000) (hcan : cs_can q2 m2) (cbs : bs ≤ G.length ∧ 18 ≤ G.length) (rc : G.length + 9 ≤ ab_n0 + room_1.cells) (rs : ab_slots G + 15 ≤ room_1.slots) (hd : 2 ≤ d) : ab_F X d y_RD_classPart (.code y_RD_classPart b_RD_classPart 3 (some (.object "PatternWorks$Part"))) [vR d_, vR w] G (fun oc G2 => ∃ o2 : Nat → Nat, ∃ p : Nat, ∃ ps2 : Nat → Nat, ∃ wt2 : Nat → Wt, ∃ ph2 : Int, oc = .returned (some (vR p)) ∧ fx o o2 [90] G G2 ∧ paI o2 G2 0 ps2 wt2 bs gr pr0 ph2 ∧ (psx ps ps2 G.length) ∧ (ps2 p = 90) ∧ (G.length ≤ p ∧ p < G2.length) ∧ (fz ps [] G G2) ∧ (ph2 ≤ ph + ↑w2 + 1) ∧ (G2.length = G.length + 1) ∧ (ab_slots G2 = ab_slots G + 15) ∧ (leafp ps ps2 G2 p) ∧ (wtx wt wt2 p) ∧ (fi G2 p 8 = 2 + 2 * ↑w2) ∧ (lfv G2 wt2 p (mnS (fun x => cs_mem q2 m2 x)))) := by
  refine ab_F_of (by decide +kernel) (Nat.le_of_ble_eq_true rfl) ?_
  obtain ⟨Q, hQ⟩ : ∃ z : Outcome → ab_G → Prop, z = (fun oc G2 => ∃ o2 : Nat → Nat, ∃ p : Nat, ∃ ps2 : Nat → Nat, ∃ wt2 : Nat → Wt, ∃ ph2 : Int, oc = .returned (some (vR p)) ∧ fx o o2 [90] G G2 ∧ paI o2 G2 0 ps2 wt2 bs gr pr0 ph2 ∧ (psx ps ps2 G.length) ∧ (ps2 p = 90) ∧ (G.length ≤ p ∧ p < G2.length) ∧ (fz ps [] G G2) ∧ (ph2 ≤ ph + ↑w2 + 1) ∧ (G2.length = G.length + 1) ∧ (ab_slots G2 = ab_slots G + 15) ∧ (leafp ps ps2 G2 p) ∧ (wtx wt wt2 p) ∧ (fi G2 p 8 = 2 + 2 * ↑w2) ∧ (lfv G2 wt2 p (mnS (fun x => cs_mem q2 m2 x)))) := ⟨_, rfl⟩
  rw [← hQ]
  change ab_W X (ab_pl y_RD_classPart b_RD_classPart 3 (some (.object "PatternWorks$Part"))) d G 0 [some (vR d_), some (vR w), none] [] Q
  have hfr : fx o o [90] G G := fx.rf
  have hfz : fz ps [] G G := fz.rf
  refine ab_aload_n d_RD_classPart_0 rfl ?_
  refine ab_ifnonnull (tgt := 6) d_RD_classPart_1 (by decide) ?_
  refine ab_new (fs := [vz 0, vz 0, vN, vz 0, vz 0, vN, vN, vN, vz 0, vz 0, vz 0, vz 0, vz 0, vz 0, vz 0]) k_PA rfl cl_RD_18 inst_PA ini_PA d_RD_classPart_6 (by decide) (fun _ => rfl) (by omega) (by omega) ?_
  obtain ⟨G1, eG1⟩ : ∃ z : ab_G, z = G ++ [ab_ob 4 [vz 0, vz 0, vN, vz 0, vz 0, vN, vN, vN, vz 0, vz 0, vz 0, vz 0, vz 0, vz 0, vz 0]] := ⟨_, rfl⟩
  obtain ⟨o2, eo2⟩ : ∃ z : Nat → Nat, z = ol o G.length 90 := ⟨_, rfl⟩
  obtain ⟨a3, ea3⟩ : ∃ z : Nat, z = G.length := ⟨_, rfl⟩
  have hq4 : ab_n0 ≤ G.length := (by have h18 : ab_n0 = 18 := rfl; omega)
  have hfz := hfz.ap ppaI_0 eG1
  have ne_a3_w : nq a3 w := by have hlt := hw.lt; unfold nq; omega
  have hw := hw.akeep (k := 90) eG1
  rw [← eo2] at hw
  have hst := (fx.rf (o := o) (S := []) (G := G)).ap (k := 90) eG1
  rw [← eo2] at hst
  have hnpa3 := ppaI_0.new (a := a3) (by omega)
  have ppaI_0 := paI.fr hst ppaI_0 (by decide) (by decide) (by decide) (by simp)
  have ha3 := cc.anew (o := o) 90 eG1 hq4
  rw [← eo2, ← ea3] at ha3
  have hfr := hfr.ap (k := 90) eG1
  rw [← eo2] at hfr
  have hq5 := z_alen eG1
  have hq6 : ab_slots G1 = ab_slots G + 15 := z_asl eG1 hq4
  change ab_W _ _ _ (G ++ [ab_ob 4 [vz 0, vz 0, vN, vz 0, vz 0, vN, vN, vN, vz 0, vz 0, vz 0, vz 0, vz 0, vz 0, vz 0]]) 9 [some (vR d_), some (vR w), none] [.ref G.length] _
  rw [← eG1, ← ea3]
  change ab_W _ _ _ G1 9 [some (vR d_), some (vR w), none] [vR a3] _
  refine ab_dup d_RD_classPart_9 rfl ?_
  refine zz_iconst d_RD_classPart_10 ?_
  refine zz_iconst d_RD_classPart_11 ?_
  refine zz_iconst d_RD_classPart_12 ?_
  refine zz_iconst d_RD_classPart_13 ?_
  refine ab_aload_n d_RD_classPart_14 rfl ?_
  refine zz_alen d_RD_classPart_15 hw ?_
  refine zz_imul d_RD_classPart_16 ?_
  refine zz_iadd d_RD_classPart_17 ?_
  refine zz_iconst d_RD_classPart_18 ?_
  refine ab_callI (d' := d - 1) (as := [vz 1, vz 0, vz (2 + (2 * (↑w2 : Int))), vz 0]) (st := [vR a3]) (z90_PA_init (o := o2) (a := a3) (k0 := 1) (v0 := 0) (s0 := (2 + (2 * (↑w2 : Int)))) (m0 := 0) (ps := ps) (wt := wt) (bs := bs) (gr := gr) (Pr := pr0) (ph := ph) ha3 ppaI_0 (by omega) (by omega) (by omega) (by omega)) (fun oc G2 h => by rcases h with ⟨h, _⟩ <;> exact ⟨_, h⟩) (by omega) m_PA_init ml_RD_20 im_PA_init rfl (Nat.le_of_ble_eq_true rfl) d_RD_classPart_19 rfl ?_
  intro v G7 hq
  rcases hq with ⟨hv, hfk, hlk, hsk, hNa3, pNpaI_0, hq8⟩
  cases hv
  have hw := hfk.get hw (by decide)
  have hfz := hfz.tr hq8 (by simp)
  have ppaI_0 := pNpaI_0
  have hfr := hfr.tr hfk (by decide)
  have hq9 := hlk
  have hq10 := hsk
  have ha3 := hNa3
  change ab_W _ _ _ G7 22 [some (vR d_), some (vR w), none] [vR a3] _
  refine ab_astore_n d_RD_classPart_22 (Nat.le_of_ble_eq_true rfl) (Nat.le_of_ble_eq_true rfl) rfl ?_
  change ab_W _ _ _ G7 23 [some (vR d_), some (vR w), some (vR a3)] [] _
  refine ab_aload_n d_RD_classPart_23 rfl ?_
  refine ab_aload_n d_RD_classPart_24 rfl ?_
  refine ab_putf (fs := [vz 1, vz 0, vN, vz (-1), vz 0, vN, vN, vN, vz (2 + (2 * (↑w2 : Int))), vz 0, vz 0, vz 0, vz 0, vz 0, vz (-1)]) f_RD_149 (Or.inl rfl) d_RD_classPart_25 ha3.2.2 (Nat.le_of_ble_eq_true rfl) (fun _ => ⟨rfl, rfl⟩) (ha3.2.1 (by decide)) ?_
  obtain ⟨G11, eG11⟩ : ∃ z : ab_G, z = List.set G7 a3 (ab_ob 4 [vz 1, vz 0, vR w, vz (-1), vz 0, vN, vN, vN, vz (2 + (2 * (↑w2 : Int))), vz 0, vz 0, vz 0, vz 0, vz 0, vz (-1)]) := ⟨_, rfl⟩
  have hw := hw.keep ha3 eG11 (by decide)
  have hfz := hfz.wnp eG11 hnpa3
  have hst := (fx.rf (o := o2) (S := [90]) (G := G7)).wr ha3 eG11 (List.mem_singleton.mpr rfl)
  have ppaI_0 := ppaI_0.wnp hnpa3 ha3 eG11 (by decide)
  have hq12 := z_len eG11
  have hq13 := z_sl ha3 eG11 rfl
  have hfr := hfr.wn (show G.length ≤ a3 by have := hfr.1; omega) eG11
  have ha3 := ha3.kept eG11
  change ab_W _ _ _ (List.set G7 a3 (ab_ob 4 [vz 1, vz 0, vR w, vz (-1), vz 0, vN, vN, vN, vz (2 + (2 * (↑w2 : Int))), vz 0, vz 0, vz 0, vz 0, vz 0, vz (-1)])) 28 [some (vR d_), some (vR w), some (vR a3)] [] _
  rw [← eG11]
  refine ab_aload_n d_RD_classPart_28 rfl ?_
  have hnf_ := ppaI_0.nref hnpa3
  have hnp9_ := hnpa3
  have hlt14 := ha3.lt
  have hn14 : paN gr pr0 1 0 (-1) := ⟨by omega, by intro _; omega, by intro _; omega, by intro _; omega, pr0_⟩
  obtain ⟨ps14, wt14, hx14, hxo14, hpa14, hwo14, hwa14, ppaI_0⟩ : ∃ (pz : Nat → Nat) (wz : Nat → Wt), psx ps pz a3 ∧ (∀ x, ¬ x = a3 → pz x = ps x) ∧ pz a3 = 90 ∧ wtx wt wz a3 ∧ wz a3 = ((w2 + 1), (fun x => cs_mem q2 m2 x)) ∧ paI o2 G11 0 pz wz bs gr pr0 (ph + ↑(w2 + 1)) := ⟨_, _, psx.ol (Nat.le_refl _), fun x hx => if_neg hx, ol_self, fun x hx => if_neg hx, olw_self, ppaI_0.ad90 ((w2 + 1), (fun x => cs_mem q2 m2 x)) hnpa3 (by omega) ha3 hn14 (by unfold pnB; omega) (Or.inr ⟨rfl, w, w2, q2, m2, rfl, Or.inl hw, cw, rfl, hcan, fun _ => Iff.rfl⟩) (Or.inl rfl) (Or.inl rfl) (Or.inl rfl)⟩
  have hlf_ : leafp ps ps14 G11 a3 := leafp.mk hnf_ hnp9_ hxo14 hpa14 ha3 (by omega)
  have hwx_ : wtx wt wt14 a3 := hwo14
  have hlv_ : lfv G11 wt14 a3 (onS 1 0 (fun x => cs_mem q2 m2 x) mnI) := lfv.mk ha3 hwa14 (by omega) (by omega) (by omega) (fun t => by first | omega | exact onN (by omega))
  refine ab_aret (rt := _) rfl (Or.inl ⟨_, rfl⟩) (Or.inr ⟨_, rfl⟩) d_RD_classPart_29 ?_
  rw [hQ]; exact ⟨_, _, _, _, _, rfl, hfr, ppaI_0, (by exact hx14.lt (by omega)), (by exact hpa14), (by omega), (by exact hfz), (by omega), (by omega), (by omega), (by exact hlf_), (by exact hwx_), (by have t_ := (fi_pa ha3 (by omega) (by omega)).2.2.1; omega), (by exact lfv.e hlv_ onS_1)⟩
set_option maxRecDepth 100000 in
set_option maxHeartbeats 4000000 in
theorem zs_RD_classPart {X : ab_X} {d : Nat} {o : Nat → Nat} {G : ab_G} {d_ : Nat} {w : Nat} {lw : Nat} {w2 : Nat} {q2 : Int → Int} {m2 : Int} {ps : Nat → Nat} {wt : Nat → Wt} {bs : Nat} {gr : Int} {ph : Int} (hw : cc o G w lw (za w2 q2)) (ppaI_0 : paI o G 0 ps wt bs gr pr0 ph) (n18 : ab_n0 = 18) (hlw : lw = w) (clw : w ≤ 14 ∧ 1 ≤ w) (cw : ↑w2 = 2 * m2 ∧ 0 ≤ m2 ∧ m2 ≤ 25000) (hcan : cs_can q2 m2) (cbs : bs ≤ G.length ∧ 18 ≤ G.length) (rc : G.length + 9 ≤ ab_n0 + room_1.cells) (rs : ab_slots G + 15 ≤ room_1.slots) (hd : 2 ≤ d) : ab_F X d y_RD_classPart (.code y_RD_classPart b_RD_classPart 3 (some (.object "PatternWorks$Part"))) [vR d_, vR w] G (fun oc G2 => ∃ o2 : Nat → Nat, ∃ p : Nat, ∃ ps2 : Nat → Nat, ∃ wt2 : Nat → Wt, ∃ ph2 : Int, oc = .returned (some (vR p)) ∧ fx o o2 [90] G G2 ∧ paI o2 G2 0 ps2 wt2 bs gr pr0 ph2 ∧ (psx ps ps2 G.length) ∧ (ps2 p = 90) ∧ (G.length ≤ p ∧ p < G2.length) ∧ (fz ps [] G G2) ∧ (ph2 ≤ ph + ↑w2 + 1) ∧ (G2.length = G.length + 1) ∧ (ab_slots G2 = ab_slots G + 15) ∧ (leafp ps ps2 G2 p) ∧ (wtx wt wt2 p) ∧ (fi G2 p 8 = 2 + 2 * ↑w2) ∧ (lfv G2 wt2 p (mnS (fun x => cs_mem q2 m2 x)))) := by
  refine ab_F_of (by decide +kernel) (Nat.le_of_ble_eq_true rfl) ?_
  obtain ⟨Q, hQ⟩ : ∃ z : Outcome → ab_G → Prop, z = (fun oc G2 => ∃ o2 : Nat → Nat, ∃ p : Nat, ∃ ps2 : Nat → Nat, ∃ wt2 : Nat → Wt, ∃ ph2 : Int, oc = .returned (some (vR p)) ∧ fx o o2 [90] G G2 ∧ paI o2 G2 0 ps2 wt2 bs gr pr0 ph2 ∧ (psx ps ps2 G.length) ∧ (ps2 p = 90) ∧ (G.length ≤ p ∧ p < G2.length) ∧ (fz ps [] G G2) ∧ (ph2 ≤ ph + ↑w2 + 1) ∧ (G2.length = G.length + 1) ∧ (ab_slots G2 = ab_slots G + 15) ∧ (leafp ps ps2 G2 p) ∧ (wtx wt wt2 p) ∧ (fi G2 p 8 = 2 + 2 * ↑w2) ∧ (lfv G2 wt2 p (mnS (fun x => cs_mem q2 m2 x)))) := ⟨_, rfl⟩
  rw [← hQ]
  change ab_W X (ab_pl y_RD_classPart b_RD_classPart 3 (some (.object "PatternWorks$Part"))) d G 0 [some (vR d_), some (vR w), none] [] Q
  have hfr : fx o o [90] G G := fx.rf
  have hfz : fz ps [] G G := fz.rf
  refine ab_aload_n d_RD_classPart_0 rfl ?_
  refine ab_ifnonnull (tgt := 6) d_RD_classPart_1 (by decide) ?_
  refine ab_new (fs := [vz 0, vz 0, vN, vz 0, vz 0, vN, vN, vN, vz 0, vz 0, vz 0, vz 0, vz 0, vz 0, vz 0]) k_PA rfl cl_RD_18 inst_PA ini_PA d_RD_classPart_6 (by decide) (fun _ => rfl) (by omega) (by omega) ?_
  obtain ⟨G1, eG1⟩ : ∃ z : ab_G, z = G ++ [ab_ob 4 [vz 0, vz 0, vN, vz 0, vz 0, vN, vN, vN, vz 0, vz 0, vz 0, vz 0, vz 0, vz 0, vz 0]] := ⟨_, rfl⟩
  obtain ⟨o2, eo2⟩ : ∃ z : Nat → Nat, z = ol o G.length 90 := ⟨_, rfl⟩
  obtain ⟨a3, ea3⟩ : ∃ z : Nat, z = G.length := ⟨_, rfl⟩
  have hq4 : ab_n0 ≤ G.length := (by have h18 : ab_n0 = 18 := rfl; omega)
  have hfz := hfz.ap ppaI_0 eG1
  have ne_a3_w : nq a3 w := by have hlt := hw.lt; unfold nq; omega
  have hw := hw.akeep (k := 90) eG1
  rw [← eo2] at hw
  have hst := (fx.rf (o := o) (S := []) (G := G)).ap (k := 90) eG1
  rw [← eo2] at hst
  have hnpa3 := ppaI_0.new (a := a3) (by omega)
  have ppaI_0 := paI.fr hst ppaI_0 (by decide) (by decide) (by decide) (by simp)
  have ha3 := cc.anew (o := o) 90 eG1 hq4
  rw [← eo2, ← ea3] at ha3
  have hfr := hfr.ap (k := 90) eG1
  rw [← eo2] at hfr
  have hq5 := z_alen eG1
  have hq6 : ab_slots G1 = ab_slots G + 15 := z_asl eG1 hq4
  change ab_W _ _ _ (G ++ [ab_ob 4 [vz 0, vz 0, vN, vz 0, vz 0, vN, vN, vN, vz 0, vz 0, vz 0, vz 0, vz 0, vz 0, vz 0]]) 9 [some (vR d_), some (vR w), none] [.ref G.length] _
  rw [← eG1, ← ea3]
  change ab_W _ _ _ G1 9 [some (vR d_), some (vR w), none] [vR a3] _
  refine ab_dup d_RD_classPart_9 rfl ?_
  refine zz_iconst d_RD_classPart_10 ?_
  refine zz_iconst d_RD_classPart_11 ?_
  refine zz_iconst d_RD_classPart_12 ?_
  refine zz_iconst d_RD_classPart_13 ?_
  refine ab_aload_n d_RD_classPart_14 rfl ?_
  refine zz_alen d_RD_classPart_15 hw ?_
  refine zz_imul d_RD_classPart_16 ?_
  refine zz_iadd d_RD_classPart_17 ?_
  refine zz_iconst d_RD_classPart_18 ?_
  refine ab_callI (d' := d - 1) (as := [vz 1, vz 0, vz (2 + (2 * (↑w2 : Int))), vz 0]) (st := [vR a3]) (z90_PA_init (o := o2) (a := a3) (k0 := 1) (v0 := 0) (s0 := (2 + (2 * (↑w2 : Int)))) (m0 := 0) (ps := ps) (wt := wt) (bs := bs) (gr := gr) (Pr := pr0) (ph := ph) ha3 ppaI_0 (by omega) (by omega) (by omega) (by omega)) (fun oc G2 h => by rcases h with ⟨h, _⟩ <;> exact ⟨_, h⟩) (by omega) m_PA_init ml_RD_20 im_PA_init rfl (Nat.le_of_ble_eq_true rfl) d_RD_classPart_19 rfl ?_
  intro v G7 hq
  rcases hq with ⟨hv, hfk, hlk, hsk, hNa3, pNpaI_0, hq8⟩
  cases hv
  have hw := hfk.get hw (by simp only [List.mem_cons, List.not_mem_nil, or_false]; omega)
  have hfz := hfz.tr hq8 (by simp)
  have ppaI_0 := pNpaI_0
  have hfr := hfr.tr hfk (by decide)
  have hq9 := hlk
  have hq10 := hsk
  have ha3 := hNa3
  change ab_W _ _ _ G7 22 [some (vR d_), some (vR w), none] [vR a3] _
  refine ab_astore_n d_RD_classPart_22 (Nat.le_of_ble_eq_true rfl) (Nat.le_of_ble_eq_true rfl) rfl ?_
  change ab_W _ _ _ G7 23 [some (vR d_), some (vR w), some (vR a3)] [] _
  refine ab_aload_n d_RD_classPart_23 rfl ?_
  refine ab_aload_n d_RD_classPart_24 rfl ?_
  refine ab_putf (fs := [vz 1, vz 0, vN, vz (-1), vz 0, vN, vN, vN, vz (2 + (2 * (↑w2 : Int))), vz 0, vz 0, vz 0, vz 0, vz 0, vz (-1)]) f_RD_149 (Or.inl rfl) d_RD_classPart_25 ha3.2.2 (Nat.le_of_ble_eq_true rfl) (fun _ => ⟨rfl, rfl⟩) (ha3.2.1 (by decide)) ?_
  obtain ⟨G11, eG11⟩ : ∃ z : ab_G, z = List.set G7 a3 (ab_ob 4 [vz 1, vz 0, vR w, vz (-1), vz 0, vN, vN, vN, vz (2 + (2 * (↑w2 : Int))), vz 0, vz 0, vz 0, vz 0, vz 0, vz (-1)]) := ⟨_, rfl⟩
  have hw := hw.keep' eG11 ne_a3_w
  have hfz := hfz.wnp eG11 hnpa3
  have hst := (fx.rf (o := o2) (S := [90]) (G := G7)).wr ha3 eG11 (List.mem_singleton.mpr rfl)
  have ppaI_0 := ppaI_0.wnp hnpa3 ha3 eG11 (by decide)
  have hq12 := z_len eG11
  have hq13 := z_sl ha3 eG11 rfl
  have hfr := hfr.wn (show G.length ≤ a3 by have := hfr.1; omega) eG11
  have ha3 := ha3.kept eG11
  change ab_W _ _ _ (List.set G7 a3 (ab_ob 4 [vz 1, vz 0, vR w, vz (-1), vz 0, vN, vN, vN, vz (2 + (2 * (↑w2 : Int))), vz 0, vz 0, vz 0, vz 0, vz 0, vz (-1)])) 28 [some (vR d_), some (vR w), some (vR a3)] [] _
  rw [← eG11]
  refine ab_aload_n d_RD_classPart_28 rfl ?_
  have hnf_ := ppaI_0.nref hnpa3
  have hnp9_ := hnpa3
  have hlt14 := ha3.lt
  have hn14 : paN gr pr0 1 0 (-1) := ⟨by omega, by intro _; omega, by intro _; omega, by intro _; omega, pr0_⟩
  obtain ⟨ps14, wt14, hx14, hxo14, hpa14, hwo14, hwa14, ppaI_0⟩ : ∃ (pz : Nat → Nat) (wz : Nat → Wt), psx ps pz a3 ∧ (∀ x, ¬ x = a3 → pz x = ps x) ∧ pz a3 = 90 ∧ wtx wt wz a3 ∧ wz a3 = ((w2 + 1), (fun x => cs_mem q2 m2 x)) ∧ paI o2 G11 0 pz wz bs gr pr0 (ph + ↑(w2 + 1)) := ⟨_, _, psx.ol (Nat.le_refl _), fun x hx => if_neg hx, ol_self, fun x hx => if_neg hx, olw_self, ppaI_0.ad90 ((w2 + 1), (fun x => cs_mem q2 m2 x)) hnpa3 (by omega) ha3 hn14 (by unfold pnB; omega) (Or.inr ⟨rfl, w, w2, q2, m2, rfl, Or.inr ⟨hlw ▸ hw, by omega⟩, cw, rfl, hcan, fun _ => Iff.rfl⟩) (Or.inl rfl) (Or.inl rfl) (Or.inl rfl)⟩
  have hlf_ : leafp ps ps14 G11 a3 := leafp.mk hnf_ hnp9_ hxo14 hpa14 ha3 (by omega)
  have hwx_ : wtx wt wt14 a3 := hwo14
  have hlv_ : lfv G11 wt14 a3 (onS 1 0 (fun x => cs_mem q2 m2 x) mnI) := lfv.mk ha3 hwa14 (by omega) (by omega) (by omega) (fun t => by first | omega | exact onN (by omega))
  refine ab_aret (rt := _) rfl (Or.inl ⟨_, rfl⟩) (Or.inr ⟨_, rfl⟩) d_RD_classPart_29 ?_
  rw [hQ]; exact ⟨_, _, _, _, _, rfl, hfr, ppaI_0, (by exact hx14.lt (by omega)), (by exact hpa14), (by omega), (by exact hfz), (by omega), (by omega), (by omega), (by exact hlf_), (by exact hwx_), (by have t_ := (fi_pa ha3 (by omega) (by omega)).2.2.1; omega), (by exact lfv.e hlv_ onS_1)⟩
set_option maxRecDepth 100000 in
set_option maxHeartbeats 4000000 in
theorem zN_RD_literal {X : ab_X} {d : Nat} {o : Nat → Nat} {G : ab_G} {d_ : Nat}  : ab_F X d y_RD_literal (.code y_RD_literal b_RD_literal 3 (some (.object "PatternWorks$Part"))) [vR d_, vz (-1)] G (fun oc G2 => oc = .returned (some (vN)) ∧ G2 = G) := by
  refine ab_F_of (by decide +kernel) (Nat.le_of_ble_eq_true rfl) ?_
  obtain ⟨Q, hQ⟩ : ∃ z : Outcome → ab_G → Prop, z = (fun oc G2 => oc = .returned (some (vN)) ∧ G2 = G) := ⟨_, rfl⟩
  rw [← hQ]
  change ab_W X (ab_pl y_RD_literal b_RD_literal 3 (some (.object "PatternWorks$Part"))) d G 0 [some (vR d_), some (vz (-1)), none] [] Q
  have hfr : fx o o [] G G := fx.rf
  have hlen : G.length = G.length := rfl
  have hsl : ab_slots G = ab_slots G := rfl
  refine ab_iload_n d_RD_literal_0 rfl ?_
  refine zz_iconst d_RD_literal_1 ?_
  refine zz_icmp_ne (tgt := 7) d_RD_literal_2 (by decide) (by decide) (by decide) (fun c1 => absurd c1 (by decide)) (fun c1 => ?_)
  refine ab_null d_RD_literal_5 ?_
  refine ab_aret (rt := _) rfl (Or.inl ⟨_, rfl⟩) (Or.inl rfl) d_RD_literal_6 ?_
  rw [hQ]; exact ⟨rfl, rfl⟩
set_option maxRecDepth 100000 in
set_option maxHeartbeats 4000000 in
theorem z_RD_literal {X : ab_X} {d : Nat} {o : Nat → Nat} {G : ab_G} {d_ : Nat} {inn : Value} {dp : Int} {flg : Int} {grp : Int} {na : Nat} {nl : Nat} {lst : Int} {mst : Int} {bh : Int} {x : Nat} {se : Nat} {by_ : Nat} {n : Int} {pl : Int} {fa : Int} {fp : Int} {kd : Nat} {kn : Int} {nb : Nat} {cnt : Int} {P : Int → Prop} {ps : Nat → Nat} {wt : Nat → Wt} {bs : Nat} {gr : Int} {ph : Int} {c : Int} (hd_ : cc o G d_ 25 (ab_ob 6 [vR x, inn, vz dp, vz flg, vz grp, vR na, vR nl, vz lst, vz mst, vz bh])) (hx : cc o G x 24 (ab_ob 10 [vR se, vR by_, vz n, vz pl, vz fa, vz fp, vR kd, vz kn])) (h15 : cc o G 15 15 (za 18 zAR)) (h16 : cc o G 16 16 (za 20 zAF)) (ppaI_0 : paI o G 0 ps wt bs gr pr0 ph) (pcsI_se : csI o G se 88 89 nb cnt P) (n18 : ab_n0 = 18) (cf : 0 ≤ flg ∧ flg ≤ 31) (cc_ : 0 ≤ c ∧ c ≤ 1114111) (hgap : ¬ cs_gap c) (cbs : bs ≤ G.length ∧ 18 ≤ G.length) (hnb : nb ≤ 104000) (rc : G.length + 9000 ≤ ab_n0 + room_1.cells) (rs : ab_slots G + 430000 ≤ room_1.slots + 2 * nb) (hd : 9 ≤ d) : ab_F X d y_RD_literal (.code y_RD_literal b_RD_literal 3 (some (.object "PatternWorks$Part"))) [vR d_, vz c] G (fun oc G2 => ∃ o2 : Nat → Nat, ∃ p : Nat, ∃ ps2 : Nat → Nat, ∃ wt2 : Nat → Wt, ∃ ph2 : Int, ∃ nb2 : Nat, ∃ c2 : Int, ∃ P2 : Int → Prop, oc = .returned (some (vR p)) ∧ fx o o2 [88, 89, 90, 92] G G2 ∧ paI o2 G2 0 ps2 wt2 bs gr pr0 ph2 ∧ csI o2 G2 se 88 89 nb2 c2 P2 ∧ (psx ps ps2 G.length) ∧ (ps2 p = 90) ∧ (G.length ≤ p ∧ p < G2.length) ∧ (fz ps [] G G2) ∧ (ph2 ≤ ph + 25) ∧ (nb2 ≤ 104000) ∧ (64 * G2.length + nb ≤ 64 * G.length + nb2 + 400) ∧ (ab_slots G2 + 2 * nb ≤ ab_slots G + 2 * nb2 + 91) ∧ (leafp ps ps2 G2 p) ∧ (wtx wt wt2 p) ∧ (chz (flg % 2) c (fi G2 p 8)) ∧ (lfv G2 wt2 p (mnS (chS (flg % 2) c)))) := by
  refine ab_F_of (by decide +kernel) (Nat.le_of_ble_eq_true rfl) ?_
  obtain ⟨Q, hQ⟩ : ∃ z : Outcome → ab_G → Prop, z = (fun oc G2 => ∃ o2 : Nat → Nat, ∃ p : Nat, ∃ ps2 : Nat → Nat, ∃ wt2 : Nat → Wt, ∃ ph2 : Int, ∃ nb2 : Nat, ∃ c2 : Int, ∃ P2 : Int → Prop, oc = .returned (some (vR p)) ∧ fx o o2 [88, 89, 90, 92] G G2 ∧ paI o2 G2 0 ps2 wt2 bs gr pr0 ph2 ∧ csI o2 G2 se 88 89 nb2 c2 P2 ∧ (psx ps ps2 G.length) ∧ (ps2 p = 90) ∧ (G.length ≤ p ∧ p < G2.length) ∧ (fz ps [] G G2) ∧ (ph2 ≤ ph + 25) ∧ (nb2 ≤ 104000) ∧ (64 * G2.length + nb ≤ 64 * G.length + nb2 + 400) ∧ (ab_slots G2 + 2 * nb ≤ ab_slots G + 2 * nb2 + 91) ∧ (leafp ps ps2 G2 p) ∧ (wtx wt wt2 p) ∧ (chz (flg % 2) c (fi G2 p 8)) ∧ (lfv G2 wt2 p (mnS (chS (flg % 2) c)))) := ⟨_, rfl⟩
  rw [← hQ]
  change ab_W X (ab_pl y_RD_literal b_RD_literal 3 (some (.object "PatternWorks$Part"))) d G 0 [some (vR d_), some (vz c), none] [] Q
  have hfr : fx o o [88, 89, 90, 92] G G := fx.rf
  have hfz : fz ps [] G G := fz.rf
  refine ab_iload_n d_RD_literal_0 rfl ?_
  refine zz_iconst d_RD_literal_1 ?_
  refine zz_icmp_ne (tgt := 7) d_RD_literal_2 (by decide) (by omega) (by decide) (fun c1 => ?_) (fun c1 => absurd c1 (by omega))
  refine ab_aload_n d_RD_literal_7 rfl ?_
  refine zz_iconst d_RD_literal_8 ?_
  refine ab_callV (d' := d - 1) (as := [vz 1]) (st := []) (r := _) (z1_RD_isOn (o := o) (d_ := d_) (inn := inn) (dp := dp) (flg := flg) (grp := grp) (na := na) (nl := nl) (lst := lst) (mst := mst) (bh := bh) (x := x) hd_ (by omega)) (fun oc G2 h => by rcases h with ⟨_, h, _⟩ <;> exact ⟨_, h⟩) (by omega) m_RD_isOn ml_RD_94 im_RD_isOn se_RD_isOn c_RD hd_.2.2 (Nat.le_of_ble_eq_true rfl) d_RD_literal_9 rfl ?_
  intro v G2 hq
  rcases hq with ⟨v3, hv, hGe, hq4, hq5⟩
  cases hv
  rw [hGe]
  change ab_W _ _ _ G 12 [some (vR d_), some (vz c), none] [vz v3] _
  refine zz_if_eq (tgt := 70) d_RD_literal_12 (by decide) (by omega) (fun c6 => ?_) (fun c6 => ?_)
  · refine ab_new (fs := [vz 0, vz 0, vN, vz 0, vz 0, vN, vN, vN, vz 0, vz 0, vz 0, vz 0, vz 0, vz 0, vz 0]) k_PA rfl cl_RD_18 inst_PA ini_PA d_RD_literal_70 (by decide) (fun _ => rfl) (by omega) (by omega) ?_
    obtain ⟨G7, eG7⟩ : ∃ z : ab_G, z = G ++ [ab_ob 4 [vz 0, vz 0, vN, vz 0, vz 0, vN, vN, vN, vz 0, vz 0, vz 0, vz 0, vz 0, vz 0, vz 0]] := ⟨_, rfl⟩
    obtain ⟨o8, eo8⟩ : ∃ z : Nat → Nat, z = ol o G.length 90 := ⟨_, rfl⟩
    obtain ⟨a9, ea9⟩ : ∃ z : Nat, z = G.length := ⟨_, rfl⟩
    have hq10 := hx.n0 (by first | decide | omega)
    have hfz := hfz.ap ppaI_0 eG7
    have ne_a9_d_ : nq a9 d_ := by have hlt := hd_.lt; unfold nq; omega
    have ne_a9_x : nq a9 x := by have hlt := hx.lt; unfold nq; omega
    have ne_a9_15 : nq a9 15 := by have hlt := h15.lt; unfold nq; omega
    have ne_a9_16 : nq a9 16 := by have hlt := h16.lt; unfold nq; omega
    have hd_ := hd_.akeep (k := 90) eG7
    rw [← eo8] at hd_
    have hx := hx.akeep (k := 90) eG7
    rw [← eo8] at hx
    have h15 := h15.akeep (k := 90) eG7
    rw [← eo8] at h15
    have h16 := h16.akeep (k := 90) eG7
    rw [← eo8] at h16
    have hst := (fx.rf (o := o) (S := []) (G := G)).ap (k := 90) eG7
    rw [← eo8] at hst
    have hnpa9 := ppaI_0.new (a := a9) (by omega)
    have pcsI_se := csI.fr hst pcsI_se (by decide) (by decide)
    have ppaI_0 := paI.fr hst ppaI_0 (by decide) (by decide) (by decide) (by simp)
    have ha9 := cc.anew (o := o) 90 eG7 hq10
    rw [← eo8, ← ea9] at ha9
    have hfr := hfr.ap (k := 90) eG7
    rw [← eo8] at hfr
    have hq11 := z_alen eG7
    have hq12 : ab_slots G7 = ab_slots G + 15 := z_asl eG7 hq10
    change ab_W _ _ _ (G ++ [ab_ob 4 [vz 0, vz 0, vN, vz 0, vz 0, vN, vN, vN, vz 0, vz 0, vz 0, vz 0, vz 0, vz 0, vz 0]]) 73 [some (vR d_), some (vz c), none] [.ref G.length] _
    rw [← eG7, ← ea9]
    change ab_W _ _ _ G7 73 [some (vR d_), some (vz c), none] [vR a9] _
    refine ab_dup d_RD_literal_73 rfl ?_
    refine zz_iconst d_RD_literal_74 ?_
    refine ab_iload_n d_RD_literal_75 rfl ?_
    refine zz_iconst d_RD_literal_76 ?_
    refine zz_iconst d_RD_literal_77 ?_
    refine ab_callI (d' := d - 1) (as := [vz 0, vz c, vz 1, vz 0]) (st := [vR a9]) (z90_PA_init (o := o8) (a := a9) (k0 := 0) (v0 := c) (s0 := 1) (m0 := 0) (ps := ps) (wt := wt) (bs := bs) (gr := gr) (Pr := pr0) (ph := ph) ha9 ppaI_0 (by omega) (by omega) (by omega) (by omega)) (fun oc G2 h => by rcases h with ⟨h, _⟩ <;> exact ⟨_, h⟩) (by omega) m_PA_init ml_RD_20 im_PA_init rfl (Nat.le_of_ble_eq_true rfl) d_RD_literal_78 rfl ?_
    intro v G13 hq
    rcases hq with ⟨hv, hfk, hlk, hsk, hNa9, pNpaI_0, hq14⟩
    cases hv
    have hd_ := hfk.get hd_ (by decide)
    have hx := hfk.get hx (by decide)
    have h15 := hfk.get h15 (by decide)
    have h16 := hfk.get h16 (by decide)
    have hfz := hfz.tr hq14 (by simp)
    have pcsI_se := csI.fr hfk pcsI_se (by decide) (by decide)
    have ppaI_0 := pNpaI_0
    have hfr := hfr.tr hfk (by decide)
    have hq15 := hlk
    have hq16 := hsk
    have ha9 := hNa9
    change ab_W _ _ _ G13 81 [some (vR d_), some (vz c), none] [vR a9] _
    have hnf_ := ppaI_0.nref hnpa9
    have hnp9_ := hnpa9
    have hlt17 := ha9.lt
    have hn17 : paN gr pr0 0 c (-1) := ⟨by omega, by intro _; omega, by intro _; omega, by intro _; omega, pr0_⟩
    obtain ⟨ps17, wt17, hx17, hxo17, hpa17, hwo17, hwa17, ppaI_0⟩ : ∃ (pz : Nat → Nat) (wz : Nat → Wt), psx ps pz a9 ∧ (∀ x, ¬ x = a9 → pz x = ps x) ∧ pz a9 = 90 ∧ wtx wt wz a9 ∧ wz a9 = (0, (fun _ => False)) ∧ paI o8 G13 0 pz wz bs gr pr0 (ph + 0) := ⟨_, _, psx.ol (Nat.le_refl _), fun x hx => if_neg hx, ol_self, fun x hx => if_neg hx, olw_self, ppaI_0.ad90 (0, (fun _ => False)) hnpa9 (by omega) ha9 hn17 (by unfold pnB; omega) (Or.inl ⟨by decide, rfl⟩) (Or.inl rfl) (Or.inl rfl) (Or.inl rfl)⟩
    have hlf_ : leafp ps ps17 G13 a9 := leafp.mk hnf_ hnp9_ hxo17 hpa17 ha9 (by omega)
    have hwx_ : wtx wt wt17 a9 := hwo17
    have hlv_ : lfv G13 wt17 a9 (onS 0 c (fun _ => False) mnI) := lfv.mk ha9 hwa17 (by omega) (by omega) (by omega) (fun t => by first | omega | exact onN (by omega))
    refine ab_aret (rt := _) rfl (Or.inl ⟨_, rfl⟩) (Or.inr ⟨_, rfl⟩) d_RD_literal_81 ?_
    rw [hQ]; exact ⟨_, _, _, _, _, _, _, _, rfl, hfr, ppaI_0, pcsI_se, (by exact hx17.lt (by omega)), (by exact hpa17), (by omega), (by exact hfz), (by omega), (by omega), (by omega), (by omega), (by exact hlf_), (by exact hwx_), (by rw [(fi_pa ha9 (by omega) (by omega)).2.2.1, show flg % 2 = 0 by omega]; exact chz_0 cc_ hgap), (by exact lfv.e hlv_ (onS_0.trans (mnS_cg (ch_0 (by omega) hgap))))⟩
  · refine ab_aload_n d_RD_literal_15 rfl ?_
    refine ab_getf (fs := [vR x, inn, vz dp, vz flg, vz grp, vR na, vR nl, vz lst, vz mst, vz bh]) f_RD_12 d_RD_literal_16 hd_.2.2 rfl ?_
    refine ab_getf (fs := [vR se, vR by_, vz n, vz pl, vz fa, vz fp, vR kd, vz kn]) f_RD_126 d_RD_literal_19 hx.2.2 rfl ?_
    obtain ⟨fsR, hR⟩ := pcsI_se.recv
    refine ab_callV (d' := d - 1) (as := []) (st := []) (r := _) (c_CS_clear (o := o) (r := se) (lr := 88) (lb := 89) (n := nb) (cnt := cnt) (P := P) pcsI_se) (fun oc G2 h => by rcases h with ⟨h, _⟩ <;> exact ⟨_, h⟩) (by omega) m_CS_clear ml_RD_130 im_CS_clear se_CS_clear c_CS hR (Nat.le_of_ble_eq_true rfl) d_RD_literal_22 rfl ?_
    intro v G18 hq
    rcases hq with ⟨hv, hfk, hlk, hsk, pNcsI_se⟩
    cases hv
    have hd_ := hfk.get hd_ (by decide)
    have hx := hfk.get hx (by decide)
    have h15 := hfk.get h15 (by decide)
    have h16 := hfk.get h16 (by decide)
    have hfz := hfz.tr (fz.fx ppaI_0 hfk (by decide) (by decide)) (by simp)
    have ppaI_0 := paI.fr hfk ppaI_0 (by decide) (by decide) (by decide) (by decide)
    have pcsI_se := pNcsI_se
    have hfr := hfr.tr hfk (by decide)
    have hq19 := hlk
    have hq20 := hsk
    change ab_W _ _ _ G18 25 [some (vR d_), some (vz c), none] [] _
    refine ab_aload_n d_RD_literal_25 rfl ?_
    refine ab_getf (fs := [vR x, inn, vz dp, vz flg, vz grp, vR na, vR nl, vz lst, vz mst, vz bh]) f_RD_12 d_RD_literal_26 hd_.2.2 rfl ?_
    refine ab_getf (fs := [vR se, vR by_, vz n, vz pl, vz fa, vz fp, vR kd, vz kn]) f_RD_126 d_RD_literal_29 hx.2.2 rfl ?_
    refine ab_iload_n d_RD_literal_32 rfl ?_
    refine ab_iload_n d_RD_literal_33 rfl ?_
    obtain ⟨fsR, hR⟩ := pcsI_se.recv
    refine ab_callV (d' := d - 1) (as := [vz c, vz c]) (st := []) (r := _) (c1_CS_addAlike (o := o) (r := se) (lr := 88) (lb := 89) (n := nb) (cnt := 0) (P := (fun _ => False)) (lo := c) h15 h16 pcsI_se (by omega) (by omega) (by omega) (by omega) (by omega) (by omega)) (fun oc G2 h => by rcases h with ⟨_, _, _, _, h, _⟩ <;> exact ⟨_, h⟩) (by omega) m_CS_addAlike ml_RD_151 im_CS_addAlike se_CS_addAlike c_CS hR (Nat.le_of_ble_eq_true rfl) d_RD_literal_34 rfl ?_
    intro v G21 hq
    rcases hq with ⟨o22, n223, c224, P225, hv, hfk, pNcsI_se, hq26, hq27, hq28, hq29⟩
    cases hv
    have hd_ := hfk.get hd_ (by decide)
    have hx := hfk.get hx (by decide)
    have h15 := hfk.get h15 (by decide)
    have h16 := hfk.get h16 (by decide)
    have hfz := hfz.tr (fz.fx ppaI_0 hfk (by decide) (by decide)) (by simp)
    have ppaI_0 := paI.fr hfk ppaI_0 (by decide) (by decide) (by decide) (by decide)
    have pcsI_se := pNcsI_se
    have hfr := hfr.tr hfk (by decide)
    have hq30 := hfk.1
    change ab_W _ _ _ G21 37 [some (vR d_), some (vz c), none] [] _
    refine ab_aload_n d_RD_literal_37 rfl ?_
    refine ab_getf (fs := [vR x, inn, vz dp, vz flg, vz grp, vR na, vR nl, vz lst, vz mst, vz bh]) f_RD_12 d_RD_literal_38 hd_.2.2 rfl ?_
    refine ab_getf (fs := [vR se, vR by_, vz n, vz pl, vz fa, vz fp, vR kd, vz kn]) f_RD_126 d_RD_literal_41 hx.2.2 rfl ?_
    refine zz_iconst d_RD_literal_44 ?_
    obtain ⟨fsR, hR⟩ := pcsI_se.recv
    refine ab_callV (d' := d - 1) (as := [vz 0]) (st := []) (r := _) (z0_CS_ranges (o := o22) (r := se) (lr := 88) (lb := 89) (n := n223) (cnt := c224) (P := P225) (la := 93) (lp := 91) (lt := 92) pcsI_se (by omega) (by omega) (by omega) (by omega) (by omega) (by omega)) (fun oc G2 h => by rcases h with ⟨_, _, _, _, _, _, _, _, h, _⟩ <;> exact ⟨_, h⟩) (by omega) m_CS_ranges ml_RD_146 im_CS_ranges se_CS_ranges c_CS hR (Nat.le_of_ble_eq_true rfl) d_RD_literal_45 rfl ?_
    intro v G31 hq
    rcases hq with ⟨o32, x33, q234, m235, w236, n237, c238, P239, hv, hfk, hNx33, pNcsI_se, hq40, hq41, hq42, hq43, hq44, hq45, hq46, hq47⟩
    cases hv
    have ne_x33_d_ : nq x33 d_ := by have hlt := hd_.lt; unfold nq; omega
    have ne_x33_x : nq x33 x := by have hlt := hx.lt; unfold nq; omega
    have ne_x33_15 : nq x33 15 := by have hlt := h15.lt; unfold nq; omega
    have ne_x33_16 : nq x33 16 := by have hlt := h16.lt; unfold nq; omega
    have hd_ := hfk.get hd_ (by decide)
    have hx := hfk.get hx (by decide)
    have h15 := hfk.get h15 (by decide)
    have h16 := hfk.get h16 (by decide)
    have hfz := hfz.tr (fz.fx ppaI_0 hfk (by decide) (by decide)) (by simp)
    have ppaI_0 := paI.fr hfk ppaI_0 (by decide) (by decide) (by decide) (by decide)
    have pcsI_se := pNcsI_se
    have hfr := hfr.tr hfk (by decide)
    have hq48 := hfk.1
    have hx33 := hNx33
    change ab_W _ _ _ G31 48 [some (vR d_), some (vz c), none] [vR x33] _
    refine ab_astore_n d_RD_literal_48 (Nat.le_of_ble_eq_true rfl) (Nat.le_of_ble_eq_true rfl) rfl ?_
    change ab_W _ _ _ G31 49 [some (vR d_), some (vz c), some (vR x33)] [] _
    have hpos := cs_mem_pos ((hq42 c).mpr ⟨(hq29 c).mpr (Or.inr (alike_self c)), hgap⟩)
    have hq01 : 0 ≤ q234 0 ∧ q234 0 ≤ q234 1 ∧ q234 1 ≤ 1114111 := by have t := hq41 0 (by omega) (by omega); exact ⟨t.1, t.2.1, t.2.2.1⟩
    refine ab_aload_n d_RD_literal_49 rfl ?_
    refine zz_alen d_RD_literal_50 hx33 ?_
    refine zz_iconst d_RD_literal_51 ?_
    refine zz_icmp_gt (tgt := 64) d_RD_literal_52 (by decide) (by omega) (by decide) (fun c49 => ?_) (fun c49 => ?_)
    · refine ab_aload_n d_RD_literal_64 rfl ?_
      refine ab_aload_n d_RD_literal_65 rfl ?_
      refine ab_callV (d' := d - 1) (as := [vR x33]) (st := []) (r := _) (z93_RD_classPart (o := o32) (d_ := d_) (w := x33) (w2 := w236) (q2 := q234) (m2 := m235) (ps := ps) (wt := wt) (bs := bs) (gr := gr) (ph := ph) hx33 ppaI_0 (by omega) (by omega) hq41 (by omega) (by omega) (by omega) (by omega)) (fun oc G2 h => by rcases h with ⟨_, _, _, _, _, h, _⟩ <;> exact ⟨_, h⟩) (by omega) m_RD_classPart ml_RD_102 im_RD_classPart se_RD_classPart c_RD hd_.2.2 (Nat.le_of_ble_eq_true rfl) d_RD_literal_66 rfl ?_
      intro v G50 hq
      rcases hq with ⟨o51, p52, ps253, wt254, ph255, hv, hfk, pNpaI_0, hq56, hq57, hq58, hq59, hq60, hq61, hq62, hq63, hq64, hq65, hq66⟩
      cases hv
      have hd_ := hfk.get hd_ (by decide)
      have hx := hfk.get hx (by decide)
      have h15 := hfk.get h15 (by decide)
      have h16 := hfk.get h16 (by decide)
      have hx33 := hfk.get hx33 (by decide)
      have hfz := hfz.tr hq59 (by simp)
      have pcsI_se := csI.fr hfk pcsI_se (by decide) (by decide)
      have ppaI_0 := pNpaI_0
      have hfr := hfr.tr hfk (by decide)
      have hq67 := hfk.1
      change ab_W _ _ _ G50 69 [some (vR d_), some (vz c), some (vR x33)] [vR p52] _
      refine ab_aret (rt := _) rfl (Or.inl ⟨_, rfl⟩) (Or.inr ⟨_, rfl⟩) d_RD_literal_69 ?_
      rw [hQ]; exact ⟨_, _, _, _, _, _, _, _, rfl, hfr, ppaI_0, pcsI_se, (by exact hq56.lt (by omega)), (by exact hq57), (by omega), (by exact hfz), (by omega), (by omega), (by omega), (by omega), (by exact hq63), (by exact hq64), (by rw [hq65]; exact ⟨_, _, ⟨hq41, by omega⟩, one_of hq42 hq29 (by omega), Or.inr ⟨by omega, by omega⟩⟩), (by exact lfv.e hq66 (mnS_cg (one_of hq42 hq29 (by omega))))⟩
    · refine ab_aload_n d_RD_literal_55 rfl ?_
      refine zz_iconst d_RD_literal_56 ?_
      refine zz_iald d_RD_literal_57 hx33 (by omega) ?_
      refine ab_aload_n d_RD_literal_58 rfl ?_
      refine zz_iconst d_RD_literal_59 ?_
      refine zz_iald d_RD_literal_60 hx33 (by omega) ?_
      refine zz_icmp_ge (tgt := 70) d_RD_literal_61 (by decide) (by omega) (by omega) (fun c68 => ?_) (fun c68 => ?_)
      · refine ab_new (fs := [vz 0, vz 0, vN, vz 0, vz 0, vN, vN, vN, vz 0, vz 0, vz 0, vz 0, vz 0, vz 0, vz 0]) k_PA rfl cl_RD_18 inst_PA ini_PA d_RD_literal_70 (by decide) (fun _ => rfl) (by omega) (by omega) ?_
        obtain ⟨G69, eG69⟩ : ∃ z : ab_G, z = G31 ++ [ab_ob 4 [vz 0, vz 0, vN, vz 0, vz 0, vN, vN, vN, vz 0, vz 0, vz 0, vz 0, vz 0, vz 0, vz 0]] := ⟨_, rfl⟩
        obtain ⟨o70, eo70⟩ : ∃ z : Nat → Nat, z = ol o32 G31.length 90 := ⟨_, rfl⟩
        obtain ⟨a71, ea71⟩ : ∃ z : Nat, z = G31.length := ⟨_, rfl⟩
        have hq72 := hx33.n0 (by first | decide | omega)
        have hfz := hfz.ap ppaI_0 eG69
        have ne_a71_d_ : nq a71 d_ := by have hlt := hd_.lt; unfold nq; omega
        have ne_a71_x : nq a71 x := by have hlt := hx.lt; unfold nq; omega
        have ne_a71_15 : nq a71 15 := by have hlt := h15.lt; unfold nq; omega
        have ne_a71_16 : nq a71 16 := by have hlt := h16.lt; unfold nq; omega
        have ne_a71_x33 : nq a71 x33 := by have hlt := hx33.lt; unfold nq; omega
        have hd_ := hd_.akeep (k := 90) eG69
        rw [← eo70] at hd_
        have hx := hx.akeep (k := 90) eG69
        rw [← eo70] at hx
        have h15 := h15.akeep (k := 90) eG69
        rw [← eo70] at h15
        have h16 := h16.akeep (k := 90) eG69
        rw [← eo70] at h16
        have hx33 := hx33.akeep (k := 90) eG69
        rw [← eo70] at hx33
        have hst := (fx.rf (o := o32) (S := []) (G := G31)).ap (k := 90) eG69
        rw [← eo70] at hst
        have hnpa71 := ppaI_0.new (a := a71) (by omega)
        have pcsI_se := csI.fr hst pcsI_se (by decide) (by decide)
        have ppaI_0 := paI.fr hst ppaI_0 (by decide) (by decide) (by decide) (by simp)
        have ha71 := cc.anew (o := o32) 90 eG69 hq72
        rw [← eo70, ← ea71] at ha71
        have hfr := hfr.ap (k := 90) eG69
        rw [← eo70] at hfr
        have hq73 := z_alen eG69
        have hq74 : ab_slots G69 = ab_slots G31 + 15 := z_asl eG69 hq72
        change ab_W _ _ _ (G31 ++ [ab_ob 4 [vz 0, vz 0, vN, vz 0, vz 0, vN, vN, vN, vz 0, vz 0, vz 0, vz 0, vz 0, vz 0, vz 0]]) 73 [some (vR d_), some (vz c), some (vR x33)] [.ref G31.length] _
        rw [← eG69, ← ea71]
        change ab_W _ _ _ G69 73 [some (vR d_), some (vz c), some (vR x33)] [vR a71] _
        refine ab_dup d_RD_literal_73 rfl ?_
        refine zz_iconst d_RD_literal_74 ?_
        refine ab_iload_n d_RD_literal_75 rfl ?_
        refine zz_iconst d_RD_literal_76 ?_
        refine zz_iconst d_RD_literal_77 ?_
        refine ab_callI (d' := d - 1) (as := [vz 0, vz c, vz 1, vz 0]) (st := [vR a71]) (z90_PA_init (o := o70) (a := a71) (k0 := 0) (v0 := c) (s0 := 1) (m0 := 0) (ps := ps) (wt := wt) (bs := bs) (gr := gr) (Pr := pr0) (ph := ph) ha71 ppaI_0 (by omega) (by omega) (by omega) (by omega)) (fun oc G2 h => by rcases h with ⟨h, _⟩ <;> exact ⟨_, h⟩) (by omega) m_PA_init ml_RD_20 im_PA_init rfl (Nat.le_of_ble_eq_true rfl) d_RD_literal_78 rfl ?_
        intro v G75 hq
        rcases hq with ⟨hv, hfk, hlk, hsk, hNa71, pNpaI_0, hq76⟩
        cases hv
        have hd_ := hfk.get hd_ (by decide)
        have hx := hfk.get hx (by decide)
        have h15 := hfk.get h15 (by decide)
        have h16 := hfk.get h16 (by decide)
        have hx33 := hfk.get hx33 (by decide)
        have hfz := hfz.tr hq76 (by simp)
        have pcsI_se := csI.fr hfk pcsI_se (by decide) (by decide)
        have ppaI_0 := pNpaI_0
        have hfr := hfr.tr hfk (by decide)
        have hq77 := hlk
        have hq78 := hsk
        have ha71 := hNa71
        change ab_W _ _ _ G75 81 [some (vR d_), some (vz c), some (vR x33)] [vR a71] _
        have hnf_ := ppaI_0.nref hnpa71
        have hnp9_ := hnpa71
        have hlt79 := ha71.lt
        have hn79 : paN gr pr0 0 c (-1) := ⟨by omega, by intro _; omega, by intro _; omega, by intro _; omega, pr0_⟩
        obtain ⟨ps79, wt79, hx79, hxo79, hpa79, hwo79, hwa79, ppaI_0⟩ : ∃ (pz : Nat → Nat) (wz : Nat → Wt), psx ps pz a71 ∧ (∀ x, ¬ x = a71 → pz x = ps x) ∧ pz a71 = 90 ∧ wtx wt wz a71 ∧ wz a71 = (0, (fun _ => False)) ∧ paI o70 G75 0 pz wz bs gr pr0 (ph + 0) := ⟨_, _, psx.ol (Nat.le_refl _), fun x hx => if_neg hx, ol_self, fun x hx => if_neg hx, olw_self, ppaI_0.ad90 (0, (fun _ => False)) hnpa71 (by omega) ha71 hn79 (by unfold pnB; omega) (Or.inl ⟨by decide, rfl⟩) (Or.inl rfl) (Or.inl rfl) (Or.inl rfl)⟩
        have hlf_ : leafp ps ps79 G75 a71 := leafp.mk hnf_ hnp9_ hxo79 hpa79 ha71 (by omega)
        have hwx_ : wtx wt wt79 a71 := hwo79
        have hlv_ : lfv G75 wt79 a71 (onS 0 c (fun _ => False) mnI) := lfv.mk ha71 hwa79 (by omega) (by omega) (by omega) (fun t => by first | omega | exact onN (by omega))
        refine ab_aret (rt := _) rfl (Or.inl ⟨_, rfl⟩) (Or.inr ⟨_, rfl⟩) d_RD_literal_81 ?_
        rw [hQ]; exact ⟨_, _, _, _, _, _, _, _, rfl, hfr, ppaI_0, pcsI_se, (by exact hx79.lt (by omega)), (by exact hpa79), (by omega), (by exact hfz), (by omega), (by omega), (by omega), (by omega), (by exact hlf_), (by exact hwx_), (by rw [(fi_pa ha71 (by omega) (by omega)).2.2.1]; exact ⟨_, _, ⟨hq41, by omega⟩, one_of hq42 hq29 (by omega), Or.inl ⟨by omega, by omega, rfl⟩⟩), (by exact lfv.e hlv_ (onS_0.trans (mnS_cg (ch_1 (one_of hq42 hq29 (by omega)) (by omega) (by omega) (by omega) hgap))))⟩
      · refine ab_aload_n d_RD_literal_64 rfl ?_
        refine ab_aload_n d_RD_literal_65 rfl ?_
        refine ab_callV (d' := d - 1) (as := [vR x33]) (st := []) (r := _) (z93_RD_classPart (o := o32) (d_ := d_) (w := x33) (w2 := w236) (q2 := q234) (m2 := m235) (ps := ps) (wt := wt) (bs := bs) (gr := gr) (ph := ph) hx33 ppaI_0 (by omega) (by omega) hq41 (by omega) (by omega) (by omega) (by omega)) (fun oc G2 h => by rcases h with ⟨_, _, _, _, _, h, _⟩ <;> exact ⟨_, h⟩) (by omega) m_RD_classPart ml_RD_102 im_RD_classPart se_RD_classPart c_RD hd_.2.2 (Nat.le_of_ble_eq_true rfl) d_RD_literal_66 rfl ?_
        intro v G80 hq
        rcases hq with ⟨o81, p82, ps283, wt284, ph285, hv, hfk, pNpaI_0, hq86, hq87, hq88, hq89, hq90, hq91, hq92, hq93, hq94, hq95, hq96⟩
        cases hv
        have hd_ := hfk.get hd_ (by decide)
        have hx := hfk.get hx (by decide)
        have h15 := hfk.get h15 (by decide)
        have h16 := hfk.get h16 (by decide)
        have hx33 := hfk.get hx33 (by decide)
        have hfz := hfz.tr hq89 (by simp)
        have pcsI_se := csI.fr hfk pcsI_se (by decide) (by decide)
        have ppaI_0 := pNpaI_0
        have hfr := hfr.tr hfk (by decide)
        have hq97 := hfk.1
        change ab_W _ _ _ G80 69 [some (vR d_), some (vz c), some (vR x33)] [vR p82] _
        refine ab_aret (rt := _) rfl (Or.inl ⟨_, rfl⟩) (Or.inr ⟨_, rfl⟩) d_RD_literal_69 ?_
        rw [hQ]; exact ⟨_, _, _, _, _, _, _, _, rfl, hfr, ppaI_0, pcsI_se, (by exact hq86.lt (by omega)), (by exact hq87), (by omega), (by exact hfz), (by omega), (by omega), (by omega), (by omega), (by exact hq93), (by exact hq94), (by rw [hq95]; exact ⟨_, _, ⟨hq41, by omega⟩, one_of hq42 hq29 (by omega), Or.inr ⟨by omega, by omega⟩⟩), (by exact lfv.e hq96 (mnS_cg (one_of hq42 hq29 (by omega))))⟩
set_option maxRecDepth 100000 in
set_option maxHeartbeats 4000000 in
theorem z3_RD_escaped {X : ab_X} {d : Nat} {o : Nat → Nat} {G : ab_G} {d_ : Nat} {ps : Nat → Nat} {wt : Nat → Wt} {bs : Nat} {gr : Int} {ph : Int} (ppaI_0 : paI o G 0 ps wt bs gr pr0 ph) (n18 : ab_n0 = 18) (cbs : bs ≤ G.length ∧ 18 ≤ G.length) (rc : G.length + 9 ≤ ab_n0 + room_1.cells) (rs : ab_slots G + 15 ≤ room_1.slots) (hd : 2 ≤ d) : ab_F X d y_RD_escaped (.code y_RD_escaped b_RD_escaped 2 (some (.object "PatternWorks$Part"))) [vR d_, vz (-3)] G (fun oc G2 => ∃ o2 : Nat → Nat, ∃ p : Nat, ∃ ps2 : Nat → Nat, ∃ wt2 : Nat → Wt, ∃ ph2 : Int, oc = .returned (some (vR p)) ∧ fx o o2 [90] G G2 ∧ paI o2 G2 0 ps2 wt2 bs gr pr0 ph2 ∧ (psx ps ps2 G.length) ∧ (ps2 p = 90) ∧ (G.length ≤ p ∧ p < G2.length) ∧ (fz ps [] G G2) ∧ (ph2 ≤ ph + 25) ∧ (G2.length = G.length + 1) ∧ (ab_slots G2 = ab_slots G + 15) ∧ (leafp ps ps2 G2 p) ∧ (wtx wt wt2 p) ∧ (fi G2 p 8 = 1) ∧ (lfv G2 wt2 p mnA)) := by
  refine ab_F_of (by decide +kernel) (Nat.le_of_ble_eq_true rfl) ?_
  obtain ⟨Q, hQ⟩ : ∃ z : Outcome → ab_G → Prop, z = (fun oc G2 => ∃ o2 : Nat → Nat, ∃ p : Nat, ∃ ps2 : Nat → Nat, ∃ wt2 : Nat → Wt, ∃ ph2 : Int, oc = .returned (some (vR p)) ∧ fx o o2 [90] G G2 ∧ paI o2 G2 0 ps2 wt2 bs gr pr0 ph2 ∧ (psx ps ps2 G.length) ∧ (ps2 p = 90) ∧ (G.length ≤ p ∧ p < G2.length) ∧ (fz ps [] G G2) ∧ (ph2 ≤ ph + 25) ∧ (G2.length = G.length + 1) ∧ (ab_slots G2 = ab_slots G + 15) ∧ (leafp ps ps2 G2 p) ∧ (wtx wt wt2 p) ∧ (fi G2 p 8 = 1) ∧ (lfv G2 wt2 p mnA)) := ⟨_, rfl⟩
  rw [← hQ]
  change ab_W X (ab_pl y_RD_escaped b_RD_escaped 2 (some (.object "PatternWorks$Part"))) d G 0 [some (vR d_), some (vz (-3))] [] Q
  have hfr : fx o o [90] G G := fx.rf
  have hfz : fz ps [] G G := fz.rf
  refine ab_iload_n d_RD_escaped_0 rfl ?_
  refine zz_bipush d_RD_escaped_1 (by decide) ?_
  refine zz_icmp_ne (tgt := 18) d_RD_escaped_3 (by decide) (by decide) (by decide) (fun c1 => absurd c1 (by decide)) (fun c1 => ?_)
  refine ab_new (fs := [vz 0, vz 0, vN, vz 0, vz 0, vN, vN, vN, vz 0, vz 0, vz 0, vz 0, vz 0, vz 0, vz 0]) k_PA rfl cl_RD_18 inst_PA ini_PA d_RD_escaped_6 (by decide) (fun _ => rfl) (by omega) (by omega) ?_
  obtain ⟨G2, eG2⟩ : ∃ z : ab_G, z = G ++ [ab_ob 4 [vz 0, vz 0, vN, vz 0, vz 0, vN, vN, vN, vz 0, vz 0, vz 0, vz 0, vz 0, vz 0, vz 0]] := ⟨_, rfl⟩
  obtain ⟨o3, eo3⟩ : ∃ z : Nat → Nat, z = ol o G.length 90 := ⟨_, rfl⟩
  obtain ⟨a4, ea4⟩ : ∃ z : Nat, z = G.length := ⟨_, rfl⟩
  have hq5 : ab_n0 ≤ G.length := (by have h18 : ab_n0 = 18 := rfl; omega)
  have hfz := hfz.ap ppaI_0 eG2
  have hst := (fx.rf (o := o) (S := []) (G := G)).ap (k := 90) eG2
  rw [← eo3] at hst
  have hnpa4 := ppaI_0.new (a := a4) (by omega)
  have ppaI_0 := paI.fr hst ppaI_0 (by decide) (by decide) (by decide) (by simp)
  have ha4 := cc.anew (o := o) 90 eG2 hq5
  rw [← eo3, ← ea4] at ha4
  have hfr := hfr.ap (k := 90) eG2
  rw [← eo3] at hfr
  have hq6 := z_alen eG2
  have hq7 : ab_slots G2 = ab_slots G + 15 := z_asl eG2 hq5
  change ab_W _ _ _ (G ++ [ab_ob 4 [vz 0, vz 0, vN, vz 0, vz 0, vN, vN, vN, vz 0, vz 0, vz 0, vz 0, vz 0, vz 0, vz 0]]) 9 [some (vR d_), some (vz (-3))] [.ref G.length] _
  rw [← eG2, ← ea4]
  change ab_W _ _ _ G2 9 [some (vR d_), some (vz (-3))] [vR a4] _
  refine ab_dup d_RD_escaped_9 rfl ?_
  refine zz_iconst d_RD_escaped_10 ?_
  refine zz_iconst d_RD_escaped_11 ?_
  refine zz_iconst d_RD_escaped_12 ?_
  refine zz_iconst d_RD_escaped_13 ?_
  refine ab_callI (d' := d - 1) (as := [vz 2, vz 0, vz 1, vz 0]) (st := [vR a4]) (z90_PA_init (o := o3) (a := a4) (k0 := 2) (v0 := 0) (s0 := 1) (m0 := 0) (ps := ps) (wt := wt) (bs := bs) (gr := gr) (Pr := pr0) (ph := ph) ha4 ppaI_0 (by omega) (by omega) (by omega) (by omega)) (fun oc G2 h => by rcases h with ⟨h, _⟩ <;> exact ⟨_, h⟩) (by omega) m_PA_init ml_RD_20 im_PA_init rfl (Nat.le_of_ble_eq_true rfl) d_RD_escaped_14 rfl ?_
  intro v G8 hq
  rcases hq with ⟨hv, hfk, hlk, hsk, hNa4, pNpaI_0, hq9⟩
  cases hv
  have hfz := hfz.tr hq9 (by simp)
  have ppaI_0 := pNpaI_0
  have hfr := hfr.tr hfk (by decide)
  have hq10 := hlk
  have hq11 := hsk
  have ha4 := hNa4
  change ab_W _ _ _ G8 17 [some (vR d_), some (vz (-3))] [vR a4] _
  have hnf_ := ppaI_0.nref hnpa4
  have hnp9_ := hnpa4
  have hlt12 := ha4.lt
  have hn12 : paN gr pr0 2 0 (-1) := ⟨by omega, by intro _; omega, by intro _; omega, by intro _; omega, pr0_⟩
  obtain ⟨ps12, wt12, hx12, hxo12, hpa12, hwo12, hwa12, ppaI_0⟩ : ∃ (pz : Nat → Nat) (wz : Nat → Wt), psx ps pz a4 ∧ (∀ x, ¬ x = a4 → pz x = ps x) ∧ pz a4 = 90 ∧ wtx wt wz a4 ∧ wz a4 = (0, (fun _ => False)) ∧ paI o3 G8 0 pz wz bs gr pr0 (ph + 0) := ⟨_, _, psx.ol (Nat.le_refl _), fun x hx => if_neg hx, ol_self, fun x hx => if_neg hx, olw_self, ppaI_0.ad90 (0, (fun _ => False)) hnpa4 (by omega) ha4 hn12 (by unfold pnB; omega) (Or.inl ⟨by decide, rfl⟩) (Or.inl rfl) (Or.inl rfl) (Or.inl rfl)⟩
  have hlf_ : leafp ps ps12 G8 a4 := leafp.mk hnf_ hnp9_ hxo12 hpa12 ha4 (by omega)
  have hwx_ : wtx wt wt12 a4 := hwo12
  have hlv_ : lfv G8 wt12 a4 (onS 2 0 (fun _ => False) mnI) := lfv.mk ha4 hwa12 (by omega) (by omega) (by omega) (fun t => by first | omega | exact onN (by omega))
  refine ab_aret (rt := _) rfl (Or.inl ⟨_, rfl⟩) (Or.inr ⟨_, rfl⟩) d_RD_escaped_17 ?_
  rw [hQ]; exact ⟨_, _, _, _, _, rfl, hfr, ppaI_0, (by exact hx12.lt (by omega)), (by exact hpa12), (by omega), (by exact hfz), (by omega), (by omega), (by omega), (by exact hlf_), (by exact hwx_), (by rw [(fi_pa ha4 (by omega) (by omega)).2.2.1]), (by exact lfv.e hlv_ onS_2)⟩
set_option maxRecDepth 100000 in
set_option maxHeartbeats 4000000 in
theorem z4_RD_escaped {X : ab_X} {d : Nat} {o : Nat → Nat} {G : ab_G} {d_ : Nat} {ps : Nat → Nat} {wt : Nat → Wt} {bs : Nat} {gr : Int} {ph : Int} {c : Int} (ppaI_0 : paI o G 0 ps wt bs gr pr0 ph) (n18 : ab_n0 = 18) (cc_ : -9 ≤ c ∧ c ≤ -4) (cbs : bs ≤ G.length ∧ 18 ≤ G.length) (rc : G.length + 9 ≤ ab_n0 + room_1.cells) (rs : ab_slots G + 15 ≤ room_1.slots) (hd : 2 ≤ d) : ab_F X d y_RD_escaped (.code y_RD_escaped b_RD_escaped 2 (some (.object "PatternWorks$Part"))) [vR d_, vz c] G (fun oc G2 => ∃ o2 : Nat → Nat, ∃ p : Nat, ∃ ps2 : Nat → Nat, ∃ wt2 : Nat → Wt, ∃ ph2 : Int, oc = .returned (some (vR p)) ∧ fx o o2 [90] G G2 ∧ paI o2 G2 0 ps2 wt2 bs gr pr0 ph2 ∧ (psx ps ps2 G.length) ∧ (ps2 p = 90) ∧ (G.length ≤ p ∧ p < G2.length) ∧ (fz ps [] G G2) ∧ (ph2 ≤ ph + 25) ∧ (G2.length = G.length + 1) ∧ (ab_slots G2 = ab_slots G + 15) ∧ (leafp ps ps2 G2 p) ∧ (wtx wt wt2 p) ∧ (fi G2 p 8 = 1) ∧ (lfv G2 wt2 p (mnQ (-4 - c)))) := by
  refine ab_F_of (by decide +kernel) (Nat.le_of_ble_eq_true rfl) ?_
  obtain ⟨Q, hQ⟩ : ∃ z : Outcome → ab_G → Prop, z = (fun oc G2 => ∃ o2 : Nat → Nat, ∃ p : Nat, ∃ ps2 : Nat → Nat, ∃ wt2 : Nat → Wt, ∃ ph2 : Int, oc = .returned (some (vR p)) ∧ fx o o2 [90] G G2 ∧ paI o2 G2 0 ps2 wt2 bs gr pr0 ph2 ∧ (psx ps ps2 G.length) ∧ (ps2 p = 90) ∧ (G.length ≤ p ∧ p < G2.length) ∧ (fz ps [] G G2) ∧ (ph2 ≤ ph + 25) ∧ (G2.length = G.length + 1) ∧ (ab_slots G2 = ab_slots G + 15) ∧ (leafp ps ps2 G2 p) ∧ (wtx wt wt2 p) ∧ (fi G2 p 8 = 1) ∧ (lfv G2 wt2 p (mnQ (-4 - c)))) := ⟨_, rfl⟩
  rw [← hQ]
  change ab_W X (ab_pl y_RD_escaped b_RD_escaped 2 (some (.object "PatternWorks$Part"))) d G 0 [some (vR d_), some (vz c)] [] Q
  have hfr : fx o o [90] G G := fx.rf
  have hfz : fz ps [] G G := fz.rf
  refine ab_iload_n d_RD_escaped_0 rfl ?_
  refine zz_bipush d_RD_escaped_1 (by decide) ?_
  refine zz_icmp_ne (tgt := 18) d_RD_escaped_3 (by decide) (by omega) (by decide) (fun c1 => ?_) (fun c1 => absurd c1 (by omega))
  refine ab_iload_n d_RD_escaped_18 rfl ?_
  refine zz_bipush d_RD_escaped_19 (by decide) ?_
  refine zz_icmp_gt (tgt := 39) d_RD_escaped_21 (by decide) (by omega) (by decide) (fun c2 => absurd c2 (by omega)) (fun c2 => ?_)
  refine ab_new (fs := [vz 0, vz 0, vN, vz 0, vz 0, vN, vN, vN, vz 0, vz 0, vz 0, vz 0, vz 0, vz 0, vz 0]) k_PA rfl cl_RD_18 inst_PA ini_PA d_RD_escaped_24 (by decide) (fun _ => rfl) (by omega) (by omega) ?_
  obtain ⟨G3, eG3⟩ : ∃ z : ab_G, z = G ++ [ab_ob 4 [vz 0, vz 0, vN, vz 0, vz 0, vN, vN, vN, vz 0, vz 0, vz 0, vz 0, vz 0, vz 0, vz 0]] := ⟨_, rfl⟩
  obtain ⟨o4, eo4⟩ : ∃ z : Nat → Nat, z = ol o G.length 90 := ⟨_, rfl⟩
  obtain ⟨a5, ea5⟩ : ∃ z : Nat, z = G.length := ⟨_, rfl⟩
  have hq6 : ab_n0 ≤ G.length := (by have h18 : ab_n0 = 18 := rfl; omega)
  have hfz := hfz.ap ppaI_0 eG3
  have hst := (fx.rf (o := o) (S := []) (G := G)).ap (k := 90) eG3
  rw [← eo4] at hst
  have hnpa5 := ppaI_0.new (a := a5) (by omega)
  have ppaI_0 := paI.fr hst ppaI_0 (by decide) (by decide) (by decide) (by simp)
  have ha5 := cc.anew (o := o) 90 eG3 hq6
  rw [← eo4, ← ea5] at ha5
  have hfr := hfr.ap (k := 90) eG3
  rw [← eo4] at hfr
  have hq7 := z_alen eG3
  have hq8 : ab_slots G3 = ab_slots G + 15 := z_asl eG3 hq6
  change ab_W _ _ _ (G ++ [ab_ob 4 [vz 0, vz 0, vN, vz 0, vz 0, vN, vN, vN, vz 0, vz 0, vz 0, vz 0, vz 0, vz 0, vz 0]]) 27 [some (vR d_), some (vz c)] [.ref G.length] _
  rw [← eG3, ← ea5]
  change ab_W _ _ _ G3 27 [some (vR d_), some (vz c)] [vR a5] _
  refine ab_dup d_RD_escaped_27 rfl ?_
  refine zz_iconst d_RD_escaped_28 ?_
  refine zz_bipush d_RD_escaped_29 (by decide) ?_
  refine ab_iload_n d_RD_escaped_31 rfl ?_
  refine zz_isub d_RD_escaped_32 ?_
  refine zz_iconst d_RD_escaped_33 ?_
  refine zz_iconst d_RD_escaped_34 ?_
  refine ab_callI (d' := d - 1) (as := [vz 3, vz ((-4) - c), vz 1, vz 1]) (st := [vR a5]) (z90_PA_init (o := o4) (a := a5) (k0 := 3) (v0 := ((-4) - c)) (s0 := 1) (m0 := 1) (ps := ps) (wt := wt) (bs := bs) (gr := gr) (Pr := pr0) (ph := ph) ha5 ppaI_0 (by omega) (by omega) (by omega) (by omega)) (fun oc G2 h => by rcases h with ⟨h, _⟩ <;> exact ⟨_, h⟩) (by omega) m_PA_init ml_RD_20 im_PA_init rfl (Nat.le_of_ble_eq_true rfl) d_RD_escaped_35 rfl ?_
  intro v G9 hq
  rcases hq with ⟨hv, hfk, hlk, hsk, hNa5, pNpaI_0, hq10⟩
  cases hv
  have hfz := hfz.tr hq10 (by simp)
  have ppaI_0 := pNpaI_0
  have hfr := hfr.tr hfk (by decide)
  have hq11 := hlk
  have hq12 := hsk
  have ha5 := hNa5
  change ab_W _ _ _ G9 38 [some (vR d_), some (vz c)] [vR a5] _
  have hnf_ := ppaI_0.nref hnpa5
  have hnp9_ := hnpa5
  have hlt13 := ha5.lt
  have hn13 : paN gr pr0 3 ((-4) - c) (-1) := ⟨by omega, by intro _; omega, by intro _; omega, by intro _; omega, pr0_⟩
  obtain ⟨ps13, wt13, hx13, hxo13, hpa13, hwo13, hwa13, ppaI_0⟩ : ∃ (pz : Nat → Nat) (wz : Nat → Wt), psx ps pz a5 ∧ (∀ x, ¬ x = a5 → pz x = ps x) ∧ pz a5 = 90 ∧ wtx wt wz a5 ∧ wz a5 = (0, (fun _ => False)) ∧ paI o4 G9 0 pz wz bs gr pr0 (ph + 0) := ⟨_, _, psx.ol (Nat.le_refl _), fun x hx => if_neg hx, ol_self, fun x hx => if_neg hx, olw_self, ppaI_0.ad90 (0, (fun _ => False)) hnpa5 (by omega) ha5 hn13 (by unfold pnB; omega) (Or.inl ⟨by decide, rfl⟩) (Or.inl rfl) (Or.inl rfl) (Or.inl rfl)⟩
  have hlf_ : leafp ps ps13 G9 a5 := leafp.mk hnf_ hnp9_ hxo13 hpa13 ha5 (by omega)
  have hwx_ : wtx wt wt13 a5 := hwo13
  have hlv_ : lfv G9 wt13 a5 (onS 3 ((-4) - c) (fun _ => False) mnI) := lfv.mk ha5 hwa13 (by omega) (by omega) (by omega) (fun t => by first | omega | exact onN (by omega))
  refine ab_aret (rt := _) rfl (Or.inl ⟨_, rfl⟩) (Or.inr ⟨_, rfl⟩) d_RD_escaped_38 ?_
  rw [hQ]; exact ⟨_, _, _, _, _, rfl, hfr, ppaI_0, (by exact hx13.lt (by omega)), (by exact hpa13), (by omega), (by exact hfz), (by omega), (by omega), (by omega), (by exact hlf_), (by exact hwx_), (by rw [(fi_pa ha5 (by omega) (by omega)).2.2.1]), (by exact lfv.e hlv_ (onS_3.trans (congrArg mnQ (by omega))))⟩
set_option maxRecDepth 100000 in
set_option maxHeartbeats 4000000 in
theorem z2_RD_escaped {X : ab_X} {d : Nat} {o : Nat → Nat} {G : ab_G} {d_ : Nat} {inn : Value} {dp : Int} {flg : Int} {grp : Int} {na : Nat} {nl : Nat} {lst : Int} {mst : Int} {bh : Int} {x : Nat} {se : Nat} {by_ : Nat} {n : Int} {pl : Int} {fa : Int} {fp : Int} {kd : Nat} {kn : Int} {nb : Nat} {cnt : Int} {P : Int → Prop} {ps : Nat → Nat} {wt : Nat → Wt} {bs : Nat} {gr : Int} {ph : Int} (hd_ : cc o G d_ 25 (ab_ob 6 [vR x, inn, vz dp, vz flg, vz grp, vR na, vR nl, vz lst, vz mst, vz bh])) (hx : cc o G x 24 (ab_ob 10 [vR se, vR by_, vz n, vz pl, vz fa, vz fp, vR kd, vz kn])) (ppaI_0 : paI o G 0 ps wt bs gr pr0 ph) (pcsI_se : csI o G se 88 89 nb cnt P) (ptbI_0 : tbI o G 0) (n18 : ab_n0 = 18) (ckd : 1 ≤ kd ∧ kd ≤ 12 ∧ 0 ≤ kn ∧ kn ≤ 1) (cbs : bs ≤ G.length ∧ 18 ≤ G.length) (hnb : nb ≤ 104000) (rc : G.length + 9000 ≤ ab_n0 + room_1.cells) (rs : ab_slots G + 430000 ≤ room_1.slots + 2 * nb) (hd : 9 ≤ d) : ab_F X d y_RD_escaped (.code y_RD_escaped b_RD_escaped 2 (some (.object "PatternWorks$Part"))) [vR d_, vz (-2)] G (fun oc G2 => ∃ o2 : Nat → Nat, ∃ p : Nat, ∃ ps2 : Nat → Nat, ∃ wt2 : Nat → Wt, ∃ ph2 : Int, ∃ nb2 : Nat, ∃ c2 : Int, ∃ P2 : Int → Prop, oc = .returned (some (vR p)) ∧ fx o o2 [88, 89, 90, 92] G G2 ∧ paI o2 G2 0 ps2 wt2 bs gr pr0 ph2 ∧ csI o2 G2 se 88 89 nb2 c2 P2 ∧ (psx ps ps2 G.length) ∧ (ps2 p = 90) ∧ (G.length ≤ p ∧ p < G2.length) ∧ (fz ps [] G G2) ∧ (ph2 ≤ ph + 25) ∧ (nb2 ≤ 104000) ∧ (64 * G2.length + nb ≤ 64 * G.length + nb2 + 400) ∧ (ab_slots G2 + 2 * nb ≤ ab_slots G + 2 * nb2 + 91) ∧ (leafp ps ps2 G2 p) ∧ (wtx wt wt2 p) ∧ (kdz kd kn (fi G2 p 8)) ∧ (lfv G2 wt2 p (mnS (kdS kd kn)))) := by
  refine ab_F_of (by decide +kernel) (Nat.le_of_ble_eq_true rfl) ?_
  obtain ⟨Q, hQ⟩ : ∃ z : Outcome → ab_G → Prop, z = (fun oc G2 => ∃ o2 : Nat → Nat, ∃ p : Nat, ∃ ps2 : Nat → Nat, ∃ wt2 : Nat → Wt, ∃ ph2 : Int, ∃ nb2 : Nat, ∃ c2 : Int, ∃ P2 : Int → Prop, oc = .returned (some (vR p)) ∧ fx o o2 [88, 89, 90, 92] G G2 ∧ paI o2 G2 0 ps2 wt2 bs gr pr0 ph2 ∧ csI o2 G2 se 88 89 nb2 c2 P2 ∧ (psx ps ps2 G.length) ∧ (ps2 p = 90) ∧ (G.length ≤ p ∧ p < G2.length) ∧ (fz ps [] G G2) ∧ (ph2 ≤ ph + 25) ∧ (nb2 ≤ 104000) ∧ (64 * G2.length + nb ≤ 64 * G.length + nb2 + 400) ∧ (ab_slots G2 + 2 * nb ≤ ab_slots G + 2 * nb2 + 91) ∧ (leafp ps ps2 G2 p) ∧ (wtx wt wt2 p) ∧ (kdz kd kn (fi G2 p 8)) ∧ (lfv G2 wt2 p (mnS (kdS kd kn)))) := ⟨_, rfl⟩
  rw [← hQ]
  change ab_W X (ab_pl y_RD_escaped b_RD_escaped 2 (some (.object "PatternWorks$Part"))) d G 0 [some (vR d_), some (vz (-2))] [] Q
  have hfr : fx o o [88, 89, 90, 92] G G := fx.rf
  have hfz : fz ps [] G G := fz.rf
  refine ab_iload_n d_RD_escaped_0 rfl ?_
  refine zz_bipush d_RD_escaped_1 (by decide) ?_
  refine zz_icmp_ne (tgt := 18) d_RD_escaped_3 (by decide) (by decide) (by decide) (fun c1 => ?_) (fun c1 => absurd c1 (by decide))
  refine ab_iload_n d_RD_escaped_18 rfl ?_
  refine zz_bipush d_RD_escaped_19 (by decide) ?_
  refine zz_icmp_gt (tgt := 39) d_RD_escaped_21 (by decide) (by decide) (by decide) (fun c2 => ?_) (fun c2 => absurd c2 (by decide))
  refine ab_aload_n d_RD_escaped_39 rfl ?_
  refine ab_getf (fs := [vR x, inn, vz dp, vz flg, vz grp, vR na, vR nl, vz lst, vz mst, vz bh]) f_RD_12 d_RD_escaped_40 hd_.2.2 rfl ?_
  refine ab_getf (fs := [vR se, vR by_, vz n, vz pl, vz fa, vz fp, vR kd, vz kn]) f_RD_126 d_RD_escaped_43 hx.2.2 rfl ?_
  obtain ⟨fsR, hR⟩ := pcsI_se.recv
  refine ab_callV (d' := d - 1) (as := []) (st := []) (r := _) (c_CS_clear (o := o) (r := se) (lr := 88) (lb := 89) (n := nb) (cnt := cnt) (P := P) pcsI_se) (fun oc G2 h => by rcases h with ⟨h, _⟩ <;> exact ⟨_, h⟩) (by omega) m_CS_clear ml_RD_130 im_CS_clear se_CS_clear c_CS hR (Nat.le_of_ble_eq_true rfl) d_RD_escaped_46 rfl ?_
  intro v G3 hq
  rcases hq with ⟨hv, hfk, hlk, hsk, pNcsI_se⟩
  cases hv
  have hd_ := hfk.get hd_ (by decide)
  have hx := hfk.get hx (by decide)
  have hfz := hfz.tr (fz.fx ppaI_0 hfk (by decide) (by decide)) (by simp)
  have ptbI_0 := tbI.fr hfk ptbI_0  (by decide)
  have ppaI_0 := paI.fr hfk ppaI_0 (by decide) (by decide) (by decide) (by decide)
  have pcsI_se := pNcsI_se
  have hfr := hfr.tr hfk (by decide)
  have hq4 := hlk
  have hq5 := hsk
  change ab_W _ _ _ G3 49 [some (vR d_), some (vz (-2))] [] _
  refine ab_aload_n d_RD_escaped_49 rfl ?_
  refine ab_getf (fs := [vR x, inn, vz dp, vz flg, vz grp, vR na, vR nl, vz lst, vz mst, vz bh]) f_RD_12 d_RD_escaped_50 hd_.2.2 rfl ?_
  refine ab_getf (fs := [vR se, vR by_, vz n, vz pl, vz fa, vz fp, vR kd, vz kn]) f_RD_126 d_RD_escaped_53 hx.2.2 rfl ?_
  refine ab_aload_n d_RD_escaped_56 rfl ?_
  refine ab_getf (fs := [vR x, inn, vz dp, vz flg, vz grp, vR na, vR nl, vz lst, vz mst, vz bh]) f_RD_12 d_RD_escaped_57 hd_.2.2 rfl ?_
  refine ab_getf (fs := [vR se, vR by_, vz n, vz pl, vz fa, vz fp, vR kd, vz kn]) f_RD_135 d_RD_escaped_60 hx.2.2 rfl ?_
  refine ab_aload_n d_RD_escaped_63 rfl ?_
  refine ab_getf (fs := [vR x, inn, vz dp, vz flg, vz grp, vR na, vR nl, vz lst, vz mst, vz bh]) f_RD_12 d_RD_escaped_64 hd_.2.2 rfl ?_
  refine ab_getf (fs := [vR se, vR by_, vz n, vz pl, vz fa, vz fp, vR kd, vz kn]) f_RD_138 d_RD_escaped_67 hx.2.2 rfl ?_
  obtain ⟨w6, q6, mm6, hk6, hw6, hc6, hks6⟩ := ptbI_0.atE kd (by omega) (by omega)
  rcases (show kn = 0 ∨ kn = 1 by omega) with hkn7 | hkn7
  · subst hkn7
    change ab_W _ _ _ G3 70 [some (vR d_), some (vz (-2))] [vz 0, vR kd, vR se] _
    obtain ⟨fsR, hR⟩ := pcsI_se.recv
    refine ab_callV (d' := d - 1) (as := [vR kd, vz 0]) (st := []) (r := _) (z0_CS_addAll (o := o) (r := se) (lr := 88) (lb := 89) (n := nb) (cnt := 0) (P := (fun _ => False)) (a := kd) (la := kd) (w := w6) (q := q6) (mm := mm6) hk6 pcsI_se (by omega) (by omega) hc6 (by omega) (by omega) (by omega)) (fun oc G2 h => by rcases h with ⟨_, _, _, _, h, _⟩ <;> exact ⟨_, h⟩) (by omega) m_CS_addAll ml_RD_142 im_CS_addAll se_CS_addAll c_CS hR (Nat.le_of_ble_eq_true rfl) d_RD_escaped_70 rfl ?_
    intro v G8 hq
    rcases hq with ⟨o9, n210, c211, P212, hv, hfk, pNcsI_se, hq13, hq14, hq15, hq16⟩
    cases hv
    have hd_ := hfk.get hd_ (by decide)
    have hx := hfk.get hx (by decide)
    have hk6 := hfk.get hk6 (by simp only [List.mem_cons, List.not_mem_nil, or_false]; omega)
    have hfz := hfz.tr (fz.fx ppaI_0 hfk (by decide) (by decide)) (by simp)
    have ptbI_0 := tbI.fr hfk ptbI_0  (by decide)
    have ppaI_0 := paI.fr hfk ppaI_0 (by decide) (by decide) (by decide) (by decide)
    have pcsI_se := pNcsI_se
    have hfr := hfr.tr hfk (by decide)
    have hq17 := hfk.1
    change ab_W _ _ _ G8 73 [some (vR d_), some (vz (-2))] [] _
    refine ab_aload_n d_RD_escaped_73 rfl ?_
    refine ab_aload_n d_RD_escaped_74 rfl ?_
    refine ab_getf (fs := [vR x, inn, vz dp, vz flg, vz grp, vR na, vR nl, vz lst, vz mst, vz bh]) f_RD_12 d_RD_escaped_75 hd_.2.2 rfl ?_
    refine ab_getf (fs := [vR se, vR by_, vz n, vz pl, vz fa, vz fp, vR kd, vz 0]) f_RD_126 d_RD_escaped_78 hx.2.2 rfl ?_
    refine zz_iconst d_RD_escaped_81 ?_
    obtain ⟨fsR, hR⟩ := pcsI_se.recv
    refine ab_callV (d' := d - 1) (as := [vz 0]) (st := [vR d_]) (r := _) (z0_CS_ranges (o := o9) (r := se) (lr := 88) (lb := 89) (n := n210) (cnt := c211) (P := P212) (la := 93) (lp := 91) (lt := 92) pcsI_se (by omega) (by omega) (by omega) (by omega) (by omega) (by omega)) (fun oc G2 h => by rcases h with ⟨_, _, _, _, _, _, _, _, h, _⟩ <;> exact ⟨_, h⟩) (by omega) m_CS_ranges ml_RD_146 im_CS_ranges se_CS_ranges c_CS hR (Nat.le_of_ble_eq_true rfl) d_RD_escaped_82 rfl ?_
    intro v G18 hq
    rcases hq with ⟨o19, x20, q221, m222, w223, n224, c225, P226, hv, hfk, hNx20, pNcsI_se, hq27, hq28, hq29, hq30, hq31, hq32, hq33, hq34⟩
    cases hv
    have ne_x20_d_ : nq x20 d_ := by have hlt := hd_.lt; unfold nq; omega
    have ne_x20_x : nq x20 x := by have hlt := hx.lt; unfold nq; omega
    have ne_x20_kd : nq x20 kd := by have hlt := hk6.lt; unfold nq; omega
    have hd_ := hfk.get hd_ (by decide)
    have hx := hfk.get hx (by decide)
    have hk6 := hfk.get hk6 (by simp only [List.mem_cons, List.not_mem_nil, or_false]; omega)
    have hfz := hfz.tr (fz.fx ppaI_0 hfk (by decide) (by decide)) (by simp)
    have ptbI_0 := tbI.fr hfk ptbI_0  (by decide)
    have ppaI_0 := paI.fr hfk ppaI_0 (by decide) (by decide) (by decide) (by decide)
    have pcsI_se := pNcsI_se
    have hfr := hfr.tr hfk (by decide)
    have hq35 := hfk.1
    have hx20 := hNx20
    change ab_W _ _ _ G18 85 [some (vR d_), some (vz (-2))] [vR x20, vR d_] _
    refine ab_callV (d' := d - 1) (as := [vR x20]) (st := []) (r := _) (z93_RD_classPart (o := o19) (d_ := d_) (w := x20) (w2 := w223) (q2 := q221) (m2 := m222) (ps := ps) (wt := wt) (bs := bs) (gr := gr) (ph := ph) hx20 ppaI_0 (by omega) (by omega) hq28 (by omega) (by omega) (by omega) (by omega)) (fun oc G2 h => by rcases h with ⟨_, _, _, _, _, h, _⟩ <;> exact ⟨_, h⟩) (by omega) m_RD_classPart ml_RD_102 im_RD_classPart se_RD_classPart c_RD hd_.2.2 (Nat.le_of_ble_eq_true rfl) d_RD_escaped_85 rfl ?_
    intro v G36 hq
    rcases hq with ⟨o37, p38, ps239, wt240, ph241, hv, hfk, pNpaI_0, hq42, hq43, hq44, hq45, hq46, hq47, hq48, hq49, hq50, hq51, hq52⟩
    cases hv
    have hd_ := hfk.get hd_ (by decide)
    have hx := hfk.get hx (by decide)
    have hk6 := hfk.get hk6 (by simp only [List.mem_cons, List.not_mem_nil, or_false]; omega)
    have hx20 := hfk.get hx20 (by decide)
    have hfz := hfz.tr hq45 (by simp)
    have pcsI_se := csI.fr hfk pcsI_se (by decide) (by decide)
    have ptbI_0 := tbI.fr hfk ptbI_0  (by decide)
    have ppaI_0 := pNpaI_0
    have hfr := hfr.tr hfk (by decide)
    have hq53 := hfk.1
    change ab_W _ _ _ G36 88 [some (vR d_), some (vz (-2))] [vR p38] _
    refine ab_aret (rt := _) rfl (Or.inl ⟨_, rfl⟩) (Or.inr ⟨_, rfl⟩) d_RD_escaped_88 ?_
    rw [hQ]; exact ⟨_, _, _, _, _, _, _, _, rfl, hfr, ppaI_0, pcsI_se, (by exact hq42.lt (by omega)), (by exact hq43), (by omega), (by exact hfz), (by omega), (by omega), (by omega), (by omega), (by exact hq49), (by exact hq50), (by rw [hq51]; exact ⟨_, _, ⟨hq28, by omega⟩, kd_of hq29 (km0 hq16 hks6), by omega⟩), (by exact lfv.e hq52 (mnS_cg (kd_of hq29 (km0 hq16 hks6))))⟩
  · subst hkn7
    change ab_W _ _ _ G3 70 [some (vR d_), some (vz (-2))] [vz 1, vR kd, vR se] _
    obtain ⟨fsR, hR⟩ := pcsI_se.recv
    refine ab_callV (d' := d - 1) (as := [vR kd, vz 1]) (st := []) (r := _) (z1_CS_addAll (o := o) (r := se) (lr := 88) (lb := 89) (n := nb) (cnt := 0) (P := (fun _ => False)) (a := kd) (la := kd) (w := w6) (q := q6) (mm := mm6) hk6 pcsI_se (by omega) (by omega) hc6 (by omega) (by omega) (by omega)) (fun oc G2 h => by rcases h with ⟨_, _, _, _, h, _⟩ <;> exact ⟨_, h⟩) (by omega) m_CS_addAll ml_RD_142 im_CS_addAll se_CS_addAll c_CS hR (Nat.le_of_ble_eq_true rfl) d_RD_escaped_70 rfl ?_
    intro v G54 hq
    rcases hq with ⟨o55, n256, c257, P258, hv, hfk, pNcsI_se, hq59, hq60, hq61, hq62⟩
    cases hv
    have hd_ := hfk.get hd_ (by decide)
    have hx := hfk.get hx (by decide)
    have hk6 := hfk.get hk6 (by simp only [List.mem_cons, List.not_mem_nil, or_false]; omega)
    have hfz := hfz.tr (fz.fx ppaI_0 hfk (by decide) (by decide)) (by simp)
    have ptbI_0 := tbI.fr hfk ptbI_0  (by decide)
    have ppaI_0 := paI.fr hfk ppaI_0 (by decide) (by decide) (by decide) (by decide)
    have pcsI_se := pNcsI_se
    have hfr := hfr.tr hfk (by decide)
    have hq63 := hfk.1
    change ab_W _ _ _ G54 73 [some (vR d_), some (vz (-2))] [] _
    refine ab_aload_n d_RD_escaped_73 rfl ?_
    refine ab_aload_n d_RD_escaped_74 rfl ?_
    refine ab_getf (fs := [vR x, inn, vz dp, vz flg, vz grp, vR na, vR nl, vz lst, vz mst, vz bh]) f_RD_12 d_RD_escaped_75 hd_.2.2 rfl ?_
    refine ab_getf (fs := [vR se, vR by_, vz n, vz pl, vz fa, vz fp, vR kd, vz 1]) f_RD_126 d_RD_escaped_78 hx.2.2 rfl ?_
    refine zz_iconst d_RD_escaped_81 ?_
    obtain ⟨fsR, hR⟩ := pcsI_se.recv
    refine ab_callV (d' := d - 1) (as := [vz 0]) (st := [vR d_]) (r := _) (z0_CS_ranges (o := o55) (r := se) (lr := 88) (lb := 89) (n := n256) (cnt := c257) (P := P258) (la := 93) (lp := 91) (lt := 92) pcsI_se (by omega) (by omega) (by omega) (by omega) (by omega) (by omega)) (fun oc G2 h => by rcases h with ⟨_, _, _, _, _, _, _, _, h, _⟩ <;> exact ⟨_, h⟩) (by omega) m_CS_ranges ml_RD_146 im_CS_ranges se_CS_ranges c_CS hR (Nat.le_of_ble_eq_true rfl) d_RD_escaped_82 rfl ?_
    intro v G64 hq
    rcases hq with ⟨o65, x66, q267, m268, w269, n270, c271, P272, hv, hfk, hNx66, pNcsI_se, hq73, hq74, hq75, hq76, hq77, hq78, hq79, hq80⟩
    cases hv
    have ne_x66_d_ : nq x66 d_ := by have hlt := hd_.lt; unfold nq; omega
    have ne_x66_x : nq x66 x := by have hlt := hx.lt; unfold nq; omega
    have ne_x66_kd : nq x66 kd := by have hlt := hk6.lt; unfold nq; omega
    have hd_ := hfk.get hd_ (by decide)
    have hx := hfk.get hx (by decide)
    have hk6 := hfk.get hk6 (by simp only [List.mem_cons, List.not_mem_nil, or_false]; omega)
    have hfz := hfz.tr (fz.fx ppaI_0 hfk (by decide) (by decide)) (by simp)
    have ptbI_0 := tbI.fr hfk ptbI_0  (by decide)
    have ppaI_0 := paI.fr hfk ppaI_0 (by decide) (by decide) (by decide) (by decide)
    have pcsI_se := pNcsI_se
    have hfr := hfr.tr hfk (by decide)
    have hq81 := hfk.1
    have hx66 := hNx66
    change ab_W _ _ _ G64 85 [some (vR d_), some (vz (-2))] [vR x66, vR d_] _
    refine ab_callV (d' := d - 1) (as := [vR x66]) (st := []) (r := _) (z93_RD_classPart (o := o65) (d_ := d_) (w := x66) (w2 := w269) (q2 := q267) (m2 := m268) (ps := ps) (wt := wt) (bs := bs) (gr := gr) (ph := ph) hx66 ppaI_0 (by omega) (by omega) hq74 (by omega) (by omega) (by omega) (by omega)) (fun oc G2 h => by rcases h with ⟨_, _, _, _, _, h, _⟩ <;> exact ⟨_, h⟩) (by omega) m_RD_classPart ml_RD_102 im_RD_classPart se_RD_classPart c_RD hd_.2.2 (Nat.le_of_ble_eq_true rfl) d_RD_escaped_85 rfl ?_
    intro v G82 hq
    rcases hq with ⟨o83, p84, ps285, wt286, ph287, hv, hfk, pNpaI_0, hq88, hq89, hq90, hq91, hq92, hq93, hq94, hq95, hq96, hq97, hq98⟩
    cases hv
    have hd_ := hfk.get hd_ (by decide)
    have hx := hfk.get hx (by decide)
    have hk6 := hfk.get hk6 (by simp only [List.mem_cons, List.not_mem_nil, or_false]; omega)
    have hx66 := hfk.get hx66 (by decide)
    have hfz := hfz.tr hq91 (by simp)
    have pcsI_se := csI.fr hfk pcsI_se (by decide) (by decide)
    have ptbI_0 := tbI.fr hfk ptbI_0  (by decide)
    have ppaI_0 := pNpaI_0
    have hfr := hfr.tr hfk (by decide)
    have hq99 := hfk.1
    change ab_W _ _ _ G82 88 [some (vR d_), some (vz (-2))] [vR p84] _
    refine ab_aret (rt := _) rfl (Or.inl ⟨_, rfl⟩) (Or.inr ⟨_, rfl⟩) d_RD_escaped_88 ?_
    rw [hQ]; exact ⟨_, _, _, _, _, _, _, _, rfl, hfr, ppaI_0, pcsI_se, (by exact hq88.lt (by omega)), (by exact hq89), (by omega), (by exact hfz), (by omega), (by omega), (by omega), (by omega), (by exact hq95), (by exact hq96), (by rw [hq97]; exact ⟨_, _, ⟨hq74, by omega⟩, kd_of hq75 (km1 hq62 hks6), by omega⟩), (by exact lfv.e hq98 (mnS_cg (kd_of hq75 (km1 hq62 hks6))))⟩
