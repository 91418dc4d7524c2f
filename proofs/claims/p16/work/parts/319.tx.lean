set_option maxRecDepth 100000 in
set_option maxHeartbeats 4000000 in
theorem z_TX_begin {X : ab_X} {d : Nat} {o : Nat → Nat} {G : ab_G} {x : Nat} {lx : Nat} {se : Nat} {by_ : Nat} {n : Int} {pl : Int} {fa : Int} {fp : Int} {kd : Nat} {kn : Int} {r : Nat} {lr : Nat} {lim : Int} {b2 : Nat} {sz : Int} (hx : cc o G x lx (ab_ob 10 [vR se, vR by_, vz n, vz pl, vz fa, vz fp, vR kd, vz kn])) (hr : cc o G r lr (ab_ob 7 [vz lim, vR b2, vz sz])) (cl : 18 ≤ lx ∧ lr < lx) (n18 : ab_n0 = 18) : ab_F X d y_TX_begin (.code y_TX_begin b_TX_begin 2 none) [vR x, vR r] G (fun oc G2 => oc = .returned none ∧ fx o o [lx] G G2 ∧ G2.length = G.length ∧ ab_slots G2 = ab_slots G ∧ cc o G2 x lx (ab_ob 10 [vR se, vR b2, vz sz, vz 0, vz 0, vz (-1), vR kd, vz kn])) := by
  refine ab_F_of (by decide +kernel) (Nat.le_of_ble_eq_true rfl) ?_
  obtain ⟨Q, hQ⟩ : ∃ z : Outcome → ab_G → Prop, z = (fun oc G2 => oc = .returned none ∧ fx o o [lx] G G2 ∧ G2.length = G.length ∧ ab_slots G2 = ab_slots G ∧ cc o G2 x lx (ab_ob 10 [vR se, vR b2, vz sz, vz 0, vz 0, vz (-1), vR kd, vz kn])) := ⟨_, rfl⟩
  rw [← hQ]
  change ab_W X (ab_pl y_TX_begin b_TX_begin 2 none) d G 0 [some (vR x), some (vR r)] [] Q
  have hfr : fx o o [lx] G G := fx.rf
  have hlen : G.length = G.length := rfl
  have hsl : ab_slots G = ab_slots G := rfl
  refine ab_aload_n d_TX_begin_0 rfl ?_
  refine ab_aload_n d_TX_begin_1 rfl ?_
  refine ab_getf (fs := [vz lim, vR b2, vz sz]) f_TX_32 d_TX_begin_2 hr.2.2 rfl ?_
  refine ab_putf (fs := [vR se, vR by_, vz n, vz pl, vz fa, vz fp, vR kd, vz kn]) f_TX_18 (Or.inl rfl) d_TX_begin_5 hx.2.2 (Nat.le_of_ble_eq_true rfl) (fun _ => ⟨rfl, rfl⟩) (hx.2.1 (by first | omega | exact (show 18 ≤ _ by omega))) ?_
  obtain ⟨G1, eG1⟩ : ∃ z : ab_G, z = List.set G x (ab_ob 10 [vR se, vR b2, vz n, vz pl, vz fa, vz fp, vR kd, vz kn]) := ⟨_, rfl⟩
  have hr := hr.keep hx eG1 (by omega)
  have hlen := (z_len eG1).trans hlen
  have hsl := (z_sl hx eG1 rfl).trans hsl
  have hfr := hfr.wr hx eG1 (by simp)
  have hx := hx.kept eG1
  change ab_W _ _ _ (List.set G x (ab_ob 10 [vR se, vR b2, vz n, vz pl, vz fa, vz fp, vR kd, vz kn])) 8 [some (vR x), some (vR r)] [] _
  rw [← eG1]
  refine ab_aload_n d_TX_begin_8 rfl ?_
  refine ab_aload_n d_TX_begin_9 rfl ?_
  refine ab_getf (fs := [vz lim, vR b2, vz sz]) f_TX_37 d_TX_begin_10 hr.2.2 rfl ?_
  refine ab_putf (fs := [vR se, vR b2, vz n, vz pl, vz fa, vz fp, vR kd, vz kn]) f_TX_40 (Or.inl rfl) d_TX_begin_13 hx.2.2 (Nat.le_of_ble_eq_true rfl) (fun _ => ⟨rfl, rfl⟩) (hx.2.1 (by first | omega | exact (show 18 ≤ _ by omega))) ?_
  obtain ⟨G2, eG2⟩ : ∃ z : ab_G, z = List.set G1 x (ab_ob 10 [vR se, vR b2, vz sz, vz pl, vz fa, vz fp, vR kd, vz kn]) := ⟨_, rfl⟩
  have hr := hr.keep hx eG2 (by omega)
  have hlen := (z_len eG2).trans hlen
  have hsl := (z_sl hx eG2 rfl).trans hsl
  have hfr := hfr.wr hx eG2 (by simp)
  have hx := hx.kept eG2
  change ab_W _ _ _ (List.set G1 x (ab_ob 10 [vR se, vR b2, vz sz, vz pl, vz fa, vz fp, vR kd, vz kn])) 16 [some (vR x), some (vR r)] [] _
  rw [← eG2]
  refine ab_aload_n d_TX_begin_16 rfl ?_
  refine zz_iconst d_TX_begin_17 ?_
  refine ab_putf (fs := [vR se, vR b2, vz sz, vz pl, vz fa, vz fp, vR kd, vz kn]) f_TX_43 (Or.inl rfl) d_TX_begin_18 hx.2.2 (Nat.le_of_ble_eq_true rfl) (fun _ => ⟨rfl, rfl⟩) (hx.2.1 (by first | omega | exact (show 18 ≤ _ by omega))) ?_
  obtain ⟨G3, eG3⟩ : ∃ z : ab_G, z = List.set G2 x (ab_ob 10 [vR se, vR b2, vz sz, vz 0, vz fa, vz fp, vR kd, vz kn]) := ⟨_, rfl⟩
  have hr := hr.keep hx eG3 (by omega)
  have hlen := (z_len eG3).trans hlen
  have hsl := (z_sl hx eG3 rfl).trans hsl
  have hfr := hfr.wr hx eG3 (by simp)
  have hx := hx.kept eG3
  change ab_W _ _ _ (List.set G2 x (ab_ob 10 [vR se, vR b2, vz sz, vz 0, vz fa, vz fp, vR kd, vz kn])) 21 [some (vR x), some (vR r)] [] _
  rw [← eG3]
  refine ab_aload_n d_TX_begin_21 rfl ?_
  refine zz_iconst d_TX_begin_22 ?_
  refine ab_putf (fs := [vR se, vR b2, vz sz, vz 0, vz fa, vz fp, vR kd, vz kn]) f_TX_46 (Or.inl rfl) d_TX_begin_23 hx.2.2 (Nat.le_of_ble_eq_true rfl) (fun _ => ⟨rfl, rfl⟩) (hx.2.1 (by first | omega | exact (show 18 ≤ _ by omega))) ?_
  obtain ⟨G4, eG4⟩ : ∃ z : ab_G, z = List.set G3 x (ab_ob 10 [vR se, vR b2, vz sz, vz 0, vz 0, vz fp, vR kd, vz kn]) := ⟨_, rfl⟩
  have hr := hr.keep hx eG4 (by omega)
  have hlen := (z_len eG4).trans hlen
  have hsl := (z_sl hx eG4 rfl).trans hsl
  have hfr := hfr.wr hx eG4 (by simp)
  have hx := hx.kept eG4
  change ab_W _ _ _ (List.set G3 x (ab_ob 10 [vR se, vR b2, vz sz, vz 0, vz 0, vz fp, vR kd, vz kn])) 26 [some (vR x), some (vR r)] [] _
  rw [← eG4]
  refine ab_aload_n d_TX_begin_26 rfl ?_
  refine zz_iconst d_TX_begin_27 ?_
  refine ab_putf (fs := [vR se, vR b2, vz sz, vz 0, vz 0, vz fp, vR kd, vz kn]) f_TX_22 (Or.inl rfl) d_TX_begin_28 hx.2.2 (Nat.le_of_ble_eq_true rfl) (fun _ => ⟨rfl, rfl⟩) (hx.2.1 (by first | omega | exact (show 18 ≤ _ by omega))) ?_
  obtain ⟨G5, eG5⟩ : ∃ z : ab_G, z = List.set G4 x (ab_ob 10 [vR se, vR b2, vz sz, vz 0, vz 0, vz (-1), vR kd, vz kn]) := ⟨_, rfl⟩
  have hr := hr.keep hx eG5 (by omega)
  have hlen := (z_len eG5).trans hlen
  have hsl := (z_sl hx eG5 rfl).trans hsl
  have hfr := hfr.wr hx eG5 (by simp)
  have hx := hx.kept eG5
  change ab_W _ _ _ (List.set G4 x (ab_ob 10 [vR se, vR b2, vz sz, vz 0, vz 0, vz (-1), vR kd, vz kn])) 31 [some (vR x), some (vR r)] [] _
  rw [← eG5]
  refine ab_vret rfl d_TX_begin_31 ?_
  rw [hQ]; exact ⟨rfl, hfr, hlen, hsl, hx⟩
set_option maxRecDepth 100000 in
set_option maxHeartbeats 4000000 in
theorem z_TX_peek {X : ab_X} {d : Nat} {o : Nat → Nat} {G : ab_G} {x : Nat} {lx : Nat} {se : Nat} {by_ : Nat} {lby : Nat} {m : Nat} {f : Int → Int} {n : Int} {pl : Int} {fa : Int} {fp : Int} {kd : Nat} {kn : Int} {k : Int} (hx : cc o G x lx (ab_ob 10 [vR se, vR by_, vz n, vz pl, vz fa, vz fp, vR kd, vz kn])) (hby_ : cc o G by_ lby (za m f)) (c0 : 0 ≤ n ∧ n ≤ ↑m ∧ ↑m ≤ (100000 : Int) ∧ -100 ≤ pl ∧ pl ≤ 100000) (hb : bytes f n) (ck : -100 ≤ k ∧ k ≤ 100) : ab_F X d y_TX_peek (.code y_TX_peek b_TX_peek 3 (some (.int))) [vR x, vz k] G (fun oc G2 => ∃ v : Int, oc = .returned (some (vz v)) ∧ G2 = G ∧ (v = tpk f n (pl + k)) ∧ (-1 ≤ v ∧ v ≤ 255)) := by
  refine ab_F_of (by decide +kernel) (Nat.le_of_ble_eq_true rfl) ?_
  obtain ⟨Q, hQ⟩ : ∃ z : Outcome → ab_G → Prop, z = (fun oc G2 => ∃ v : Int, oc = .returned (some (vz v)) ∧ G2 = G ∧ (v = tpk f n (pl + k)) ∧ (-1 ≤ v ∧ v ≤ 255)) := ⟨_, rfl⟩
  rw [← hQ]
  change ab_W X (ab_pl y_TX_peek b_TX_peek 3 (some (.int))) d G 0 [some (vR x), some (vz k), none] [] Q
  have hfr : fx o o [] G G := fx.rf
  have hlen : G.length = G.length := rfl
  have hsl : ab_slots G = ab_slots G := rfl
  refine ab_aload_n d_TX_peek_0 rfl ?_
  refine ab_getf (fs := [vR se, vR by_, vz n, vz pl, vz fa, vz fp, vR kd, vz kn]) f_TX_43 d_TX_peek_1 hx.2.2 rfl ?_
  refine ab_iload_n d_TX_peek_4 rfl ?_
  refine zz_iadd d_TX_peek_5 ?_
  refine ab_istore_n d_TX_peek_6 (Nat.le_of_ble_eq_true rfl) (Nat.le_of_ble_eq_true rfl) rfl ?_
  change ab_W _ _ _ G 7 [some (vR x), some (vz k), some (vz (pl + k))] [] _
  refine ab_iload_n d_TX_peek_7 rfl ?_
  refine zz_if_lt (tgt := 28) d_TX_peek_8 (by decide) (by omega) (fun c1 => ?_) (fun c1 => ?_)
  · refine zz_iconst d_TX_peek_28 ?_
    refine zz_iret rfl d_TX_peek_29 ?_
    rw [hQ]; exact ⟨_, rfl, rfl, (by unfold tpk; first | rw [if_pos (by omega)] | rw [if_neg (by omega)]), (by omega)⟩
  · refine ab_iload_n d_TX_peek_11 rfl ?_
    refine ab_aload_n d_TX_peek_12 rfl ?_
    refine ab_getf (fs := [vR se, vR by_, vz n, vz pl, vz fa, vz fp, vR kd, vz kn]) f_TX_40 d_TX_peek_13 hx.2.2 rfl ?_
    refine zz_icmp_ge (tgt := 28) d_TX_peek_16 (by decide) (by omega) (by omega) (fun c2 => ?_) (fun c2 => ?_)
    · refine zz_iconst d_TX_peek_28 ?_
      refine zz_iret rfl d_TX_peek_29 ?_
      rw [hQ]; exact ⟨_, rfl, rfl, (by unfold tpk; first | rw [if_pos (by omega)] | rw [if_neg (by omega)]), (by omega)⟩
    · refine ab_aload_n d_TX_peek_19 rfl ?_
      refine ab_getf (fs := [vR se, vR by_, vz n, vz pl, vz fa, vz fp, vR kd, vz kn]) f_TX_18 d_TX_peek_20 hx.2.2 rfl ?_
      refine ab_iload_n d_TX_peek_23 rfl ?_
      refine zz_iald d_TX_peek_24 hby_ (by omega) ?_
      have hq3 := hb (pl + k) (by omega) (by omega)
      refine ab_goto (tgt := 29) d_TX_peek_25 (by decide) ?_
      refine zz_iret rfl d_TX_peek_29 ?_
      rw [hQ]; exact ⟨_, rfl, rfl, (by unfold tpk; first | rw [if_pos (by omega)] | rw [if_neg (by omega)]), (by omega)⟩
set_option maxRecDepth 100000 in
set_option maxHeartbeats 4000000 in
theorem z_TX_peek0 {X : ab_X} {d : Nat} {o : Nat → Nat} {G : ab_G} {x : Nat} {lx : Nat} {se : Nat} {by_ : Nat} {lby : Nat} {m : Nat} {f : Int → Int} {n : Int} {pl : Int} {fa : Int} {fp : Int} {kd : Nat} {kn : Int} (hx : cc o G x lx (ab_ob 10 [vR se, vR by_, vz n, vz pl, vz fa, vz fp, vR kd, vz kn])) (hby_ : cc o G by_ lby (za m f)) (c0 : 0 ≤ n ∧ n ≤ ↑m ∧ ↑m ≤ (100000 : Int) ∧ -100 ≤ pl ∧ pl ≤ 100000) (hb : bytes f n) : ab_F X d y_TX_peek (.code y_TX_peek b_TX_peek 3 (some (.int))) [vR x, vz 0] G (fun oc G2 => ∃ v : Int, oc = .returned (some (vz v)) ∧ G2 = G ∧ (v = tpk f n pl) ∧ (-1 ≤ v ∧ v ≤ 255)) := by
  refine ab_F_of (by decide +kernel) (Nat.le_of_ble_eq_true rfl) ?_
  obtain ⟨Q, hQ⟩ : ∃ z : Outcome → ab_G → Prop, z = (fun oc G2 => ∃ v : Int, oc = .returned (some (vz v)) ∧ G2 = G ∧ (v = tpk f n pl) ∧ (-1 ≤ v ∧ v ≤ 255)) := ⟨_, rfl⟩
  rw [← hQ]
  change ab_W X (ab_pl y_TX_peek b_TX_peek 3 (some (.int))) d G 0 [some (vR x), some (vz 0), none] [] Q
  have hfr : fx o o [] G G := fx.rf
  have hlen : G.length = G.length := rfl
  have hsl : ab_slots G = ab_slots G := rfl
  refine ab_aload_n d_TX_peek_0 rfl ?_
  refine ab_getf (fs := [vR se, vR by_, vz n, vz pl, vz fa, vz fp, vR kd, vz kn]) f_TX_43 d_TX_peek_1 hx.2.2 rfl ?_
  refine ab_iload_n d_TX_peek_4 rfl ?_
  refine zz_iadd d_TX_peek_5 ?_
  refine ab_istore_n d_TX_peek_6 (Nat.le_of_ble_eq_true rfl) (Nat.le_of_ble_eq_true rfl) rfl ?_
  change ab_W _ _ _ G 7 [some (vR x), some (vz 0), some (vz (pl + 0))] [] _
  refine ab_iload_n d_TX_peek_7 rfl ?_
  refine zz_if_lt (tgt := 28) d_TX_peek_8 (by decide) (by omega) (fun c1 => ?_) (fun c1 => ?_)
  · refine zz_iconst d_TX_peek_28 ?_
    refine zz_iret rfl d_TX_peek_29 ?_
    rw [hQ]; exact ⟨_, rfl, rfl, (by unfold tpk; rw [show pl + 0 = pl by omega] at *; first | rw [if_pos (by omega)] | rw [if_neg (by omega)]), (by omega)⟩
  · refine ab_iload_n d_TX_peek_11 rfl ?_
    refine ab_aload_n d_TX_peek_12 rfl ?_
    refine ab_getf (fs := [vR se, vR by_, vz n, vz pl, vz fa, vz fp, vR kd, vz kn]) f_TX_40 d_TX_peek_13 hx.2.2 rfl ?_
    refine zz_icmp_ge (tgt := 28) d_TX_peek_16 (by decide) (by omega) (by omega) (fun c2 => ?_) (fun c2 => ?_)
    · refine zz_iconst d_TX_peek_28 ?_
      refine zz_iret rfl d_TX_peek_29 ?_
      rw [hQ]; exact ⟨_, rfl, rfl, (by unfold tpk; rw [show pl + 0 = pl by omega] at *; first | rw [if_pos (by omega)] | rw [if_neg (by omega)]), (by omega)⟩
    · refine ab_aload_n d_TX_peek_19 rfl ?_
      refine ab_getf (fs := [vR se, vR by_, vz n, vz pl, vz fa, vz fp, vR kd, vz kn]) f_TX_18 d_TX_peek_20 hx.2.2 rfl ?_
      refine ab_iload_n d_TX_peek_23 rfl ?_
      refine zz_iald d_TX_peek_24 hby_ (by omega) ?_
      have hq3 := hb (pl + 0) (by omega) (by omega)
      refine ab_goto (tgt := 29) d_TX_peek_25 (by decide) ?_
      refine zz_iret rfl d_TX_peek_29 ?_
      rw [hQ]; exact ⟨_, rfl, rfl, (by unfold tpk; rw [show pl + 0 = pl by omega] at *; first | rw [if_pos (by omega)] | rw [if_neg (by omega)]), (by omega)⟩
set_option maxRecDepth 100000 in
set_option maxHeartbeats 4000000 in
theorem z_TX_fail {X : ab_X} {d : Nat} {o : Nat → Nat} {G : ab_G} {x : Nat} {lx : Nat} {se : Nat} {by_ : Nat} {n : Int} {pl : Int} {fa : Int} {fp : Int} {kd : Nat} {kn : Int} {w : Int} {p : Int} (hx : cc o G x lx (ab_ob 10 [vR se, vR by_, vz n, vz pl, vz fa, vz fp, vR kd, vz kn])) (c1 : 0 ≤ fa ∧ fa ≤ 100) (cl : 18 ≤ lx) (n18 : ab_n0 = 18) : ab_F X d y_TX_fail (.code y_TX_fail b_TX_fail 3 (some (.int))) [vR x, vz w, vz p] G (fun oc G2 => (oc = .returned (some (vz (-1))) ∧ fx o o [lx] G G2 ∧ G2.length = G.length ∧ ab_slots G2 = ab_slots G ∧ cc o G2 x lx (ab_ob 10 [vR se, vR by_, vz n, vz pl, vz w, vz p, vR kd, vz kn]) ∧ (fa = 0)) ∨ (oc = .returned (some (vz (-1))) ∧ G2 = G ∧ (¬ fa = 0))) := by
  refine ab_F_of (by decide +kernel) (Nat.le_of_ble_eq_true rfl) ?_
  obtain ⟨Q, hQ⟩ : ∃ z : Outcome → ab_G → Prop, z = (fun oc G2 => (oc = .returned (some (vz (-1))) ∧ fx o o [lx] G G2 ∧ G2.length = G.length ∧ ab_slots G2 = ab_slots G ∧ cc o G2 x lx (ab_ob 10 [vR se, vR by_, vz n, vz pl, vz w, vz p, vR kd, vz kn]) ∧ (fa = 0)) ∨ (oc = .returned (some (vz (-1))) ∧ G2 = G ∧ (¬ fa = 0))) := ⟨_, rfl⟩
  rw [← hQ]
  change ab_W X (ab_pl y_TX_fail b_TX_fail 3 (some (.int))) d G 0 [some (vR x), some (vz w), some (vz p)] [] Q
  have hfr : fx o o [lx] G G := fx.rf
  have hlen : G.length = G.length := rfl
  have hsl : ab_slots G = ab_slots G := rfl
  refine ab_aload_n d_TX_fail_0 rfl ?_
  refine ab_getf (fs := [vR se, vR by_, vz n, vz pl, vz fa, vz fp, vR kd, vz kn]) f_TX_46 d_TX_fail_1 hx.2.2 rfl ?_
  refine zz_if_ne (tgt := 17) d_TX_fail_4 (by decide) (by omega) (fun c1 => ?_) (fun c1 => ?_)
  · refine zz_iconst d_TX_fail_17 ?_
    refine zz_iret rfl d_TX_fail_18 ?_
    rw [hQ]; first | exact (Or.inl ⟨rfl, hfr, hlen, hsl, hx, (by omega)⟩) | exact (Or.inr ⟨rfl, rfl, (by omega)⟩)
  · refine ab_aload_n d_TX_fail_7 rfl ?_
    refine ab_iload_n d_TX_fail_8 rfl ?_
    refine ab_putf (fs := [vR se, vR by_, vz n, vz pl, vz fa, vz fp, vR kd, vz kn]) f_TX_46 (Or.inl rfl) d_TX_fail_9 hx.2.2 (Nat.le_of_ble_eq_true rfl) (fun _ => ⟨rfl, rfl⟩) (hx.2.1 (by first | omega | exact (show 18 ≤ _ by omega))) ?_
    obtain ⟨G2, eG2⟩ : ∃ z : ab_G, z = List.set G x (ab_ob 10 [vR se, vR by_, vz n, vz pl, vz w, vz fp, vR kd, vz kn]) := ⟨_, rfl⟩
    have hlen := (z_len eG2).trans hlen
    have hsl := (z_sl hx eG2 rfl).trans hsl
    have hfr := hfr.wr hx eG2 (by simp)
    have hx := hx.kept eG2
    change ab_W _ _ _ (List.set G x (ab_ob 10 [vR se, vR by_, vz n, vz pl, vz w, vz fp, vR kd, vz kn])) 12 [some (vR x), some (vz w), some (vz p)] [] _
    rw [← eG2]
    refine ab_aload_n d_TX_fail_12 rfl ?_
    refine ab_iload_n d_TX_fail_13 rfl ?_
    refine ab_putf (fs := [vR se, vR by_, vz n, vz pl, vz w, vz fp, vR kd, vz kn]) f_TX_22 (Or.inl rfl) d_TX_fail_14 hx.2.2 (Nat.le_of_ble_eq_true rfl) (fun _ => ⟨rfl, rfl⟩) (hx.2.1 (by first | omega | exact (show 18 ≤ _ by omega))) ?_
    obtain ⟨G3, eG3⟩ : ∃ z : ab_G, z = List.set G2 x (ab_ob 10 [vR se, vR by_, vz n, vz pl, vz w, vz p, vR kd, vz kn]) := ⟨_, rfl⟩
    have hlen := (z_len eG3).trans hlen
    have hsl := (z_sl hx eG3 rfl).trans hsl
    have hfr := hfr.wr hx eG3 (by simp)
    have hx := hx.kept eG3
    change ab_W _ _ _ (List.set G2 x (ab_ob 10 [vR se, vR by_, vz n, vz pl, vz w, vz p, vR kd, vz kn])) 17 [some (vR x), some (vz w), some (vz p)] [] _
    rw [← eG3]
    refine zz_iconst d_TX_fail_17 ?_
    refine zz_iret rfl d_TX_fail_18 ?_
    rw [hQ]; exact (Or.inl ⟨rfl, hfr, hlen, hsl, hx, (by omega)⟩)
set_option maxRecDepth 100000 in
set_option maxHeartbeats 4000000 in
theorem z_TX_character {X : ab_X} {d : Nat} {o : Nat → Nat} {G : ab_G} {x : Nat} {lx : Nat} {se : Nat} {by_ : Nat} {lby : Nat} {m : Nat} {f : Int → Int} {n : Int} {pl : Int} {fa : Int} {fp : Int} {kd : Nat} {kn : Int} (hx : cc o G x lx (ab_ob 10 [vR se, vR by_, vz n, vz pl, vz fa, vz fp, vR kd, vz kn])) (hby_ : cc o G by_ lby (za m f)) (c0 : 0 ≤ n ∧ n ≤ ↑m ∧ ↑m ≤ (100000 : Int) ∧ -100 ≤ pl ∧ pl ≤ 100000) (hb : bytes f n) (cf : fa = 0) (cl : 18 ≤ lby ∧ lby < lx) (n18 : ab_n0 = 18) (hd : 2 ≤ d) : ab_F X d y_TX_character (.code y_TX_character b_TX_character 2 (some (.int))) [vR x] G (fun oc G2 => (oc = .returned (some (vz (-1))) ∧ fx o o [lx] G G2 ∧ G2.length = G.length ∧ ab_slots G2 = ab_slots G ∧ cc o G2 x lx (ab_ob 10 [vR se, vR by_, vz n, vz pl, vz 1, vz pl, vR kd, vz kn]) ∧ (u8 f n pl = -1)) ∨ (∃ v : Int, ∃ p2 : Int, oc = .returned (some (vz v)) ∧ fx o o [lx] G G2 ∧ G2.length = G.length ∧ ab_slots G2 = ab_slots G ∧ cc o G2 x lx (ab_ob 10 [vR se, vR by_, vz n, vz p2, vz fa, vz fp, vR kd, vz kn]) ∧ (v = u8 f n pl) ∧ (0 ≤ v ∧ v ≤ 1114111) ∧ (p2 = pl + wd v) ∧ (pl < p2 ∧ p2 ≤ pl + 4))) := by
  refine ab_F_of (by decide +kernel) (Nat.le_of_ble_eq_true rfl) ?_
  obtain ⟨Q, hQ⟩ : ∃ z : Outcome → ab_G → Prop, z = (fun oc G2 => (oc = .returned (some (vz (-1))) ∧ fx o o [lx] G G2 ∧ G2.length = G.length ∧ ab_slots G2 = ab_slots G ∧ cc o G2 x lx (ab_ob 10 [vR se, vR by_, vz n, vz pl, vz 1, vz pl, vR kd, vz kn]) ∧ (u8 f n pl = -1)) ∨ (∃ v : Int, ∃ p2 : Int, oc = .returned (some (vz v)) ∧ fx o o [lx] G G2 ∧ G2.length = G.length ∧ ab_slots G2 = ab_slots G ∧ cc o G2 x lx (ab_ob 10 [vR se, vR by_, vz n, vz p2, vz fa, vz fp, vR kd, vz kn]) ∧ (v = u8 f n pl) ∧ (0 ≤ v ∧ v ≤ 1114111) ∧ (p2 = pl + wd v) ∧ (pl < p2 ∧ p2 ≤ pl + 4))) := ⟨_, rfl⟩
  rw [← hQ]
  change ab_W X (ab_pl y_TX_character b_TX_character 2 (some (.int))) d G 0 [some (vR x), none] [] Q
  have hfr : fx o o [lx] G G := fx.rf
  have hlen : G.length = G.length := rfl
  have hsl : ab_slots G = ab_slots G := rfl
  refine ab_aload_n d_TX_character_0 rfl ?_
  refine ab_getf (fs := [vR se, vR by_, vz n, vz pl, vz fa, vz fp, vR kd, vz kn]) f_TX_18 d_TX_character_1 hx.2.2 rfl ?_
  refine ab_aload_n d_TX_character_4 rfl ?_
  refine ab_getf (fs := [vR se, vR by_, vz n, vz pl, vz fa, vz fp, vR kd, vz kn]) f_TX_43 d_TX_character_5 hx.2.2 rfl ?_
  refine ab_aload_n d_TX_character_8 rfl ?_
  refine ab_getf (fs := [vR se, vR by_, vz n, vz pl, vz fa, vz fp, vR kd, vz kn]) f_TX_40 d_TX_character_9 hx.2.2 rfl ?_
  refine ab_callS (d' := d - 1) (as := [vR by_, vz pl, vz n]) (st := []) (z_PW_codeAt (o := o) (a := by_) (l := lby) (m := m) (f := f) (p := pl) (n := n) hby_ (by omega) hb (by omega)) (fun oc G2 h => by rcases h with ⟨_, h, _⟩ <;> exact ⟨_, h⟩) (by omega) m_PW_codeAt ml_TX_49 st_PW_codeAt (Nat.le_of_ble_eq_true rfl) d_TX_character_12 rfl ?_
  intro v G1 hq
  rcases hq with ⟨v2, hv, hGe, hq3⟩
  cases hv
  rw [hGe]
  change ab_W _ _ _ G 15 [some (vR x), none] [vz v2] _
  refine ab_istore_n d_TX_character_15 (Nat.le_of_ble_eq_true rfl) (Nat.le_of_ble_eq_true rfl) rfl ?_
  change ab_W _ _ _ G 16 [some (vR x), some (vz v2)] [] _
  have hq4 := u8_in hb pl
  rw [← hq3] at hq4
  refine ab_iload_n d_TX_character_16 rfl ?_
  refine zz_iconst d_TX_character_17 ?_
  refine zz_icmp_ne (tgt := 31) d_TX_character_18 (by decide) (by omega) (by decide) (fun c5 => ?_) (fun c5 => ?_)
  · refine ab_aload_n d_TX_character_31 rfl ?_
    refine ab_dup d_TX_character_32 rfl ?_
    refine ab_getf (fs := [vR se, vR by_, vz n, vz pl, vz fa, vz fp, vR kd, vz kn]) f_TX_43 d_TX_character_33 hx.2.2 rfl ?_
    refine ab_iload_n d_TX_character_36 rfl ?_
    refine ab_callS (d' := d - 1) (as := [vz v2]) (st := [vz pl, vR x]) (z_PW_widthOf (o := o) (x := v2) (by omega)) (fun oc G2 h => by rcases h with ⟨h, _⟩ | ⟨h, _⟩ | ⟨h, _⟩ | ⟨h, _⟩ <;> exact ⟨_, h⟩) (by omega) m_PW_widthOf ml_TX_57 st_PW_widthOf (Nat.le_of_ble_eq_true rfl) d_TX_character_37 rfl ?_
    intro v G6 hq
    rcases hq with ⟨hv, hGe, hq7⟩ | ⟨hv, hGe, hq8⟩ | ⟨hv, hGe, hq9⟩ | ⟨hv, hGe, hq10⟩
    · cases hv
      rw [hGe]
      change ab_W _ _ _ G 40 [some (vR x), some (vz v2)] [vz 1, vz pl, vR x] _
      refine zz_iadd d_TX_character_40 ?_
      refine ab_putf (fs := [vR se, vR by_, vz n, vz pl, vz fa, vz fp, vR kd, vz kn]) f_TX_43 (Or.inl rfl) d_TX_character_41 hx.2.2 (Nat.le_of_ble_eq_true rfl) (fun _ => ⟨rfl, rfl⟩) (hx.2.1 (by first | omega | exact (show 18 ≤ _ by omega))) ?_
      obtain ⟨G11, eG11⟩ : ∃ z : ab_G, z = List.set G x (ab_ob 10 [vR se, vR by_, vz n, vz (pl + 1), vz fa, vz fp, vR kd, vz kn]) := ⟨_, rfl⟩
      have hby_ := hby_.keep hx eG11 (by omega)
      have hlen := (z_len eG11).trans hlen
      have hsl := (z_sl hx eG11 rfl).trans hsl
      have hfr := hfr.wr hx eG11 (by simp)
      have hx := hx.kept eG11
      change ab_W _ _ _ (List.set G x (ab_ob 10 [vR se, vR by_, vz n, vz (pl + 1), vz fa, vz fp, vR kd, vz kn])) 44 [some (vR x), some (vz v2)] [] _
      rw [← eG11]
      refine ab_iload_n d_TX_character_44 rfl ?_
      refine zz_iret rfl d_TX_character_45 ?_
      rw [hQ]; first | exact (Or.inl ⟨rfl, hfr, hlen, hsl, hx, (by rw [← hq3]; omega)⟩) | exact (Or.inr ⟨_, _, rfl, hfr, hlen, hsl, hx, (by assumption), (by omega), (by congr 1; unfold wd; first | rw [if_pos (by omega)] | rw [if_neg (by omega), if_pos (by omega)] | rw [if_neg (by omega), if_neg (by omega), if_pos (by omega)] | rw [if_neg (by omega), if_neg (by omega), if_neg (by omega)]), (by omega)⟩)
    · cases hv
      rw [hGe]
      change ab_W _ _ _ G 40 [some (vR x), some (vz v2)] [vz 2, vz pl, vR x] _
      refine zz_iadd d_TX_character_40 ?_
      refine ab_putf (fs := [vR se, vR by_, vz n, vz pl, vz fa, vz fp, vR kd, vz kn]) f_TX_43 (Or.inl rfl) d_TX_character_41 hx.2.2 (Nat.le_of_ble_eq_true rfl) (fun _ => ⟨rfl, rfl⟩) (hx.2.1 (by first | omega | exact (show 18 ≤ _ by omega))) ?_
      obtain ⟨G12, eG12⟩ : ∃ z : ab_G, z = List.set G x (ab_ob 10 [vR se, vR by_, vz n, vz (pl + 2), vz fa, vz fp, vR kd, vz kn]) := ⟨_, rfl⟩
      have hby_ := hby_.keep hx eG12 (by omega)
      have hlen := (z_len eG12).trans hlen
      have hsl := (z_sl hx eG12 rfl).trans hsl
      have hfr := hfr.wr hx eG12 (by simp)
      have hx := hx.kept eG12
      change ab_W _ _ _ (List.set G x (ab_ob 10 [vR se, vR by_, vz n, vz (pl + 2), vz fa, vz fp, vR kd, vz kn])) 44 [some (vR x), some (vz v2)] [] _
      rw [← eG12]
      refine ab_iload_n d_TX_character_44 rfl ?_
      refine zz_iret rfl d_TX_character_45 ?_
      rw [hQ]; first | exact (Or.inl ⟨rfl, hfr, hlen, hsl, hx, (by rw [← hq3]; omega)⟩) | exact (Or.inr ⟨_, _, rfl, hfr, hlen, hsl, hx, (by assumption), (by omega), (by congr 1; unfold wd; first | rw [if_pos (by omega)] | rw [if_neg (by omega), if_pos (by omega)] | rw [if_neg (by omega), if_neg (by omega), if_pos (by omega)] | rw [if_neg (by omega), if_neg (by omega), if_neg (by omega)]), (by omega)⟩)
    · cases hv
      rw [hGe]
      change ab_W _ _ _ G 40 [some (vR x), some (vz v2)] [vz 3, vz pl, vR x] _
      refine zz_iadd d_TX_character_40 ?_
      refine ab_putf (fs := [vR se, vR by_, vz n, vz pl, vz fa, vz fp, vR kd, vz kn]) f_TX_43 (Or.inl rfl) d_TX_character_41 hx.2.2 (Nat.le_of_ble_eq_true rfl) (fun _ => ⟨rfl, rfl⟩) (hx.2.1 (by first | omega | exact (show 18 ≤ _ by omega))) ?_
      obtain ⟨G13, eG13⟩ : ∃ z : ab_G, z = List.set G x (ab_ob 10 [vR se, vR by_, vz n, vz (pl + 3), vz fa, vz fp, vR kd, vz kn]) := ⟨_, rfl⟩
      have hby_ := hby_.keep hx eG13 (by omega)
      have hlen := (z_len eG13).trans hlen
      have hsl := (z_sl hx eG13 rfl).trans hsl
      have hfr := hfr.wr hx eG13 (by simp)
      have hx := hx.kept eG13
      change ab_W _ _ _ (List.set G x (ab_ob 10 [vR se, vR by_, vz n, vz (pl + 3), vz fa, vz fp, vR kd, vz kn])) 44 [some (vR x), some (vz v2)] [] _
      rw [← eG13]
      refine ab_iload_n d_TX_character_44 rfl ?_
      refine zz_iret rfl d_TX_character_45 ?_
      rw [hQ]; first | exact (Or.inl ⟨rfl, hfr, hlen, hsl, hx, (by rw [← hq3]; omega)⟩) | exact (Or.inr ⟨_, _, rfl, hfr, hlen, hsl, hx, (by assumption), (by omega), (by congr 1; unfold wd; first | rw [if_pos (by omega)] | rw [if_neg (by omega), if_pos (by omega)] | rw [if_neg (by omega), if_neg (by omega), if_pos (by omega)] | rw [if_neg (by omega), if_neg (by omega), if_neg (by omega)]), (by omega)⟩)
    · cases hv
      rw [hGe]
      change ab_W _ _ _ G 40 [some (vR x), some (vz v2)] [vz 4, vz pl, vR x] _
      refine zz_iadd d_TX_character_40 ?_
      refine ab_putf (fs := [vR se, vR by_, vz n, vz pl, vz fa, vz fp, vR kd, vz kn]) f_TX_43 (Or.inl rfl) d_TX_character_41 hx.2.2 (Nat.le_of_ble_eq_true rfl) (fun _ => ⟨rfl, rfl⟩) (hx.2.1 (by first | omega | exact (show 18 ≤ _ by omega))) ?_
      obtain ⟨G14, eG14⟩ : ∃ z : ab_G, z = List.set G x (ab_ob 10 [vR se, vR by_, vz n, vz (pl + 4), vz fa, vz fp, vR kd, vz kn]) := ⟨_, rfl⟩
      have hby_ := hby_.keep hx eG14 (by omega)
      have hlen := (z_len eG14).trans hlen
      have hsl := (z_sl hx eG14 rfl).trans hsl
      have hfr := hfr.wr hx eG14 (by simp)
      have hx := hx.kept eG14
      change ab_W _ _ _ (List.set G x (ab_ob 10 [vR se, vR by_, vz n, vz (pl + 4), vz fa, vz fp, vR kd, vz kn])) 44 [some (vR x), some (vz v2)] [] _
      rw [← eG14]
      refine ab_iload_n d_TX_character_44 rfl ?_
      refine zz_iret rfl d_TX_character_45 ?_
      rw [hQ]; first | exact (Or.inl ⟨rfl, hfr, hlen, hsl, hx, (by rw [← hq3]; omega)⟩) | exact (Or.inr ⟨_, _, rfl, hfr, hlen, hsl, hx, (by assumption), (by omega), (by congr 1; unfold wd; first | rw [if_pos (by omega)] | rw [if_neg (by omega), if_pos (by omega)] | rw [if_neg (by omega), if_neg (by omega), if_pos (by omega)] | rw [if_neg (by omega), if_neg (by omega), if_neg (by omega)]), (by omega)⟩)
  · refine ab_aload_n d_TX_character_21 rfl ?_
    refine zz_iconst d_TX_character_22 ?_
    refine ab_aload_n d_TX_character_23 rfl ?_
    refine ab_getf (fs := [vR se, vR by_, vz n, vz pl, vz fa, vz fp, vR kd, vz kn]) f_TX_43 d_TX_character_24 hx.2.2 rfl ?_
    refine ab_callV (d' := d - 1) (as := [vz 1, vz pl]) (st := []) (r := _) (z_TX_fail (o := o) (x := x) (lx := lx) (se := se) (by_ := by_) (n := n) (pl := pl) (fa := fa) (fp := fp) (kd := kd) (kn := kn) (w := 1) (p := pl) hx (by omega) (by omega) (by omega)) (fun oc G2 h => by rcases h with ⟨h, _⟩ | ⟨h, _⟩ <;> exact ⟨_, h⟩) (by omega) m_TX_fail ml_TX_53 im_TX_fail se_TX_fail c_TX hx.2.2 (Nat.le_of_ble_eq_true rfl) d_TX_character_27 rfl ?_
    intro v G15 hq
    rcases hq with ⟨hv, hfk, hlk, hsk, hNx, hq16⟩ | ⟨hv, hGe, hq17⟩
    · cases hv
      have hby_ := hfk.get hby_ (by simp only [List.mem_cons, List.not_mem_nil, or_false]; omega)
      have hfr := hfr.tr hfk (by simp)
      have hlen := hlk.trans hlen
      have hsl := hsk.trans hsl
      have hx := hNx
      change ab_W _ _ _ G15 30 [some (vR x), some (vz v2)] [vz (-1)] _
      refine zz_iret rfl d_TX_character_30 ?_
      rw [hQ]; first | exact (Or.inl ⟨rfl, hfr, hlen, hsl, hx, (by rw [← hq3]; omega)⟩) | exact (Or.inr ⟨_, _, rfl, hfr, hlen, hsl, hx, (by assumption), (by omega), (by congr 1; unfold wd; first | rw [if_pos (by omega)] | rw [if_neg (by omega), if_pos (by omega)] | rw [if_neg (by omega), if_neg (by omega), if_pos (by omega)] | rw [if_neg (by omega), if_neg (by omega), if_neg (by omega)]), (by omega)⟩)
    · cases hv
      rw [hGe]
      change ab_W _ _ _ G 30 [some (vR x), some (vz v2)] [vz (-1)] _
      exfalso; omega
set_option maxRecDepth 100000 in
set_option maxHeartbeats 4000000 in
theorem z_TX_aKind {X : ab_X} {d : Nat} {o : Nat → Nat} {G : ab_G} {x : Nat} {lx : Nat} {se : Nat} {by_ : Nat} {n : Int} {pl : Int} {fa : Int} {fp : Int} {kd : Nat} {kn : Int} {a : Nat} {b : Int} (hx : cc o G x lx (ab_ob 10 [vR se, vR by_, vz n, vz pl, vz fa, vz fp, vR kd, vz kn])) (cb : b = 0 ∨ b = 1) (cl : 18 ≤ lx) (n18 : ab_n0 = 18) : ab_F X d y_TX_aKind (.code y_TX_aKind b_TX_aKind 3 (some (.int))) [vR x, vR a, vz b] G (fun oc G2 => oc = .returned (some (vz (-2))) ∧ fx o o [lx] G G2 ∧ G2.length = G.length ∧ ab_slots G2 = ab_slots G ∧ cc o G2 x lx (ab_ob 10 [vR se, vR by_, vz n, vz pl, vz fa, vz fp, vR a, vz b])) := by
  refine ab_F_of (by decide +kernel) (Nat.le_of_ble_eq_true rfl) ?_
  obtain ⟨Q, hQ⟩ : ∃ z : Outcome → ab_G → Prop, z = (fun oc G2 => oc = .returned (some (vz (-2))) ∧ fx o o [lx] G G2 ∧ G2.length = G.length ∧ ab_slots G2 = ab_slots G ∧ cc o G2 x lx (ab_ob 10 [vR se, vR by_, vz n, vz pl, vz fa, vz fp, vR a, vz b])) := ⟨_, rfl⟩
  rw [← hQ]
  change ab_W X (ab_pl y_TX_aKind b_TX_aKind 3 (some (.int))) d G 0 [some (vR x), some (vR a), some (vz b)] [] Q
  have hfr : fx o o [lx] G G := fx.rf
  have hlen : G.length = G.length := rfl
  have hsl : ab_slots G = ab_slots G := rfl
  refine ab_aload_n d_TX_aKind_0 rfl ?_
  refine ab_aload_n d_TX_aKind_1 rfl ?_
  refine ab_putf (fs := [vR se, vR by_, vz n, vz pl, vz fa, vz fp, vR kd, vz kn]) f_TX_29 (Or.inl rfl) d_TX_aKind_2 hx.2.2 (Nat.le_of_ble_eq_true rfl) (fun _ => ⟨rfl, rfl⟩) (hx.2.1 (by first | omega | exact (show 18 ≤ _ by omega))) ?_
  obtain ⟨G1, eG1⟩ : ∃ z : ab_G, z = List.set G x (ab_ob 10 [vR se, vR by_, vz n, vz pl, vz fa, vz fp, vR a, vz kn]) := ⟨_, rfl⟩
  have hlen := (z_len eG1).trans hlen
  have hsl := (z_sl hx eG1 rfl).trans hsl
  have hfr := hfr.wr hx eG1 (by simp)
  have hx := hx.kept eG1
  change ab_W _ _ _ (List.set G x (ab_ob 10 [vR se, vR by_, vz n, vz pl, vz fa, vz fp, vR a, vz kn])) 5 [some (vR x), some (vR a), some (vz b)] [] _
  rw [← eG1]
  refine ab_aload_n d_TX_aKind_5 rfl ?_
  refine ab_iload_n d_TX_aKind_6 rfl ?_
  refine ab_putf (fs := [vR se, vR by_, vz n, vz pl, vz fa, vz fp, vR a, vz kn]) f_TX_85 (Or.inl rfl) d_TX_aKind_7 hx.2.2 (Nat.le_of_ble_eq_true rfl) (ab_fbz (by omega)) (hx.2.1 (by first | omega | exact (show 18 ≤ _ by omega))) ?_
  obtain ⟨G2, eG2⟩ : ∃ z : ab_G, z = List.set G1 x (ab_ob 10 [vR se, vR by_, vz n, vz pl, vz fa, vz fp, vR a, vz b]) := ⟨_, rfl⟩
  have hlen := (z_len eG2).trans hlen
  have hsl := (z_sl hx eG2 rfl).trans hsl
  have hfr := hfr.wr hx eG2 (by simp)
  have hx := hx.kept eG2
  change ab_W _ _ _ (List.set G1 x (ab_ob 10 [vR se, vR by_, vz n, vz pl, vz fa, vz fp, vR a, vz b])) 10 [some (vR x), some (vR a), some (vz b)] [] _
  rw [← eG2]
  refine zz_bipush d_TX_aKind_10 (by decide) ?_
  refine zz_iret rfl d_TX_aKind_12 ?_
  rw [hQ]; exact ⟨rfl, hfr, hlen, hsl, hx⟩
set_option maxRecDepth 100000 in
set_option maxHeartbeats 4000000 in
theorem z_TX_hexDigit {X : ab_X} {d : Nat} {o : Nat → Nat} {G : ab_G} {x : Nat} {lx : Nat} {se : Nat} {by_ : Nat} {lby : Nat} {m : Nat} {f : Int → Int} {n : Int} {pl : Int} {fa : Int} {fp : Int} {kd : Nat} {kn : Int} {p : Int} (hx : cc o G x lx (ab_ob 10 [vR se, vR by_, vz n, vz pl, vz fa, vz fp, vR kd, vz kn])) (hby_ : cc o G by_ lby (za m f)) (c0 : 0 ≤ n ∧ n ≤ ↑m ∧ ↑m ≤ (100000 : Int) ∧ -100 ≤ pl ∧ pl ≤ 100000) (hb : bytes f n) (cp : 0 ≤ p ∧ p ≤ 100000) : ab_F X d y_TX_hexDigit (.code y_TX_hexDigit b_TX_hexDigit 4 (some (.int))) [vR x, vz p] G (fun oc G2 => ∃ v : Int, oc = .returned (some (vz v)) ∧ G2 = G ∧ (v = hxd (tpk f n p)) ∧ (-1 ≤ v ∧ v ≤ 15)) := by
  refine ab_F_of (by decide +kernel) (Nat.le_of_ble_eq_true rfl) ?_
  obtain ⟨Q, hQ⟩ : ∃ z : Outcome → ab_G → Prop, z = (fun oc G2 => ∃ v : Int, oc = .returned (some (vz v)) ∧ G2 = G ∧ (v = hxd (tpk f n p)) ∧ (-1 ≤ v ∧ v ≤ 15)) := ⟨_, rfl⟩
  rw [← hQ]
  change ab_W X (ab_pl y_TX_hexDigit b_TX_hexDigit 4 (some (.int))) d G 0 [some (vR x), some (vz p), none, none] [] Q
  have hfr : fx o o [] G G := fx.rf
  have hlen : G.length = G.length := rfl
  have hsl : ab_slots G = ab_slots G := rfl
  refine ab_iload_n d_TX_hexDigit_0 rfl ?_
  refine ab_aload_n d_TX_hexDigit_1 rfl ?_
  refine ab_getf (fs := [vR se, vR by_, vz n, vz pl, vz fa, vz fp, vR kd, vz kn]) f_TX_40 d_TX_hexDigit_2 hx.2.2 rfl ?_
  refine zz_icmp_ge (tgt := 17) d_TX_hexDigit_5 (by decide) (by omega) (by omega) (fun c1 => ?_) (fun c1 => ?_)
  · refine zz_iconst d_TX_hexDigit_17 ?_
    refine ab_istore_n d_TX_hexDigit_18 (Nat.le_of_ble_eq_true rfl) (Nat.le_of_ble_eq_true rfl) rfl ?_
    change ab_W _ _ _ G 19 [some (vR x), some (vz p), some (vz (-1)), none] [] _
    have htp : (-1) = tpk f n p := by unfold tpk; first | rw [if_pos (by omega)] | rw [if_neg (by omega)]
    rw [← htp] at hQ
    refine ab_iload_n d_TX_hexDigit_19 rfl ?_
    refine zz_bipush d_TX_hexDigit_20 (by decide) ?_
    refine zz_icmp_lt (tgt := 36) d_TX_hexDigit_22 (by decide) (by decide) (by decide) (fun c2 => ?_) (fun c2 => absurd c2 (by decide))
    refine ab_iload_n d_TX_hexDigit_36 rfl ?_
    refine zz_bipush d_TX_hexDigit_37 (by decide) ?_
    refine zz_iorL (r := -1) d_TX_hexDigit_39 (by decide) ?_
    refine ab_istore_n d_TX_hexDigit_40 (Nat.le_of_ble_eq_true rfl) (Nat.le_of_ble_eq_true rfl) rfl ?_
    change ab_W _ _ _ G 41 [some (vR x), some (vz p), some (vz (-1)), some (vz (-1))] [] _
    refine ab_iload_n d_TX_hexDigit_41 rfl ?_
    refine zz_if_lt (tgt := 67) d_TX_hexDigit_42 (by decide) (by decide) (fun c3 => ?_) (fun c3 => absurd c3 (by decide))
    refine zz_iconst d_TX_hexDigit_67 ?_
    refine zz_iret rfl d_TX_hexDigit_68 ?_
    rw [hQ]; exact ⟨_, rfl, rfl, (by (try rw [← htp]); unfold hxd; (repeat' split) <;> omega), (by omega)⟩
  · refine ab_aload_n d_TX_hexDigit_8 rfl ?_
    refine ab_getf (fs := [vR se, vR by_, vz n, vz pl, vz fa, vz fp, vR kd, vz kn]) f_TX_18 d_TX_hexDigit_9 hx.2.2 rfl ?_
    refine ab_iload_n d_TX_hexDigit_12 rfl ?_
    refine zz_iald d_TX_hexDigit_13 hby_ (by omega) ?_
    have hq4 := hb p (by omega) (by omega)
    refine ab_goto (tgt := 18) d_TX_hexDigit_14 (by decide) ?_
    refine ab_istore_n d_TX_hexDigit_18 (Nat.le_of_ble_eq_true rfl) (Nat.le_of_ble_eq_true rfl) rfl ?_
    change ab_W _ _ _ G 19 [some (vR x), some (vz p), some (vz (f p)), none] [] _
    have htp : (f p) = tpk f n p := by unfold tpk; first | rw [if_pos (by omega)] | rw [if_neg (by omega)]
    rw [← htp] at hQ
    refine ab_iload_n d_TX_hexDigit_19 rfl ?_
    refine zz_bipush d_TX_hexDigit_20 (by decide) ?_
    refine zz_icmp_lt (tgt := 36) d_TX_hexDigit_22 (by decide) (by omega) (by decide) (fun c5 => ?_) (fun c5 => ?_)
    · refine ab_iload_n d_TX_hexDigit_36 rfl ?_
      refine zz_bipush d_TX_hexDigit_37 (by decide) ?_
      refine zz_ior32 d_TX_hexDigit_39 (by omega) ?_
      refine ab_istore_n d_TX_hexDigit_40 (Nat.le_of_ble_eq_true rfl) (Nat.le_of_ble_eq_true rfl) rfl ?_
      change ab_W _ _ _ G 41 [some (vR x), some (vz p), some (vz (f p)), some (vz ((f p) + 32 * (1 - (f p) / 32 % 2)))] [] _
      refine ab_iload_n d_TX_hexDigit_41 rfl ?_
      refine zz_if_lt (tgt := 67) d_TX_hexDigit_42 (by decide) (by omega) (fun c6 => absurd c6 (by omega)) (fun c6 => ?_)
      refine ab_iload_n d_TX_hexDigit_45 rfl ?_
      refine zz_bipush d_TX_hexDigit_46 (by decide) ?_
      refine zz_icmp_lt (tgt := 67) d_TX_hexDigit_48 (by decide) (by omega) (by decide) (fun c7 => ?_) (fun c7 => ?_)
      · refine zz_iconst d_TX_hexDigit_67 ?_
        refine zz_iret rfl d_TX_hexDigit_68 ?_
        rw [hQ]; exact ⟨_, rfl, rfl, (by (try rw [← htp]); unfold hxd; (repeat' split) <;> omega), (by omega)⟩
      · refine ab_iload_n d_TX_hexDigit_51 rfl ?_
        refine zz_bipush d_TX_hexDigit_52 (by decide) ?_
        refine zz_icmp_gt (tgt := 67) d_TX_hexDigit_54 (by decide) (by omega) (by decide) (fun c8 => ?_) (fun c8 => ?_)
        · refine zz_iconst d_TX_hexDigit_67 ?_
          refine zz_iret rfl d_TX_hexDigit_68 ?_
          rw [hQ]; exact ⟨_, rfl, rfl, (by (try rw [← htp]); unfold hxd; (repeat' split) <;> omega), (by omega)⟩
        · refine ab_iload_n d_TX_hexDigit_57 rfl ?_
          refine zz_bipush d_TX_hexDigit_58 (by decide) ?_
          refine zz_isub d_TX_hexDigit_60 ?_
          refine zz_bipush d_TX_hexDigit_61 (by decide) ?_
          refine zz_iadd d_TX_hexDigit_63 ?_
          refine ab_goto (tgt := 68) d_TX_hexDigit_64 (by decide) ?_
          refine zz_iret rfl d_TX_hexDigit_68 ?_
          rw [hQ]; exact ⟨_, rfl, rfl, (by (try rw [← htp]); unfold hxd; (repeat' split) <;> omega), (by omega)⟩
    · refine ab_iload_n d_TX_hexDigit_25 rfl ?_
      refine zz_bipush d_TX_hexDigit_26 (by decide) ?_
      refine zz_icmp_gt (tgt := 36) d_TX_hexDigit_28 (by decide) (by omega) (by decide) (fun c9 => ?_) (fun c9 => ?_)
      · refine ab_iload_n d_TX_hexDigit_36 rfl ?_
        refine zz_bipush d_TX_hexDigit_37 (by decide) ?_
        refine zz_ior32 d_TX_hexDigit_39 (by omega) ?_
        refine ab_istore_n d_TX_hexDigit_40 (Nat.le_of_ble_eq_true rfl) (Nat.le_of_ble_eq_true rfl) rfl ?_
        change ab_W _ _ _ G 41 [some (vR x), some (vz p), some (vz (f p)), some (vz ((f p) + 32 * (1 - (f p) / 32 % 2)))] [] _
        refine ab_iload_n d_TX_hexDigit_41 rfl ?_
        refine zz_if_lt (tgt := 67) d_TX_hexDigit_42 (by decide) (by omega) (fun c10 => absurd c10 (by omega)) (fun c10 => ?_)
        refine ab_iload_n d_TX_hexDigit_45 rfl ?_
        refine zz_bipush d_TX_hexDigit_46 (by decide) ?_
        refine zz_icmp_lt (tgt := 67) d_TX_hexDigit_48 (by decide) (by omega) (by decide) (fun c11 => ?_) (fun c11 => ?_)
        · refine zz_iconst d_TX_hexDigit_67 ?_
          refine zz_iret rfl d_TX_hexDigit_68 ?_
          rw [hQ]; exact ⟨_, rfl, rfl, (by (try rw [← htp]); unfold hxd; (repeat' split) <;> omega), (by omega)⟩
        · refine ab_iload_n d_TX_hexDigit_51 rfl ?_
          refine zz_bipush d_TX_hexDigit_52 (by decide) ?_
          refine zz_icmp_gt (tgt := 67) d_TX_hexDigit_54 (by decide) (by omega) (by decide) (fun c12 => ?_) (fun c12 => ?_)
          · refine zz_iconst d_TX_hexDigit_67 ?_
            refine zz_iret rfl d_TX_hexDigit_68 ?_
            rw [hQ]; exact ⟨_, rfl, rfl, (by (try rw [← htp]); unfold hxd; (repeat' split) <;> omega), (by omega)⟩
          · refine ab_iload_n d_TX_hexDigit_57 rfl ?_
            refine zz_bipush d_TX_hexDigit_58 (by decide) ?_
            refine zz_isub d_TX_hexDigit_60 ?_
            refine zz_bipush d_TX_hexDigit_61 (by decide) ?_
            refine zz_iadd d_TX_hexDigit_63 ?_
            refine ab_goto (tgt := 68) d_TX_hexDigit_64 (by decide) ?_
            refine zz_iret rfl d_TX_hexDigit_68 ?_
            rw [hQ]; exact ⟨_, rfl, rfl, (by (try rw [← htp]); unfold hxd; (repeat' split) <;> omega), (by omega)⟩
      · refine ab_iload_n d_TX_hexDigit_31 rfl ?_
        refine zz_bipush d_TX_hexDigit_32 (by decide) ?_
        refine zz_isub d_TX_hexDigit_34 ?_
        refine zz_iret rfl d_TX_hexDigit_35 ?_
        rw [hQ]; exact ⟨_, rfl, rfl, (by (try rw [← htp]); unfold hxd; (repeat' split) <;> omega), (by omega)⟩
set_option maxRecDepth 100000 in
set_option maxHeartbeats 4000000 in
theorem y_TX_hexadecimal_61 {X : ab_X} {d : Nat} {Q : Outcome → ab_G → Prop} {o : Nat → Nat} {G0 : ab_G} {x : Nat} {lx : Nat} {se : Nat} {by_ : Nat} {lby : Nat} {m : Nat} {f : Int → Int} {n : Int} {fa : Int} {fp : Int} {kd : Nat} {kn : Int} {at_ : Int} {br : Int} {mo : Int} {p0 : Int} {rq : Int} {rv : Int} (c9 : 0 ≤ n ∧ n ≤ ↑m ∧ ↑m ≤ (100000 : Int) ∧ 0 ≤ p0 ∧ p0 ≤ 90000) (cmo : mo = 2 ∨ mo = 6) (hb : bytes f n) (cl : 18 ≤ lby ∧ lby < lx) (n18 : ab_n0 = 18) (hd : 1 ≤ d) : ∀ (mz : Nat) {G : ab_G} {pl : Int} {code : Int} {dg : Int} {di : Int} {k : Nat}, (cc o G x lx (ab_ob 10 [vR se, vR by_, vz n, vz pl, vz fa, vz fp, vR kd, vz kn])) → (cc o G by_ lby (za m f)) → (0 ≤ dg ∧ dg ≤ mo ∧ ↑k = mo - dg ∧ pl = p0 + dg) → (hxs f n k pl code = (rq, rv)) → (di = hxd (tpk f n pl)) → (-1 ≤ di ∧ di ≤ 15) → (fx o o [lx] G0 G) → (G.length = G0.length) → (ab_slots G = ab_slots G0) → (Int.toNat (mo - dg) < mz) → (∀ (G2 : ab_G) (pl : Int) (code : Int) (dg : Int), (cc o G2 x lx (ab_ob 10 [vR se, vR by_, vz n, vz pl, vz fa, vz fp, vR kd, vz kn])) → (cc o G2 by_ lby (za m f)) → (rq = pl ∧ rv = code) → (dg = pl - p0 ∧ 0 ≤ dg ∧ dg ≤ mo) → (fx o o [lx] G0 G2) → (G2.length = G0.length) → (ab_slots G2 = ab_slots G0) → ab_W X (ab_pl y_TX_hexadecimal b_TX_hexadecimal 7 (some (.int))) d G2 108 [some (vR x), some (vz at_), some (vz br), none, some (vz code), some (vz dg), none] [] Q) → ab_W X (ab_pl y_TX_hexadecimal b_TX_hexadecimal 7 (some (.int))) d G 61 [some (vR x), some (vz at_), some (vz br), some (vz mo), some (vz code), some (vz dg), some (vz di)] [] Q := by
  intro mz
  induction mz with
  | zero => intro G pl code dg di k hx hby_ cd hR hdi hdb hfr hlen hsl hm hk0; exact absurd hm (Nat.not_lt_zero _)
  | succ mz ih =>
    intro G pl code dg di k hx hby_ cd hR hdi hdb hfr hlen hsl hm hk0
    refine ab_iload d_TX_hexadecimal_61 rfl ?_
    refine ab_iload_n d_TX_hexadecimal_63 rfl ?_
    refine zz_icmp_ge (tgt := 108) d_TX_hexadecimal_64 (by decide) (by omega) (by omega) (fun c1 => ?_) (fun c1 => ?_)
    · refine ab_less (L' := [some (vR x), some (vz at_), some (vz br), none, some (vz code), some (vz dg), none]) (fun i v h => by rcases i with _ | _ | _ | _ | _ | _ | _ | i <;> first | exact h | (simp at h)) ?_
      exact hk0 _ _ _ _ hx hby_ (by have hR3 : (pl, code) = (rq, rv) := (by rw [← hR]; rcases k with _ | j; (rw [hxs]); (first | (exfalso; omega) | rw [hxs, if_neg (by rw [← hdi]; omega)])); cases hR3; exact ⟨rfl, rfl⟩) (by omega) hfr hlen hsl
    · refine ab_iload d_TX_hexadecimal_67 rfl ?_
      refine zz_if_lt (tgt := 108) d_TX_hexadecimal_69 (by decide) (by omega) (fun c2 => ?_) (fun c2 => ?_)
      · refine ab_less (L' := [some (vR x), some (vz at_), some (vz br), none, some (vz code), some (vz dg), none]) (fun i v h => by rcases i with _ | _ | _ | _ | _ | _ | _ | i <;> first | exact h | (simp at h)) ?_
        exact hk0 _ _ _ _ hx hby_ (by have hR3 : (pl, code) = (rq, rv) := (by rw [← hR]; rcases k with _ | j; (rw [hxs]); (first | (exfalso; omega) | rw [hxs, if_neg (by rw [← hdi]; omega)])); cases hR3; exact ⟨rfl, rfl⟩) (by omega) hfr hlen hsl
      · have hR2 : hxs f n (k - 1) (pl + 1) (16 * code + di) = (rq, rv) := by rw [← hR]; obtain ⟨j, rfl⟩ : ∃ j, k = j + 1 := ⟨k - 1, by omega⟩; rw [hxs, if_pos (by rw [← hdi]; omega), hdi, Nat.add_sub_cancel]
        refine zz_bipush d_TX_hexadecimal_72 (by decide) ?_
        refine ab_iload d_TX_hexadecimal_74 rfl ?_
        refine zz_imul d_TX_hexadecimal_76 ?_
        refine ab_iload d_TX_hexadecimal_77 rfl ?_
        refine zz_iadd d_TX_hexadecimal_79 ?_
        refine ab_istore d_TX_hexadecimal_80 (Nat.le_of_ble_eq_true rfl) (Nat.le_of_ble_eq_true rfl) rfl ?_
        change ab_W _ _ _ G 82 [some (vR x), some (vz at_), some (vz br), some (vz mo), some (vz ((16 * code) + di)), some (vz dg), some (vz di)] [] _
        refine zz_iinc d_TX_hexadecimal_82 rfl (Nat.le_of_ble_eq_true rfl) (Nat.le_of_ble_eq_true rfl) rfl ?_
        change ab_W _ _ _ G 85 [some (vR x), some (vz at_), some (vz br), some (vz mo), some (vz ((16 * code) + di)), some (vz (dg + 1)), some (vz di)] [] _
        refine ab_aload_n d_TX_hexadecimal_85 rfl ?_
        refine ab_dup d_TX_hexadecimal_86 rfl ?_
        refine ab_getf (fs := [vR se, vR by_, vz n, vz pl, vz fa, vz fp, vR kd, vz kn]) f_TX_43 d_TX_hexadecimal_87 hx.2.2 rfl ?_
        refine zz_iconst d_TX_hexadecimal_90 ?_
        refine zz_iadd d_TX_hexadecimal_91 ?_
        refine ab_putf (fs := [vR se, vR by_, vz n, vz pl, vz fa, vz fp, vR kd, vz kn]) f_TX_43 (Or.inl rfl) d_TX_hexadecimal_92 hx.2.2 (Nat.le_of_ble_eq_true rfl) (fun _ => ⟨rfl, rfl⟩) (hx.2.1 (by first | omega | exact (show 18 ≤ _ by omega))) ?_
        obtain ⟨G3, eG3⟩ : ∃ z : ab_G, z = List.set G x (ab_ob 10 [vR se, vR by_, vz n, vz (pl + 1), vz fa, vz fp, vR kd, vz kn]) := ⟨_, rfl⟩
        have hby_ := hby_.keep hx eG3 (by omega)
        have hlen := (z_len eG3).trans hlen
        have hsl := (z_sl hx eG3 rfl).trans hsl
        have hfr := hfr.wr hx eG3 (by simp)
        have hx := hx.kept eG3
        change ab_W _ _ _ (List.set G x (ab_ob 10 [vR se, vR by_, vz n, vz (pl + 1), vz fa, vz fp, vR kd, vz kn])) 95 [some (vR x), some (vz at_), some (vz br), some (vz mo), some (vz ((16 * code) + di)), some (vz (dg + 1)), some (vz di)] [] _
        rw [← eG3]
        refine ab_aload_n d_TX_hexadecimal_95 rfl ?_
        refine ab_aload_n d_TX_hexadecimal_96 rfl ?_
        refine ab_getf (fs := [vR se, vR by_, vz n, vz (pl + 1), vz fa, vz fp, vR kd, vz kn]) f_TX_43 d_TX_hexadecimal_97 hx.2.2 rfl ?_
        refine ab_callV (d' := d - 1) (as := [vz (pl + 1)]) (st := []) (r := _) (z_TX_hexDigit (o := o) (x := x) (lx := lx) (se := se) (by_ := by_) (lby := lby) (m := m) (f := f) (n := n) (pl := (pl + 1)) (fa := fa) (fp := fp) (kd := kd) (kn := kn) (p := (pl + 1)) hx hby_ (by omega) hb (by omega)) (fun oc G2 h => by rcases h with ⟨_, h, _⟩ <;> exact ⟨_, h⟩) (by omega) m_TX_hexDigit ml_TX_101 im_TX_hexDigit se_TX_hexDigit c_TX hx.2.2 (Nat.le_of_ble_eq_true rfl) d_TX_hexadecimal_100 rfl ?_
        intro v G4 hq
        rcases hq with ⟨v5, hv, hGe, hq6, hq7⟩
        cases hv
        rw [hGe]
        change ab_W _ _ _ G3 103 [some (vR x), some (vz at_), some (vz br), some (vz mo), some (vz ((16 * code) + di)), some (vz (dg + 1)), some (vz di)] [vz v5] _
        refine ab_istore d_TX_hexadecimal_103 (Nat.le_of_ble_eq_true rfl) (Nat.le_of_ble_eq_true rfl) rfl ?_
        change ab_W _ _ _ G3 105 [some (vR x), some (vz at_), some (vz br), some (vz mo), some (vz ((16 * code) + di)), some (vz (dg + 1)), some (vz v5)] [] _
        refine ab_goto (tgt := 61) d_TX_hexadecimal_105 (by decide) ?_
        exact ih (pl := (pl + 1)) (code := ((16 * code) + di)) (dg := (dg + 1)) (di := v5) (k := (k - 1)) hx hby_ (by omega) hR2 hq6 (by omega) hfr hlen hsl (by omega) hk0
set_option maxRecDepth 100000 in
set_option maxHeartbeats 4000000 in
theorem z_TX_hexadecimal {X : ab_X} {d : Nat} {o : Nat → Nat} {G : ab_G} {x : Nat} {lx : Nat} {se : Nat} {by_ : Nat} {lby : Nat} {m : Nat} {f : Int → Int} {n : Int} {pl : Int} {fa : Int} {fp : Int} {kd : Nat} {kn : Int} {at_ : Int} (hx : cc o G x lx (ab_ob 10 [vR se, vR by_, vz n, vz pl, vz fa, vz fp, vR kd, vz kn])) (hby_ : cc o G by_ lby (za m f)) (c0 : 0 ≤ n ∧ n ≤ ↑m ∧ ↑m ≤ (80000 : Int) ∧ 0 ≤ pl ∧ pl ≤ 80000) (hb : bytes f n) (cf : fa = 0) (cl : 18 ≤ lby ∧ lby < lx) (n18 : ab_n0 = 18) (hd : 3 ≤ d) : ab_F X d y_TX_hexadecimal (.code y_TX_hexadecimal b_TX_hexadecimal 7 (some (.int))) [vR x, vz at_] G (fun oc G2 => (∃ v : Int, ∃ p2 : Int, oc = .returned (some (vz v)) ∧ fx o o [lx] G G2 ∧ G2.length = G.length ∧ ab_slots G2 = ab_slots G ∧ cc o G2 x lx (ab_ob 10 [vR se, vR by_, vz n, vz p2, vz fa, vz fp, vR kd, vz kn]) ∧ cc o G2 by_ lby (za m f) ∧ (0 ≤ v ∧ v ≤ 1114111) ∧ (pl ≤ p2 ∧ p2 ≤ pl + 8) ∧ (hexok f n pl v p2)) ∨ (∃ p2 : Int, oc = .returned (some (vz (-1))) ∧ fx o o [lx] G G2 ∧ G2.length = G.length ∧ ab_slots G2 = ab_slots G ∧ cc o G2 x lx (ab_ob 10 [vR se, vR by_, vz n, vz p2, vz 5, vz at_, vR kd, vz kn]) ∧ cc o G2 by_ lby (za m f) ∧ (pl ≤ p2 ∧ p2 ≤ pl + 8) ∧ (∀ v q, ¬ hexok f n pl v q))) := by
  refine ab_F_of (by decide +kernel) (Nat.le_of_ble_eq_true rfl) ?_
  obtain ⟨Q, hQ⟩ : ∃ z : Outcome → ab_G → Prop, z = (fun oc G2 => (∃ v : Int, ∃ p2 : Int, oc = .returned (some (vz v)) ∧ fx o o [lx] G G2 ∧ G2.length = G.length ∧ ab_slots G2 = ab_slots G ∧ cc o G2 x lx (ab_ob 10 [vR se, vR by_, vz n, vz p2, vz fa, vz fp, vR kd, vz kn]) ∧ cc o G2 by_ lby (za m f) ∧ (0 ≤ v ∧ v ≤ 1114111) ∧ (pl ≤ p2 ∧ p2 ≤ pl + 8) ∧ (hexok f n pl v p2)) ∨ (∃ p2 : Int, oc = .returned (some (vz (-1))) ∧ fx o o [lx] G G2 ∧ G2.length = G.length ∧ ab_slots G2 = ab_slots G ∧ cc o G2 x lx (ab_ob 10 [vR se, vR by_, vz n, vz p2, vz 5, vz at_, vR kd, vz kn]) ∧ cc o G2 by_ lby (za m f) ∧ (pl ≤ p2 ∧ p2 ≤ pl + 8) ∧ (∀ v q, ¬ hexok f n pl v q))) := ⟨_, rfl⟩
  rw [← hQ]
  change ab_W X (ab_pl y_TX_hexadecimal b_TX_hexadecimal 7 (some (.int))) d G 0 [some (vR x), some (vz at_), none, none, none, none, none] [] Q
  have hfr : fx o o [lx] G G := fx.rf
  have hlen : G.length = G.length := rfl
  have hsl : ab_slots G = ab_slots G := rfl
  refine ab_aload_n d_TX_hexadecimal_0 rfl ?_
  refine zz_iconst d_TX_hexadecimal_1 ?_
  refine ab_callV (d' := d - 1) (as := [vz 0]) (st := []) (r := _) (z_TX_peek0 (o := o) (x := x) (lx := lx) (se := se) (by_ := by_) (lby := lby) (m := m) (f := f) (n := n) (pl := pl) (fa := fa) (fp := fp) (kd := kd) (kn := kn) hx hby_ (by omega) hb) (fun oc G2 h => by rcases h with ⟨_, h, _⟩ <;> exact ⟨_, h⟩) (by omega) m_TX_peek ml_TX_61 im_TX_peek se_TX_peek c_TX hx.2.2 (Nat.le_of_ble_eq_true rfl) d_TX_hexadecimal_2 rfl ?_
  intro v G1 hq
  rcases hq with ⟨v2, hv, hGe, hq3, hq4⟩
  cases hv
  rw [hGe]
  change ab_W _ _ _ G 5 [some (vR x), some (vz at_), none, none, none, none, none] [vz v2] _
  refine zz_bipush d_TX_hexadecimal_5 (by decide) ?_
  refine zz_icmp_ne (tgt := 14) d_TX_hexadecimal_7 (by decide) (by omega) (by decide) (fun c5 => ?_) (fun c5 => ?_)
  · refine zz_iconst d_TX_hexadecimal_14 ?_
    refine ab_istore_n d_TX_hexadecimal_15 (Nat.le_of_ble_eq_true rfl) (Nat.le_of_ble_eq_true rfl) rfl ?_
    change ab_W _ _ _ G 16 [some (vR x), some (vz at_), some (vz 0), none, none, none, none] [] _
    refine ab_aload_n d_TX_hexadecimal_16 rfl ?_
    refine ab_dup d_TX_hexadecimal_17 rfl ?_
    refine ab_getf (fs := [vR se, vR by_, vz n, vz pl, vz fa, vz fp, vR kd, vz kn]) f_TX_43 d_TX_hexadecimal_18 hx.2.2 rfl ?_
    refine ab_iload_n d_TX_hexadecimal_21 rfl ?_
    refine zz_if_eq (tgt := 29) d_TX_hexadecimal_22 (by decide) (by decide) (fun c6 => ?_) (fun c6 => absurd c6 (by decide))
    refine zz_iconst d_TX_hexadecimal_29 ?_
    refine zz_iadd d_TX_hexadecimal_30 ?_
    refine ab_putf (fs := [vR se, vR by_, vz n, vz pl, vz fa, vz fp, vR kd, vz kn]) f_TX_43 (Or.inl rfl) d_TX_hexadecimal_31 hx.2.2 (Nat.le_of_ble_eq_true rfl) (fun _ => ⟨rfl, rfl⟩) (hx.2.1 (by first | omega | exact (show 18 ≤ _ by omega))) ?_
    obtain ⟨G7, eG7⟩ : ∃ z : ab_G, z = List.set G x (ab_ob 10 [vR se, vR by_, vz n, vz (pl + 0), vz fa, vz fp, vR kd, vz kn]) := ⟨_, rfl⟩
    have hby_ := hby_.keep hx eG7 (by omega)
    have hlen := (z_len eG7).trans hlen
    have hsl := (z_sl hx eG7 rfl).trans hsl
    have hfr := hfr.wr hx eG7 (by simp)
    have hx := hx.kept eG7
    change ab_W _ _ _ (List.set G x (ab_ob 10 [vR se, vR by_, vz n, vz (pl + 0), vz fa, vz fp, vR kd, vz kn])) 34 [some (vR x), some (vz at_), some (vz 0), none, none, none, none] [] _
    rw [← eG7]
    refine ab_iload_n d_TX_hexadecimal_34 rfl ?_
    refine zz_if_eq (tgt := 43) d_TX_hexadecimal_35 (by decide) (by decide) (fun c8 => ?_) (fun c8 => absurd c8 (by decide))
    refine zz_iconst d_TX_hexadecimal_43 ?_
    refine ab_istore_n d_TX_hexadecimal_44 (Nat.le_of_ble_eq_true rfl) (Nat.le_of_ble_eq_true rfl) rfl ?_
    change ab_W _ _ _ G7 45 [some (vR x), some (vz at_), some (vz 0), some (vz 2), none, none, none] [] _
    refine zz_iconst d_TX_hexadecimal_45 ?_
    refine ab_istore d_TX_hexadecimal_46 (Nat.le_of_ble_eq_true rfl) (Nat.le_of_ble_eq_true rfl) rfl ?_
    change ab_W _ _ _ G7 48 [some (vR x), some (vz at_), some (vz 0), some (vz 2), some (vz 0), none, none] [] _
    refine zz_iconst d_TX_hexadecimal_48 ?_
    refine ab_istore d_TX_hexadecimal_49 (Nat.le_of_ble_eq_true rfl) (Nat.le_of_ble_eq_true rfl) rfl ?_
    change ab_W _ _ _ G7 51 [some (vR x), some (vz at_), some (vz 0), some (vz 2), some (vz 0), some (vz 0), none] [] _
    refine ab_aload_n d_TX_hexadecimal_51 rfl ?_
    refine ab_aload_n d_TX_hexadecimal_52 rfl ?_
    refine ab_getf (fs := [vR se, vR by_, vz n, vz (pl + 0), vz fa, vz fp, vR kd, vz kn]) f_TX_43 d_TX_hexadecimal_53 hx.2.2 rfl ?_
    refine ab_callV (d' := d - 1) (as := [vz (pl + 0)]) (st := []) (r := _) (z_TX_hexDigit (o := o) (x := x) (lx := lx) (se := se) (by_ := by_) (lby := lby) (m := m) (f := f) (n := n) (pl := (pl + 0)) (fa := fa) (fp := fp) (kd := kd) (kn := kn) (p := (pl + 0)) hx hby_ (by omega) hb (by omega)) (fun oc G2 h => by rcases h with ⟨_, h, _⟩ <;> exact ⟨_, h⟩) (by omega) m_TX_hexDigit ml_TX_101 im_TX_hexDigit se_TX_hexDigit c_TX hx.2.2 (Nat.le_of_ble_eq_true rfl) d_TX_hexadecimal_56 rfl ?_
    intro v G9 hq
    rcases hq with ⟨v10, hv, hGe, hq11, hq12⟩
    cases hv
    rw [hGe]
    change ab_W _ _ _ G7 59 [some (vR x), some (vz at_), some (vz 0), some (vz 2), some (vz 0), some (vz 0), none] [vz v10] _
    refine ab_istore d_TX_hexadecimal_59 (Nat.le_of_ble_eq_true rfl) (Nat.le_of_ble_eq_true rfl) rfl ?_
    change ab_W _ _ _ G7 61 [some (vR x), some (vz at_), some (vz 0), some (vz 2), some (vz 0), some (vz 0), some (vz v10)] [] _
    refine y_TX_hexadecimal_61 (x := x) (lx := lx) (se := se) (by_ := by_) (lby := lby) (m := m) (f := f) (n := n) (fa := fa) (fp := fp) (kd := kd) (kn := kn) (at_ := at_) (br := 0) (mo := 2) (p0 := (pl + 0)) (rq := (hxs f n 2 (pl + 0) 0).1) (rv := (hxs f n 2 (pl + 0) 0).2) (G0 := G7) (pl := (pl + 0)) (code := 0) (dg := 0) (di := v10) (k := 2) (by omega) (by omega) hb (by omega) (by omega) (by omega) (Int.toNat (2 - 0) + 1) hx hby_ (by omega) rfl hq11 (by omega) fx.rf rfl rfl (by omega) (fun G13 pl14 code15 dg16 hNx hNby_ hq17 hq18 hfk hlk hsk => ?_)
    · have hfr := hfr.tr hfk (by simp)
      have hlen := hlk.trans hlen
      have hsl := hsk.trans hsl
      have hx := hNx
      have hby_ := hNby_
      change ab_W _ _ _ G13 108 [some (vR x), some (vz at_), some (vz 0), none, some (vz code15), some (vz dg16), none] [] _
      have hRR : hxs f n 2 (pl + 0) 0 = (pl14, code15) := Prod.ext hq17.1 hq17.2
      have hin := hxs_in 2 (pl + 0) 0 _ _ (by decide) hRR
      have hin2 : 0 ≤ code15 ∧ code15 ≤ 16777215 := by omega
      refine ab_iload_n d_TX_hexadecimal_108 rfl ?_
      refine zz_if_eq (tgt := 135) d_TX_hexadecimal_109 (by decide) (by decide) (fun c19 => ?_) (fun c19 => absurd c19 (by decide))
      refine ab_iload d_TX_hexadecimal_135 rfl ?_
      refine zz_iconst d_TX_hexadecimal_137 ?_
      refine zz_icmp_ne (tgt := 145) d_TX_hexadecimal_138 (by decide) (by omega) (by decide) (fun c20 => ?_) (fun c20 => ?_)
      · refine zz_iconst d_TX_hexadecimal_145 ?_
        refine ab_istore d_TX_hexadecimal_146 (Nat.le_of_ble_eq_true rfl) (Nat.le_of_ble_eq_true rfl) rfl ?_
        change ab_W _ _ _ G13 148 [some (vR x), some (vz at_), some (vz 0), none, some (vz code15), some (vz dg16), some (vz 0)] [] _
        refine ab_aload_n d_TX_hexadecimal_148 rfl ?_
        refine ab_dup d_TX_hexadecimal_149 rfl ?_
        refine ab_getf (fs := [vR se, vR by_, vz n, vz pl14, vz fa, vz fp, vR kd, vz kn]) f_TX_43 d_TX_hexadecimal_150 hx.2.2 rfl ?_
        refine ab_iload_n d_TX_hexadecimal_153 rfl ?_
        refine zz_if_eq (tgt := 161) d_TX_hexadecimal_154 (by decide) (by decide) (fun c21 => ?_) (fun c21 => absurd c21 (by decide))
        refine zz_iconst d_TX_hexadecimal_161 ?_
        refine zz_iadd d_TX_hexadecimal_162 ?_
        refine ab_putf (fs := [vR se, vR by_, vz n, vz pl14, vz fa, vz fp, vR kd, vz kn]) f_TX_43 (Or.inl rfl) d_TX_hexadecimal_163 hx.2.2 (Nat.le_of_ble_eq_true rfl) (fun _ => ⟨rfl, rfl⟩) (hx.2.1 (by first | omega | exact (show 18 ≤ _ by omega))) ?_
        obtain ⟨G22, eG22⟩ : ∃ z : ab_G, z = List.set G13 x (ab_ob 10 [vR se, vR by_, vz n, vz (pl14 + 0), vz fa, vz fp, vR kd, vz kn]) := ⟨_, rfl⟩
        have hby_ := hby_.keep hx eG22 (by omega)
        have hlen := (z_len eG22).trans hlen
        have hsl := (z_sl hx eG22 rfl).trans hsl
        have hfr := hfr.wr hx eG22 (by simp)
        have hx := hx.kept eG22
        change ab_W _ _ _ (List.set G13 x (ab_ob 10 [vR se, vR by_, vz n, vz (pl14 + 0), vz fa, vz fp, vR kd, vz kn])) 166 [some (vR x), some (vz at_), some (vz 0), none, some (vz code15), some (vz dg16), some (vz 0)] [] _
        rw [← eG22]
        refine ab_iload d_TX_hexadecimal_166 rfl ?_
        refine zz_if_eq (tgt := 184) d_TX_hexadecimal_168 (by decide) (by decide) (fun c23 => ?_) (fun c23 => absurd c23 (by decide))
        refine ab_aload_n d_TX_hexadecimal_184 rfl ?_
        refine zz_iconst d_TX_hexadecimal_185 ?_
        refine ab_iload_n d_TX_hexadecimal_186 rfl ?_
        refine ab_callV (d' := d - 1) (as := [vz 5, vz at_]) (st := []) (r := _) (z_TX_fail (o := o) (x := x) (lx := lx) (se := se) (by_ := by_) (n := n) (pl := (pl14 + 0)) (fa := fa) (fp := fp) (kd := kd) (kn := kn) (w := 5) (p := at_) hx (by omega) (by omega) (by omega)) (fun oc G2 h => by rcases h with ⟨h, _⟩ | ⟨h, _⟩ <;> exact ⟨_, h⟩) (by omega) m_TX_fail ml_TX_53 im_TX_fail se_TX_fail c_TX hx.2.2 (Nat.le_of_ble_eq_true rfl) d_TX_hexadecimal_187 rfl ?_
        intro v G24 hq
        rcases hq with ⟨hv, hfk, hlk, hsk, hNx, hq25⟩ | ⟨hv, hGe, hq26⟩
        · cases hv
          have hby_ := hfk.get hby_ (by simp only [List.mem_cons, List.not_mem_nil, or_false]; omega)
          have hfr := hfr.tr hfk (by simp)
          have hlen := hlk.trans hlen
          have hsl := hsk.trans hsl
          have hx := hNx
          change ab_W _ _ _ G24 190 [some (vR x), some (vz at_), some (vz 0), none, some (vz code15), some (vz dg16), some (vz 0)] [vz (-1)] _
          refine zz_iret rfl d_TX_hexadecimal_190 ?_
          rw [hQ]; first | exact (Or.inl ⟨_, _, rfl, hfr, hlen, hsl, hx, hby_, (by omega), (by omega), (by first | (left; exact ⟨by omega, by simpa using hRR, by omega, by rw [Int.add_sub_cancel]; omega, by unfold chr; omega⟩) | (right; exact ⟨by omega, by simpa using hRR, by omega, by unfold chr; omega⟩))⟩) | exact (Or.inr ⟨_, rfl, hfr, hlen, hsl, hx, hby_, (by omega), (by rintro v q (⟨h1, h2, h3, h4, h5⟩ | ⟨h1, h2, h3, h5⟩); (first | (exfalso; omega) | (rw [show pl + 1 = (pl + 0) by omega, hRR] at h2; have e1 := congrArg Prod.fst h2; have e2 := congrArg Prod.snd h2; simp only at e1 e2; rw [← e1] at h4; unfold chr at h5; omega)); (first | (exfalso; omega) | (rw [show pl = (pl + 0) by omega, hRR] at h2; have e1 := congrArg Prod.fst h2; have e2 := congrArg Prod.snd h2; simp only at e1 e2; unfold chr at h5; omega)))⟩)
        · cases hv
          rw [hGe]
          change ab_W _ _ _ G22 190 [some (vR x), some (vz at_), some (vz 0), none, some (vz code15), some (vz dg16), some (vz 0)] [vz (-1)] _
          exfalso; omega
      · refine zz_iconst d_TX_hexadecimal_141 ?_
        refine ab_goto (tgt := 146) d_TX_hexadecimal_142 (by decide) ?_
        refine ab_istore d_TX_hexadecimal_146 (Nat.le_of_ble_eq_true rfl) (Nat.le_of_ble_eq_true rfl) rfl ?_
        change ab_W _ _ _ G13 148 [some (vR x), some (vz at_), some (vz 0), none, some (vz code15), some (vz dg16), some (vz 1)] [] _
        refine ab_aload_n d_TX_hexadecimal_148 rfl ?_
        refine ab_dup d_TX_hexadecimal_149 rfl ?_
        refine ab_getf (fs := [vR se, vR by_, vz n, vz pl14, vz fa, vz fp, vR kd, vz kn]) f_TX_43 d_TX_hexadecimal_150 hx.2.2 rfl ?_
        refine ab_iload_n d_TX_hexadecimal_153 rfl ?_
        refine zz_if_eq (tgt := 161) d_TX_hexadecimal_154 (by decide) (by decide) (fun c27 => ?_) (fun c27 => absurd c27 (by decide))
        refine zz_iconst d_TX_hexadecimal_161 ?_
        refine zz_iadd d_TX_hexadecimal_162 ?_
        refine ab_putf (fs := [vR se, vR by_, vz n, vz pl14, vz fa, vz fp, vR kd, vz kn]) f_TX_43 (Or.inl rfl) d_TX_hexadecimal_163 hx.2.2 (Nat.le_of_ble_eq_true rfl) (fun _ => ⟨rfl, rfl⟩) (hx.2.1 (by first | omega | exact (show 18 ≤ _ by omega))) ?_
        obtain ⟨G28, eG28⟩ : ∃ z : ab_G, z = List.set G13 x (ab_ob 10 [vR se, vR by_, vz n, vz (pl14 + 0), vz fa, vz fp, vR kd, vz kn]) := ⟨_, rfl⟩
        have hby_ := hby_.keep hx eG28 (by omega)
        have hlen := (z_len eG28).trans hlen
        have hsl := (z_sl hx eG28 rfl).trans hsl
        have hfr := hfr.wr hx eG28 (by simp)
        have hx := hx.kept eG28
        change ab_W _ _ _ (List.set G13 x (ab_ob 10 [vR se, vR by_, vz n, vz (pl14 + 0), vz fa, vz fp, vR kd, vz kn])) 166 [some (vR x), some (vz at_), some (vz 0), none, some (vz code15), some (vz dg16), some (vz 1)] [] _
        rw [← eG28]
        refine ab_iload d_TX_hexadecimal_166 rfl ?_
        refine zz_if_eq (tgt := 184) d_TX_hexadecimal_168 (by decide) (by decide) (fun c29 => absurd c29 (by decide)) (fun c29 => ?_)
        refine ab_iload d_TX_hexadecimal_171 rfl ?_
        refine ab_callS (d' := d - 1) (as := [vz code15]) (st := []) (z_PW_isCharacter (o := o) (x := code15) (by omega)) (fun oc G2 h => by rcases h with ⟨h, _⟩ | ⟨h, _⟩ <;> exact ⟨_, h⟩) (by omega) m_PW_isCharacter ml_TX_104 st_PW_isCharacter (Nat.le_of_ble_eq_true rfl) d_TX_hexadecimal_173 rfl ?_
        intro v G30 hq
        rcases hq with ⟨hv, hGe, hq31⟩ | ⟨hv, hGe, hq32⟩
        · cases hv
          rw [hGe]
          change ab_W _ _ _ G28 176 [some (vR x), some (vz at_), some (vz 0), none, some (vz code15), some (vz dg16), some (vz 1)] [vz 1] _
          refine zz_if_eq (tgt := 184) d_TX_hexadecimal_176 (by decide) (by decide) (fun c33 => absurd c33 (by decide)) (fun c33 => ?_)
          refine ab_iload d_TX_hexadecimal_179 rfl ?_
          refine ab_goto (tgt := 190) d_TX_hexadecimal_181 (by decide) ?_
          refine zz_iret rfl d_TX_hexadecimal_190 ?_
          rw [hQ]; first | exact (Or.inl ⟨_, _, rfl, hfr, hlen, hsl, hx, hby_, (by omega), (by omega), (by first | (left; exact ⟨by omega, by simpa using hRR, by omega, by rw [Int.add_sub_cancel]; omega, by unfold chr; omega⟩) | (right; exact ⟨by omega, by simpa using hRR, by omega, by unfold chr; omega⟩))⟩) | exact (Or.inr ⟨_, rfl, hfr, hlen, hsl, hx, hby_, (by omega), (by rintro v q (⟨h1, h2, h3, h4, h5⟩ | ⟨h1, h2, h3, h5⟩); (first | (exfalso; omega) | (rw [show pl + 1 = (pl + 0) by omega, hRR] at h2; have e1 := congrArg Prod.fst h2; have e2 := congrArg Prod.snd h2; simp only at e1 e2; rw [← e1] at h4; unfold chr at h5; omega)); (first | (exfalso; omega) | (rw [show pl = (pl + 0) by omega, hRR] at h2; have e1 := congrArg Prod.fst h2; have e2 := congrArg Prod.snd h2; simp only at e1 e2; unfold chr at h5; omega)))⟩)
        · cases hv
          rw [hGe]
          change ab_W _ _ _ G28 176 [some (vR x), some (vz at_), some (vz 0), none, some (vz code15), some (vz dg16), some (vz 1)] [vz 0] _
          refine zz_if_eq (tgt := 184) d_TX_hexadecimal_176 (by decide) (by decide) (fun c34 => ?_) (fun c34 => absurd c34 (by decide))
          refine ab_aload_n d_TX_hexadecimal_184 rfl ?_
          refine zz_iconst d_TX_hexadecimal_185 ?_
          refine ab_iload_n d_TX_hexadecimal_186 rfl ?_
          refine ab_callV (d' := d - 1) (as := [vz 5, vz at_]) (st := []) (r := _) (z_TX_fail (o := o) (x := x) (lx := lx) (se := se) (by_ := by_) (n := n) (pl := (pl14 + 0)) (fa := fa) (fp := fp) (kd := kd) (kn := kn) (w := 5) (p := at_) hx (by omega) (by omega) (by omega)) (fun oc G2 h => by rcases h with ⟨h, _⟩ | ⟨h, _⟩ <;> exact ⟨_, h⟩) (by omega) m_TX_fail ml_TX_53 im_TX_fail se_TX_fail c_TX hx.2.2 (Nat.le_of_ble_eq_true rfl) d_TX_hexadecimal_187 rfl ?_
          intro v G35 hq
          rcases hq with ⟨hv, hfk, hlk, hsk, hNx, hq36⟩ | ⟨hv, hGe, hq37⟩
          · cases hv
            have hby_ := hfk.get hby_ (by simp only [List.mem_cons, List.not_mem_nil, or_false]; omega)
            have hfr := hfr.tr hfk (by simp)
            have hlen := hlk.trans hlen
            have hsl := hsk.trans hsl
            have hx := hNx
            change ab_W _ _ _ G35 190 [some (vR x), some (vz at_), some (vz 0), none, some (vz code15), some (vz dg16), some (vz 1)] [vz (-1)] _
            refine zz_iret rfl d_TX_hexadecimal_190 ?_
            rw [hQ]; first | exact (Or.inl ⟨_, _, rfl, hfr, hlen, hsl, hx, hby_, (by omega), (by omega), (by first | (left; exact ⟨by omega, by simpa using hRR, by omega, by rw [Int.add_sub_cancel]; omega, by unfold chr; omega⟩) | (right; exact ⟨by omega, by simpa using hRR, by omega, by unfold chr; omega⟩))⟩) | exact (Or.inr ⟨_, rfl, hfr, hlen, hsl, hx, hby_, (by omega), (by rintro v q (⟨h1, h2, h3, h4, h5⟩ | ⟨h1, h2, h3, h5⟩); (first | (exfalso; omega) | (rw [show pl + 1 = (pl + 0) by omega, hRR] at h2; have e1 := congrArg Prod.fst h2; have e2 := congrArg Prod.snd h2; simp only at e1 e2; rw [← e1] at h4; unfold chr at h5; omega)); (first | (exfalso; omega) | (rw [show pl = (pl + 0) by omega, hRR] at h2; have e1 := congrArg Prod.fst h2; have e2 := congrArg Prod.snd h2; simp only at e1 e2; unfold chr at h5; omega)))⟩)
          · cases hv
            rw [hGe]
            change ab_W _ _ _ G28 190 [some (vR x), some (vz at_), some (vz 0), none, some (vz code15), some (vz dg16), some (vz 1)] [vz (-1)] _
            exfalso; omega
  · refine zz_iconst d_TX_hexadecimal_10 ?_
    refine ab_goto (tgt := 15) d_TX_hexadecimal_11 (by decide) ?_
    refine ab_istore_n d_TX_hexadecimal_15 (Nat.le_of_ble_eq_true rfl) (Nat.le_of_ble_eq_true rfl) rfl ?_
    change ab_W _ _ _ G 16 [some (vR x), some (vz at_), some (vz 1), none, none, none, none] [] _
    refine ab_aload_n d_TX_hexadecimal_16 rfl ?_
    refine ab_dup d_TX_hexadecimal_17 rfl ?_
    refine ab_getf (fs := [vR se, vR by_, vz n, vz pl, vz fa, vz fp, vR kd, vz kn]) f_TX_43 d_TX_hexadecimal_18 hx.2.2 rfl ?_
    refine ab_iload_n d_TX_hexadecimal_21 rfl ?_
    refine zz_if_eq (tgt := 29) d_TX_hexadecimal_22 (by decide) (by decide) (fun c38 => absurd c38 (by decide)) (fun c38 => ?_)
    refine zz_iconst d_TX_hexadecimal_25 ?_
    refine ab_goto (tgt := 30) d_TX_hexadecimal_26 (by decide) ?_
    refine zz_iadd d_TX_hexadecimal_30 ?_
    refine ab_putf (fs := [vR se, vR by_, vz n, vz pl, vz fa, vz fp, vR kd, vz kn]) f_TX_43 (Or.inl rfl) d_TX_hexadecimal_31 hx.2.2 (Nat.le_of_ble_eq_true rfl) (fun _ => ⟨rfl, rfl⟩) (hx.2.1 (by first | omega | exact (show 18 ≤ _ by omega))) ?_
    obtain ⟨G39, eG39⟩ : ∃ z : ab_G, z = List.set G x (ab_ob 10 [vR se, vR by_, vz n, vz (pl + 1), vz fa, vz fp, vR kd, vz kn]) := ⟨_, rfl⟩
    have hby_ := hby_.keep hx eG39 (by omega)
    have hlen := (z_len eG39).trans hlen
    have hsl := (z_sl hx eG39 rfl).trans hsl
    have hfr := hfr.wr hx eG39 (by simp)
    have hx := hx.kept eG39
    change ab_W _ _ _ (List.set G x (ab_ob 10 [vR se, vR by_, vz n, vz (pl + 1), vz fa, vz fp, vR kd, vz kn])) 34 [some (vR x), some (vz at_), some (vz 1), none, none, none, none] [] _
    rw [← eG39]
    refine ab_iload_n d_TX_hexadecimal_34 rfl ?_
    refine zz_if_eq (tgt := 43) d_TX_hexadecimal_35 (by decide) (by decide) (fun c40 => absurd c40 (by decide)) (fun c40 => ?_)
    refine zz_bipush d_TX_hexadecimal_38 (by decide) ?_
    refine ab_goto (tgt := 44) d_TX_hexadecimal_40 (by decide) ?_
    refine ab_istore_n d_TX_hexadecimal_44 (Nat.le_of_ble_eq_true rfl) (Nat.le_of_ble_eq_true rfl) rfl ?_
    change ab_W _ _ _ G39 45 [some (vR x), some (vz at_), some (vz 1), some (vz 6), none, none, none] [] _
    refine zz_iconst d_TX_hexadecimal_45 ?_
    refine ab_istore d_TX_hexadecimal_46 (Nat.le_of_ble_eq_true rfl) (Nat.le_of_ble_eq_true rfl) rfl ?_
    change ab_W _ _ _ G39 48 [some (vR x), some (vz at_), some (vz 1), some (vz 6), some (vz 0), none, none] [] _
    refine zz_iconst d_TX_hexadecimal_48 ?_
    refine ab_istore d_TX_hexadecimal_49 (Nat.le_of_ble_eq_true rfl) (Nat.le_of_ble_eq_true rfl) rfl ?_
    change ab_W _ _ _ G39 51 [some (vR x), some (vz at_), some (vz 1), some (vz 6), some (vz 0), some (vz 0), none] [] _
    refine ab_aload_n d_TX_hexadecimal_51 rfl ?_
    refine ab_aload_n d_TX_hexadecimal_52 rfl ?_
    refine ab_getf (fs := [vR se, vR by_, vz n, vz (pl + 1), vz fa, vz fp, vR kd, vz kn]) f_TX_43 d_TX_hexadecimal_53 hx.2.2 rfl ?_
    refine ab_callV (d' := d - 1) (as := [vz (pl + 1)]) (st := []) (r := _) (z_TX_hexDigit (o := o) (x := x) (lx := lx) (se := se) (by_ := by_) (lby := lby) (m := m) (f := f) (n := n) (pl := (pl + 1)) (fa := fa) (fp := fp) (kd := kd) (kn := kn) (p := (pl + 1)) hx hby_ (by omega) hb (by omega)) (fun oc G2 h => by rcases h with ⟨_, h, _⟩ <;> exact ⟨_, h⟩) (by omega) m_TX_hexDigit ml_TX_101 im_TX_hexDigit se_TX_hexDigit c_TX hx.2.2 (Nat.le_of_ble_eq_true rfl) d_TX_hexadecimal_56 rfl ?_
    intro v G41 hq
    rcases hq with ⟨v42, hv, hGe, hq43, hq44⟩
    cases hv
    rw [hGe]
    change ab_W _ _ _ G39 59 [some (vR x), some (vz at_), some (vz 1), some (vz 6), some (vz 0), some (vz 0), none] [vz v42] _
    refine ab_istore d_TX_hexadecimal_59 (Nat.le_of_ble_eq_true rfl) (Nat.le_of_ble_eq_true rfl) rfl ?_
    change ab_W _ _ _ G39 61 [some (vR x), some (vz at_), some (vz 1), some (vz 6), some (vz 0), some (vz 0), some (vz v42)] [] _
    refine y_TX_hexadecimal_61 (x := x) (lx := lx) (se := se) (by_ := by_) (lby := lby) (m := m) (f := f) (n := n) (fa := fa) (fp := fp) (kd := kd) (kn := kn) (at_ := at_) (br := 1) (mo := 6) (p0 := (pl + 1)) (rq := (hxs f n 6 (pl + 1) 0).1) (rv := (hxs f n 6 (pl + 1) 0).2) (G0 := G39) (pl := (pl + 1)) (code := 0) (dg := 0) (di := v42) (k := 6) (by omega) (by omega) hb (by omega) (by omega) (by omega) (Int.toNat (6 - 0) + 1) hx hby_ (by omega) rfl hq43 (by omega) fx.rf rfl rfl (by omega) (fun G45 pl46 code47 dg48 hNx hNby_ hq49 hq50 hfk hlk hsk => ?_)
    · have hfr := hfr.tr hfk (by simp)
      have hlen := hlk.trans hlen
      have hsl := hsk.trans hsl
      have hx := hNx
      have hby_ := hNby_
      change ab_W _ _ _ G45 108 [some (vR x), some (vz at_), some (vz 1), none, some (vz code47), some (vz dg48), none] [] _
      have hRR : hxs f n 6 (pl + 1) 0 = (pl46, code47) := Prod.ext hq49.1 hq49.2
      have hin := hxs_in 6 (pl + 1) 0 _ _ (by decide) hRR
      have hin2 : 0 ≤ code47 ∧ code47 ≤ 16777215 := by omega
      refine ab_iload_n d_TX_hexadecimal_108 rfl ?_
      refine zz_if_eq (tgt := 135) d_TX_hexadecimal_109 (by decide) (by decide) (fun c51 => absurd c51 (by decide)) (fun c51 => ?_)
      refine ab_iload d_TX_hexadecimal_112 rfl ?_
      refine zz_if_le (tgt := 131) d_TX_hexadecimal_114 (by decide) (by omega) (fun c52 => ?_) (fun c52 => ?_)
      · refine zz_iconst d_TX_hexadecimal_131 ?_
        refine ab_goto (tgt := 146) d_TX_hexadecimal_132 (by decide) ?_
        refine ab_istore d_TX_hexadecimal_146 (Nat.le_of_ble_eq_true rfl) (Nat.le_of_ble_eq_true rfl) rfl ?_
        change ab_W _ _ _ G45 148 [some (vR x), some (vz at_), some (vz 1), none, some (vz code47), some (vz dg48), some (vz 0)] [] _
        refine ab_aload_n d_TX_hexadecimal_148 rfl ?_
        refine ab_dup d_TX_hexadecimal_149 rfl ?_
        refine ab_getf (fs := [vR se, vR by_, vz n, vz pl46, vz fa, vz fp, vR kd, vz kn]) f_TX_43 d_TX_hexadecimal_150 hx.2.2 rfl ?_
        refine ab_iload_n d_TX_hexadecimal_153 rfl ?_
        refine zz_if_eq (tgt := 161) d_TX_hexadecimal_154 (by decide) (by decide) (fun c53 => absurd c53 (by decide)) (fun c53 => ?_)
        refine zz_iconst d_TX_hexadecimal_157 ?_
        refine ab_goto (tgt := 162) d_TX_hexadecimal_158 (by decide) ?_
        refine zz_iadd d_TX_hexadecimal_162 ?_
        refine ab_putf (fs := [vR se, vR by_, vz n, vz pl46, vz fa, vz fp, vR kd, vz kn]) f_TX_43 (Or.inl rfl) d_TX_hexadecimal_163 hx.2.2 (Nat.le_of_ble_eq_true rfl) (fun _ => ⟨rfl, rfl⟩) (hx.2.1 (by first | omega | exact (show 18 ≤ _ by omega))) ?_
        obtain ⟨G54, eG54⟩ : ∃ z : ab_G, z = List.set G45 x (ab_ob 10 [vR se, vR by_, vz n, vz (pl46 + 1), vz fa, vz fp, vR kd, vz kn]) := ⟨_, rfl⟩
        have hby_ := hby_.keep hx eG54 (by omega)
        have hlen := (z_len eG54).trans hlen
        have hsl := (z_sl hx eG54 rfl).trans hsl
        have hfr := hfr.wr hx eG54 (by simp)
        have hx := hx.kept eG54
        change ab_W _ _ _ (List.set G45 x (ab_ob 10 [vR se, vR by_, vz n, vz (pl46 + 1), vz fa, vz fp, vR kd, vz kn])) 166 [some (vR x), some (vz at_), some (vz 1), none, some (vz code47), some (vz dg48), some (vz 0)] [] _
        rw [← eG54]
        refine ab_iload d_TX_hexadecimal_166 rfl ?_
        refine zz_if_eq (tgt := 184) d_TX_hexadecimal_168 (by decide) (by decide) (fun c55 => ?_) (fun c55 => absurd c55 (by decide))
        refine ab_aload_n d_TX_hexadecimal_184 rfl ?_
        refine zz_iconst d_TX_hexadecimal_185 ?_
        refine ab_iload_n d_TX_hexadecimal_186 rfl ?_
        refine ab_callV (d' := d - 1) (as := [vz 5, vz at_]) (st := []) (r := _) (z_TX_fail (o := o) (x := x) (lx := lx) (se := se) (by_ := by_) (n := n) (pl := (pl46 + 1)) (fa := fa) (fp := fp) (kd := kd) (kn := kn) (w := 5) (p := at_) hx (by omega) (by omega) (by omega)) (fun oc G2 h => by rcases h with ⟨h, _⟩ | ⟨h, _⟩ <;> exact ⟨_, h⟩) (by omega) m_TX_fail ml_TX_53 im_TX_fail se_TX_fail c_TX hx.2.2 (Nat.le_of_ble_eq_true rfl) d_TX_hexadecimal_187 rfl ?_
        intro v G56 hq
        rcases hq with ⟨hv, hfk, hlk, hsk, hNx, hq57⟩ | ⟨hv, hGe, hq58⟩
        · cases hv
          have hby_ := hfk.get hby_ (by simp only [List.mem_cons, List.not_mem_nil, or_false]; omega)
          have hfr := hfr.tr hfk (by simp)
          have hlen := hlk.trans hlen
          have hsl := hsk.trans hsl
          have hx := hNx
          change ab_W _ _ _ G56 190 [some (vR x), some (vz at_), some (vz 1), none, some (vz code47), some (vz dg48), some (vz 0)] [vz (-1)] _
          refine zz_iret rfl d_TX_hexadecimal_190 ?_
          rw [hQ]; first | exact (Or.inl ⟨_, _, rfl, hfr, hlen, hsl, hx, hby_, (by omega), (by omega), (by first | (left; exact ⟨by omega, by simpa using hRR, by omega, by rw [Int.add_sub_cancel]; omega, by unfold chr; omega⟩) | (right; exact ⟨by omega, by simpa using hRR, by omega, by unfold chr; omega⟩))⟩) | exact (Or.inr ⟨_, rfl, hfr, hlen, hsl, hx, hby_, (by omega), (by rintro v q (⟨h1, h2, h3, h4, h5⟩ | ⟨h1, h2, h3, h5⟩); (first | (exfalso; omega) | (rw [show pl + 1 = (pl + 1) by omega, hRR] at h2; have e1 := congrArg Prod.fst h2; have e2 := congrArg Prod.snd h2; simp only at e1 e2; rw [← e1] at h4; unfold chr at h5; omega)); (first | (exfalso; omega) | (rw [show pl = (pl + 1) by omega, hRR] at h2; have e1 := congrArg Prod.fst h2; have e2 := congrArg Prod.snd h2; simp only at e1 e2; unfold chr at h5; omega)))⟩)
        · cases hv
          rw [hGe]
          change ab_W _ _ _ G54 190 [some (vR x), some (vz at_), some (vz 1), none, some (vz code47), some (vz dg48), some (vz 0)] [vz (-1)] _
          exfalso; omega
      · refine ab_aload_n d_TX_hexadecimal_117 rfl ?_
        refine zz_iconst d_TX_hexadecimal_118 ?_
        refine ab_callV (d' := d - 1) (as := [vz 0]) (st := []) (r := _) (z_TX_peek0 (o := o) (x := x) (lx := lx) (se := se) (by_ := by_) (lby := lby) (m := m) (f := f) (n := n) (pl := pl46) (fa := fa) (fp := fp) (kd := kd) (kn := kn) hx hby_ (by omega) hb) (fun oc G2 h => by rcases h with ⟨_, h, _⟩ <;> exact ⟨_, h⟩) (by omega) m_TX_peek ml_TX_61 im_TX_peek se_TX_peek c_TX hx.2.2 (Nat.le_of_ble_eq_true rfl) d_TX_hexadecimal_119 rfl ?_
        intro v G59 hq
        rcases hq with ⟨v60, hv, hGe, hq61, hq62⟩
        cases hv
        rw [hGe]
        change ab_W _ _ _ G45 122 [some (vR x), some (vz at_), some (vz 1), none, some (vz code47), some (vz dg48), none] [vz v60] _
        refine zz_bipush d_TX_hexadecimal_122 (by decide) ?_
        refine zz_icmp_ne (tgt := 131) d_TX_hexadecimal_124 (by decide) (by omega) (by decide) (fun c63 => ?_) (fun c63 => ?_)
        · refine zz_iconst d_TX_hexadecimal_131 ?_
          refine ab_goto (tgt := 146) d_TX_hexadecimal_132 (by decide) ?_
          refine ab_istore d_TX_hexadecimal_146 (Nat.le_of_ble_eq_true rfl) (Nat.le_of_ble_eq_true rfl) rfl ?_
          change ab_W _ _ _ G45 148 [some (vR x), some (vz at_), some (vz 1), none, some (vz code47), some (vz dg48), some (vz 0)] [] _
          refine ab_aload_n d_TX_hexadecimal_148 rfl ?_
          refine ab_dup d_TX_hexadecimal_149 rfl ?_
          refine ab_getf (fs := [vR se, vR by_, vz n, vz pl46, vz fa, vz fp, vR kd, vz kn]) f_TX_43 d_TX_hexadecimal_150 hx.2.2 rfl ?_
          refine ab_iload_n d_TX_hexadecimal_153 rfl ?_
          refine zz_if_eq (tgt := 161) d_TX_hexadecimal_154 (by decide) (by decide) (fun c64 => absurd c64 (by decide)) (fun c64 => ?_)
          refine zz_iconst d_TX_hexadecimal_157 ?_
          refine ab_goto (tgt := 162) d_TX_hexadecimal_158 (by decide) ?_
          refine zz_iadd d_TX_hexadecimal_162 ?_
          refine ab_putf (fs := [vR se, vR by_, vz n, vz pl46, vz fa, vz fp, vR kd, vz kn]) f_TX_43 (Or.inl rfl) d_TX_hexadecimal_163 hx.2.2 (Nat.le_of_ble_eq_true rfl) (fun _ => ⟨rfl, rfl⟩) (hx.2.1 (by first | omega | exact (show 18 ≤ _ by omega))) ?_
          obtain ⟨G65, eG65⟩ : ∃ z : ab_G, z = List.set G45 x (ab_ob 10 [vR se, vR by_, vz n, vz (pl46 + 1), vz fa, vz fp, vR kd, vz kn]) := ⟨_, rfl⟩
          have hby_ := hby_.keep hx eG65 (by omega)
          have hlen := (z_len eG65).trans hlen
          have hsl := (z_sl hx eG65 rfl).trans hsl
          have hfr := hfr.wr hx eG65 (by simp)
          have hx := hx.kept eG65
          change ab_W _ _ _ (List.set G45 x (ab_ob 10 [vR se, vR by_, vz n, vz (pl46 + 1), vz fa, vz fp, vR kd, vz kn])) 166 [some (vR x), some (vz at_), some (vz 1), none, some (vz code47), some (vz dg48), some (vz 0)] [] _
          rw [← eG65]
          refine ab_iload d_TX_hexadecimal_166 rfl ?_
          refine zz_if_eq (tgt := 184) d_TX_hexadecimal_168 (by decide) (by decide) (fun c66 => ?_) (fun c66 => absurd c66 (by decide))
          refine ab_aload_n d_TX_hexadecimal_184 rfl ?_
          refine zz_iconst d_TX_hexadecimal_185 ?_
          refine ab_iload_n d_TX_hexadecimal_186 rfl ?_
          refine ab_callV (d' := d - 1) (as := [vz 5, vz at_]) (st := []) (r := _) (z_TX_fail (o := o) (x := x) (lx := lx) (se := se) (by_ := by_) (n := n) (pl := (pl46 + 1)) (fa := fa) (fp := fp) (kd := kd) (kn := kn) (w := 5) (p := at_) hx (by omega) (by omega) (by omega)) (fun oc G2 h => by rcases h with ⟨h, _⟩ | ⟨h, _⟩ <;> exact ⟨_, h⟩) (by omega) m_TX_fail ml_TX_53 im_TX_fail se_TX_fail c_TX hx.2.2 (Nat.le_of_ble_eq_true rfl) d_TX_hexadecimal_187 rfl ?_
          intro v G67 hq
          rcases hq with ⟨hv, hfk, hlk, hsk, hNx, hq68⟩ | ⟨hv, hGe, hq69⟩
          · cases hv
            have hby_ := hfk.get hby_ (by simp only [List.mem_cons, List.not_mem_nil, or_false]; omega)
            have hfr := hfr.tr hfk (by simp)
            have hlen := hlk.trans hlen
            have hsl := hsk.trans hsl
            have hx := hNx
            change ab_W _ _ _ G67 190 [some (vR x), some (vz at_), some (vz 1), none, some (vz code47), some (vz dg48), some (vz 0)] [vz (-1)] _
            refine zz_iret rfl d_TX_hexadecimal_190 ?_
            rw [hQ]; first | exact (Or.inl ⟨_, _, rfl, hfr, hlen, hsl, hx, hby_, (by omega), (by omega), (by first | (left; exact ⟨by omega, by simpa using hRR, by omega, by rw [Int.add_sub_cancel]; omega, by unfold chr; omega⟩) | (right; exact ⟨by omega, by simpa using hRR, by omega, by unfold chr; omega⟩))⟩) | exact (Or.inr ⟨_, rfl, hfr, hlen, hsl, hx, hby_, (by omega), (by rintro v q (⟨h1, h2, h3, h4, h5⟩ | ⟨h1, h2, h3, h5⟩); (first | (exfalso; omega) | (rw [show pl + 1 = (pl + 1) by omega, hRR] at h2; have e1 := congrArg Prod.fst h2; have e2 := congrArg Prod.snd h2; simp only at e1 e2; rw [← e1] at h4; unfold chr at h5; omega)); (first | (exfalso; omega) | (rw [show pl = (pl + 1) by omega, hRR] at h2; have e1 := congrArg Prod.fst h2; have e2 := congrArg Prod.snd h2; simp only at e1 e2; unfold chr at h5; omega)))⟩)
          · cases hv
            rw [hGe]
            change ab_W _ _ _ G65 190 [some (vR x), some (vz at_), some (vz 1), none, some (vz code47), some (vz dg48), some (vz 0)] [vz (-1)] _
            exfalso; omega
        · refine zz_iconst d_TX_hexadecimal_127 ?_
          refine ab_goto (tgt := 146) d_TX_hexadecimal_128 (by decide) ?_
          refine ab_istore d_TX_hexadecimal_146 (Nat.le_of_ble_eq_true rfl) (Nat.le_of_ble_eq_true rfl) rfl ?_
          change ab_W _ _ _ G45 148 [some (vR x), some (vz at_), some (vz 1), none, some (vz code47), some (vz dg48), some (vz 1)] [] _
          refine ab_aload_n d_TX_hexadecimal_148 rfl ?_
          refine ab_dup d_TX_hexadecimal_149 rfl ?_
          refine ab_getf (fs := [vR se, vR by_, vz n, vz pl46, vz fa, vz fp, vR kd, vz kn]) f_TX_43 d_TX_hexadecimal_150 hx.2.2 rfl ?_
          refine ab_iload_n d_TX_hexadecimal_153 rfl ?_
          refine zz_if_eq (tgt := 161) d_TX_hexadecimal_154 (by decide) (by decide) (fun c70 => absurd c70 (by decide)) (fun c70 => ?_)
          refine zz_iconst d_TX_hexadecimal_157 ?_
          refine ab_goto (tgt := 162) d_TX_hexadecimal_158 (by decide) ?_
          refine zz_iadd d_TX_hexadecimal_162 ?_
          refine ab_putf (fs := [vR se, vR by_, vz n, vz pl46, vz fa, vz fp, vR kd, vz kn]) f_TX_43 (Or.inl rfl) d_TX_hexadecimal_163 hx.2.2 (Nat.le_of_ble_eq_true rfl) (fun _ => ⟨rfl, rfl⟩) (hx.2.1 (by first | omega | exact (show 18 ≤ _ by omega))) ?_
          obtain ⟨G71, eG71⟩ : ∃ z : ab_G, z = List.set G45 x (ab_ob 10 [vR se, vR by_, vz n, vz (pl46 + 1), vz fa, vz fp, vR kd, vz kn]) := ⟨_, rfl⟩
          have hby_ := hby_.keep hx eG71 (by omega)
          have hlen := (z_len eG71).trans hlen
          have hsl := (z_sl hx eG71 rfl).trans hsl
          have hfr := hfr.wr hx eG71 (by simp)
          have hx := hx.kept eG71
          change ab_W _ _ _ (List.set G45 x (ab_ob 10 [vR se, vR by_, vz n, vz (pl46 + 1), vz fa, vz fp, vR kd, vz kn])) 166 [some (vR x), some (vz at_), some (vz 1), none, some (vz code47), some (vz dg48), some (vz 1)] [] _
          rw [← eG71]
          refine ab_iload d_TX_hexadecimal_166 rfl ?_
          refine zz_if_eq (tgt := 184) d_TX_hexadecimal_168 (by decide) (by decide) (fun c72 => absurd c72 (by decide)) (fun c72 => ?_)
          refine ab_iload d_TX_hexadecimal_171 rfl ?_
          refine ab_callS (d' := d - 1) (as := [vz code47]) (st := []) (z_PW_isCharacter (o := o) (x := code47) (by omega)) (fun oc G2 h => by rcases h with ⟨h, _⟩ | ⟨h, _⟩ <;> exact ⟨_, h⟩) (by omega) m_PW_isCharacter ml_TX_104 st_PW_isCharacter (Nat.le_of_ble_eq_true rfl) d_TX_hexadecimal_173 rfl ?_
          intro v G73 hq
          rcases hq with ⟨hv, hGe, hq74⟩ | ⟨hv, hGe, hq75⟩
          · cases hv
            rw [hGe]
            change ab_W _ _ _ G71 176 [some (vR x), some (vz at_), some (vz 1), none, some (vz code47), some (vz dg48), some (vz 1)] [vz 1] _
            refine zz_if_eq (tgt := 184) d_TX_hexadecimal_176 (by decide) (by decide) (fun c76 => absurd c76 (by decide)) (fun c76 => ?_)
            refine ab_iload d_TX_hexadecimal_179 rfl ?_
            refine ab_goto (tgt := 190) d_TX_hexadecimal_181 (by decide) ?_
            refine zz_iret rfl d_TX_hexadecimal_190 ?_
            rw [hQ]; first | exact (Or.inl ⟨_, _, rfl, hfr, hlen, hsl, hx, hby_, (by omega), (by omega), (by first | (left; exact ⟨by omega, by simpa using hRR, by omega, by rw [Int.add_sub_cancel]; omega, by unfold chr; omega⟩) | (right; exact ⟨by omega, by simpa using hRR, by omega, by unfold chr; omega⟩))⟩) | exact (Or.inr ⟨_, rfl, hfr, hlen, hsl, hx, hby_, (by omega), (by rintro v q (⟨h1, h2, h3, h4, h5⟩ | ⟨h1, h2, h3, h5⟩); (first | (exfalso; omega) | (rw [show pl + 1 = (pl + 1) by omega, hRR] at h2; have e1 := congrArg Prod.fst h2; have e2 := congrArg Prod.snd h2; simp only at e1 e2; rw [← e1] at h4; unfold chr at h5; omega)); (first | (exfalso; omega) | (rw [show pl = (pl + 1) by omega, hRR] at h2; have e1 := congrArg Prod.fst h2; have e2 := congrArg Prod.snd h2; simp only at e1 e2; unfold chr at h5; omega)))⟩)
          · cases hv
            rw [hGe]
            change ab_W _ _ _ G71 176 [some (vR x), some (vz at_), some (vz 1), none, some (vz code47), some (vz dg48), some (vz 1)] [vz 0] _
            refine zz_if_eq (tgt := 184) d_TX_hexadecimal_176 (by decide) (by decide) (fun c77 => ?_) (fun c77 => absurd c77 (by decide))
            refine ab_aload_n d_TX_hexadecimal_184 rfl ?_
            refine zz_iconst d_TX_hexadecimal_185 ?_
            refine ab_iload_n d_TX_hexadecimal_186 rfl ?_
            refine ab_callV (d' := d - 1) (as := [vz 5, vz at_]) (st := []) (r := _) (z_TX_fail (o := o) (x := x) (lx := lx) (se := se) (by_ := by_) (n := n) (pl := (pl46 + 1)) (fa := fa) (fp := fp) (kd := kd) (kn := kn) (w := 5) (p := at_) hx (by omega) (by omega) (by omega)) (fun oc G2 h => by rcases h with ⟨h, _⟩ | ⟨h, _⟩ <;> exact ⟨_, h⟩) (by omega) m_TX_fail ml_TX_53 im_TX_fail se_TX_fail c_TX hx.2.2 (Nat.le_of_ble_eq_true rfl) d_TX_hexadecimal_187 rfl ?_
            intro v G78 hq
            rcases hq with ⟨hv, hfk, hlk, hsk, hNx, hq79⟩ | ⟨hv, hGe, hq80⟩
            · cases hv
              have hby_ := hfk.get hby_ (by simp only [List.mem_cons, List.not_mem_nil, or_false]; omega)
              have hfr := hfr.tr hfk (by simp)
              have hlen := hlk.trans hlen
              have hsl := hsk.trans hsl
              have hx := hNx
              change ab_W _ _ _ G78 190 [some (vR x), some (vz at_), some (vz 1), none, some (vz code47), some (vz dg48), some (vz 1)] [vz (-1)] _
              refine zz_iret rfl d_TX_hexadecimal_190 ?_
              rw [hQ]; first | exact (Or.inl ⟨_, _, rfl, hfr, hlen, hsl, hx, hby_, (by omega), (by omega), (by first | (left; exact ⟨by omega, by simpa using hRR, by omega, by rw [Int.add_sub_cancel]; omega, by unfold chr; omega⟩) | (right; exact ⟨by omega, by simpa using hRR, by omega, by unfold chr; omega⟩))⟩) | exact (Or.inr ⟨_, rfl, hfr, hlen, hsl, hx, hby_, (by omega), (by rintro v q (⟨h1, h2, h3, h4, h5⟩ | ⟨h1, h2, h3, h5⟩); (first | (exfalso; omega) | (rw [show pl + 1 = (pl + 1) by omega, hRR] at h2; have e1 := congrArg Prod.fst h2; have e2 := congrArg Prod.snd h2; simp only at e1 e2; rw [← e1] at h4; unfold chr at h5; omega)); (first | (exfalso; omega) | (rw [show pl = (pl + 1) by omega, hRR] at h2; have e1 := congrArg Prod.fst h2; have e2 := congrArg Prod.snd h2; simp only at e1 e2; unfold chr at h5; omega)))⟩)
            · cases hv
              rw [hGe]
              change ab_W _ _ _ G71 190 [some (vR x), some (vz at_), some (vz 1), none, some (vz code47), some (vz dg48), some (vz 1)] [vz (-1)] _
              exfalso; omega
set_option maxRecDepth 100000 in
set_option maxHeartbeats 4000000 in
theorem z_TX_property {X : ab_X} {d : Nat} {o : Nat → Nat} {G : ab_G} {x : Nat} {lx : Nat} {se : Nat} {by_ : Nat} {lby : Nat} {m : Nat} {f : Int → Int} {n : Int} {pl : Int} {fa : Int} {fp : Int} {kd : Nat} {kn : Int} {at_ : Int} {no : Int} (hx : cc o G x lx (ab_ob 10 [vR se, vR by_, vz n, vz pl, vz fa, vz fp, vR kd, vz kn])) (hby_ : cc o G by_ lby (za m f)) (c0 : 0 ≤ n ∧ n ≤ ↑m ∧ ↑m ≤ (100000 : Int) ∧ -100 ≤ pl ∧ pl ≤ 100000) (hb : bytes f n) (cf : fa = 0) (cn : no = 0 ∨ no = 1) (cl : 18 ≤ lby ∧ lby < lx) (n18 : ab_n0 = 18) (hd : 2 ≤ d) : ab_F X d y_TX_property (.code y_TX_property b_TX_property 4 (some (.int))) [vR x, vz at_, vz no] G (fun oc G2 => (∃ k2 : Nat, oc = .returned (some (vz (-2))) ∧ fx o o [lx] G G2 ∧ G2.length = G.length ∧ ab_slots G2 = ab_slots G ∧ cc o G2 x lx (ab_ob 10 [vR se, vR by_, vz n, vz (pl + 1), vz fa, vz fp, vR k2, vz no]) ∧ cc o G2 by_ lby (za m f) ∧ ((tpk f n pl = 76 ∧ k2 = 4) ∨ (tpk f n pl = 78 ∧ k2 = 5) ∨ (tpk f n pl = 71 ∧ k2 = 6) ∨ (tpk f n pl = 89 ∧ k2 = 7))) ∨ (∃ w : Int, oc = .returned (some (vz (-1))) ∧ fx o o [lx] G G2 ∧ G2.length = G.length ∧ ab_slots G2 = ab_slots G ∧ cc o G2 x lx (ab_ob 10 [vR se, vR by_, vz n, vz (pl + 1), vz w, vz at_, vR kd, vz kn]) ∧ cc o G2 by_ lby (za m f) ∧ (nzq (tpk f n pl) 76 ∧ nzq (tpk f n pl) 78 ∧ nzq (tpk f n pl) 71 ∧ nzq (tpk f n pl) 89) ∧ ((tpk f n pl = -1 ∧ w = 5) ∨ (¬ tpk f n pl = -1 ∧ w = 7)))) := by
  refine ab_F_of (by decide +kernel) (Nat.le_of_ble_eq_true rfl) ?_
  obtain ⟨Q, hQ⟩ : ∃ z : Outcome → ab_G → Prop, z = (fun oc G2 => (∃ k2 : Nat, oc = .returned (some (vz (-2))) ∧ fx o o [lx] G G2 ∧ G2.length = G.length ∧ ab_slots G2 = ab_slots G ∧ cc o G2 x lx (ab_ob 10 [vR se, vR by_, vz n, vz (pl + 1), vz fa, vz fp, vR k2, vz no]) ∧ cc o G2 by_ lby (za m f) ∧ ((tpk f n pl = 76 ∧ k2 = 4) ∨ (tpk f n pl = 78 ∧ k2 = 5) ∨ (tpk f n pl = 71 ∧ k2 = 6) ∨ (tpk f n pl = 89 ∧ k2 = 7))) ∨ (∃ w : Int, oc = .returned (some (vz (-1))) ∧ fx o o [lx] G G2 ∧ G2.length = G.length ∧ ab_slots G2 = ab_slots G ∧ cc o G2 x lx (ab_ob 10 [vR se, vR by_, vz n, vz (pl + 1), vz w, vz at_, vR kd, vz kn]) ∧ cc o G2 by_ lby (za m f) ∧ (nzq (tpk f n pl) 76 ∧ nzq (tpk f n pl) 78 ∧ nzq (tpk f n pl) 71 ∧ nzq (tpk f n pl) 89) ∧ ((tpk f n pl = -1 ∧ w = 5) ∨ (¬ tpk f n pl = -1 ∧ w = 7)))) := ⟨_, rfl⟩
  rw [← hQ]
  change ab_W X (ab_pl y_TX_property b_TX_property 4 (some (.int))) d G 0 [some (vR x), some (vz at_), some (vz no), none] [] Q
  have hfr : fx o o [lx] G G := fx.rf
  have hlen : G.length = G.length := rfl
  have hsl : ab_slots G = ab_slots G := rfl
  refine ab_aload_n d_TX_property_0 rfl ?_
  refine zz_iconst d_TX_property_1 ?_
  refine ab_callV (d' := d - 1) (as := [vz 0]) (st := []) (r := _) (z_TX_peek0 (o := o) (x := x) (lx := lx) (se := se) (by_ := by_) (lby := lby) (m := m) (f := f) (n := n) (pl := pl) (fa := fa) (fp := fp) (kd := kd) (kn := kn) hx hby_ (by omega) hb) (fun oc G2 h => by rcases h with ⟨_, h, _⟩ <;> exact ⟨_, h⟩) (by omega) m_TX_peek ml_TX_61 im_TX_peek se_TX_peek c_TX hx.2.2 (Nat.le_of_ble_eq_true rfl) d_TX_property_2 rfl ?_
  intro v G1 hq
  rcases hq with ⟨v2, hv, hGe, hq3, hq4⟩
  cases hv
  rw [hGe]
  change ab_W _ _ _ G 5 [some (vR x), some (vz at_), some (vz no), none] [vz v2] _
  refine ab_istore_n d_TX_property_5 (Nat.le_of_ble_eq_true rfl) (Nat.le_of_ble_eq_true rfl) rfl ?_
  change ab_W _ _ _ G 6 [some (vR x), some (vz at_), some (vz no), some (vz v2)] [] _
  refine ab_aload_n d_TX_property_6 rfl ?_
  refine ab_dup d_TX_property_7 rfl ?_
  refine ab_getf (fs := [vR se, vR by_, vz n, vz pl, vz fa, vz fp, vR kd, vz kn]) f_TX_43 d_TX_property_8 hx.2.2 rfl ?_
  refine zz_iconst d_TX_property_11 ?_
  refine zz_iadd d_TX_property_12 ?_
  refine ab_putf (fs := [vR se, vR by_, vz n, vz pl, vz fa, vz fp, vR kd, vz kn]) f_TX_43 (Or.inl rfl) d_TX_property_13 hx.2.2 (Nat.le_of_ble_eq_true rfl) (fun _ => ⟨rfl, rfl⟩) (hx.2.1 (by first | omega | exact (show 18 ≤ _ by omega))) ?_
  obtain ⟨G5, eG5⟩ : ∃ z : ab_G, z = List.set G x (ab_ob 10 [vR se, vR by_, vz n, vz (pl + 1), vz fa, vz fp, vR kd, vz kn]) := ⟨_, rfl⟩
  have hby_ := hby_.keep hx eG5 (by omega)
  have hlen := (z_len eG5).trans hlen
  have hsl := (z_sl hx eG5 rfl).trans hsl
  have hfr := hfr.wr hx eG5 (by simp)
  have hx := hx.kept eG5
  change ab_W _ _ _ (List.set G x (ab_ob 10 [vR se, vR by_, vz n, vz (pl + 1), vz fa, vz fp, vR kd, vz kn])) 16 [some (vR x), some (vz at_), some (vz no), some (vz v2)] [] _
  rw [← eG5]
  refine ab_iload_n d_TX_property_16 rfl ?_
  by_cases c6 : v2 = 71
  · refine zz_lookup (off := 61) (tgt := 78) d_TX_property_17 (by decide) (by omega) (by rw [c6]; decide) (by decide) ?_
    refine ab_aload_n d_TX_property_78 rfl ?_
    refine ab_gets (i := 6) (by decide) s_TX_95 d_TX_property_79 ?_
    refine ab_iload_n d_TX_property_82 rfl ?_
    refine ab_callV (d' := d - 1) (as := [vR 6, vz no]) (st := []) (r := _) (z_TX_aKind (o := o) (x := x) (lx := lx) (se := se) (by_ := by_) (n := n) (pl := (pl + 1)) (fa := fa) (fp := fp) (kd := kd) (kn := kn) (a := 6) (b := no) hx (by omega) (by omega) (by omega)) (fun oc G2 h => by rcases h with ⟨h, _⟩ <;> exact ⟨_, h⟩) (by omega) m_TX_aKind ml_TX_67 im_TX_aKind se_TX_aKind c_TX hx.2.2 (Nat.le_of_ble_eq_true rfl) d_TX_property_83 rfl ?_
    intro v G7 hq
    rcases hq with ⟨hv, hfk, hlk, hsk, hNx⟩
    cases hv
    have hby_ := hfk.get hby_ (by simp only [List.mem_cons, List.not_mem_nil, or_false]; omega)
    have hfr := hfr.tr hfk (by simp)
    have hlen := hlk.trans hlen
    have hsl := hsk.trans hsl
    have hx := hNx
    change ab_W _ _ _ G7 86 [some (vR x), some (vz at_), some (vz no), some (vz v2)] [vz (-2)] _
    refine zz_iret rfl d_TX_property_86 ?_
    rw [hQ]; exact (Or.inl ⟨_, rfl, hfr, hlen, hsl, hx, hby_, (by omega)⟩)
  replace c6 : nzq v2 71 := c6
  by_cases c8 : v2 = 76
  · refine zz_lookup (off := 43) (tgt := 60) d_TX_property_17 (by decide) (by omega) (by rw [c8]; decide) (by decide) ?_
    refine ab_aload_n d_TX_property_60 rfl ?_
    refine ab_gets (i := 4) (by decide) s_TX_89 d_TX_property_61 ?_
    refine ab_iload_n d_TX_property_64 rfl ?_
    refine ab_callV (d' := d - 1) (as := [vR 4, vz no]) (st := []) (r := _) (z_TX_aKind (o := o) (x := x) (lx := lx) (se := se) (by_ := by_) (n := n) (pl := (pl + 1)) (fa := fa) (fp := fp) (kd := kd) (kn := kn) (a := 4) (b := no) hx (by omega) (by omega) (by omega)) (fun oc G2 h => by rcases h with ⟨h, _⟩ <;> exact ⟨_, h⟩) (by omega) m_TX_aKind ml_TX_67 im_TX_aKind se_TX_aKind c_TX hx.2.2 (Nat.le_of_ble_eq_true rfl) d_TX_property_65 rfl ?_
    intro v G9 hq
    rcases hq with ⟨hv, hfk, hlk, hsk, hNx⟩
    cases hv
    have hby_ := hfk.get hby_ (by simp only [List.mem_cons, List.not_mem_nil, or_false]; omega)
    have hfr := hfr.tr hfk (by simp)
    have hlen := hlk.trans hlen
    have hsl := hsk.trans hsl
    have hx := hNx
    change ab_W _ _ _ G9 68 [some (vR x), some (vz at_), some (vz no), some (vz v2)] [vz (-2)] _
    refine zz_iret rfl d_TX_property_68 ?_
    rw [hQ]; exact (Or.inl ⟨_, rfl, hfr, hlen, hsl, hx, hby_, (by omega)⟩)
  replace c8 : nzq v2 76 := c8
  by_cases c10 : v2 = 78
  · refine zz_lookup (off := 52) (tgt := 69) d_TX_property_17 (by decide) (by omega) (by rw [c10]; decide) (by decide) ?_
    refine ab_aload_n d_TX_property_69 rfl ?_
    refine ab_gets (i := 5) (by decide) s_TX_92 d_TX_property_70 ?_
    refine ab_iload_n d_TX_property_73 rfl ?_
    refine ab_callV (d' := d - 1) (as := [vR 5, vz no]) (st := []) (r := _) (z_TX_aKind (o := o) (x := x) (lx := lx) (se := se) (by_ := by_) (n := n) (pl := (pl + 1)) (fa := fa) (fp := fp) (kd := kd) (kn := kn) (a := 5) (b := no) hx (by omega) (by omega) (by omega)) (fun oc G2 h => by rcases h with ⟨h, _⟩ <;> exact ⟨_, h⟩) (by omega) m_TX_aKind ml_TX_67 im_TX_aKind se_TX_aKind c_TX hx.2.2 (Nat.le_of_ble_eq_true rfl) d_TX_property_74 rfl ?_
    intro v G11 hq
    rcases hq with ⟨hv, hfk, hlk, hsk, hNx⟩
    cases hv
    have hby_ := hfk.get hby_ (by simp only [List.mem_cons, List.not_mem_nil, or_false]; omega)
    have hfr := hfr.tr hfk (by simp)
    have hlen := hlk.trans hlen
    have hsl := hsk.trans hsl
    have hx := hNx
    change ab_W _ _ _ G11 77 [some (vR x), some (vz at_), some (vz no), some (vz v2)] [vz (-2)] _
    refine zz_iret rfl d_TX_property_77 ?_
    rw [hQ]; exact (Or.inl ⟨_, rfl, hfr, hlen, hsl, hx, hby_, (by omega)⟩)
  replace c10 : nzq v2 78 := c10
  by_cases c12 : v2 = 89
  · refine zz_lookup (off := 70) (tgt := 87) d_TX_property_17 (by decide) (by omega) (by rw [c12]; decide) (by decide) ?_
    refine ab_aload_n d_TX_property_87 rfl ?_
    refine ab_gets (i := 7) (by decide) s_TX_98 d_TX_property_88 ?_
    refine ab_iload_n d_TX_property_91 rfl ?_
    refine ab_callV (d' := d - 1) (as := [vR 7, vz no]) (st := []) (r := _) (z_TX_aKind (o := o) (x := x) (lx := lx) (se := se) (by_ := by_) (n := n) (pl := (pl + 1)) (fa := fa) (fp := fp) (kd := kd) (kn := kn) (a := 7) (b := no) hx (by omega) (by omega) (by omega)) (fun oc G2 h => by rcases h with ⟨h, _⟩ <;> exact ⟨_, h⟩) (by omega) m_TX_aKind ml_TX_67 im_TX_aKind se_TX_aKind c_TX hx.2.2 (Nat.le_of_ble_eq_true rfl) d_TX_property_92 rfl ?_
    intro v G13 hq
    rcases hq with ⟨hv, hfk, hlk, hsk, hNx⟩
    cases hv
    have hby_ := hfk.get hby_ (by simp only [List.mem_cons, List.not_mem_nil, or_false]; omega)
    have hfr := hfr.tr hfk (by simp)
    have hlen := hlk.trans hlen
    have hsl := hsk.trans hsl
    have hx := hNx
    change ab_W _ _ _ G13 95 [some (vR x), some (vz at_), some (vz no), some (vz v2)] [vz (-2)] _
    refine zz_iret rfl d_TX_property_95 ?_
    rw [hQ]; exact (Or.inl ⟨_, rfl, hfr, hlen, hsl, hx, hby_, (by omega)⟩)
  replace c12 : nzq v2 89 := c12
  refine zz_lookup (off := 79) (tgt := 96) d_TX_property_17 (by decide) (by omega) (by simp only [Op.lookupswitch.offset]; rw [if_neg (fun h => c6 h.symm)]; rw [if_neg (fun h => c8 h.symm)]; rw [if_neg (fun h => c10 h.symm)]; rw [if_neg (fun h => c12 h.symm)]) (by decide) ?_
  refine ab_aload_n d_TX_property_96 rfl ?_
  refine ab_iload_n d_TX_property_97 rfl ?_
  refine zz_iconst d_TX_property_98 ?_
  refine zz_icmp_ne (tgt := 106) d_TX_property_99 (by decide) (by omega) (by decide) (fun c15 => ?_) (fun c15 => ?_)
  · refine zz_bipush d_TX_property_106 (by decide) ?_
    refine ab_iload_n d_TX_property_108 rfl ?_
    refine ab_callV (d' := d - 1) (as := [vz 7, vz at_]) (st := []) (r := _) (z_TX_fail (o := o) (x := x) (lx := lx) (se := se) (by_ := by_) (n := n) (pl := (pl + 1)) (fa := fa) (fp := fp) (kd := kd) (kn := kn) (w := 7) (p := at_) hx (by omega) (by omega) (by omega)) (fun oc G2 h => by rcases h with ⟨h, _⟩ | ⟨h, _⟩ <;> exact ⟨_, h⟩) (by omega) m_TX_fail ml_TX_53 im_TX_fail se_TX_fail c_TX hx.2.2 (Nat.le_of_ble_eq_true rfl) d_TX_property_109 rfl ?_
    intro v G16 hq
    rcases hq with ⟨hv, hfk, hlk, hsk, hNx, hq17⟩ | ⟨hv, hGe, hq18⟩
    · cases hv
      have hby_ := hfk.get hby_ (by simp only [List.mem_cons, List.not_mem_nil, or_false]; omega)
      have hfr := hfr.tr hfk (by simp)
      have hlen := hlk.trans hlen
      have hsl := hsk.trans hsl
      have hx := hNx
      change ab_W _ _ _ G16 112 [some (vR x), some (vz at_), some (vz no), some (vz v2)] [vz (-1)] _
      refine zz_iret rfl d_TX_property_112 ?_
      rw [hQ]; exact (Or.inr ⟨_, rfl, hfr, hlen, hsl, hx, hby_, (by rw [← hq3]; exact ⟨c8, c10, c6, c12⟩), (by omega)⟩)
    · cases hv
      rw [hGe]
      change ab_W _ _ _ G5 112 [some (vR x), some (vz at_), some (vz no), some (vz v2)] [vz (-1)] _
      exfalso; omega
  · refine zz_iconst d_TX_property_102 ?_
    refine ab_goto (tgt := 108) d_TX_property_103 (by decide) ?_
    refine ab_iload_n d_TX_property_108 rfl ?_
    refine ab_callV (d' := d - 1) (as := [vz 5, vz at_]) (st := []) (r := _) (z_TX_fail (o := o) (x := x) (lx := lx) (se := se) (by_ := by_) (n := n) (pl := (pl + 1)) (fa := fa) (fp := fp) (kd := kd) (kn := kn) (w := 5) (p := at_) hx (by omega) (by omega) (by omega)) (fun oc G2 h => by rcases h with ⟨h, _⟩ | ⟨h, _⟩ <;> exact ⟨_, h⟩) (by omega) m_TX_fail ml_TX_53 im_TX_fail se_TX_fail c_TX hx.2.2 (Nat.le_of_ble_eq_true rfl) d_TX_property_109 rfl ?_
    intro v G19 hq
    rcases hq with ⟨hv, hfk, hlk, hsk, hNx, hq20⟩ | ⟨hv, hGe, hq21⟩
    · cases hv
      have hby_ := hfk.get hby_ (by simp only [List.mem_cons, List.not_mem_nil, or_false]; omega)
      have hfr := hfr.tr hfk (by simp)
      have hlen := hlk.trans hlen
      have hsl := hsk.trans hsl
      have hx := hNx
      change ab_W _ _ _ G19 112 [some (vR x), some (vz at_), some (vz no), some (vz v2)] [vz (-1)] _
      refine zz_iret rfl d_TX_property_112 ?_
      rw [hQ]; exact (Or.inr ⟨_, rfl, hfr, hlen, hsl, hx, hby_, (by rw [← hq3]; exact ⟨c8, c10, c6, c12⟩), (by omega)⟩)
    · cases hv
      rw [hGe]
      change ab_W _ _ _ G5 112 [some (vR x), some (vz at_), some (vz no), some (vz v2)] [vz (-1)] _
      exfalso; omega
