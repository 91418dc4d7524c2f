set_option maxRecDepth 100000 in
set_option maxHeartbeats 4000000 in
theorem z_TX_begin {X : ab_X} {d : Nat} {o : Nat → Nat} {G : ab_G} {x : Nat} {lx : Nat} {se : Nat} {by_ : Nat} {n : Int} {pl : Int} {fa : Int} {fp : Int} {kd : Nat} {kn : Int} {r : Nat} {lr : Nat} {lim : Int} {b2 : Nat} {sz : Int} (hx : cc o G x lx (ab_ob 10 [vR se, vR by_, vz n, vz pl, vz fa, vz fp, vR kd, vz kn])) (hr : cc o G r lr (ab_ob 7 [vz lim, vR b2, vz sz])) (cl : 18 ≤ lx ∧ lr < lx) (n18 : ab_n0 = 18) : ab_F X d y_TX_begin (.code y_TX_begin b_TX_begin 2 none) [vR x, vR r] G (fun oc G2 => oc = .returned none ∧ fx o o [lx] G G2 ∧ G2.length = G.length ∧ ab_slots G2 = ab_slots G ∧ cc o G2 x lx (ab_ob 10 [vR se, vR b2, vz sz, vz 0, vz 0, vz (-1), vR kd, vz kn])) := by
  refine ab_F_of (by decide +kernel) (Nat.le_of_ble_eq_true rfl) ?_
  obtain ⟨Q, hQ⟩ : ∃ z : Outcome → ab_G → Prop, z = (fun oc G2 => oc = .returned none ∧ fx o o [lx] G G2 ∧ G2.length = G.length ∧ ab_slots G2 = ab_slots G ∧ cc o G2 x lx (ab_ob 10 [vR se, vR b2, vz sz, vz 0, vz 0, vz (-1), vR kd, vz kn])) := ⟨_, rfl⟩
  rw [← hQ]
  change ab_W X (ab_pl y_TX_begin b_TX_begin 2 none) d G 0 [some (vR x), some (vR r)] [] Q
  have hfr : fx o o [lx] G G := fx.rf
  have hlen : G.length = G.length := rfl
  have hsl : ab_slots G = ab_slots G := rfl
  refine ab_aload_n d_TX_begin_0 rfl ?_
  refine ab_aload_n d_TX_begin_1 rfl ?_
  refine ab_getf (fs := [vz lim, vR b2, vz sz]) f_TX_32 d_TX_begin_2 hr.2.2 rfl ?_
  refine ab_putf (fs := [vR se, vR by_, vz n, vz pl, vz fa, vz fp, vR kd, vz kn]) f_TX_18 (Or.inl rfl) d_TX_begin_5 hx.2.2 (Nat.le_of_ble_eq_true rfl) (fun _ => ⟨rfl, rfl⟩) (hx.2.1 (by omega)) ?_
  obtain ⟨G1, eG1⟩ : ∃ z : ab_G, z = List.set G x (ab_ob 10 [vR se, vR b2, vz n, vz pl, vz fa, vz fp, vR kd, vz kn]) := ⟨_, rfl⟩
  have hr := hr.keep hx eG1 (by omega)
  have hlen := (z_len eG1).trans hlen
  have hsl := (z_sl hx eG1 rfl).trans hsl
  have hfr := hfr.wr hx eG1 (by simp)
  have hx := hx.kept eG1
  change ab_W _ _ _ (List.set G x (ab_ob 10 [vR se, vR b2, vz n, vz pl, vz fa, vz fp, vR kd, vz kn])) 8 [some (vR x), some (vR r)] [] _
  rw [← eG1]
  refine ab_aload_n d_TX_begin_8 rfl ?_
  refine ab_aload_n d_TX_begin_9 rfl ?_
  refine ab_getf (fs := [vz lim, vR b2, vz sz]) f_TX_37 d_TX_begin_10 hr.2.2 rfl ?_
  refine ab_putf (fs := [vR se, vR b2, vz n, vz pl, vz fa, vz fp, vR kd, vz kn]) f_TX_40 (Or.inl rfl) d_TX_begin_13 hx.2.2 (Nat.le_of_ble_eq_true rfl) (fun _ => ⟨rfl, rfl⟩) (hx.2.1 (by omega)) ?_
  obtain ⟨G2, eG2⟩ : ∃ z : ab_G, z = List.set G1 x (ab_ob 10 [vR se, vR b2, vz sz, vz pl, vz fa, vz fp, vR kd, vz kn]) := ⟨_, rfl⟩
  have hr := hr.keep hx eG2 (by omega)
  have hlen := (z_len eG2).trans hlen
  have hsl := (z_sl hx eG2 rfl).trans hsl
  have hfr := hfr.wr hx eG2 (by simp)
  have hx := hx.kept eG2
  change ab_W _ _ _ (List.set G1 x (ab_ob 10 [vR se, vR b2, vz sz, vz pl, vz fa, vz fp, vR kd, vz kn])) 16 [some (vR x), some (vR r)] [] _
  rw [← eG2]
  refine ab_aload_n d_TX_begin_16 rfl ?_
  refine zz_iconst d_TX_begin_17 ?_
  refine ab_putf (fs := [vR se, vR b2, vz sz, vz pl, vz fa, vz fp, vR kd, vz kn]) f_TX_43 (Or.inl rfl) d_TX_begin_18 hx.2.2 (Nat.le_of_ble_eq_true rfl) (fun _ => ⟨rfl, rfl⟩) (hx.2.1 (by omega)) ?_
  obtain ⟨G3, eG3⟩ : ∃ z : ab_G, z = List.set G2 x (ab_ob 10 [vR se, vR b2, vz sz, vz 0, vz fa, vz fp, vR kd, vz kn]) := ⟨_, rfl⟩
  have hr := hr.keep hx eG3 (by omega)
  have hlen := (z_len eG3).trans hlen
  have hsl := (z_sl hx eG3 rfl).trans hsl
  have hfr := hfr.wr hx eG3 (by simp)
  have hx := hx.kept eG3
  change ab_W _ _ _ (List.set G2 x (ab_ob 10 [vR se, vR b2, vz sz, vz 0, vz fa, vz fp, vR kd, vz kn])) 21 [some (vR x), some (vR r)] [] _
  rw [← eG3]
  refine ab_aload_n d_TX_begin_21 rfl ?_
  refine zz_iconst d_TX_begin_22 ?_
  refine ab_putf (fs := [vR se, vR b2, vz sz, vz 0, vz fa, vz fp, vR kd, vz kn]) f_TX_46 (Or.inl rfl) d_TX_begin_23 hx.2.2 (Nat.le_of_ble_eq_true rfl) (fun _ => ⟨rfl, rfl⟩) (hx.2.1 (by omega)) ?_
  obtain ⟨G4, eG4⟩ : ∃ z : ab_G, z = List.set G3 x (ab_ob 10 [vR se, vR b2, vz sz, vz 0, vz 0, vz fp, vR kd, vz kn]) := ⟨_, rfl⟩
  have hr := hr.keep hx eG4 (by omega)
  have hlen := (z_len eG4).trans hlen
  have hsl := (z_sl hx eG4 rfl).trans hsl
  have hfr := hfr.wr hx eG4 (by simp)
  have hx := hx.kept eG4
  change ab_W _ _ _ (List.set G3 x (ab_ob 10 [vR se, vR b2, vz sz, vz 0, vz 0, vz fp, vR kd, vz kn])) 26 [some (vR x), some (vR r)] [] _
  rw [← eG4]
  refine ab_aload_n d_TX_begin_26 rfl ?_
  refine zz_iconst d_TX_begin_27 ?_
  refine ab_putf (fs := [vR se, vR b2, vz sz, vz 0, vz 0, vz fp, vR kd, vz kn]) f_TX_22 (Or.inl rfl) d_TX_begin_28 hx.2.2 (Nat.le_of_ble_eq_true rfl) (fun _ => ⟨rfl, rfl⟩) (hx.2.1 (by omega)) ?_
  obtain ⟨G5, eG5⟩ : ∃ z : ab_G, z = List.set G4 x (ab_ob 10 [vR se, vR b2, vz sz, vz 0, vz 0, vz (-1), vR kd, vz kn]) := ⟨_, rfl⟩
  have hr := hr.keep hx eG5 (by omega)
  have hlen := (z_len eG5).trans hlen
  have hsl := (z_sl hx eG5 rfl).trans hsl
  have hfr := hfr.wr hx eG5 (by simp)
  have hx := hx.kept eG5
  change ab_W _ _ _ (List.set G4 x (ab_ob 10 [vR se, vR b2, vz sz, vz 0, vz 0, vz (-1), vR kd, vz kn])) 31 [some (vR x), some (vR r)] [] _
  rw [← eG5]
  refine ab_vret rfl d_TX_begin_31 ?_
  rw [hQ]; exact ⟨rfl, hfr, hlen, hsl, hx⟩
set_option maxRecDepth 100000 in
set_option maxHeartbeats 4000000 in
theorem z_TX_peek {X : ab_X} {d : Nat} {o : Nat → Nat} {G : ab_G} {x : Nat} {lx : Nat} {se : Nat} {by_ : Nat} {lby : Nat} {m : Nat} {f : Int → Int} {n : Int} {pl : Int} {fa : Int} {fp : Int} {kd : Nat} {kn : Int} {k : Int} (hx : cc o G x lx (ab_ob 10 [vR se, vR by_, vz n, vz pl, vz fa, vz fp, vR kd, vz kn])) (hby_ : cc o G by_ lby (za m f)) (c0 : 0 ≤ n ∧ n ≤ ↑m ∧ ↑m ≤ (100000 : Int) ∧ -100 ≤ pl ∧ pl ≤ 100000) (hb : bytes f n) (ck : -100 ≤ k ∧ k ≤ 100) : ab_F X d y_TX_peek (.code y_TX_peek b_TX_peek 3 (some (.int))) [vR x, vz k] G (fun oc G2 => ∃ v : Int, oc = .returned (some (vz v)) ∧ G2 = G ∧ (v = tpk f n (pl + k)) ∧ (-1 ≤ v ∧ v ≤ 255)) := by
  refine ab_F_of (by decide +kernel) (Nat.le_of_ble_eq_true rfl) ?_
  obtain ⟨Q, hQ⟩ : ∃ z : Outcome → ab_G → Prop, z = (fun oc G2 => ∃ v : Int, oc = .returned (some (vz v)) ∧ G2 = G ∧ (v = tpk f n (pl + k)) ∧ (-1 ≤ v ∧ v ≤ 255)) := ⟨_, rfl⟩
  rw [← hQ]
  change ab_W X (ab_pl y_TX_peek b_TX_peek 3 (some (.int))) d G 0 [some (vR x), some (vz k), none] [] Q
  have hfr : fx o o [] G G := fx.rf
  have hlen : G.length = G.length := rfl
  have hsl : ab_slots G = ab_slots G := rfl
  refine ab_aload_n d_TX_peek_0 rfl ?_
  refine ab_getf (fs := [vR se, vR by_, vz n, vz pl, vz fa, vz fp, vR kd, vz kn]) f_TX_43 d_TX_peek_1 hx.2.2 rfl ?_
  refine ab_iload_n d_TX_peek_4 rfl ?_
  refine zz_iadd d_TX_peek_5 ?_
  refine ab_istore_n d_TX_peek_6 (Nat.le_of_ble_eq_true rfl) (Nat.le_of_ble_eq_true rfl) rfl ?_
  change ab_W _ _ _ G 7 [some (vR x), some (vz k), some (vz (pl + k))] [] _
  refine ab_iload_n d_TX_peek_7 rfl ?_
  refine zz_if_lt (tgt := 28) d_TX_peek_8 (by decide) (by omega) (fun c1 => ?_) (fun c1 => ?_)
  · refine zz_iconst d_TX_peek_28 ?_
    refine zz_iret rfl d_TX_peek_29 ?_
    rw [hQ]; exact ⟨_, rfl, rfl, (by unfold tpk; first | rw [if_pos (by omega)] | rw [if_neg (by omega)]), (by omega)⟩
  · refine ab_iload_n d_TX_peek_11 rfl ?_
    refine ab_aload_n d_TX_peek_12 rfl ?_
    refine ab_getf (fs := [vR se, vR by_, vz n, vz pl, vz fa, vz fp, vR kd, vz kn]) f_TX_40 d_TX_peek_13 hx.2.2 rfl ?_
    refine zz_icmp_ge (tgt := 28) d_TX_peek_16 (by decide) (by omega) (by omega) (fun c2 => ?_) (fun c2 => ?_)
    · refine zz_iconst d_TX_peek_28 ?_
      refine zz_iret rfl d_TX_peek_29 ?_
      rw [hQ]; exact ⟨_, rfl, rfl, (by unfold tpk; first | rw [if_pos (by omega)] | rw [if_neg (by omega)]), (by omega)⟩
    · refine ab_aload_n d_TX_peek_19 rfl ?_
      refine ab_getf (fs := [vR se, vR by_, vz n, vz pl, vz fa, vz fp, vR kd, vz kn]) f_TX_18 d_TX_peek_20 hx.2.2 rfl ?_
      refine ab_iload_n d_TX_peek_23 rfl ?_
      refine zz_iald d_TX_peek_24 hby_ (by omega) ?_
      have hq3 := hb (pl + k) (by omega) (by omega)
      refine ab_goto (tgt := 29) d_TX_peek_25 (by decide) ?_
      refine zz_iret rfl d_TX_peek_29 ?_
      rw [hQ]; exact ⟨_, rfl, rfl, (by unfold tpk; first | rw [if_pos (by omega)] | rw [if_neg (by omega)]), (by omega)⟩
set_option maxRecDepth 100000 in
set_option maxHeartbeats 4000000 in
theorem z_TX_fail {X : ab_X} {d : Nat} {o : Nat → Nat} {G : ab_G} {x : Nat} {lx : Nat} {se : Nat} {by_ : Nat} {n : Int} {pl : Int} {fa : Int} {fp : Int} {kd : Nat} {kn : Int} {w : Int} {p : Int} (hx : cc o G x lx (ab_ob 10 [vR se, vR by_, vz n, vz pl, vz fa, vz fp, vR kd, vz kn])) (c1 : 0 ≤ fa ∧ fa ≤ 100) (cl : 18 ≤ lx) (n18 : ab_n0 = 18) : ab_F X d y_TX_fail (.code y_TX_fail b_TX_fail 3 (some (.int))) [vR x, vz w, vz p] G (fun oc G2 => (oc = .returned (some (vz (-1))) ∧ fx o o [lx] G G2 ∧ G2.length = G.length ∧ ab_slots G2 = ab_slots G ∧ cc o G2 x lx (ab_ob 10 [vR se, vR by_, vz n, vz pl, vz w, vz p, vR kd, vz kn]) ∧ (fa = 0)) ∨ (oc = .returned (some (vz (-1))) ∧ G2 = G ∧ (¬ fa = 0))) := by
  refine ab_F_of (by decide +kernel) (Nat.le_of_ble_eq_true rfl) ?_
  obtain ⟨Q, hQ⟩ : ∃ z : Outcome → ab_G → Prop, z = (fun oc G2 => (oc = .returned (some (vz (-1))) ∧ fx o o [lx] G G2 ∧ G2.length = G.length ∧ ab_slots G2 = ab_slots G ∧ cc o G2 x lx (ab_ob 10 [vR se, vR by_, vz n, vz pl, vz w, vz p, vR kd, vz kn]) ∧ (fa = 0)) ∨ (oc = .returned (some (vz (-1))) ∧ G2 = G ∧ (¬ fa = 0))) := ⟨_, rfl⟩
  rw [← hQ]
  change ab_W X (ab_pl y_TX_fail b_TX_fail 3 (some (.int))) d G 0 [some (vR x), some (vz w), some (vz p)] [] Q
  have hfr : fx o o [lx] G G := fx.rf
  have hlen : G.length = G.length := rfl
  have hsl : ab_slots G = ab_slots G := rfl
  refine ab_aload_n d_TX_fail_0 rfl ?_
  refine ab_getf (fs := [vR se, vR by_, vz n, vz pl, vz fa, vz fp, vR kd, vz kn]) f_TX_46 d_TX_fail_1 hx.2.2 rfl ?_
  refine zz_if_ne (tgt := 17) d_TX_fail_4 (by decide) (by omega) (fun c1 => ?_) (fun c1 => ?_)
  · refine zz_iconst d_TX_fail_17 ?_
    refine zz_iret rfl d_TX_fail_18 ?_
    rw [hQ]; first | exact (Or.inl ⟨rfl, hfr, hlen, hsl, hx, (by omega)⟩) | exact (Or.inr ⟨rfl, rfl, (by omega)⟩)
  · refine ab_aload_n d_TX_fail_7 rfl ?_
    refine ab_iload_n d_TX_fail_8 rfl ?_
    refine ab_putf (fs := [vR se, vR by_, vz n, vz pl, vz fa, vz fp, vR kd, vz kn]) f_TX_46 (Or.inl rfl) d_TX_fail_9 hx.2.2 (Nat.le_of_ble_eq_true rfl) (fun _ => ⟨rfl, rfl⟩) (hx.2.1 (by omega)) ?_
    obtain ⟨G2, eG2⟩ : ∃ z : ab_G, z = List.set G x (ab_ob 10 [vR se, vR by_, vz n, vz pl, vz w, vz fp, vR kd, vz kn]) := ⟨_, rfl⟩
    have hlen := (z_len eG2).trans hlen
    have hsl := (z_sl hx eG2 rfl).trans hsl
    have hfr := hfr.wr hx eG2 (by simp)
    have hx := hx.kept eG2
    change ab_W _ _ _ (List.set G x (ab_ob 10 [vR se, vR by_, vz n, vz pl, vz w, vz fp, vR kd, vz kn])) 12 [some (vR x), some (vz w), some (vz p)] [] _
    rw [← eG2]
    refine ab_aload_n d_TX_fail_12 rfl ?_
    refine ab_iload_n d_TX_fail_13 rfl ?_
    refine ab_putf (fs := [vR se, vR by_, vz n, vz pl, vz w, vz fp, vR kd, vz kn]) f_TX_22 (Or.inl rfl) d_TX_fail_14 hx.2.2 (Nat.le_of_ble_eq_true rfl) (fun _ => ⟨rfl, rfl⟩) (hx.2.1 (by omega)) ?_
    obtain ⟨G3, eG3⟩ : ∃ z : ab_G, z = List.set G2 x (ab_ob 10 [vR se, vR by_, vz n, vz pl, vz w, vz p, vR kd, vz kn]) := ⟨_, rfl⟩
    have hlen := (z_len eG3).trans hlen
    have hsl := (z_sl hx eG3 rfl).trans hsl
    have hfr := hfr.wr hx eG3 (by simp)
    have hx := hx.kept eG3
    change ab_W _ _ _ (List.set G2 x (ab_ob 10 [vR se, vR by_, vz n, vz pl, vz w, vz p, vR kd, vz kn])) 17 [some (vR x), some (vz w), some (vz p)] [] _
    rw [← eG3]
    refine zz_iconst d_TX_fail_17 ?_
    refine zz_iret rfl d_TX_fail_18 ?_
    rw [hQ]; exact (Or.inl ⟨rfl, hfr, hlen, hsl, hx, (by omega)⟩)
set_option maxRecDepth 100000 in
set_option maxHeartbeats 4000000 in
theorem z_TX_character {X : ab_X} {d : Nat} {o : Nat → Nat} {G : ab_G} {x : Nat} {lx : Nat} {se : Nat} {by_ : Nat} {lby : Nat} {m : Nat} {f : Int → Int} {n : Int} {pl : Int} {fa : Int} {fp : Int} {kd : Nat} {kn : Int} (hx : cc o G x lx (ab_ob 10 [vR se, vR by_, vz n, vz pl, vz fa, vz fp, vR kd, vz kn])) (hby_ : cc o G by_ lby (za m f)) (c0 : 0 ≤ n ∧ n ≤ ↑m ∧ ↑m ≤ (100000 : Int) ∧ -100 ≤ pl ∧ pl ≤ 100000) (hb : bytes f n) (cf : fa = 0) (cl : 18 ≤ lx ∧ lx < lby) (n18 : ab_n0 = 18) (hd : 2 ≤ d) : ab_F X d y_TX_character (.code y_TX_character b_TX_character 2 (some (.int))) [vR x] G (fun oc G2 => (oc = .returned (some (vz (-1))) ∧ fx o o [lx] G G2 ∧ G2.length = G.length ∧ ab_slots G2 = ab_slots G ∧ cc o G2 x lx (ab_ob 10 [vR se, vR by_, vz n, vz pl, vz 1, vz pl, vR kd, vz kn]) ∧ (u8 f n pl = -1)) ∨ (∃ v : Int, ∃ p2 : Int, oc = .returned (some (vz v)) ∧ fx o o [lx] G G2 ∧ G2.length = G.length ∧ ab_slots G2 = ab_slots G ∧ cc o G2 x lx (ab_ob 10 [vR se, vR by_, vz n, vz p2, vz fa, vz fp, vR kd, vz kn]) ∧ (v = u8 f n pl) ∧ (0 ≤ v ∧ v ≤ 1114111) ∧ (p2 = pl + wd v) ∧ (pl < p2 ∧ p2 ≤ pl + 4))) := by
  refine ab_F_of (by decide +kernel) (Nat.le_of_ble_eq_true rfl) ?_
  obtain ⟨Q, hQ⟩ : ∃ z : Outcome → ab_G → Prop, z = (fun oc G2 => (oc = .returned (some (vz (-1))) ∧ fx o o [lx] G G2 ∧ G2.length = G.length ∧ ab_slots G2 = ab_slots G ∧ cc o G2 x lx (ab_ob 10 [vR se, vR by_, vz n, vz pl, vz 1, vz pl, vR kd, vz kn]) ∧ (u8 f n pl = -1)) ∨ (∃ v : Int, ∃ p2 : Int, oc = .returned (some (vz v)) ∧ fx o o [lx] G G2 ∧ G2.length = G.length ∧ ab_slots G2 = ab_slots G ∧ cc o G2 x lx (ab_ob 10 [vR se, vR by_, vz n, vz p2, vz fa, vz fp, vR kd, vz kn]) ∧ (v = u8 f n pl) ∧ (0 ≤ v ∧ v ≤ 1114111) ∧ (p2 = pl + wd v) ∧ (pl < p2 ∧ p2 ≤ pl + 4))) := ⟨_, rfl⟩
  rw [← hQ]
  change ab_W X (ab_pl y_TX_character b_TX_character 2 (some (.int))) d G 0 [some (vR x), none] [] Q
  have hfr : fx o o [lx] G G := fx.rf
  have hlen : G.length = G.length := rfl
  have hsl : ab_slots G = ab_slots G := rfl
  refine ab_aload_n d_TX_character_0 rfl ?_
  refine ab_getf (fs := [vR se, vR by_, vz n, vz pl, vz fa, vz fp, vR kd, vz kn]) f_TX_18 d_TX_character_1 hx.2.2 rfl ?_
  refine ab_aload_n d_TX_character_4 rfl ?_
  refine ab_getf (fs := [vR se, vR by_, vz n, vz pl, vz fa, vz fp, vR kd, vz kn]) f_TX_43 d_TX_character_5 hx.2.2 rfl ?_
  refine ab_aload_n d_TX_character_8 rfl ?_
  refine ab_getf (fs := [vR se, vR by_, vz n, vz pl, vz fa, vz fp, vR kd, vz kn]) f_TX_40 d_TX_character_9 hx.2.2 rfl ?_
  refine ab_callS (d' := d - 1) (as := [vR by_, vz pl, vz n]) (st := []) (z_PW_codeAt (o := o) (a := by_) (l := lby) (m := m) (f := f) (p := pl) (n := n) hby_ (by omega) hb (by omega)) (fun oc G2 h => by rcases h with ⟨_, h, _⟩ <;> exact ⟨_, h⟩) (by omega) m_PW_codeAt ml_TX_49 st_PW_codeAt (Nat.le_of_ble_eq_true rfl) d_TX_character_12 rfl ?_
  intro v G1 hq
  rcases hq with ⟨v2, hv, hGe, hq3⟩
  cases hv
  rw [hGe]
  change ab_W _ _ _ G 15 [some (vR x), none] [vz v2] _
  refine ab_istore_n d_TX_character_15 (Nat.le_of_ble_eq_true rfl) (Nat.le_of_ble_eq_true rfl) rfl ?_
  change ab_W _ _ _ G 16 [some (vR x), some (vz v2)] [] _
  have hq4 := u8_in hb pl
  rw [← hq3] at hq4
  refine ab_iload_n d_TX_character_16 rfl ?_
  refine zz_iconst d_TX_character_17 ?_
  refine zz_icmp_ne (tgt := 31) d_TX_character_18 (by decide) (by omega) (by decide) (fun c5 => ?_) (fun c5 => ?_)
  · refine ab_aload_n d_TX_character_31 rfl ?_
    refine ab_dup d_TX_character_32 rfl ?_
    refine ab_getf (fs := [vR se, vR by_, vz n, vz pl, vz fa, vz fp, vR kd, vz kn]) f_TX_43 d_TX_character_33 hx.2.2 rfl ?_
    refine ab_iload_n d_TX_character_36 rfl ?_
    refine ab_callS (d' := d - 1) (as := [vz v2]) (st := [vz pl, vR x]) (z_PW_widthOf (o := o) (x := v2) (by omega)) (fun oc G2 h => by rcases h with ⟨h, _⟩ | ⟨h, _⟩ | ⟨h, _⟩ | ⟨h, _⟩ <;> exact ⟨_, h⟩) (by omega) m_PW_widthOf ml_TX_57 st_PW_widthOf (Nat.le_of_ble_eq_true rfl) d_TX_character_37 rfl ?_
    intro v G6 hq
    rcases hq with ⟨hv, hGe, hq7⟩ | ⟨hv, hGe, hq8⟩ | ⟨hv, hGe, hq9⟩ | ⟨hv, hGe, hq10⟩
    · cases hv
      rw [hGe]
      change ab_W _ _ _ G 40 [some (vR x), some (vz v2)] [vz 1, vz pl, vR x] _
      refine zz_iadd d_TX_character_40 ?_
      refine ab_putf (fs := [vR se, vR by_, vz n, vz pl, vz fa, vz fp, vR kd, vz kn]) f_TX_43 (Or.inl rfl) d_TX_character_41 hx.2.2 (Nat.le_of_ble_eq_true rfl) (fun _ => ⟨rfl, rfl⟩) (hx.2.1 (by omega)) ?_
      obtain ⟨G11, eG11⟩ : ∃ z : ab_G, z = List.set G x (ab_ob 10 [vR se, vR by_, vz n, vz (pl + 1), vz fa, vz fp, vR kd, vz kn]) := ⟨_, rfl⟩
      have hby_ := hby_.keep hx eG11 (by omega)
      have hlen := (z_len eG11).trans hlen
      have hsl := (z_sl hx eG11 rfl).trans hsl
      have hfr := hfr.wr hx eG11 (by simp)
      have hx := hx.kept eG11
      change ab_W _ _ _ (List.set G x (ab_ob 10 [vR se, vR by_, vz n, vz (pl + 1), vz fa, vz fp, vR kd, vz kn])) 44 [some (vR x), some (vz v2)] [] _
      rw [← eG11]
      refine ab_iload_n d_TX_character_44 rfl ?_
      refine zz_iret rfl d_TX_character_45 ?_
      rw [hQ]; first | exact (Or.inl ⟨rfl, hfr, hlen, hsl, hx, (by rw [← hq3]; omega)⟩) | exact (Or.inr ⟨_, _, rfl, hfr, hlen, hsl, hx, (by assumption), (by omega), (by congr 1; unfold wd; first | rw [if_pos (by omega)] | rw [if_neg (by omega), if_pos (by omega)] | rw [if_neg (by omega), if_neg (by omega), if_pos (by omega)] | rw [if_neg (by omega), if_neg (by omega), if_neg (by omega)]), (by omega)⟩)
    · cases hv
      rw [hGe]
      change ab_W _ _ _ G 40 [some (vR x), some (vz v2)] [vz 2, vz pl, vR x] _
      refine zz_iadd d_TX_character_40 ?_
      refine ab_putf (fs := [vR se, vR by_, vz n, vz pl, vz fa, vz fp, vR kd, vz kn]) f_TX_43 (Or.inl rfl) d_TX_character_41 hx.2.2 (Nat.le_of_ble_eq_true rfl) (fun _ => ⟨rfl, rfl⟩) (hx.2.1 (by omega)) ?_
      obtain ⟨G12, eG12⟩ : ∃ z : ab_G, z = List.set G x (ab_ob 10 [vR se, vR by_, vz n, vz (pl + 2), vz fa, vz fp, vR kd, vz kn]) := ⟨_, rfl⟩
      have hby_ := hby_.keep hx eG12 (by omega)
      have hlen := (z_len eG12).trans hlen
      have hsl := (z_sl hx eG12 rfl).trans hsl
      have hfr := hfr.wr hx eG12 (by simp)
      have hx := hx.kept eG12
      change ab_W _ _ _ (List.set G x (ab_ob 10 [vR se, vR by_, vz n, vz (pl + 2), vz fa, vz fp, vR kd, vz kn])) 44 [some (vR x), some (vz v2)] [] _
      rw [← eG12]
      refine ab_iload_n d_TX_character_44 rfl ?_
      refine zz_iret rfl d_TX_character_45 ?_
      rw [hQ]; first | exact (Or.inl ⟨rfl, hfr, hlen, hsl, hx, (by rw [← hq3]; omega)⟩) | exact (Or.inr ⟨_, _, rfl, hfr, hlen, hsl, hx, (by assumption), (by omega), (by congr 1; unfold wd; first | rw [if_pos (by omega)] | rw [if_neg (by omega), if_pos (by omega)] | rw [if_neg (by omega), if_neg (by omega), if_pos (by omega)] | rw [if_neg (by omega), if_neg (by omega), if_neg (by omega)]), (by omega)⟩)
    · cases hv
      rw [hGe]
      change ab_W _ _ _ G 40 [some (vR x), some (vz v2)] [vz 3, vz pl, vR x] _
      refine zz_iadd d_TX_character_40 ?_
      refine ab_putf (fs := [vR se, vR by_, vz n, vz pl, vz fa, vz fp, vR kd, vz kn]) f_TX_43 (Or.inl rfl) d_TX_character_41 hx.2.2 (Nat.le_of_ble_eq_true rfl) (fun _ => ⟨rfl, rfl⟩) (hx.2.1 (by omega)) ?_
      obtain ⟨G13, eG13⟩ : ∃ z : ab_G, z = List.set G x (ab_ob 10 [vR se, vR by_, vz n, vz (pl + 3), vz fa, vz fp, vR kd, vz kn]) := ⟨_, rfl⟩
      have hby_ := hby_.keep hx eG13 (by omega)
      have hlen := (z_len eG13).trans hlen
      have hsl := (z_sl hx eG13 rfl).trans hsl
      have hfr := hfr.wr hx eG13 (by simp)
      have hx := hx.kept eG13
      change ab_W _ _ _ (List.set G x (ab_ob 10 [vR se, vR by_, vz n, vz (pl + 3), vz fa, vz fp, vR kd, vz kn])) 44 [some (vR x), some (vz v2)] [] _
      rw [← eG13]
      refine ab_iload_n d_TX_character_44 rfl ?_
      refine zz_iret rfl d_TX_character_45 ?_
      rw [hQ]; first | exact (Or.inl ⟨rfl, hfr, hlen, hsl, hx, (by rw [← hq3]; omega)⟩) | exact (Or.inr ⟨_, _, rfl, hfr, hlen, hsl, hx, (by assumption), (by omega), (by congr 1; unfold wd; first | rw [if_pos (by omega)] | rw [if_neg (by omega), if_pos (by omega)] | rw [if_neg (by omega), if_neg (by omega), if_pos (by omega)] | rw [if_neg (by omega), if_neg (by omega), if_neg (by omega)]), (by omega)⟩)
    · cases hv
      rw [hGe]
      change ab_W _ _ _ G 40 [some (vR x), some (vz v2)] [vz 4, vz pl, vR x] _
      refine zz_iadd d_TX_character_40 ?_
      refine ab_putf (fs := [vR se, vR by_, vz n, vz pl, vz fa, vz fp, vR kd, vz kn]) f_TX_43 (Or.inl rfl) d_TX_character_41 hx.2.2 (Nat.le_of_ble_eq_true rfl) (fun _ => ⟨rfl, rfl⟩) (hx.2.1 (by omega)) ?_
      obtain ⟨G14, eG14⟩ : ∃ z : ab_G, z = List.set G x (ab_ob 10 [vR se, vR by_, vz n, vz (pl + 4), vz fa, vz fp, vR kd, vz kn]) := ⟨_, rfl⟩
      have hby_ := hby_.keep hx eG14 (by omega)
      have hlen := (z_len eG14).trans hlen
      have hsl := (z_sl hx eG14 rfl).trans hsl
      have hfr := hfr.wr hx eG14 (by simp)
      have hx := hx.kept eG14
      change ab_W _ _ _ (List.set G x (ab_ob 10 [vR se, vR by_, vz n, vz (pl + 4), vz fa, vz fp, vR kd, vz kn])) 44 [some (vR x), some (vz v2)] [] _
      rw [← eG14]
      refine ab_iload_n d_TX_character_44 rfl ?_
      refine zz_iret rfl d_TX_character_45 ?_
      rw [hQ]; first | exact (Or.inl ⟨rfl, hfr, hlen, hsl, hx, (by rw [← hq3]; omega)⟩) | exact (Or.inr ⟨_, _, rfl, hfr, hlen, hsl, hx, (by assumption), (by omega), (by congr 1; unfold wd; first | rw [if_pos (by omega)] | rw [if_neg (by omega), if_pos (by omega)] | rw [if_neg (by omega), if_neg (by omega), if_pos (by omega)] | rw [if_neg (by omega), if_neg (by omega), if_neg (by omega)]), (by omega)⟩)
  · refine ab_aload_n d_TX_character_21 rfl ?_
    refine zz_iconst d_TX_character_22 ?_
    refine ab_aload_n d_TX_character_23 rfl ?_
    refine ab_getf (fs := [vR se, vR by_, vz n, vz pl, vz fa, vz fp, vR kd, vz kn]) f_TX_43 d_TX_character_24 hx.2.2 rfl ?_
    refine ab_callV (d' := d - 1) (as := [vz 1, vz pl]) (st := []) (r := _) (z_TX_fail (o := o) (x := x) (lx := lx) (se := se) (by_ := by_) (n := n) (pl := pl) (fa := fa) (fp := fp) (kd := kd) (kn := kn) (w := 1) (p := pl) hx (by omega) (by omega) (by omega)) (fun oc G2 h => by rcases h with ⟨h, _⟩ | ⟨h, _⟩ <;> exact ⟨_, h⟩) (by omega) m_TX_fail ml_TX_53 im_TX_fail se_TX_fail c_TX hx.2.2 (Nat.le_of_ble_eq_true rfl) d_TX_character_27 rfl ?_
    intro v G15 hq
    rcases hq with ⟨hv, hfk, hlk, hsk, hNx, hq16⟩ | ⟨hv, hGe, hq17⟩
    · cases hv
      have hby_ := hfk.get hby_ (by simp only [List.mem_cons, List.not_mem_nil, or_false]; omega)
      have hfr := hfr.tr hfk (by simp)
      have hlen := hlk.trans hlen
      have hsl := hsk.trans hsl
      have hx := hNx
      change ab_W _ _ _ G15 30 [some (vR x), some (vz v2)] [vz (-1)] _
      refine zz_iret rfl d_TX_character_30 ?_
      rw [hQ]; first | exact (Or.inl ⟨rfl, hfr, hlen, hsl, hx, (by rw [← hq3]; omega)⟩) | exact (Or.inr ⟨_, _, rfl, hfr, hlen, hsl, hx, (by assumption), (by omega), (by congr 1; unfold wd; first | rw [if_pos (by omega)] | rw [if_neg (by omega), if_pos (by omega)] | rw [if_neg (by omega), if_neg (by omega), if_pos (by omega)] | rw [if_neg (by omega), if_neg (by omega), if_neg (by omega)]), (by omega)⟩)
    · cases hv
      rw [hGe]
      change ab_W _ _ _ G 30 [some (vR x), some (vz v2)] [vz (-1)] _
      exfalso; omega
