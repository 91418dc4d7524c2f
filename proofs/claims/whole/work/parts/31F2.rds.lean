set_option maxRecDepth 100000 in
set_option maxHeartbeats 4000000 in
theorem z1_RD_isOn {X : ab_X} {d : Nat} {o : Nat → Nat} {G : ab_G} {d_ : Nat} {inn : Value} {dp : Int} {flg : Int} {grp : Int} {na : Nat} {nl : Nat} {lst : Int} {mst : Int} {bh : Int} {x : Nat} (hd_ : cc o G d_ 25 (ab_ob 6 [vR x, inn, vz dp, vz flg, vz grp, vR na, vR nl, vz lst, vz mst, vz bh])) (cf : 0 ≤ flg ∧ flg ≤ 31) : ab_F X d y_RD_isOn (.code y_RD_isOn b_RD_isOn 2 (some (.boolean))) [vR d_, vz 1] G (fun oc G2 => ∃ v : Int, oc = .returned (some (vz v)) ∧ G2 = G ∧ (0 ≤ v ∧ v ≤ 1) ∧ (v = flg / 1 % 2)) := by
  refine ab_F_of (by decide +kernel) (Nat.le_of_ble_eq_true rfl) ?_
  obtain ⟨Q, hQ⟩ : ∃ z : Outcome → ab_G → Prop, z = (fun oc G2 => ∃ v : Int, oc = .returned (some (vz v)) ∧ G2 = G ∧ (0 ≤ v ∧ v ≤ 1) ∧ (v = flg / 1 % 2)) := ⟨_, rfl⟩
  rw [← hQ]
  change ab_W X (ab_pl y_RD_isOn b_RD_isOn 2 (some (.boolean))) d G 0 [some (vR d_), some (vz 1)] [] Q
  have hfr : fx o o [] G G := fx.rf
  have hlen : G.length = G.length := rfl
  have hsl : ab_slots G = ab_slots G := rfl
  refine ab_aload_n d_RD_isOn_0 rfl ?_
  refine ab_getf (fs := [vR x, inn, vz dp, vz flg, vz grp, vR na, vR nl, vz lst, vz mst, vz bh]) f_RD_38 d_RD_isOn_1 hd_.2.2 rfl ?_
  refine ab_iload_n d_RD_isOn_4 rfl ?_
  refine zz_iand5 (c := 1) 0 d_RD_isOn_5 (by decide) (by decide) (by decide) (by omega) ?_
  refine zz_if_eq (tgt := 13) d_RD_isOn_6 (by decide) (by omega) (fun c1 => ?_) (fun c1 => ?_)
  · refine zz_iconst d_RD_isOn_13 ?_
    refine zz_bret rfl (by decide) d_RD_isOn_14 ?_
    rw [hQ]; exact ⟨_, rfl, rfl, (by omega), (by omega)⟩
  · refine zz_iconst d_RD_isOn_9 ?_
    refine ab_goto (tgt := 14) d_RD_isOn_10 (by decide) ?_
    refine zz_bret rfl (by decide) d_RD_isOn_14 ?_
    rw [hQ]; exact ⟨_, rfl, rfl, (by omega), (by omega)⟩
set_option maxRecDepth 100000 in
set_option maxHeartbeats 4000000 in
theorem z2_RD_isOn {X : ab_X} {d : Nat} {o : Nat → Nat} {G : ab_G} {d_ : Nat} {inn : Value} {dp : Int} {flg : Int} {grp : Int} {na : Nat} {nl : Nat} {lst : Int} {mst : Int} {bh : Int} {x : Nat} (hd_ : cc o G d_ 25 (ab_ob 6 [vR x, inn, vz dp, vz flg, vz grp, vR na, vR nl, vz lst, vz mst, vz bh])) (cf : 0 ≤ flg ∧ flg ≤ 31) : ab_F X d y_RD_isOn (.code y_RD_isOn b_RD_isOn 2 (some (.boolean))) [vR d_, vz 2] G (fun oc G2 => ∃ v : Int, oc = .returned (some (vz v)) ∧ G2 = G ∧ (0 ≤ v ∧ v ≤ 1) ∧ (v = flg / 2 % 2)) := by
  refine ab_F_of (by decide +kernel) (Nat.le_of_ble_eq_true rfl) ?_
  obtain ⟨Q, hQ⟩ : ∃ z : Outcome → ab_G → Prop, z = (fun oc G2 => ∃ v : Int, oc = .returned (some (vz v)) ∧ G2 = G ∧ (0 ≤ v ∧ v ≤ 1) ∧ (v = flg / 2 % 2)) := ⟨_, rfl⟩
  rw [← hQ]
  change ab_W X (ab_pl y_RD_isOn b_RD_isOn 2 (some (.boolean))) d G 0 [some (vR d_), some (vz 2)] [] Q
  have hfr : fx o o [] G G := fx.rf
  have hlen : G.length = G.length := rfl
  have hsl : ab_slots G = ab_slots G := rfl
  refine ab_aload_n d_RD_isOn_0 rfl ?_
  refine ab_getf (fs := [vR x, inn, vz dp, vz flg, vz grp, vR na, vR nl, vz lst, vz mst, vz bh]) f_RD_38 d_RD_isOn_1 hd_.2.2 rfl ?_
  refine ab_iload_n d_RD_isOn_4 rfl ?_
  refine zz_iand5 (c := 2) 1 d_RD_isOn_5 (by decide) (by decide) (by decide) (by omega) ?_
  refine zz_if_eq (tgt := 13) d_RD_isOn_6 (by decide) (by omega) (fun c1 => ?_) (fun c1 => ?_)
  · refine zz_iconst d_RD_isOn_13 ?_
    refine zz_bret rfl (by decide) d_RD_isOn_14 ?_
    rw [hQ]; exact ⟨_, rfl, rfl, (by omega), (by omega)⟩
  · refine zz_iconst d_RD_isOn_9 ?_
    refine ab_goto (tgt := 14) d_RD_isOn_10 (by decide) ?_
    refine zz_bret rfl (by decide) d_RD_isOn_14 ?_
    rw [hQ]; exact ⟨_, rfl, rfl, (by omega), (by omega)⟩
set_option maxRecDepth 100000 in
set_option maxHeartbeats 4000000 in
theorem z4_RD_isOn {X : ab_X} {d : Nat} {o : Nat → Nat} {G : ab_G} {d_ : Nat} {inn : Value} {dp : Int} {flg : Int} {grp : Int} {na : Nat} {nl : Nat} {lst : Int} {mst : Int} {bh : Int} {x : Nat} (hd_ : cc o G d_ 25 (ab_ob 6 [vR x, inn, vz dp, vz flg, vz grp, vR na, vR nl, vz lst, vz mst, vz bh])) (cf : 0 ≤ flg ∧ flg ≤ 31) : ab_F X d y_RD_isOn (.code y_RD_isOn b_RD_isOn 2 (some (.boolean))) [vR d_, vz 4] G (fun oc G2 => ∃ v : Int, oc = .returned (some (vz v)) ∧ G2 = G ∧ (0 ≤ v ∧ v ≤ 1) ∧ (v = flg / 4 % 2)) := by
  refine ab_F_of (by decide +kernel) (Nat.le_of_ble_eq_true rfl) ?_
  obtain ⟨Q, hQ⟩ : ∃ z : Outcome → ab_G → Prop, z = (fun oc G2 => ∃ v : Int, oc = .returned (some (vz v)) ∧ G2 = G ∧ (0 ≤ v ∧ v ≤ 1) ∧ (v = flg / 4 % 2)) := ⟨_, rfl⟩
  rw [← hQ]
  change ab_W X (ab_pl y_RD_isOn b_RD_isOn 2 (some (.boolean))) d G 0 [some (vR d_), some (vz 4)] [] Q
  have hfr : fx o o [] G G := fx.rf
  have hlen : G.length = G.length := rfl
  have hsl : ab_slots G = ab_slots G := rfl
  refine ab_aload_n d_RD_isOn_0 rfl ?_
  refine ab_getf (fs := [vR x, inn, vz dp, vz flg, vz grp, vR na, vR nl, vz lst, vz mst, vz bh]) f_RD_38 d_RD_isOn_1 hd_.2.2 rfl ?_
  refine ab_iload_n d_RD_isOn_4 rfl ?_
  refine zz_iand5 (c := 4) 2 d_RD_isOn_5 (by decide) (by decide) (by decide) (by omega) ?_
  refine zz_if_eq (tgt := 13) d_RD_isOn_6 (by decide) (by omega) (fun c1 => ?_) (fun c1 => ?_)
  · refine zz_iconst d_RD_isOn_13 ?_
    refine zz_bret rfl (by decide) d_RD_isOn_14 ?_
    rw [hQ]; exact ⟨_, rfl, rfl, (by omega), (by omega)⟩
  · refine zz_iconst d_RD_isOn_9 ?_
    refine ab_goto (tgt := 14) d_RD_isOn_10 (by decide) ?_
    refine zz_bret rfl (by decide) d_RD_isOn_14 ?_
    rw [hQ]; exact ⟨_, rfl, rfl, (by omega), (by omega)⟩
set_option maxRecDepth 100000 in
set_option maxHeartbeats 4000000 in
theorem z8_RD_isOn {X : ab_X} {d : Nat} {o : Nat → Nat} {G : ab_G} {d_ : Nat} {inn : Value} {dp : Int} {flg : Int} {grp : Int} {na : Nat} {nl : Nat} {lst : Int} {mst : Int} {bh : Int} {x : Nat} (hd_ : cc o G d_ 25 (ab_ob 6 [vR x, inn, vz dp, vz flg, vz grp, vR na, vR nl, vz lst, vz mst, vz bh])) (cf : 0 ≤ flg ∧ flg ≤ 31) : ab_F X d y_RD_isOn (.code y_RD_isOn b_RD_isOn 2 (some (.boolean))) [vR d_, vz 8] G (fun oc G2 => ∃ v : Int, oc = .returned (some (vz v)) ∧ G2 = G ∧ (0 ≤ v ∧ v ≤ 1) ∧ (v = flg / 8 % 2)) := by
  refine ab_F_of (by decide +kernel) (Nat.le_of_ble_eq_true rfl) ?_
  obtain ⟨Q, hQ⟩ : ∃ z : Outcome → ab_G → Prop, z = (fun oc G2 => ∃ v : Int, oc = .returned (some (vz v)) ∧ G2 = G ∧ (0 ≤ v ∧ v ≤ 1) ∧ (v = flg / 8 % 2)) := ⟨_, rfl⟩
  rw [← hQ]
  change ab_W X (ab_pl y_RD_isOn b_RD_isOn 2 (some (.boolean))) d G 0 [some (vR d_), some (vz 8)] [] Q
  have hfr : fx o o [] G G := fx.rf
  have hlen : G.length = G.length := rfl
  have hsl : ab_slots G = ab_slots G := rfl
  refine ab_aload_n d_RD_isOn_0 rfl ?_
  refine ab_getf (fs := [vR x, inn, vz dp, vz flg, vz grp, vR na, vR nl, vz lst, vz mst, vz bh]) f_RD_38 d_RD_isOn_1 hd_.2.2 rfl ?_
  refine ab_iload_n d_RD_isOn_4 rfl ?_
  refine zz_iand5 (c := 8) 3 d_RD_isOn_5 (by decide) (by decide) (by decide) (by omega) ?_
  refine zz_if_eq (tgt := 13) d_RD_isOn_6 (by decide) (by omega) (fun c1 => ?_) (fun c1 => ?_)
  · refine zz_iconst d_RD_isOn_13 ?_
    refine zz_bret rfl (by decide) d_RD_isOn_14 ?_
    rw [hQ]; exact ⟨_, rfl, rfl, (by omega), (by omega)⟩
  · refine zz_iconst d_RD_isOn_9 ?_
    refine ab_goto (tgt := 14) d_RD_isOn_10 (by decide) ?_
    refine zz_bret rfl (by decide) d_RD_isOn_14 ?_
    rw [hQ]; exact ⟨_, rfl, rfl, (by omega), (by omega)⟩
set_option maxRecDepth 100000 in
set_option maxHeartbeats 4000000 in
theorem z_RD_byteAt {X : ab_X} {d : Nat} {o : Nat → Nat} {G : ab_G} {d_ : Nat} {inn : Value} {dp : Int} {flg : Int} {grp : Int} {na : Nat} {nl : Nat} {lst : Int} {mst : Int} {bh : Int} {x : Nat} {se : Nat} {by_ : Nat} {m : Nat} {f : Int → Int} {n : Int} {pl : Int} {fa : Int} {fp : Int} {kd : Nat} {kn : Int} {at_ : Int} (hd_ : cc o G d_ 25 (ab_ob 6 [vR x, inn, vz dp, vz flg, vz grp, vR na, vR nl, vz lst, vz mst, vz bh])) (hx : cc o G x 24 (ab_ob 10 [vR se, vR by_, vz n, vz pl, vz fa, vz fp, vR kd, vz kn])) (hby_ : cc o G by_ 23 (za m f)) (cn_ : 0 ≤ n ∧ n ≤ ↑m ∧ m ≤ 2000) (hb : bytes f n) (ca : 0 ≤ at_ ∧ at_ ≤ 100000) : ab_F X d y_RD_byteAt (.code y_RD_byteAt b_RD_byteAt 2 (some (.int))) [vR d_, vz at_] G (fun oc G2 => ∃ v : Int, oc = .returned (some (vz v)) ∧ G2 = G ∧ (v = tpk f n at_) ∧ (-1 ≤ v ∧ v ≤ 255)) := by
  refine ab_F_of (by decide +kernel) (Nat.le_of_ble_eq_true rfl) ?_
  obtain ⟨Q, hQ⟩ : ∃ z : Outcome → ab_G → Prop, z = (fun oc G2 => ∃ v : Int, oc = .returned (some (vz v)) ∧ G2 = G ∧ (v = tpk f n at_) ∧ (-1 ≤ v ∧ v ≤ 255)) := ⟨_, rfl⟩
  rw [← hQ]
  change ab_W X (ab_pl y_RD_byteAt b_RD_byteAt 2 (some (.int))) d G 0 [some (vR d_), some (vz at_)] [] Q
  have hfr : fx o o [] G G := fx.rf
  have hlen : G.length = G.length := rfl
  have hsl : ab_slots G = ab_slots G := rfl
  refine ab_iload_n d_RD_byteAt_0 rfl ?_
  refine ab_aload_n d_RD_byteAt_1 rfl ?_
  refine ab_getf (fs := [vR x, inn, vz dp, vz flg, vz grp, vR na, vR nl, vz lst, vz mst, vz bh]) f_RD_12 d_RD_byteAt_2 hd_.2.2 rfl ?_
  refine ab_getf (fs := [vR se, vR by_, vz n, vz pl, vz fa, vz fp, vR kd, vz kn]) f_RD_52 d_RD_byteAt_5 hx.2.2 rfl ?_
  refine zz_icmp_ge (tgt := 23) d_RD_byteAt_8 (by decide) (by omega) (by omega) (fun c1 => ?_) (fun c1 => ?_)
  · refine zz_iconst d_RD_byteAt_23 ?_
    refine zz_iret rfl d_RD_byteAt_24 ?_
    rw [hQ]; exact ⟨_, rfl, rfl, (by unfold tpk; first | rw [if_pos (by omega)] | rw [if_neg (by omega)]), (by omega)⟩
  · refine ab_aload_n d_RD_byteAt_11 rfl ?_
    refine ab_getf (fs := [vR x, inn, vz dp, vz flg, vz grp, vR na, vR nl, vz lst, vz mst, vz bh]) f_RD_12 d_RD_byteAt_12 hd_.2.2 rfl ?_
    refine ab_getf (fs := [vR se, vR by_, vz n, vz pl, vz fa, vz fp, vR kd, vz kn]) f_RD_175 d_RD_byteAt_15 hx.2.2 rfl ?_
    refine ab_iload_n d_RD_byteAt_18 rfl ?_
    refine zz_iald d_RD_byteAt_19 hby_ (by omega) ?_
    have hq2 := hb at_ (by omega) (by omega)
    refine ab_goto (tgt := 24) d_RD_byteAt_20 (by decide) ?_
    refine zz_iret rfl d_RD_byteAt_24 ?_
    rw [hQ]; exact ⟨_, rfl, rfl, (by unfold tpk; first | rw [if_pos (by omega)] | rw [if_neg (by omega)]), (by omega)⟩
set_option maxRecDepth 100000 in
set_option maxHeartbeats 4000000 in
theorem z_RD_number {X : ab_X} {d : Nat} {o : Nat → Nat} {G : ab_G} {d_ : Nat} {inn : Value} {dp : Int} {flg : Int} {grp : Int} {na : Nat} {nl : Nat} {lst : Int} {mst : Int} {bh : Int} {x : Nat} {se : Nat} {by_ : Nat} {m : Nat} {f : Int → Int} {n : Int} {pl : Int} {fa : Int} {fp : Int} {kd : Nat} {kn : Int} (hd_ : cc o G d_ 25 (ab_ob 6 [vR x, inn, vz dp, vz flg, vz grp, vR na, vR nl, vz lst, vz mst, vz bh])) (hx : cc o G x 24 (ab_ob 10 [vR se, vR by_, vz n, vz pl, vz fa, vz fp, vR kd, vz kn])) (hby_ : cc o G by_ 23 (za m f)) (cn_ : 0 ≤ n ∧ n ≤ ↑m ∧ m ≤ 2000) (hb : bytes f n) (cb : 0 ≤ bh ∧ bh ≤ 10000) (n18 : ab_n0 = 18) (hd : 2 ≤ d) : ab_F X d y_RD_number (.code y_RD_number b_RD_number 4 (some (.int))) [vR d_] G (fun oc G2 => ∃ v : Int, ∃ bh2 : Int, oc = .returned (some (vz v)) ∧ fx o o [25] G G2 ∧ G2.length = G.length ∧ ab_slots G2 = ab_slots G ∧ cc o G2 d_ 25 (ab_ob 6 [vR x, inn, vz dp, vz flg, vz grp, vR na, vR nl, vz lst, vz mst, vz bh2]) ∧ (-1 ≤ v ∧ v ≤ 999) ∧ (bh ≤ bh2 ∧ bh2 ≤ bh + 3) ∧ (numR f n bh v bh2)) := by
  refine ab_F_of (by decide +kernel) (Nat.le_of_ble_eq_true rfl) ?_
  obtain ⟨Q, hQ⟩ : ∃ z : Outcome → ab_G → Prop, z = (fun oc G2 => ∃ v : Int, ∃ bh2 : Int, oc = .returned (some (vz v)) ∧ fx o o [25] G G2 ∧ G2.length = G.length ∧ ab_slots G2 = ab_slots G ∧ cc o G2 d_ 25 (ab_ob 6 [vR x, inn, vz dp, vz flg, vz grp, vR na, vR nl, vz lst, vz mst, vz bh2]) ∧ (-1 ≤ v ∧ v ≤ 999) ∧ (bh ≤ bh2 ∧ bh2 ≤ bh + 3) ∧ (numR f n bh v bh2)) := ⟨_, rfl⟩
  rw [← hQ]
  change ab_W X (ab_pl y_RD_number b_RD_number 4 (some (.int))) d G 0 [some (vR d_), none, none, none] [] Q
  have hfr : fx o o [25] G G := fx.rf
  have hlen : G.length = G.length := rfl
  have hsl : ab_slots G = ab_slots G := rfl
  refine zz_iconst d_RD_number_0 ?_
  refine ab_istore_n d_RD_number_1 (Nat.le_of_ble_eq_true rfl) (Nat.le_of_ble_eq_true rfl) rfl ?_
  change ab_W _ _ _ G 2 [some (vR d_), some (vz (-1)), none, none] [] _
  refine zz_iconst d_RD_number_2 ?_
  refine ab_istore_n d_RD_number_3 (Nat.le_of_ble_eq_true rfl) (Nat.le_of_ble_eq_true rfl) rfl ?_
  change ab_W _ _ _ G 4 [some (vR d_), some (vz (-1)), some (vz 0), none] [] _
  refine ab_iload_n d_RD_number_4 rfl ?_
  refine zz_iconst d_RD_number_5 ?_
  refine zz_icmp_ge (tgt := 63) d_RD_number_6 (by decide) (by decide) (by decide) (fun c1 => absurd c1 (by decide)) (fun c1 => ?_)
  refine ab_aload_n d_RD_number_9 rfl ?_
  refine ab_aload_n d_RD_number_10 rfl ?_
  refine ab_getf (fs := [vR x, inn, vz dp, vz flg, vz grp, vR na, vR nl, vz lst, vz mst, vz bh]) f_RD_190 d_RD_number_11 hd_.2.2 rfl ?_
  refine ab_callV (d' := d - 1) (as := [vz bh]) (st := []) (r := _) (z_RD_byteAt (o := o) (d_ := d_) (inn := inn) (dp := dp) (flg := flg) (grp := grp) (na := na) (nl := nl) (lst := lst) (mst := mst) (bh := bh) (x := x) (se := se) (by_ := by_) (m := m) (f := f) (n := n) (pl := pl) (fa := fa) (fp := fp) (kd := kd) (kn := kn) (at_ := bh) hd_ hx hby_ (by omega) hb (by omega)) (fun oc G2 h => by rcases h with ⟨_, h, _⟩ <;> exact ⟨_, h⟩) (by omega) m_RD_byteAt ml_RD_203 im_RD_byteAt se_RD_byteAt c_RD hd_.2.2 (Nat.le_of_ble_eq_true rfl) d_RD_number_14 rfl ?_
  intro v G2 hq
  rcases hq with ⟨v3, hv, hGe, hq4, hq5⟩
  cases hv
  rw [hGe]
  change ab_W _ _ _ G 17 [some (vR d_), some (vz (-1)), some (vz 0), none] [vz v3] _
  refine ab_istore_n d_RD_number_17 (Nat.le_of_ble_eq_true rfl) (Nat.le_of_ble_eq_true rfl) rfl ?_
  change ab_W _ _ _ G 18 [some (vR d_), some (vz (-1)), some (vz 0), some (vz v3)] [] _
  refine ab_iload_n d_RD_number_18 rfl ?_
  refine zz_bipush d_RD_number_19 (by decide) ?_
  refine zz_icmp_lt (tgt := 63) d_RD_number_21 (by decide) (by omega) (by decide) (fun c6 => ?_) (fun c6 => ?_)
  · refine ab_iload_n d_RD_number_63 rfl ?_
    refine zz_iret rfl d_RD_number_64 ?_
    rw [hQ]; exact ⟨_, _, rfl, hfr, hlen, hsl, hd_, (by omega), (by omega), (by unfold numR dg; first | (left; omega) | (right; left; omega) | (right; right; left; omega) | (right; right; right; omega))⟩
  · refine ab_iload_n d_RD_number_24 rfl ?_
    refine zz_bipush d_RD_number_25 (by decide) ?_
    refine zz_icmp_le (tgt := 33) d_RD_number_27 (by decide) (by omega) (by decide) (fun c7 => ?_) (fun c7 => ?_)
    · refine zz_bipush d_RD_number_33 (by decide) ?_
      refine ab_iload_n d_RD_number_35 rfl ?_
      refine zz_iconst d_RD_number_36 ?_
      refine zz_mmax2 mj_RD_206 d_RD_number_37 (by decide) (by decide) (Nat.le_of_ble_eq_true rfl) (by omega) (fun c8 => ?_) (fun c8 => absurd c8 (by omega))
      refine zz_imul d_RD_number_40 ?_
      refine zz_top (y := 0) (by decide) ?_
      refine ab_iload_n d_RD_number_41 rfl ?_
      refine zz_iadd d_RD_number_42 ?_
      refine zz_bipush d_RD_number_43 (by decide) ?_
      refine zz_isub d_RD_number_45 ?_
      refine ab_istore_n d_RD_number_46 (Nat.le_of_ble_eq_true rfl) (Nat.le_of_ble_eq_true rfl) rfl ?_
      change ab_W _ _ _ G 47 [some (vR d_), some (vz ((0 + v3) - 48)), some (vz 0), some (vz v3)] [] _
      refine ab_aload_n d_RD_number_47 rfl ?_
      refine ab_dup d_RD_number_48 rfl ?_
      refine ab_getf (fs := [vR x, inn, vz dp, vz flg, vz grp, vR na, vR nl, vz lst, vz mst, vz bh]) f_RD_190 d_RD_number_49 hd_.2.2 rfl ?_
      refine zz_iconst d_RD_number_52 ?_
      refine zz_iadd d_RD_number_53 ?_
      refine ab_putf (fs := [vR x, inn, vz dp, vz flg, vz grp, vR na, vR nl, vz lst, vz mst, vz bh]) f_RD_190 (Or.inl rfl) d_RD_number_54 hd_.2.2 (Nat.le_of_ble_eq_true rfl) (fun _ => ⟨rfl, rfl⟩) (hd_.2.1 (by decide)) ?_
      obtain ⟨G9, eG9⟩ : ∃ z : ab_G, z = List.set G d_ (ab_ob 6 [vR x, inn, vz dp, vz flg, vz grp, vR na, vR nl, vz lst, vz mst, vz (bh + 1)]) := ⟨_, rfl⟩
      have hx := hx.keep hd_ eG9 (by decide)
      have hby_ := hby_.keep hd_ eG9 (by decide)
      have hlen := (z_len eG9).trans hlen
      have hsl := (z_sl hd_ eG9 rfl).trans hsl
      have hfr := hfr.wr hd_ eG9 (by decide)
      have hd_ := hd_.kept eG9
      change ab_W _ _ _ (List.set G d_ (ab_ob 6 [vR x, inn, vz dp, vz flg, vz grp, vR na, vR nl, vz lst, vz mst, vz (bh + 1)])) 57 [some (vR d_), some (vz ((0 + v3) - 48)), some (vz 0), some (vz v3)] [] _
      rw [← eG9]
      refine zz_iinc d_RD_number_57 rfl (Nat.le_of_ble_eq_true rfl) (Nat.le_of_ble_eq_true rfl) rfl ?_
      change ab_W _ _ _ G9 60 [some (vR d_), some (vz ((0 + v3) - 48)), some (vz 1), some (vz v3)] [] _
      refine ab_goto (tgt := 4) d_RD_number_60 (by decide) ?_
      refine ab_iload_n d_RD_number_4 rfl ?_
      refine zz_iconst d_RD_number_5 ?_
      refine zz_icmp_ge (tgt := 63) d_RD_number_6 (by decide) (by decide) (by decide) (fun c10 => absurd c10 (by decide)) (fun c10 => ?_)
      refine ab_aload_n d_RD_number_9 rfl ?_
      refine ab_aload_n d_RD_number_10 rfl ?_
      refine ab_getf (fs := [vR x, inn, vz dp, vz flg, vz grp, vR na, vR nl, vz lst, vz mst, vz (bh + 1)]) f_RD_190 d_RD_number_11 hd_.2.2 rfl ?_
      refine ab_callV (d' := d - 1) (as := [vz (bh + 1)]) (st := []) (r := _) (z_RD_byteAt (o := o) (d_ := d_) (inn := inn) (dp := dp) (flg := flg) (grp := grp) (na := na) (nl := nl) (lst := lst) (mst := mst) (bh := (bh + 1)) (x := x) (se := se) (by_ := by_) (m := m) (f := f) (n := n) (pl := pl) (fa := fa) (fp := fp) (kd := kd) (kn := kn) (at_ := (bh + 1)) hd_ hx hby_ (by omega) hb (by omega)) (fun oc G2 h => by rcases h with ⟨_, h, _⟩ <;> exact ⟨_, h⟩) (by omega) m_RD_byteAt ml_RD_203 im_RD_byteAt se_RD_byteAt c_RD hd_.2.2 (Nat.le_of_ble_eq_true rfl) d_RD_number_14 rfl ?_
      intro v G11 hq
      rcases hq with ⟨v12, hv, hGe, hq13, hq14⟩
      cases hv
      rw [hGe]
      change ab_W _ _ _ G9 17 [some (vR d_), some (vz ((0 + v3) - 48)), some (vz 1), some (vz v3)] [vz v12] _
      refine ab_istore_n d_RD_number_17 (Nat.le_of_ble_eq_true rfl) (Nat.le_of_ble_eq_true rfl) rfl ?_
      change ab_W _ _ _ G9 18 [some (vR d_), some (vz ((0 + v3) - 48)), some (vz 1), some (vz v12)] [] _
      refine ab_iload_n d_RD_number_18 rfl ?_
      refine zz_bipush d_RD_number_19 (by decide) ?_
      refine zz_icmp_lt (tgt := 63) d_RD_number_21 (by decide) (by omega) (by decide) (fun c15 => ?_) (fun c15 => ?_)
      · refine ab_iload_n d_RD_number_63 rfl ?_
        refine zz_iret rfl d_RD_number_64 ?_
        rw [hQ]; exact ⟨_, _, rfl, hfr, hlen, hsl, hd_, (by omega), (by omega), (by unfold numR dg; first | (left; omega) | (right; left; omega) | (right; right; left; omega) | (right; right; right; omega))⟩
      · refine ab_iload_n d_RD_number_24 rfl ?_
        refine zz_bipush d_RD_number_25 (by decide) ?_
        refine zz_icmp_le (tgt := 33) d_RD_number_27 (by decide) (by omega) (by decide) (fun c16 => ?_) (fun c16 => ?_)
        · refine zz_bipush d_RD_number_33 (by decide) ?_
          refine ab_iload_n d_RD_number_35 rfl ?_
          refine zz_iconst d_RD_number_36 ?_
          refine zz_mmax2 mj_RD_206 d_RD_number_37 (by omega) (by decide) (Nat.le_of_ble_eq_true rfl) (by omega) (fun c17 => ?_) (fun c17 => ?_)
          · refine zz_imul d_RD_number_40 ?_
            refine zz_top (y := 0) (by decide) ?_
            refine ab_iload_n d_RD_number_41 rfl ?_
            refine zz_iadd d_RD_number_42 ?_
            refine zz_bipush d_RD_number_43 (by decide) ?_
            refine zz_isub d_RD_number_45 ?_
            refine ab_istore_n d_RD_number_46 (Nat.le_of_ble_eq_true rfl) (Nat.le_of_ble_eq_true rfl) rfl ?_
            change ab_W _ _ _ G9 47 [some (vR d_), some (vz ((0 + v12) - 48)), some (vz 1), some (vz v12)] [] _
            refine ab_aload_n d_RD_number_47 rfl ?_
            refine ab_dup d_RD_number_48 rfl ?_
            refine ab_getf (fs := [vR x, inn, vz dp, vz flg, vz grp, vR na, vR nl, vz lst, vz mst, vz (bh + 1)]) f_RD_190 d_RD_number_49 hd_.2.2 rfl ?_
            refine zz_iconst d_RD_number_52 ?_
            refine zz_iadd d_RD_number_53 ?_
            refine ab_putf (fs := [vR x, inn, vz dp, vz flg, vz grp, vR na, vR nl, vz lst, vz mst, vz (bh + 1)]) f_RD_190 (Or.inl rfl) d_RD_number_54 hd_.2.2 (Nat.le_of_ble_eq_true rfl) (fun _ => ⟨rfl, rfl⟩) (hd_.2.1 (by decide)) ?_
            obtain ⟨G18, eG18⟩ : ∃ z : ab_G, z = List.set G9 d_ (ab_ob 6 [vR x, inn, vz dp, vz flg, vz grp, vR na, vR nl, vz lst, vz mst, vz ((bh + 1) + 1)]) := ⟨_, rfl⟩
            have hx := hx.keep hd_ eG18 (by decide)
            have hby_ := hby_.keep hd_ eG18 (by decide)
            have hlen := (z_len eG18).trans hlen
            have hsl := (z_sl hd_ eG18 rfl).trans hsl
            have hfr := hfr.wr hd_ eG18 (by decide)
            have hd_ := hd_.kept eG18
            change ab_W _ _ _ (List.set G9 d_ (ab_ob 6 [vR x, inn, vz dp, vz flg, vz grp, vR na, vR nl, vz lst, vz mst, vz ((bh + 1) + 1)])) 57 [some (vR d_), some (vz ((0 + v12) - 48)), some (vz 1), some (vz v12)] [] _
            rw [← eG18]
            refine zz_iinc d_RD_number_57 rfl (Nat.le_of_ble_eq_true rfl) (Nat.le_of_ble_eq_true rfl) rfl ?_
            change ab_W _ _ _ G18 60 [some (vR d_), some (vz ((0 + v12) - 48)), some (vz 2), some (vz v12)] [] _
            refine ab_goto (tgt := 4) d_RD_number_60 (by decide) ?_
            refine ab_iload_n d_RD_number_4 rfl ?_
            refine zz_iconst d_RD_number_5 ?_
            refine zz_icmp_ge (tgt := 63) d_RD_number_6 (by decide) (by decide) (by decide) (fun c19 => absurd c19 (by decide)) (fun c19 => ?_)
            refine ab_aload_n d_RD_number_9 rfl ?_
            refine ab_aload_n d_RD_number_10 rfl ?_
            refine ab_getf (fs := [vR x, inn, vz dp, vz flg, vz grp, vR na, vR nl, vz lst, vz mst, vz ((bh + 1) + 1)]) f_RD_190 d_RD_number_11 hd_.2.2 rfl ?_
            refine ab_callV (d' := d - 1) (as := [vz ((bh + 1) + 1)]) (st := []) (r := _) (z_RD_byteAt (o := o) (d_ := d_) (inn := inn) (dp := dp) (flg := flg) (grp := grp) (na := na) (nl := nl) (lst := lst) (mst := mst) (bh := ((bh + 1) + 1)) (x := x) (se := se) (by_ := by_) (m := m) (f := f) (n := n) (pl := pl) (fa := fa) (fp := fp) (kd := kd) (kn := kn) (at_ := ((bh + 1) + 1)) hd_ hx hby_ (by omega) hb (by omega)) (fun oc G2 h => by rcases h with ⟨_, h, _⟩ <;> exact ⟨_, h⟩) (by omega) m_RD_byteAt ml_RD_203 im_RD_byteAt se_RD_byteAt c_RD hd_.2.2 (Nat.le_of_ble_eq_true rfl) d_RD_number_14 rfl ?_
            intro v G20 hq
            rcases hq with ⟨v21, hv, hGe, hq22, hq23⟩
            cases hv
            rw [hGe]
            change ab_W _ _ _ G18 17 [some (vR d_), some (vz ((0 + v12) - 48)), some (vz 2), some (vz v12)] [vz v21] _
            refine ab_istore_n d_RD_number_17 (Nat.le_of_ble_eq_true rfl) (Nat.le_of_ble_eq_true rfl) rfl ?_
            change ab_W _ _ _ G18 18 [some (vR d_), some (vz ((0 + v12) - 48)), some (vz 2), some (vz v21)] [] _
            refine ab_iload_n d_RD_number_18 rfl ?_
            refine zz_bipush d_RD_number_19 (by decide) ?_
            refine zz_icmp_lt (tgt := 63) d_RD_number_21 (by decide) (by omega) (by decide) (fun c24 => ?_) (fun c24 => ?_)
            · refine ab_iload_n d_RD_number_63 rfl ?_
              refine zz_iret rfl d_RD_number_64 ?_
              rw [hQ]; exact ⟨_, _, rfl, hfr, hlen, hsl, hd_, (by omega), (by omega), (by unfold numR dg; first | (left; omega) | (right; left; omega) | (right; right; left; omega) | (right; right; right; omega))⟩
            · refine ab_iload_n d_RD_number_24 rfl ?_
              refine zz_bipush d_RD_number_25 (by decide) ?_
              refine zz_icmp_le (tgt := 33) d_RD_number_27 (by decide) (by omega) (by decide) (fun c25 => ?_) (fun c25 => ?_)
              · refine zz_bipush d_RD_number_33 (by decide) ?_
                refine ab_iload_n d_RD_number_35 rfl ?_
                refine zz_iconst d_RD_number_36 ?_
                refine zz_mmax2 mj_RD_206 d_RD_number_37 (by omega) (by decide) (Nat.le_of_ble_eq_true rfl) (by omega) (fun c26 => ?_) (fun c26 => ?_)
                · refine zz_imul d_RD_number_40 ?_
                  refine zz_top (y := 0) (by decide) ?_
                  refine ab_iload_n d_RD_number_41 rfl ?_
                  refine zz_iadd d_RD_number_42 ?_
                  refine zz_bipush d_RD_number_43 (by decide) ?_
                  refine zz_isub d_RD_number_45 ?_
                  refine ab_istore_n d_RD_number_46 (Nat.le_of_ble_eq_true rfl) (Nat.le_of_ble_eq_true rfl) rfl ?_
                  change ab_W _ _ _ G18 47 [some (vR d_), some (vz ((0 + v21) - 48)), some (vz 2), some (vz v21)] [] _
                  refine ab_aload_n d_RD_number_47 rfl ?_
                  refine ab_dup d_RD_number_48 rfl ?_
                  refine ab_getf (fs := [vR x, inn, vz dp, vz flg, vz grp, vR na, vR nl, vz lst, vz mst, vz ((bh + 1) + 1)]) f_RD_190 d_RD_number_49 hd_.2.2 rfl ?_
                  refine zz_iconst d_RD_number_52 ?_
                  refine zz_iadd d_RD_number_53 ?_
                  refine ab_putf (fs := [vR x, inn, vz dp, vz flg, vz grp, vR na, vR nl, vz lst, vz mst, vz ((bh + 1) + 1)]) f_RD_190 (Or.inl rfl) d_RD_number_54 hd_.2.2 (Nat.le_of_ble_eq_true rfl) (fun _ => ⟨rfl, rfl⟩) (hd_.2.1 (by decide)) ?_
                  obtain ⟨G27, eG27⟩ : ∃ z : ab_G, z = List.set G18 d_ (ab_ob 6 [vR x, inn, vz dp, vz flg, vz grp, vR na, vR nl, vz lst, vz mst, vz (((bh + 1) + 1) + 1)]) := ⟨_, rfl⟩
                  have hx := hx.keep hd_ eG27 (by decide)
                  have hby_ := hby_.keep hd_ eG27 (by decide)
                  have hlen := (z_len eG27).trans hlen
                  have hsl := (z_sl hd_ eG27 rfl).trans hsl
                  have hfr := hfr.wr hd_ eG27 (by decide)
                  have hd_ := hd_.kept eG27
                  change ab_W _ _ _ (List.set G18 d_ (ab_ob 6 [vR x, inn, vz dp, vz flg, vz grp, vR na, vR nl, vz lst, vz mst, vz (((bh + 1) + 1) + 1)])) 57 [some (vR d_), some (vz ((0 + v21) - 48)), some (vz 2), some (vz v21)] [] _
                  rw [← eG27]
                  refine zz_iinc d_RD_number_57 rfl (Nat.le_of_ble_eq_true rfl) (Nat.le_of_ble_eq_true rfl) rfl ?_
                  change ab_W _ _ _ G27 60 [some (vR d_), some (vz ((0 + v21) - 48)), some (vz 3), some (vz v21)] [] _
                  refine ab_goto (tgt := 4) d_RD_number_60 (by decide) ?_
                  refine ab_iload_n d_RD_number_4 rfl ?_
                  refine zz_iconst d_RD_number_5 ?_
                  refine zz_icmp_ge (tgt := 63) d_RD_number_6 (by decide) (by decide) (by decide) (fun c28 => ?_) (fun c28 => absurd c28 (by decide))
                  refine ab_iload_n d_RD_number_63 rfl ?_
                  refine zz_iret rfl d_RD_number_64 ?_
                  rw [hQ]; exact ⟨_, _, rfl, hfr, hlen, hsl, hd_, (by omega), (by omega), (by unfold numR dg; first | (left; omega) | (right; left; omega) | (right; right; left; omega) | (right; right; right; omega))⟩
                · refine zz_imul d_RD_number_40 ?_
                  refine ab_iload_n d_RD_number_41 rfl ?_
                  refine zz_iadd d_RD_number_42 ?_
                  refine zz_bipush d_RD_number_43 (by decide) ?_
                  refine zz_isub d_RD_number_45 ?_
                  refine ab_istore_n d_RD_number_46 (Nat.le_of_ble_eq_true rfl) (Nat.le_of_ble_eq_true rfl) rfl ?_
                  change ab_W _ _ _ G18 47 [some (vR d_), some (vz (((10 * ((0 + v12) - 48)) + v21) - 48)), some (vz 2), some (vz v21)] [] _
                  refine ab_aload_n d_RD_number_47 rfl ?_
                  refine ab_dup d_RD_number_48 rfl ?_
                  refine ab_getf (fs := [vR x, inn, vz dp, vz flg, vz grp, vR na, vR nl, vz lst, vz mst, vz ((bh + 1) + 1)]) f_RD_190 d_RD_number_49 hd_.2.2 rfl ?_
                  refine zz_iconst d_RD_number_52 ?_
                  refine zz_iadd d_RD_number_53 ?_
                  refine ab_putf (fs := [vR x, inn, vz dp, vz flg, vz grp, vR na, vR nl, vz lst, vz mst, vz ((bh + 1) + 1)]) f_RD_190 (Or.inl rfl) d_RD_number_54 hd_.2.2 (Nat.le_of_ble_eq_true rfl) (fun _ => ⟨rfl, rfl⟩) (hd_.2.1 (by decide)) ?_
                  obtain ⟨G29, eG29⟩ : ∃ z : ab_G, z = List.set G18 d_ (ab_ob 6 [vR x, inn, vz dp, vz flg, vz grp, vR na, vR nl, vz lst, vz mst, vz (((bh + 1) + 1) + 1)]) := ⟨_, rfl⟩
                  have hx := hx.keep hd_ eG29 (by decide)
                  have hby_ := hby_.keep hd_ eG29 (by decide)
                  have hlen := (z_len eG29).trans hlen
                  have hsl := (z_sl hd_ eG29 rfl).trans hsl
                  have hfr := hfr.wr hd_ eG29 (by decide)
                  have hd_ := hd_.kept eG29
                  change ab_W _ _ _ (List.set G18 d_ (ab_ob 6 [vR x, inn, vz dp, vz flg, vz grp, vR na, vR nl, vz lst, vz mst, vz (((bh + 1) + 1) + 1)])) 57 [some (vR d_), some (vz (((10 * ((0 + v12) - 48)) + v21) - 48)), some (vz 2), some (vz v21)] [] _
                  rw [← eG29]
                  refine zz_iinc d_RD_number_57 rfl (Nat.le_of_ble_eq_true rfl) (Nat.le_of_ble_eq_true rfl) rfl ?_
                  change ab_W _ _ _ G29 60 [some (vR d_), some (vz (((10 * ((0 + v12) - 48)) + v21) - 48)), some (vz 3), some (vz v21)] [] _
                  refine ab_goto (tgt := 4) d_RD_number_60 (by decide) ?_
                  refine ab_iload_n d_RD_number_4 rfl ?_
                  refine zz_iconst d_RD_number_5 ?_
                  refine zz_icmp_ge (tgt := 63) d_RD_number_6 (by decide) (by decide) (by decide) (fun c30 => ?_) (fun c30 => absurd c30 (by decide))
                  refine ab_iload_n d_RD_number_63 rfl ?_
                  refine zz_iret rfl d_RD_number_64 ?_
                  rw [hQ]; exact ⟨_, _, rfl, hfr, hlen, hsl, hd_, (by omega), (by omega), (by unfold numR dg; first | (left; omega) | (right; left; omega) | (right; right; left; omega) | (right; right; right; omega))⟩
              · refine ab_goto (tgt := 63) d_RD_number_30 (by decide) ?_
                refine ab_iload_n d_RD_number_63 rfl ?_
                refine zz_iret rfl d_RD_number_64 ?_
                rw [hQ]; exact ⟨_, _, rfl, hfr, hlen, hsl, hd_, (by omega), (by omega), (by unfold numR dg; first | (left; omega) | (right; left; omega) | (right; right; left; omega) | (right; right; right; omega))⟩
          · refine zz_imul d_RD_number_40 ?_
            refine ab_iload_n d_RD_number_41 rfl ?_
            refine zz_iadd d_RD_number_42 ?_
            refine zz_bipush d_RD_number_43 (by decide) ?_
            refine zz_isub d_RD_number_45 ?_
            refine ab_istore_n d_RD_number_46 (Nat.le_of_ble_eq_true rfl) (Nat.le_of_ble_eq_true rfl) rfl ?_
            change ab_W _ _ _ G9 47 [some (vR d_), some (vz (((10 * ((0 + v3) - 48)) + v12) - 48)), some (vz 1), some (vz v12)] [] _
            refine ab_aload_n d_RD_number_47 rfl ?_
            refine ab_dup d_RD_number_48 rfl ?_
            refine ab_getf (fs := [vR x, inn, vz dp, vz flg, vz grp, vR na, vR nl, vz lst, vz mst, vz (bh + 1)]) f_RD_190 d_RD_number_49 hd_.2.2 rfl ?_
            refine zz_iconst d_RD_number_52 ?_
            refine zz_iadd d_RD_number_53 ?_
            refine ab_putf (fs := [vR x, inn, vz dp, vz flg, vz grp, vR na, vR nl, vz lst, vz mst, vz (bh + 1)]) f_RD_190 (Or.inl rfl) d_RD_number_54 hd_.2.2 (Nat.le_of_ble_eq_true rfl) (fun _ => ⟨rfl, rfl⟩) (hd_.2.1 (by decide)) ?_
            obtain ⟨G31, eG31⟩ : ∃ z : ab_G, z = List.set G9 d_ (ab_ob 6 [vR x, inn, vz dp, vz flg, vz grp, vR na, vR nl, vz lst, vz mst, vz ((bh + 1) + 1)]) := ⟨_, rfl⟩
            have hx := hx.keep hd_ eG31 (by decide)
            have hby_ := hby_.keep hd_ eG31 (by decide)
            have hlen := (z_len eG31).trans hlen
            have hsl := (z_sl hd_ eG31 rfl).trans hsl
            have hfr := hfr.wr hd_ eG31 (by decide)
            have hd_ := hd_.kept eG31
            change ab_W _ _ _ (List.set G9 d_ (ab_ob 6 [vR x, inn, vz dp, vz flg, vz grp, vR na, vR nl, vz lst, vz mst, vz ((bh + 1) + 1)])) 57 [some (vR d_), some (vz (((10 * ((0 + v3) - 48)) + v12) - 48)), some (vz 1), some (vz v12)] [] _
            rw [← eG31]
            refine zz_iinc d_RD_number_57 rfl (Nat.le_of_ble_eq_true rfl) (Nat.le_of_ble_eq_true rfl) rfl ?_
            change ab_W _ _ _ G31 60 [some (vR d_), some (vz (((10 * ((0 + v3) - 48)) + v12) - 48)), some (vz 2), some (vz v12)] [] _
            refine ab_goto (tgt := 4) d_RD_number_60 (by decide) ?_
            refine ab_iload_n d_RD_number_4 rfl ?_
            refine zz_iconst d_RD_number_5 ?_
            refine zz_icmp_ge (tgt := 63) d_RD_number_6 (by decide) (by decide) (by decide) (fun c32 => absurd c32 (by decide)) (fun c32 => ?_)
            refine ab_aload_n d_RD_number_9 rfl ?_
            refine ab_aload_n d_RD_number_10 rfl ?_
            refine ab_getf (fs := [vR x, inn, vz dp, vz flg, vz grp, vR na, vR nl, vz lst, vz mst, vz ((bh + 1) + 1)]) f_RD_190 d_RD_number_11 hd_.2.2 rfl ?_
            refine ab_callV (d' := d - 1) (as := [vz ((bh + 1) + 1)]) (st := []) (r := _) (z_RD_byteAt (o := o) (d_ := d_) (inn := inn) (dp := dp) (flg := flg) (grp := grp) (na := na) (nl := nl) (lst := lst) (mst := mst) (bh := ((bh + 1) + 1)) (x := x) (se := se) (by_ := by_) (m := m) (f := f) (n := n) (pl := pl) (fa := fa) (fp := fp) (kd := kd) (kn := kn) (at_ := ((bh + 1) + 1)) hd_ hx hby_ (by omega) hb (by omega)) (fun oc G2 h => by rcases h with ⟨_, h, _⟩ <;> exact ⟨_, h⟩) (by omega) m_RD_byteAt ml_RD_203 im_RD_byteAt se_RD_byteAt c_RD hd_.2.2 (Nat.le_of_ble_eq_true rfl) d_RD_number_14 rfl ?_
            intro v G33 hq
            rcases hq with ⟨v34, hv, hGe, hq35, hq36⟩
            cases hv
            rw [hGe]
            change ab_W _ _ _ G31 17 [some (vR d_), some (vz (((10 * ((0 + v3) - 48)) + v12) - 48)), some (vz 2), some (vz v12)] [vz v34] _
            refine ab_istore_n d_RD_number_17 (Nat.le_of_ble_eq_true rfl) (Nat.le_of_ble_eq_true rfl) rfl ?_
            change ab_W _ _ _ G31 18 [some (vR d_), some (vz (((10 * ((0 + v3) - 48)) + v12) - 48)), some (vz 2), some (vz v34)] [] _
            refine ab_iload_n d_RD_number_18 rfl ?_
            refine zz_bipush d_RD_number_19 (by decide) ?_
            refine zz_icmp_lt (tgt := 63) d_RD_number_21 (by decide) (by omega) (by decide) (fun c37 => ?_) (fun c37 => ?_)
            · refine ab_iload_n d_RD_number_63 rfl ?_
              refine zz_iret rfl d_RD_number_64 ?_
              rw [hQ]; exact ⟨_, _, rfl, hfr, hlen, hsl, hd_, (by omega), (by omega), (by unfold numR dg; first | (left; omega) | (right; left; omega) | (right; right; left; omega) | (right; right; right; omega))⟩
            · refine ab_iload_n d_RD_number_24 rfl ?_
              refine zz_bipush d_RD_number_25 (by decide) ?_
              refine zz_icmp_le (tgt := 33) d_RD_number_27 (by decide) (by omega) (by decide) (fun c38 => ?_) (fun c38 => ?_)
              · refine zz_bipush d_RD_number_33 (by decide) ?_
                refine ab_iload_n d_RD_number_35 rfl ?_
                refine zz_iconst d_RD_number_36 ?_
                refine zz_mmax2 mj_RD_206 d_RD_number_37 (by omega) (by decide) (Nat.le_of_ble_eq_true rfl) (by omega) (fun c39 => absurd c39 (by omega)) (fun c39 => ?_)
                refine zz_imul d_RD_number_40 ?_
                refine ab_iload_n d_RD_number_41 rfl ?_
                refine zz_iadd d_RD_number_42 ?_
                refine zz_bipush d_RD_number_43 (by decide) ?_
                refine zz_isub d_RD_number_45 ?_
                refine ab_istore_n d_RD_number_46 (Nat.le_of_ble_eq_true rfl) (Nat.le_of_ble_eq_true rfl) rfl ?_
                change ab_W _ _ _ G31 47 [some (vR d_), some (vz (((10 * (((10 * ((0 + v3) - 48)) + v12) - 48)) + v34) - 48)), some (vz 2), some (vz v34)] [] _
                refine ab_aload_n d_RD_number_47 rfl ?_
                refine ab_dup d_RD_number_48 rfl ?_
                refine ab_getf (fs := [vR x, inn, vz dp, vz flg, vz grp, vR na, vR nl, vz lst, vz mst, vz ((bh + 1) + 1)]) f_RD_190 d_RD_number_49 hd_.2.2 rfl ?_
                refine zz_iconst d_RD_number_52 ?_
                refine zz_iadd d_RD_number_53 ?_
                refine ab_putf (fs := [vR x, inn, vz dp, vz flg, vz grp, vR na, vR nl, vz lst, vz mst, vz ((bh + 1) + 1)]) f_RD_190 (Or.inl rfl) d_RD_number_54 hd_.2.2 (Nat.le_of_ble_eq_true rfl) (fun _ => ⟨rfl, rfl⟩) (hd_.2.1 (by decide)) ?_
                obtain ⟨G40, eG40⟩ : ∃ z : ab_G, z = List.set G31 d_ (ab_ob 6 [vR x, inn, vz dp, vz flg, vz grp, vR na, vR nl, vz lst, vz mst, vz (((bh + 1) + 1) + 1)]) := ⟨_, rfl⟩
                have hx := hx.keep hd_ eG40 (by decide)
                have hby_ := hby_.keep hd_ eG40 (by decide)
                have hlen := (z_len eG40).trans hlen
                have hsl := (z_sl hd_ eG40 rfl).trans hsl
                have hfr := hfr.wr hd_ eG40 (by decide)
                have hd_ := hd_.kept eG40
                change ab_W _ _ _ (List.set G31 d_ (ab_ob 6 [vR x, inn, vz dp, vz flg, vz grp, vR na, vR nl, vz lst, vz mst, vz (((bh + 1) + 1) + 1)])) 57 [some (vR d_), some (vz (((10 * (((10 * ((0 + v3) - 48)) + v12) - 48)) + v34) - 48)), some (vz 2), some (vz v34)] [] _
                rw [← eG40]
                refine zz_iinc d_RD_number_57 rfl (Nat.le_of_ble_eq_true rfl) (Nat.le_of_ble_eq_true rfl) rfl ?_
                change ab_W _ _ _ G40 60 [some (vR d_), some (vz (((10 * (((10 * ((0 + v3) - 48)) + v12) - 48)) + v34) - 48)), some (vz 3), some (vz v34)] [] _
                refine ab_goto (tgt := 4) d_RD_number_60 (by decide) ?_
                refine ab_iload_n d_RD_number_4 rfl ?_
                refine zz_iconst d_RD_number_5 ?_
                refine zz_icmp_ge (tgt := 63) d_RD_number_6 (by decide) (by decide) (by decide) (fun c41 => ?_) (fun c41 => absurd c41 (by decide))
                refine ab_iload_n d_RD_number_63 rfl ?_
                refine zz_iret rfl d_RD_number_64 ?_
                rw [hQ]; exact ⟨_, _, rfl, hfr, hlen, hsl, hd_, (by omega), (by omega), (by unfold numR dg; first | (left; omega) | (right; left; omega) | (right; right; left; omega) | (right; right; right; omega))⟩
              · refine ab_goto (tgt := 63) d_RD_number_30 (by decide) ?_
                refine ab_iload_n d_RD_number_63 rfl ?_
                refine zz_iret rfl d_RD_number_64 ?_
                rw [hQ]; exact ⟨_, _, rfl, hfr, hlen, hsl, hd_, (by omega), (by omega), (by unfold numR dg; first | (left; omega) | (right; left; omega) | (right; right; left; omega) | (right; right; right; omega))⟩
        · refine ab_goto (tgt := 63) d_RD_number_30 (by decide) ?_
          refine ab_iload_n d_RD_number_63 rfl ?_
          refine zz_iret rfl d_RD_number_64 ?_
          rw [hQ]; exact ⟨_, _, rfl, hfr, hlen, hsl, hd_, (by omega), (by omega), (by unfold numR dg; first | (left; omega) | (right; left; omega) | (right; right; left; omega) | (right; right; right; omega))⟩
    · refine ab_goto (tgt := 63) d_RD_number_30 (by decide) ?_
      refine ab_iload_n d_RD_number_63 rfl ?_
      refine zz_iret rfl d_RD_number_64 ?_
      rw [hQ]; exact ⟨_, _, rfl, hfr, hlen, hsl, hd_, (by omega), (by omega), (by unfold numR dg; first | (left; omega) | (right; left; omega) | (right; right; left; omega) | (right; right; right; omega))⟩
set_option maxRecDepth 100000 in
set_option maxHeartbeats 4000000 in
theorem z_RD_isRepeat {X : ab_X} {d : Nat} {o : Nat → Nat} {G : ab_G} {d_ : Nat} {inn : Value} {dp : Int} {flg : Int} {grp : Int} {na : Nat} {nl : Nat} {lst : Int} {mst : Int} {bh : Int} {x : Nat} {se : Nat} {by_ : Nat} {m : Nat} {f : Int → Int} {n : Int} {pl : Int} {fa : Int} {fp : Int} {kd : Nat} {kn : Int} (hd_ : cc o G d_ 25 (ab_ob 6 [vR x, inn, vz dp, vz flg, vz grp, vR na, vR nl, vz lst, vz mst, vz bh])) (hx : cc o G x 24 (ab_ob 10 [vR se, vR by_, vz n, vz pl, vz fa, vz fp, vR kd, vz kn])) (hby_ : cc o G by_ 23 (za m f)) (cn_ : 0 ≤ n ∧ n ≤ ↑m ∧ m ≤ 2000) (hb : bytes f n) (cp : 0 ≤ pl ∧ pl ≤ 10000) (n18 : ab_n0 = 18) (hd : 3 ≤ d) : ab_F X d y_RD_isRepeat (.code y_RD_isRepeat b_RD_isRepeat 2 (some (.boolean))) [vR d_] G (fun oc G2 => (∃ l2 : Int, ∃ m2 : Int, ∃ bh2 : Int, oc = .returned (some (vz 1)) ∧ fx o o [25] G G2 ∧ G2.length = G.length ∧ ab_slots G2 = ab_slots G ∧ cc o G2 d_ 25 (ab_ob 6 [vR x, inn, vz dp, vz flg, vz grp, vR na, vR nl, vz l2, vz m2, vz bh2]) ∧ (tpk f n pl = 123) ∧ (0 ≤ l2 ∧ l2 ≤ 999 ∧ 0 ≤ m2 ∧ m2 ≤ 1000 ∧ pl < bh2 ∧ bh2 ≤ n) ∧ (repR f n pl l2 m2 bh2 1)) ∨ (∃ l2 : Int, ∃ m2 : Int, ∃ bh2 : Int, oc = .returned (some (vz 1)) ∧ fx o o [25] G G2 ∧ G2.length = G.length ∧ ab_slots G2 = ab_slots G ∧ cc o G2 d_ 25 (ab_ob 6 [vR x, inn, vz dp, vz flg, vz grp, vR na, vR nl, vz l2, vz m2, vz bh2]) ∧ (¬ tpk f n pl = 123) ∧ (0 ≤ l2 ∧ l2 ≤ 1 ∧ l2 ≤ m2 ∧ m2 ≤ 1000 ∧ pl < bh2 ∧ bh2 ≤ n) ∧ (repR f n pl l2 m2 bh2 0)) ∨ (∃ l2 : Int, ∃ m2 : Int, ∃ bh2 : Int, oc = .returned (some (vz 0)) ∧ fx o o [25] G G2 ∧ G2.length = G.length ∧ ab_slots G2 = ab_slots G ∧ cc o G2 d_ 25 (ab_ob 6 [vR x, inn, vz dp, vz flg, vz grp, vR na, vR nl, vz l2, vz m2, vz bh2]) ∧ (-1 ≤ l2 ∧ l2 ≤ 999 ∧ -1 ≤ m2 ∧ m2 ≤ 1000 ∧ 0 ≤ bh2 ∧ bh2 ≤ pl + 10) ∧ (norp f n pl))) := by
  refine ab_F_of (by decide +kernel) (Nat.le_of_ble_eq_true rfl) ?_
  obtain ⟨Q, hQ⟩ : ∃ z : Outcome → ab_G → Prop, z = (fun oc G2 => (∃ l2 : Int, ∃ m2 : Int, ∃ bh2 : Int, oc = .returned (some (vz 1)) ∧ fx o o [25] G G2 ∧ G2.length = G.length ∧ ab_slots G2 = ab_slots G ∧ cc o G2 d_ 25 (ab_ob 6 [vR x, inn, vz dp, vz flg, vz grp, vR na, vR nl, vz l2, vz m2, vz bh2]) ∧ (tpk f n pl = 123) ∧ (0 ≤ l2 ∧ l2 ≤ 999 ∧ 0 ≤ m2 ∧ m2 ≤ 1000 ∧ pl < bh2 ∧ bh2 ≤ n) ∧ (repR f n pl l2 m2 bh2 1)) ∨ (∃ l2 : Int, ∃ m2 : Int, ∃ bh2 : Int, oc = .returned (some (vz 1)) ∧ fx o o [25] G G2 ∧ G2.length = G.length ∧ ab_slots G2 = ab_slots G ∧ cc o G2 d_ 25 (ab_ob 6 [vR x, inn, vz dp, vz flg, vz grp, vR na, vR nl, vz l2, vz m2, vz bh2]) ∧ (¬ tpk f n pl = 123) ∧ (0 ≤ l2 ∧ l2 ≤ 1 ∧ l2 ≤ m2 ∧ m2 ≤ 1000 ∧ pl < bh2 ∧ bh2 ≤ n) ∧ (repR f n pl l2 m2 bh2 0)) ∨ (∃ l2 : Int, ∃ m2 : Int, ∃ bh2 : Int, oc = .returned (some (vz 0)) ∧ fx o o [25] G G2 ∧ G2.length = G.length ∧ ab_slots G2 = ab_slots G ∧ cc o G2 d_ 25 (ab_ob 6 [vR x, inn, vz dp, vz flg, vz grp, vR na, vR nl, vz l2, vz m2, vz bh2]) ∧ (-1 ≤ l2 ∧ l2 ≤ 999 ∧ -1 ≤ m2 ∧ m2 ≤ 1000 ∧ 0 ≤ bh2 ∧ bh2 ≤ pl + 10) ∧ (norp f n pl))) := ⟨_, rfl⟩
  rw [← hQ]
  change ab_W X (ab_pl y_RD_isRepeat b_RD_isRepeat 2 (some (.boolean))) d G 0 [some (vR d_), none] [] Q
  have hfr : fx o o [25] G G := fx.rf
  have hlen : G.length = G.length := rfl
  have hsl : ab_slots G = ab_slots G := rfl
  refine ab_aload_n d_RD_isRepeat_0 rfl ?_
  refine ab_getf (fs := [vR x, inn, vz dp, vz flg, vz grp, vR na, vR nl, vz lst, vz mst, vz bh]) f_RD_12 d_RD_isRepeat_1 hd_.2.2 rfl ?_
  refine zz_iconst d_RD_isRepeat_4 ?_
  refine ab_callV (d' := d - 1) (as := [vz 0]) (st := []) (r := _) (z_TX_peek0 (o := o) (x := x) (lx := 24) (se := se) (by_ := by_) (lby := 23) (m := m) (f := f) (n := n) (pl := pl) (fa := fa) (fp := fp) (kd := kd) (kn := kn) hx hby_ (by omega) hb) (fun oc G2 h => by rcases h with ⟨_, h, _⟩ <;> exact ⟨_, h⟩) (by omega) m_TX_peek ml_RD_79 im_TX_peek se_TX_peek c_TX hx.2.2 (Nat.le_of_ble_eq_true rfl) d_RD_isRepeat_5 rfl ?_
  intro v G1 hq
  rcases hq with ⟨v2, hv, hGe, hq3, hq4⟩
  cases hv
  rw [hGe]
  change ab_W _ _ _ G 8 [some (vR d_), none] [vz v2] _
  refine ab_istore_n d_RD_isRepeat_8 (Nat.le_of_ble_eq_true rfl) (Nat.le_of_ble_eq_true rfl) rfl ?_
  change ab_W _ _ _ G 9 [some (vR d_), some (vz v2)] [] _
  refine ab_aload_n d_RD_isRepeat_9 rfl ?_
  refine ab_iload_n d_RD_isRepeat_10 rfl ?_
  refine zz_bipush d_RD_isRepeat_11 (by decide) ?_
  refine zz_icmp_ne (tgt := 20) d_RD_isRepeat_13 (by decide) (by omega) (by decide) (fun c5 => ?_) (fun c5 => ?_)
  · refine zz_iconst d_RD_isRepeat_20 ?_
    refine ab_putf (fs := [vR x, inn, vz dp, vz flg, vz grp, vR na, vR nl, vz lst, vz mst, vz bh]) f_RD_184 (Or.inl rfl) d_RD_isRepeat_21 hd_.2.2 (Nat.le_of_ble_eq_true rfl) (fun _ => ⟨rfl, rfl⟩) (hd_.2.1 (by decide)) ?_
    obtain ⟨G6, eG6⟩ : ∃ z : ab_G, z = List.set G d_ (ab_ob 6 [vR x, inn, vz dp, vz flg, vz grp, vR na, vR nl, vz 0, vz mst, vz bh]) := ⟨_, rfl⟩
    have hx := hx.keep hd_ eG6 (by decide)
    have hby_ := hby_.keep hd_ eG6 (by decide)
    have hlen := (z_len eG6).trans hlen
    have hsl := (z_sl hd_ eG6 rfl).trans hsl
    have hfr := hfr.wr hd_ eG6 (by decide)
    have hd_ := hd_.kept eG6
    change ab_W _ _ _ (List.set G d_ (ab_ob 6 [vR x, inn, vz dp, vz flg, vz grp, vR na, vR nl, vz 0, vz mst, vz bh])) 24 [some (vR d_), some (vz v2)] [] _
    rw [← eG6]
    refine ab_aload_n d_RD_isRepeat_24 rfl ?_
    refine ab_iload_n d_RD_isRepeat_25 rfl ?_
    refine zz_bipush d_RD_isRepeat_26 (by decide) ?_
    refine zz_icmp_ne (tgt := 35) d_RD_isRepeat_28 (by decide) (by omega) (by decide) (fun c7 => ?_) (fun c7 => ?_)
    · refine zz_sipush d_RD_isRepeat_35 (by decide) ?_
      refine ab_putf (fs := [vR x, inn, vz dp, vz flg, vz grp, vR na, vR nl, vz 0, vz mst, vz bh]) f_RD_187 (Or.inl rfl) d_RD_isRepeat_38 hd_.2.2 (Nat.le_of_ble_eq_true rfl) (fun _ => ⟨rfl, rfl⟩) (hd_.2.1 (by decide)) ?_
      obtain ⟨G8, eG8⟩ : ∃ z : ab_G, z = List.set G6 d_ (ab_ob 6 [vR x, inn, vz dp, vz flg, vz grp, vR na, vR nl, vz 0, vz 1000, vz bh]) := ⟨_, rfl⟩
      have hx := hx.keep hd_ eG8 (by decide)
      have hby_ := hby_.keep hd_ eG8 (by decide)
      have hlen := (z_len eG8).trans hlen
      have hsl := (z_sl hd_ eG8 rfl).trans hsl
      have hfr := hfr.wr hd_ eG8 (by decide)
      have hd_ := hd_.kept eG8
      change ab_W _ _ _ (List.set G6 d_ (ab_ob 6 [vR x, inn, vz dp, vz flg, vz grp, vR na, vR nl, vz 0, vz 1000, vz bh])) 41 [some (vR d_), some (vz v2)] [] _
      rw [← eG8]
      refine ab_aload_n d_RD_isRepeat_41 rfl ?_
      refine ab_aload_n d_RD_isRepeat_42 rfl ?_
      refine ab_getf (fs := [vR x, inn, vz dp, vz flg, vz grp, vR na, vR nl, vz 0, vz 1000, vz bh]) f_RD_12 d_RD_isRepeat_43 hd_.2.2 rfl ?_
      refine ab_getf (fs := [vR se, vR by_, vz n, vz pl, vz fa, vz fp, vR kd, vz kn]) f_RD_55 d_RD_isRepeat_46 hx.2.2 rfl ?_
      refine zz_iconst d_RD_isRepeat_49 ?_
      refine zz_iadd d_RD_isRepeat_50 ?_
      refine ab_putf (fs := [vR x, inn, vz dp, vz flg, vz grp, vR na, vR nl, vz 0, vz 1000, vz bh]) f_RD_190 (Or.inl rfl) d_RD_isRepeat_51 hd_.2.2 (Nat.le_of_ble_eq_true rfl) (fun _ => ⟨rfl, rfl⟩) (hd_.2.1 (by decide)) ?_
      obtain ⟨G9, eG9⟩ : ∃ z : ab_G, z = List.set G8 d_ (ab_ob 6 [vR x, inn, vz dp, vz flg, vz grp, vR na, vR nl, vz 0, vz 1000, vz (pl + 1)]) := ⟨_, rfl⟩
      have hx := hx.keep hd_ eG9 (by decide)
      have hby_ := hby_.keep hd_ eG9 (by decide)
      have hlen := (z_len eG9).trans hlen
      have hsl := (z_sl hd_ eG9 rfl).trans hsl
      have hfr := hfr.wr hd_ eG9 (by decide)
      have hd_ := hd_.kept eG9
      change ab_W _ _ _ (List.set G8 d_ (ab_ob 6 [vR x, inn, vz dp, vz flg, vz grp, vR na, vR nl, vz 0, vz 1000, vz (pl + 1)])) 54 [some (vR d_), some (vz v2)] [] _
      rw [← eG9]
      refine ab_iload_n d_RD_isRepeat_54 rfl ?_
      refine zz_bipush d_RD_isRepeat_55 (by decide) ?_
      refine zz_icmp_eq (tgt := 84) d_RD_isRepeat_57 (by decide) (by omega) (by decide) (fun c10 => ?_) (fun c10 => ?_)
      · have hpn := tpk_w (f := f) (n := n) (i := pl) (by rw [← hq3]; omega)
        refine ab_aload_n d_RD_isRepeat_84 rfl ?_
        refine ab_aload_n d_RD_isRepeat_85 rfl ?_
        refine ab_callV (d' := d - 1) (as := []) (st := [vR d_]) (r := _) (z_RD_number (o := o) (d_ := d_) (inn := inn) (dp := dp) (flg := flg) (grp := grp) (na := na) (nl := nl) (lst := 0) (mst := 1000) (bh := (pl + 1)) (x := x) (se := se) (by_ := by_) (m := m) (f := f) (n := n) (pl := pl) (fa := fa) (fp := fp) (kd := kd) (kn := kn) hd_ hx hby_ (by omega) hb (by omega) (by omega) (by omega)) (fun oc G2 h => by rcases h with ⟨_, _, h, _⟩ <;> exact ⟨_, h⟩) (by omega) m_RD_number ml_RD_200 im_RD_number se_RD_number c_RD hd_.2.2 (Nat.le_of_ble_eq_true rfl) d_RD_isRepeat_86 rfl ?_
        intro v G11 hq
        rcases hq with ⟨v12, bh213, hv, hfk, hlk, hsk, hNd_, hq14, hq15, hq16⟩
        cases hv
        have hx := hfk.get hx (by decide)
        have hby_ := hfk.get hby_ (by decide)
        have hfr := hfr.tr hfk (by decide)
        have hlen := hlk.trans hlen
        have hsl := hsk.trans hsl
        have hd_ := hNd_
        change ab_W _ _ _ G11 89 [some (vR d_), some (vz v2)] [vz v12, vR d_] _
        refine ab_putf (fs := [vR x, inn, vz dp, vz flg, vz grp, vR na, vR nl, vz 0, vz 1000, vz bh213]) f_RD_184 (Or.inl rfl) d_RD_isRepeat_89 hd_.2.2 (Nat.le_of_ble_eq_true rfl) (fun _ => ⟨rfl, rfl⟩) (hd_.2.1 (by decide)) ?_
        obtain ⟨G17, eG17⟩ : ∃ z : ab_G, z = List.set G11 d_ (ab_ob 6 [vR x, inn, vz dp, vz flg, vz grp, vR na, vR nl, vz v12, vz 1000, vz bh213]) := ⟨_, rfl⟩
        have hx := hx.keep hd_ eG17 (by decide)
        have hby_ := hby_.keep hd_ eG17 (by decide)
        have hlen := (z_len eG17).trans hlen
        have hsl := (z_sl hd_ eG17 rfl).trans hsl
        have hfr := hfr.wr hd_ eG17 (by decide)
        have hd_ := hd_.kept eG17
        change ab_W _ _ _ (List.set G11 d_ (ab_ob 6 [vR x, inn, vz dp, vz flg, vz grp, vR na, vR nl, vz v12, vz 1000, vz bh213])) 92 [some (vR d_), some (vz v2)] [] _
        rw [← eG17]
        refine ab_aload_n d_RD_isRepeat_92 rfl ?_
        refine ab_getf (fs := [vR x, inn, vz dp, vz flg, vz grp, vR na, vR nl, vz v12, vz 1000, vz bh213]) f_RD_184 d_RD_isRepeat_93 hd_.2.2 rfl ?_
        refine zz_iconst d_RD_isRepeat_96 ?_
        refine zz_icmp_ne (tgt := 102) d_RD_isRepeat_97 (by decide) (by omega) (by decide) (fun c18 => ?_) (fun c18 => ?_)
        · refine ab_aload_n d_RD_isRepeat_102 rfl ?_
          refine ab_aload_n d_RD_isRepeat_103 rfl ?_
          refine ab_getf (fs := [vR x, inn, vz dp, vz flg, vz grp, vR na, vR nl, vz v12, vz 1000, vz bh213]) f_RD_184 d_RD_isRepeat_104 hd_.2.2 rfl ?_
          refine ab_putf (fs := [vR x, inn, vz dp, vz flg, vz grp, vR na, vR nl, vz v12, vz 1000, vz bh213]) f_RD_187 (Or.inl rfl) d_RD_isRepeat_107 hd_.2.2 (Nat.le_of_ble_eq_true rfl) (fun _ => ⟨rfl, rfl⟩) (hd_.2.1 (by decide)) ?_
          obtain ⟨G19, eG19⟩ : ∃ z : ab_G, z = List.set G17 d_ (ab_ob 6 [vR x, inn, vz dp, vz flg, vz grp, vR na, vR nl, vz v12, vz v12, vz bh213]) := ⟨_, rfl⟩
          have hx := hx.keep hd_ eG19 (by decide)
          have hby_ := hby_.keep hd_ eG19 (by decide)
          have hlen := (z_len eG19).trans hlen
          have hsl := (z_sl hd_ eG19 rfl).trans hsl
          have hfr := hfr.wr hd_ eG19 (by decide)
          have hd_ := hd_.kept eG19
          change ab_W _ _ _ (List.set G17 d_ (ab_ob 6 [vR x, inn, vz dp, vz flg, vz grp, vR na, vR nl, vz v12, vz v12, vz bh213])) 110 [some (vR d_), some (vz v2)] [] _
          rw [← eG19]
          refine ab_aload_n d_RD_isRepeat_110 rfl ?_
          refine ab_aload_n d_RD_isRepeat_111 rfl ?_
          refine ab_getf (fs := [vR x, inn, vz dp, vz flg, vz grp, vR na, vR nl, vz v12, vz v12, vz bh213]) f_RD_190 d_RD_isRepeat_112 hd_.2.2 rfl ?_
          refine ab_callV (d' := d - 1) (as := [vz bh213]) (st := []) (r := _) (z_RD_byteAt (o := o) (d_ := d_) (inn := inn) (dp := dp) (flg := flg) (grp := grp) (na := na) (nl := nl) (lst := v12) (mst := v12) (bh := bh213) (x := x) (se := se) (by_ := by_) (m := m) (f := f) (n := n) (pl := pl) (fa := fa) (fp := fp) (kd := kd) (kn := kn) (at_ := bh213) hd_ hx hby_ (by omega) hb (by omega)) (fun oc G2 h => by rcases h with ⟨_, h, _⟩ <;> exact ⟨_, h⟩) (by omega) m_RD_byteAt ml_RD_203 im_RD_byteAt se_RD_byteAt c_RD hd_.2.2 (Nat.le_of_ble_eq_true rfl) d_RD_isRepeat_115 rfl ?_
          intro v G20 hq
          rcases hq with ⟨v21, hv, hGe, hq22, hq23⟩
          cases hv
          rw [hGe]
          change ab_W _ _ _ G19 118 [some (vR d_), some (vz v2)] [vz v21] _
          refine zz_bipush d_RD_isRepeat_118 (by decide) ?_
          refine zz_icmp_ne (tgt := 160) d_RD_isRepeat_120 (by decide) (by omega) (by decide) (fun c24 => ?_) (fun c24 => ?_)
          · refine ab_aload_n d_RD_isRepeat_160 rfl ?_
            refine ab_dup d_RD_isRepeat_161 rfl ?_
            refine ab_getf (fs := [vR x, inn, vz dp, vz flg, vz grp, vR na, vR nl, vz v12, vz v12, vz bh213]) f_RD_190 d_RD_isRepeat_162 hd_.2.2 rfl ?_
            refine zz_iconst d_RD_isRepeat_165 ?_
            refine zz_iadd d_RD_isRepeat_166 ?_
            refine ab_putf (fs := [vR x, inn, vz dp, vz flg, vz grp, vR na, vR nl, vz v12, vz v12, vz bh213]) f_RD_190 (Or.inl rfl) d_RD_isRepeat_167 hd_.2.2 (Nat.le_of_ble_eq_true rfl) (fun _ => ⟨rfl, rfl⟩) (hd_.2.1 (by decide)) ?_
            obtain ⟨G25, eG25⟩ : ∃ z : ab_G, z = List.set G19 d_ (ab_ob 6 [vR x, inn, vz dp, vz flg, vz grp, vR na, vR nl, vz v12, vz v12, vz (bh213 + 1)]) := ⟨_, rfl⟩
            have hx := hx.keep hd_ eG25 (by decide)
            have hby_ := hby_.keep hd_ eG25 (by decide)
            have hlen := (z_len eG25).trans hlen
            have hsl := (z_sl hd_ eG25 rfl).trans hsl
            have hfr := hfr.wr hd_ eG25 (by decide)
            have hd_ := hd_.kept eG25
            change ab_W _ _ _ (List.set G19 d_ (ab_ob 6 [vR x, inn, vz dp, vz flg, vz grp, vR na, vR nl, vz v12, vz v12, vz (bh213 + 1)])) 170 [some (vR d_), some (vz v2)] [] _
            rw [← eG25]
            refine ab_aload_n d_RD_isRepeat_170 rfl ?_
            refine ab_getf (fs := [vR x, inn, vz dp, vz flg, vz grp, vR na, vR nl, vz v12, vz v12, vz (bh213 + 1)]) f_RD_187 d_RD_isRepeat_171 hd_.2.2 rfl ?_
            refine zz_iconst d_RD_isRepeat_174 ?_
            refine zz_icmp_eq (tgt := 197) d_RD_isRepeat_175 (by decide) (by omega) (by decide) (fun c26 => absurd c26 (by omega)) (fun c26 => ?_)
            refine ab_aload_n d_RD_isRepeat_178 rfl ?_
            refine ab_aload_n d_RD_isRepeat_179 rfl ?_
            refine ab_getf (fs := [vR x, inn, vz dp, vz flg, vz grp, vR na, vR nl, vz v12, vz v12, vz (bh213 + 1)]) f_RD_190 d_RD_isRepeat_180 hd_.2.2 rfl ?_
            refine zz_iconst d_RD_isRepeat_183 ?_
            refine zz_isub d_RD_isRepeat_184 ?_
            refine zz_top (y := bh213) (by omega) ?_
            change ab_W _ _ _ G25 185 [some (vR d_), some (vz v2)] [vz bh213, vR d_] _
            refine ab_callV (d' := d - 1) (as := [vz bh213]) (st := []) (r := _) (z_RD_byteAt (o := o) (d_ := d_) (inn := inn) (dp := dp) (flg := flg) (grp := grp) (na := na) (nl := nl) (lst := v12) (mst := v12) (bh := (bh213 + 1)) (x := x) (se := se) (by_ := by_) (m := m) (f := f) (n := n) (pl := pl) (fa := fa) (fp := fp) (kd := kd) (kn := kn) (at_ := bh213) hd_ hx hby_ (by omega) hb (by omega)) (fun oc G2 h => by rcases h with ⟨_, h, _⟩ <;> exact ⟨_, h⟩) (by omega) m_RD_byteAt ml_RD_203 im_RD_byteAt se_RD_byteAt c_RD hd_.2.2 (Nat.le_of_ble_eq_true rfl) d_RD_isRepeat_185 rfl ?_
            intro v G27 hq
            rcases hq with ⟨v28, hv, hGe, hq29, hq30⟩
            cases hv
            rw [hGe]
            change ab_W _ _ _ G25 188 [some (vR d_), some (vz v2)] [vz v28] _
            refine zz_bipush d_RD_isRepeat_188 (by decide) ?_
            refine zz_icmp_ne (tgt := 197) d_RD_isRepeat_190 (by decide) (by omega) (by decide) (fun c31 => ?_) (fun c31 => ?_)
            · refine zz_iconst d_RD_isRepeat_197 ?_
              refine zz_bret rfl (by decide) d_RD_isRepeat_198 ?_
              rw [hQ]; exact (Or.inr (Or.inr ⟨_, _, _, rfl, hfr, hlen, hsl, hd_, (by omega), (by exact norp_end (by omega) hq16 (nobrc_0 (by omega)))⟩))
            · refine zz_iconst d_RD_isRepeat_193 ?_
              refine ab_goto (tgt := 198) d_RD_isRepeat_194 (by decide) ?_
              refine zz_bret rfl (by decide) d_RD_isRepeat_198 ?_
              rw [hQ]; exact (Or.inl ⟨_, _, _, rfl, hfr, hlen, hsl, hd_, (by omega), (by have t_ := tpk_w (f := f) (n := n) (i := bh213) (by omega); omega), (by first | exact Or.inr (Or.inr (Or.inr ⟨by omega, rfl, _, hq16, by omega, Or.inl ⟨by omega, by omega, by omega⟩⟩)) | exact Or.inr (Or.inr (Or.inr ⟨by omega, rfl, _, hq16, by omega, Or.inr (Or.inl ⟨by omega, by omega, by omega, by omega⟩)⟩)))⟩)
          · refine ab_aload_n d_RD_isRepeat_123 rfl ?_
            refine ab_dup d_RD_isRepeat_124 rfl ?_
            refine ab_getf (fs := [vR x, inn, vz dp, vz flg, vz grp, vR na, vR nl, vz v12, vz v12, vz bh213]) f_RD_190 d_RD_isRepeat_125 hd_.2.2 rfl ?_
            refine zz_iconst d_RD_isRepeat_128 ?_
            refine zz_iadd d_RD_isRepeat_129 ?_
            refine ab_putf (fs := [vR x, inn, vz dp, vz flg, vz grp, vR na, vR nl, vz v12, vz v12, vz bh213]) f_RD_190 (Or.inl rfl) d_RD_isRepeat_130 hd_.2.2 (Nat.le_of_ble_eq_true rfl) (fun _ => ⟨rfl, rfl⟩) (hd_.2.1 (by decide)) ?_
            obtain ⟨G32, eG32⟩ : ∃ z : ab_G, z = List.set G19 d_ (ab_ob 6 [vR x, inn, vz dp, vz flg, vz grp, vR na, vR nl, vz v12, vz v12, vz (bh213 + 1)]) := ⟨_, rfl⟩
            have hx := hx.keep hd_ eG32 (by decide)
            have hby_ := hby_.keep hd_ eG32 (by decide)
            have hlen := (z_len eG32).trans hlen
            have hsl := (z_sl hd_ eG32 rfl).trans hsl
            have hfr := hfr.wr hd_ eG32 (by decide)
            have hd_ := hd_.kept eG32
            change ab_W _ _ _ (List.set G19 d_ (ab_ob 6 [vR x, inn, vz dp, vz flg, vz grp, vR na, vR nl, vz v12, vz v12, vz (bh213 + 1)])) 133 [some (vR d_), some (vz v2)] [] _
            rw [← eG32]
            refine ab_aload_n d_RD_isRepeat_133 rfl ?_
            refine ab_aload_n d_RD_isRepeat_134 rfl ?_
            refine ab_aload_n d_RD_isRepeat_135 rfl ?_
            refine ab_getf (fs := [vR x, inn, vz dp, vz flg, vz grp, vR na, vR nl, vz v12, vz v12, vz (bh213 + 1)]) f_RD_190 d_RD_isRepeat_136 hd_.2.2 rfl ?_
            refine ab_callV (d' := d - 1) (as := [vz (bh213 + 1)]) (st := [vR d_]) (r := _) (z_RD_byteAt (o := o) (d_ := d_) (inn := inn) (dp := dp) (flg := flg) (grp := grp) (na := na) (nl := nl) (lst := v12) (mst := v12) (bh := (bh213 + 1)) (x := x) (se := se) (by_ := by_) (m := m) (f := f) (n := n) (pl := pl) (fa := fa) (fp := fp) (kd := kd) (kn := kn) (at_ := (bh213 + 1)) hd_ hx hby_ (by omega) hb (by omega)) (fun oc G2 h => by rcases h with ⟨_, h, _⟩ <;> exact ⟨_, h⟩) (by omega) m_RD_byteAt ml_RD_203 im_RD_byteAt se_RD_byteAt c_RD hd_.2.2 (Nat.le_of_ble_eq_true rfl) d_RD_isRepeat_139 rfl ?_
            intro v G33 hq
            rcases hq with ⟨v34, hv, hGe, hq35, hq36⟩
            cases hv
            rw [hGe]
            change ab_W _ _ _ G32 142 [some (vR d_), some (vz v2)] [vz v34, vR d_] _
            refine zz_bipush d_RD_isRepeat_142 (by decide) ?_
            refine zz_icmp_ne (tgt := 153) d_RD_isRepeat_144 (by decide) (by omega) (by decide) (fun c37 => ?_) (fun c37 => ?_)
            · refine ab_aload_n d_RD_isRepeat_153 rfl ?_
              refine ab_callV (d' := d - 1) (as := []) (st := [vR d_]) (r := _) (z_RD_number (o := o) (d_ := d_) (inn := inn) (dp := dp) (flg := flg) (grp := grp) (na := na) (nl := nl) (lst := v12) (mst := v12) (bh := (bh213 + 1)) (x := x) (se := se) (by_ := by_) (m := m) (f := f) (n := n) (pl := pl) (fa := fa) (fp := fp) (kd := kd) (kn := kn) hd_ hx hby_ (by omega) hb (by omega) (by omega) (by omega)) (fun oc G2 h => by rcases h with ⟨_, _, h, _⟩ <;> exact ⟨_, h⟩) (by omega) m_RD_number ml_RD_200 im_RD_number se_RD_number c_RD hd_.2.2 (Nat.le_of_ble_eq_true rfl) d_RD_isRepeat_154 rfl ?_
              intro v G38 hq
              rcases hq with ⟨v39, bh240, hv, hfk, hlk, hsk, hNd_, hq41, hq42, hq43⟩
              cases hv
              have hx := hfk.get hx (by decide)
              have hby_ := hfk.get hby_ (by decide)
              have hfr := hfr.tr hfk (by decide)
              have hlen := hlk.trans hlen
              have hsl := hsk.trans hsl
              have hd_ := hNd_
              change ab_W _ _ _ G38 157 [some (vR d_), some (vz v2)] [vz v39, vR d_] _
              refine ab_putf (fs := [vR x, inn, vz dp, vz flg, vz grp, vR na, vR nl, vz v12, vz v12, vz bh240]) f_RD_187 (Or.inl rfl) d_RD_isRepeat_157 hd_.2.2 (Nat.le_of_ble_eq_true rfl) (fun _ => ⟨rfl, rfl⟩) (hd_.2.1 (by decide)) ?_
              obtain ⟨G44, eG44⟩ : ∃ z : ab_G, z = List.set G38 d_ (ab_ob 6 [vR x, inn, vz dp, vz flg, vz grp, vR na, vR nl, vz v12, vz v39, vz bh240]) := ⟨_, rfl⟩
              have hx := hx.keep hd_ eG44 (by decide)
              have hby_ := hby_.keep hd_ eG44 (by decide)
              have hlen := (z_len eG44).trans hlen
              have hsl := (z_sl hd_ eG44 rfl).trans hsl
              have hfr := hfr.wr hd_ eG44 (by decide)
              have hd_ := hd_.kept eG44
              change ab_W _ _ _ (List.set G38 d_ (ab_ob 6 [vR x, inn, vz dp, vz flg, vz grp, vR na, vR nl, vz v12, vz v39, vz bh240])) 160 [some (vR d_), some (vz v2)] [] _
              rw [← eG44]
              refine ab_aload_n d_RD_isRepeat_160 rfl ?_
              refine ab_dup d_RD_isRepeat_161 rfl ?_
              refine ab_getf (fs := [vR x, inn, vz dp, vz flg, vz grp, vR na, vR nl, vz v12, vz v39, vz bh240]) f_RD_190 d_RD_isRepeat_162 hd_.2.2 rfl ?_
              refine zz_iconst d_RD_isRepeat_165 ?_
              refine zz_iadd d_RD_isRepeat_166 ?_
              refine ab_putf (fs := [vR x, inn, vz dp, vz flg, vz grp, vR na, vR nl, vz v12, vz v39, vz bh240]) f_RD_190 (Or.inl rfl) d_RD_isRepeat_167 hd_.2.2 (Nat.le_of_ble_eq_true rfl) (fun _ => ⟨rfl, rfl⟩) (hd_.2.1 (by decide)) ?_
              obtain ⟨G45, eG45⟩ : ∃ z : ab_G, z = List.set G44 d_ (ab_ob 6 [vR x, inn, vz dp, vz flg, vz grp, vR na, vR nl, vz v12, vz v39, vz (bh240 + 1)]) := ⟨_, rfl⟩
              have hx := hx.keep hd_ eG45 (by decide)
              have hby_ := hby_.keep hd_ eG45 (by decide)
              have hlen := (z_len eG45).trans hlen
              have hsl := (z_sl hd_ eG45 rfl).trans hsl
              have hfr := hfr.wr hd_ eG45 (by decide)
              have hd_ := hd_.kept eG45
              change ab_W _ _ _ (List.set G44 d_ (ab_ob 6 [vR x, inn, vz dp, vz flg, vz grp, vR na, vR nl, vz v12, vz v39, vz (bh240 + 1)])) 170 [some (vR d_), some (vz v2)] [] _
              rw [← eG45]
              refine ab_aload_n d_RD_isRepeat_170 rfl ?_
              refine ab_getf (fs := [vR x, inn, vz dp, vz flg, vz grp, vR na, vR nl, vz v12, vz v39, vz (bh240 + 1)]) f_RD_187 d_RD_isRepeat_171 hd_.2.2 rfl ?_
              refine zz_iconst d_RD_isRepeat_174 ?_
              refine zz_icmp_eq (tgt := 197) d_RD_isRepeat_175 (by decide) (by omega) (by decide) (fun c46 => ?_) (fun c46 => ?_)
              · refine zz_iconst d_RD_isRepeat_197 ?_
                refine zz_bret rfl (by decide) d_RD_isRepeat_198 ?_
                rw [hQ]; exact (Or.inr (Or.inr ⟨_, _, _, rfl, hfr, hlen, hsl, hd_, (by omega), (by exact norp_end (by omega) hq16 (nobrc_1 (by omega) (by omega) hq43 (by omega)))⟩))
              · refine ab_aload_n d_RD_isRepeat_178 rfl ?_
                refine ab_aload_n d_RD_isRepeat_179 rfl ?_
                refine ab_getf (fs := [vR x, inn, vz dp, vz flg, vz grp, vR na, vR nl, vz v12, vz v39, vz (bh240 + 1)]) f_RD_190 d_RD_isRepeat_180 hd_.2.2 rfl ?_
                refine zz_iconst d_RD_isRepeat_183 ?_
                refine zz_isub d_RD_isRepeat_184 ?_
                refine zz_top (y := bh240) (by omega) ?_
                change ab_W _ _ _ G45 185 [some (vR d_), some (vz v2)] [vz bh240, vR d_] _
                refine ab_callV (d' := d - 1) (as := [vz bh240]) (st := []) (r := _) (z_RD_byteAt (o := o) (d_ := d_) (inn := inn) (dp := dp) (flg := flg) (grp := grp) (na := na) (nl := nl) (lst := v12) (mst := v39) (bh := (bh240 + 1)) (x := x) (se := se) (by_ := by_) (m := m) (f := f) (n := n) (pl := pl) (fa := fa) (fp := fp) (kd := kd) (kn := kn) (at_ := bh240) hd_ hx hby_ (by omega) hb (by omega)) (fun oc G2 h => by rcases h with ⟨_, h, _⟩ <;> exact ⟨_, h⟩) (by omega) m_RD_byteAt ml_RD_203 im_RD_byteAt se_RD_byteAt c_RD hd_.2.2 (Nat.le_of_ble_eq_true rfl) d_RD_isRepeat_185 rfl ?_
                intro v G47 hq
                rcases hq with ⟨v48, hv, hGe, hq49, hq50⟩
                cases hv
                rw [hGe]
                change ab_W _ _ _ G45 188 [some (vR d_), some (vz v2)] [vz v48] _
                refine zz_bipush d_RD_isRepeat_188 (by decide) ?_
                refine zz_icmp_ne (tgt := 197) d_RD_isRepeat_190 (by decide) (by omega) (by decide) (fun c51 => ?_) (fun c51 => ?_)
                · refine zz_iconst d_RD_isRepeat_197 ?_
                  refine zz_bret rfl (by decide) d_RD_isRepeat_198 ?_
                  rw [hQ]; exact (Or.inr (Or.inr ⟨_, _, _, rfl, hfr, hlen, hsl, hd_, (by omega), (by exact norp_end (by omega) hq16 (nobrc_1 (by omega) (by omega) hq43 (by omega)))⟩))
                · refine zz_iconst d_RD_isRepeat_193 ?_
                  refine ab_goto (tgt := 198) d_RD_isRepeat_194 (by decide) ?_
                  refine zz_bret rfl (by decide) d_RD_isRepeat_198 ?_
                  rw [hQ]; exact (Or.inl ⟨_, _, _, rfl, hfr, hlen, hsl, hd_, (by omega), (by have t_ := tpk_w (f := f) (n := n) (i := bh240) (by omega); omega), (by first | exact Or.inr (Or.inr (Or.inr ⟨by omega, rfl, _, hq16, by omega, Or.inl ⟨by omega, by omega, by omega⟩⟩)) | exact Or.inr (Or.inr (Or.inr ⟨by omega, rfl, _, hq16, by omega, Or.inr (Or.inl ⟨by omega, by omega, by omega, by omega⟩)⟩)) | exact Or.inr (Or.inr (Or.inr ⟨by omega, rfl, _, hq16, by omega, Or.inr (Or.inr ⟨by omega, by omega, _, hq43, by omega, by omega, by omega⟩)⟩)))⟩)
            · refine zz_sipush d_RD_isRepeat_147 (by decide) ?_
              refine ab_goto (tgt := 157) d_RD_isRepeat_150 (by decide) ?_
              refine ab_putf (fs := [vR x, inn, vz dp, vz flg, vz grp, vR na, vR nl, vz v12, vz v12, vz (bh213 + 1)]) f_RD_187 (Or.inl rfl) d_RD_isRepeat_157 hd_.2.2 (Nat.le_of_ble_eq_true rfl) (fun _ => ⟨rfl, rfl⟩) (hd_.2.1 (by decide)) ?_
              obtain ⟨G52, eG52⟩ : ∃ z : ab_G, z = List.set G32 d_ (ab_ob 6 [vR x, inn, vz dp, vz flg, vz grp, vR na, vR nl, vz v12, vz 1000, vz (bh213 + 1)]) := ⟨_, rfl⟩
              have hx := hx.keep hd_ eG52 (by decide)
              have hby_ := hby_.keep hd_ eG52 (by decide)
              have hlen := (z_len eG52).trans hlen
              have hsl := (z_sl hd_ eG52 rfl).trans hsl
              have hfr := hfr.wr hd_ eG52 (by decide)
              have hd_ := hd_.kept eG52
              change ab_W _ _ _ (List.set G32 d_ (ab_ob 6 [vR x, inn, vz dp, vz flg, vz grp, vR na, vR nl, vz v12, vz 1000, vz (bh213 + 1)])) 160 [some (vR d_), some (vz v2)] [] _
              rw [← eG52]
              refine ab_aload_n d_RD_isRepeat_160 rfl ?_
              refine ab_dup d_RD_isRepeat_161 rfl ?_
              refine ab_getf (fs := [vR x, inn, vz dp, vz flg, vz grp, vR na, vR nl, vz v12, vz 1000, vz (bh213 + 1)]) f_RD_190 d_RD_isRepeat_162 hd_.2.2 rfl ?_
              refine zz_iconst d_RD_isRepeat_165 ?_
              refine zz_iadd d_RD_isRepeat_166 ?_
              refine ab_putf (fs := [vR x, inn, vz dp, vz flg, vz grp, vR na, vR nl, vz v12, vz 1000, vz (bh213 + 1)]) f_RD_190 (Or.inl rfl) d_RD_isRepeat_167 hd_.2.2 (Nat.le_of_ble_eq_true rfl) (fun _ => ⟨rfl, rfl⟩) (hd_.2.1 (by decide)) ?_
              obtain ⟨G53, eG53⟩ : ∃ z : ab_G, z = List.set G52 d_ (ab_ob 6 [vR x, inn, vz dp, vz flg, vz grp, vR na, vR nl, vz v12, vz 1000, vz ((bh213 + 1) + 1)]) := ⟨_, rfl⟩
              have hx := hx.keep hd_ eG53 (by decide)
              have hby_ := hby_.keep hd_ eG53 (by decide)
              have hlen := (z_len eG53).trans hlen
              have hsl := (z_sl hd_ eG53 rfl).trans hsl
              have hfr := hfr.wr hd_ eG53 (by decide)
              have hd_ := hd_.kept eG53
              change ab_W _ _ _ (List.set G52 d_ (ab_ob 6 [vR x, inn, vz dp, vz flg, vz grp, vR na, vR nl, vz v12, vz 1000, vz ((bh213 + 1) + 1)])) 170 [some (vR d_), some (vz v2)] [] _
              rw [← eG53]
              refine ab_aload_n d_RD_isRepeat_170 rfl ?_
              refine ab_getf (fs := [vR x, inn, vz dp, vz flg, vz grp, vR na, vR nl, vz v12, vz 1000, vz ((bh213 + 1) + 1)]) f_RD_187 d_RD_isRepeat_171 hd_.2.2 rfl ?_
              refine zz_iconst d_RD_isRepeat_174 ?_
              refine zz_icmp_eq (tgt := 197) d_RD_isRepeat_175 (by decide) (by decide) (by decide) (fun c54 => absurd c54 (by decide)) (fun c54 => ?_)
              refine ab_aload_n d_RD_isRepeat_178 rfl ?_
              refine ab_aload_n d_RD_isRepeat_179 rfl ?_
              refine ab_getf (fs := [vR x, inn, vz dp, vz flg, vz grp, vR na, vR nl, vz v12, vz 1000, vz ((bh213 + 1) + 1)]) f_RD_190 d_RD_isRepeat_180 hd_.2.2 rfl ?_
              refine zz_iconst d_RD_isRepeat_183 ?_
              refine zz_isub d_RD_isRepeat_184 ?_
              refine zz_top (y := (bh213 + 1)) (by omega) ?_
              change ab_W _ _ _ G53 185 [some (vR d_), some (vz v2)] [vz (bh213 + 1), vR d_] _
              refine ab_callV (d' := d - 1) (as := [vz (bh213 + 1)]) (st := []) (r := _) (z_RD_byteAt (o := o) (d_ := d_) (inn := inn) (dp := dp) (flg := flg) (grp := grp) (na := na) (nl := nl) (lst := v12) (mst := 1000) (bh := ((bh213 + 1) + 1)) (x := x) (se := se) (by_ := by_) (m := m) (f := f) (n := n) (pl := pl) (fa := fa) (fp := fp) (kd := kd) (kn := kn) (at_ := (bh213 + 1)) hd_ hx hby_ (by omega) hb (by omega)) (fun oc G2 h => by rcases h with ⟨_, h, _⟩ <;> exact ⟨_, h⟩) (by omega) m_RD_byteAt ml_RD_203 im_RD_byteAt se_RD_byteAt c_RD hd_.2.2 (Nat.le_of_ble_eq_true rfl) d_RD_isRepeat_185 rfl ?_
              intro v G55 hq
              rcases hq with ⟨v56, hv, hGe, hq57, hq58⟩
              cases hv
              rw [hGe]
              change ab_W _ _ _ G53 188 [some (vR d_), some (vz v2)] [vz v56] _
              refine zz_bipush d_RD_isRepeat_188 (by decide) ?_
              refine zz_icmp_ne (tgt := 197) d_RD_isRepeat_190 (by decide) (by omega) (by decide) (fun c59 => absurd c59 (by omega)) (fun c59 => ?_)
              refine zz_iconst d_RD_isRepeat_193 ?_
              refine ab_goto (tgt := 198) d_RD_isRepeat_194 (by decide) ?_
              refine zz_bret rfl (by decide) d_RD_isRepeat_198 ?_
              rw [hQ]; exact (Or.inl ⟨_, _, _, rfl, hfr, hlen, hsl, hd_, (by omega), (by have t_ := tpk_w (f := f) (n := n) (i := (bh213 + 1)) (by omega); omega), (by first | exact Or.inr (Or.inr (Or.inr ⟨by omega, rfl, _, hq16, by omega, Or.inl ⟨by omega, by omega, by omega⟩⟩)) | exact Or.inr (Or.inr (Or.inr ⟨by omega, rfl, _, hq16, by omega, Or.inr (Or.inl ⟨by omega, by omega, by omega, by omega⟩)⟩)))⟩)
        · refine zz_iconst d_RD_isRepeat_100 ?_
          refine zz_bret rfl (by decide) d_RD_isRepeat_101 ?_
          rw [hQ]; exact (Or.inr (Or.inr ⟨_, _, _, rfl, hfr, hlen, hsl, hd_, (by omega), (by exact norp_num (by omega) hq16 (by omega))⟩))
      · refine ab_iload_n d_RD_isRepeat_60 rfl ?_
        refine zz_bipush d_RD_isRepeat_61 (by decide) ?_
        refine zz_icmp_eq (tgt := 78) d_RD_isRepeat_63 (by decide) (by omega) (by decide) (fun c60 => ?_) (fun c60 => ?_)
        · have hpn := tpk_w (f := f) (n := n) (i := pl) (by rw [← hq3]; omega)
          refine zz_iconst d_RD_isRepeat_78 ?_
          refine ab_goto (tgt := 83) d_RD_isRepeat_79 (by decide) ?_
          refine zz_bret rfl (by decide) d_RD_isRepeat_83 ?_
          rw [hQ]; exact (Or.inr (Or.inl ⟨_, _, _, rfl, hfr, hlen, hsl, hd_, (by omega), (by omega), (by unfold repR; first | (left; omega) | (right; left; omega) | (right; right; left; omega))⟩))
        · refine ab_iload_n d_RD_isRepeat_66 rfl ?_
          refine zz_bipush d_RD_isRepeat_67 (by decide) ?_
          refine zz_icmp_eq (tgt := 78) d_RD_isRepeat_69 (by decide) (by omega) (by decide) (fun c61 => absurd c61 (by omega)) (fun c61 => ?_)
          refine ab_iload_n d_RD_isRepeat_72 rfl ?_
          refine zz_bipush d_RD_isRepeat_73 (by decide) ?_
          refine zz_icmp_ne (tgt := 82) d_RD_isRepeat_75 (by decide) (by omega) (by decide) (fun c62 => ?_) (fun c62 => absurd c62 (by omega))
          refine zz_iconst d_RD_isRepeat_82 ?_
          refine zz_bret rfl (by decide) d_RD_isRepeat_83 ?_
          rw [hQ]; exact (Or.inr (Or.inr ⟨_, _, _, rfl, hfr, hlen, hsl, hd_, (by omega), (by exact norp_sign (by omega))⟩))
    · refine zz_iconst d_RD_isRepeat_31 ?_
      refine ab_goto (tgt := 38) d_RD_isRepeat_32 (by decide) ?_
      refine ab_putf (fs := [vR x, inn, vz dp, vz flg, vz grp, vR na, vR nl, vz 0, vz mst, vz bh]) f_RD_187 (Or.inl rfl) d_RD_isRepeat_38 hd_.2.2 (Nat.le_of_ble_eq_true rfl) (fun _ => ⟨rfl, rfl⟩) (hd_.2.1 (by decide)) ?_
      obtain ⟨G63, eG63⟩ : ∃ z : ab_G, z = List.set G6 d_ (ab_ob 6 [vR x, inn, vz dp, vz flg, vz grp, vR na, vR nl, vz 0, vz 1, vz bh]) := ⟨_, rfl⟩
      have hx := hx.keep hd_ eG63 (by decide)
      have hby_ := hby_.keep hd_ eG63 (by decide)
      have hlen := (z_len eG63).trans hlen
      have hsl := (z_sl hd_ eG63 rfl).trans hsl
      have hfr := hfr.wr hd_ eG63 (by decide)
      have hd_ := hd_.kept eG63
      change ab_W _ _ _ (List.set G6 d_ (ab_ob 6 [vR x, inn, vz dp, vz flg, vz grp, vR na, vR nl, vz 0, vz 1, vz bh])) 41 [some (vR d_), some (vz v2)] [] _
      rw [← eG63]
      refine ab_aload_n d_RD_isRepeat_41 rfl ?_
      refine ab_aload_n d_RD_isRepeat_42 rfl ?_
      refine ab_getf (fs := [vR x, inn, vz dp, vz flg, vz grp, vR na, vR nl, vz 0, vz 1, vz bh]) f_RD_12 d_RD_isRepeat_43 hd_.2.2 rfl ?_
      refine ab_getf (fs := [vR se, vR by_, vz n, vz pl, vz fa, vz fp, vR kd, vz kn]) f_RD_55 d_RD_isRepeat_46 hx.2.2 rfl ?_
      refine zz_iconst d_RD_isRepeat_49 ?_
      refine zz_iadd d_RD_isRepeat_50 ?_
      refine ab_putf (fs := [vR x, inn, vz dp, vz flg, vz grp, vR na, vR nl, vz 0, vz 1, vz bh]) f_RD_190 (Or.inl rfl) d_RD_isRepeat_51 hd_.2.2 (Nat.le_of_ble_eq_true rfl) (fun _ => ⟨rfl, rfl⟩) (hd_.2.1 (by decide)) ?_
      obtain ⟨G64, eG64⟩ : ∃ z : ab_G, z = List.set G63 d_ (ab_ob 6 [vR x, inn, vz dp, vz flg, vz grp, vR na, vR nl, vz 0, vz 1, vz (pl + 1)]) := ⟨_, rfl⟩
      have hx := hx.keep hd_ eG64 (by decide)
      have hby_ := hby_.keep hd_ eG64 (by decide)
      have hlen := (z_len eG64).trans hlen
      have hsl := (z_sl hd_ eG64 rfl).trans hsl
      have hfr := hfr.wr hd_ eG64 (by decide)
      have hd_ := hd_.kept eG64
      change ab_W _ _ _ (List.set G63 d_ (ab_ob 6 [vR x, inn, vz dp, vz flg, vz grp, vR na, vR nl, vz 0, vz 1, vz (pl + 1)])) 54 [some (vR d_), some (vz v2)] [] _
      rw [← eG64]
      refine ab_iload_n d_RD_isRepeat_54 rfl ?_
      refine zz_bipush d_RD_isRepeat_55 (by decide) ?_
      refine zz_icmp_eq (tgt := 84) d_RD_isRepeat_57 (by decide) (by omega) (by decide) (fun c65 => absurd c65 (by omega)) (fun c65 => ?_)
      refine ab_iload_n d_RD_isRepeat_60 rfl ?_
      refine zz_bipush d_RD_isRepeat_61 (by decide) ?_
      refine zz_icmp_eq (tgt := 78) d_RD_isRepeat_63 (by decide) (by omega) (by decide) (fun c66 => absurd c66 (by omega)) (fun c66 => ?_)
      refine ab_iload_n d_RD_isRepeat_66 rfl ?_
      refine zz_bipush d_RD_isRepeat_67 (by decide) ?_
      refine zz_icmp_eq (tgt := 78) d_RD_isRepeat_69 (by decide) (by omega) (by decide) (fun c67 => absurd c67 (by omega)) (fun c67 => ?_)
      refine ab_iload_n d_RD_isRepeat_72 rfl ?_
      refine zz_bipush d_RD_isRepeat_73 (by decide) ?_
      refine zz_icmp_ne (tgt := 82) d_RD_isRepeat_75 (by decide) (by omega) (by decide) (fun c68 => absurd c68 (by omega)) (fun c68 => ?_)
      have hpn := tpk_w (f := f) (n := n) (i := pl) (by rw [← hq3]; omega)
      refine zz_iconst d_RD_isRepeat_78 ?_
      refine ab_goto (tgt := 83) d_RD_isRepeat_79 (by decide) ?_
      refine zz_bret rfl (by decide) d_RD_isRepeat_83 ?_
      rw [hQ]; exact (Or.inr (Or.inl ⟨_, _, _, rfl, hfr, hlen, hsl, hd_, (by omega), (by omega), (by unfold repR; first | (left; omega) | (right; left; omega) | (right; right; left; omega))⟩))
  · refine zz_iconst d_RD_isRepeat_16 ?_
    refine ab_goto (tgt := 21) d_RD_isRepeat_17 (by decide) ?_
    refine ab_putf (fs := [vR x, inn, vz dp, vz flg, vz grp, vR na, vR nl, vz lst, vz mst, vz bh]) f_RD_184 (Or.inl rfl) d_RD_isRepeat_21 hd_.2.2 (Nat.le_of_ble_eq_true rfl) (fun _ => ⟨rfl, rfl⟩) (hd_.2.1 (by decide)) ?_
    obtain ⟨G69, eG69⟩ : ∃ z : ab_G, z = List.set G d_ (ab_ob 6 [vR x, inn, vz dp, vz flg, vz grp, vR na, vR nl, vz 1, vz mst, vz bh]) := ⟨_, rfl⟩
    have hx := hx.keep hd_ eG69 (by decide)
    have hby_ := hby_.keep hd_ eG69 (by decide)
    have hlen := (z_len eG69).trans hlen
    have hsl := (z_sl hd_ eG69 rfl).trans hsl
    have hfr := hfr.wr hd_ eG69 (by decide)
    have hd_ := hd_.kept eG69
    change ab_W _ _ _ (List.set G d_ (ab_ob 6 [vR x, inn, vz dp, vz flg, vz grp, vR na, vR nl, vz 1, vz mst, vz bh])) 24 [some (vR d_), some (vz v2)] [] _
    rw [← eG69]
    refine ab_aload_n d_RD_isRepeat_24 rfl ?_
    refine ab_iload_n d_RD_isRepeat_25 rfl ?_
    refine zz_bipush d_RD_isRepeat_26 (by decide) ?_
    refine zz_icmp_ne (tgt := 35) d_RD_isRepeat_28 (by decide) (by omega) (by decide) (fun c70 => ?_) (fun c70 => absurd c70 (by omega))
    refine zz_sipush d_RD_isRepeat_35 (by decide) ?_
    refine ab_putf (fs := [vR x, inn, vz dp, vz flg, vz grp, vR na, vR nl, vz 1, vz mst, vz bh]) f_RD_187 (Or.inl rfl) d_RD_isRepeat_38 hd_.2.2 (Nat.le_of_ble_eq_true rfl) (fun _ => ⟨rfl, rfl⟩) (hd_.2.1 (by decide)) ?_
    obtain ⟨G71, eG71⟩ : ∃ z : ab_G, z = List.set G69 d_ (ab_ob 6 [vR x, inn, vz dp, vz flg, vz grp, vR na, vR nl, vz 1, vz 1000, vz bh]) := ⟨_, rfl⟩
    have hx := hx.keep hd_ eG71 (by decide)
    have hby_ := hby_.keep hd_ eG71 (by decide)
    have hlen := (z_len eG71).trans hlen
    have hsl := (z_sl hd_ eG71 rfl).trans hsl
    have hfr := hfr.wr hd_ eG71 (by decide)
    have hd_ := hd_.kept eG71
    change ab_W _ _ _ (List.set G69 d_ (ab_ob 6 [vR x, inn, vz dp, vz flg, vz grp, vR na, vR nl, vz 1, vz 1000, vz bh])) 41 [some (vR d_), some (vz v2)] [] _
    rw [← eG71]
    refine ab_aload_n d_RD_isRepeat_41 rfl ?_
    refine ab_aload_n d_RD_isRepeat_42 rfl ?_
    refine ab_getf (fs := [vR x, inn, vz dp, vz flg, vz grp, vR na, vR nl, vz 1, vz 1000, vz bh]) f_RD_12 d_RD_isRepeat_43 hd_.2.2 rfl ?_
    refine ab_getf (fs := [vR se, vR by_, vz n, vz pl, vz fa, vz fp, vR kd, vz kn]) f_RD_55 d_RD_isRepeat_46 hx.2.2 rfl ?_
    refine zz_iconst d_RD_isRepeat_49 ?_
    refine zz_iadd d_RD_isRepeat_50 ?_
    refine ab_putf (fs := [vR x, inn, vz dp, vz flg, vz grp, vR na, vR nl, vz 1, vz 1000, vz bh]) f_RD_190 (Or.inl rfl) d_RD_isRepeat_51 hd_.2.2 (Nat.le_of_ble_eq_true rfl) (fun _ => ⟨rfl, rfl⟩) (hd_.2.1 (by decide)) ?_
    obtain ⟨G72, eG72⟩ : ∃ z : ab_G, z = List.set G71 d_ (ab_ob 6 [vR x, inn, vz dp, vz flg, vz grp, vR na, vR nl, vz 1, vz 1000, vz (pl + 1)]) := ⟨_, rfl⟩
    have hx := hx.keep hd_ eG72 (by decide)
    have hby_ := hby_.keep hd_ eG72 (by decide)
    have hlen := (z_len eG72).trans hlen
    have hsl := (z_sl hd_ eG72 rfl).trans hsl
    have hfr := hfr.wr hd_ eG72 (by decide)
    have hd_ := hd_.kept eG72
    change ab_W _ _ _ (List.set G71 d_ (ab_ob 6 [vR x, inn, vz dp, vz flg, vz grp, vR na, vR nl, vz 1, vz 1000, vz (pl + 1)])) 54 [some (vR d_), some (vz v2)] [] _
    rw [← eG72]
    refine ab_iload_n d_RD_isRepeat_54 rfl ?_
    refine zz_bipush d_RD_isRepeat_55 (by decide) ?_
    refine zz_icmp_eq (tgt := 84) d_RD_isRepeat_57 (by decide) (by omega) (by decide) (fun c73 => absurd c73 (by omega)) (fun c73 => ?_)
    refine ab_iload_n d_RD_isRepeat_60 rfl ?_
    refine zz_bipush d_RD_isRepeat_61 (by decide) ?_
    refine zz_icmp_eq (tgt := 78) d_RD_isRepeat_63 (by decide) (by omega) (by decide) (fun c74 => absurd c74 (by omega)) (fun c74 => ?_)
    refine ab_iload_n d_RD_isRepeat_66 rfl ?_
    refine zz_bipush d_RD_isRepeat_67 (by decide) ?_
    refine zz_icmp_eq (tgt := 78) d_RD_isRepeat_69 (by decide) (by omega) (by decide) (fun c75 => ?_) (fun c75 => absurd c75 (by omega))
    have hpn := tpk_w (f := f) (n := n) (i := pl) (by rw [← hq3]; omega)
    refine zz_iconst d_RD_isRepeat_78 ?_
    refine ab_goto (tgt := 83) d_RD_isRepeat_79 (by decide) ?_
    refine zz_bret rfl (by decide) d_RD_isRepeat_83 ?_
    rw [hQ]; exact (Or.inr (Or.inl ⟨_, _, _, rfl, hfr, hlen, hsl, hd_, (by omega), (by omega), (by unfold repR; first | (left; omega) | (right; left; omega) | (right; right; left; omega))⟩))
set_option maxRecDepth 100000 in
set_option maxHeartbeats 4000000 in
theorem y_RD_nameLengthAt_4 {X : ab_X} {d : Nat} {Q : Outcome → ab_G → Prop} {o : Nat → Nat} {G0 : ab_G} {d_ : Nat} {inn : Value} {dp : Int} {flg : Int} {grp : Int} {na : Nat} {nl : Nat} {lst : Int} {mst : Int} {bh : Int} {x : Nat} {se : Nat} {by_ : Nat} {m : Nat} {f : Int → Int} {n : Int} {pl : Int} {fa : Int} {fp : Int} {kd : Nat} {kn : Int} {b : Int} (cn_ : 0 ≤ n ∧ n ≤ ↑m ∧ m ≤ 2000) (hb : bytes f n) (cb : 0 ≤ b ∧ b ≤ 20000) (hd : 1 ≤ d) : ∀ (mz : Nat) {G : ab_G} {le : Int} {at_ : Int}, (cc o G d_ 25 (ab_ob 6 [vR x, inn, vz dp, vz flg, vz grp, vR na, vR nl, vz lst, vz mst, vz bh])) → (cc o G x 24 (ab_ob 10 [vR se, vR by_, vz n, vz pl, vz fa, vz fp, vR kd, vz kn])) → (cc o G by_ 23 (za m f)) → (at_ = b + le ∧ 0 ≤ le ∧ le ≤ 13) → (wlI f n b le) → (fx o o [] G0 G) → (G.length = G0.length) → (ab_slots G = ab_slots G0) → (Int.toNat (13 - le) < mz) → (∀ (G2 : ab_G) (le : Int), (cc o G2 d_ 25 (ab_ob 6 [vR x, inn, vz dp, vz flg, vz grp, vR na, vR nl, vz lst, vz mst, vz bh])) → (cc o G2 x 24 (ab_ob 10 [vR se, vR by_, vz n, vz pl, vz fa, vz fp, vR kd, vz kn])) → (cc o G2 by_ 23 (za m f)) → (0 ≤ le ∧ le ≤ 13) → (wlR f n b le) → (fx o o [] G0 G2) → (G2.length = G0.length) → (ab_slots G2 = ab_slots G0) → ab_W X (ab_pl y_RD_nameLengthAt b_RD_nameLengthAt 4 (some (.int))) d G2 45 [some (vR d_), some (vz b), some (vz le), none] [] Q) → ab_W X (ab_pl y_RD_nameLengthAt b_RD_nameLengthAt 4 (some (.int))) d G 4 [some (vR d_), some (vz b), some (vz le), some (vz at_)] [] Q := by
  intro mz
  induction mz with
  | zero => intro G le at_ hd_ hx hby_ ci hwl hfr hlen hsl hm hk0; exact absurd hm (Nat.not_lt_zero _)
  | succ mz ih =>
    intro G le at_ hd_ hx hby_ ci hwl hfr hlen hsl hm hk0
    refine ab_iload_n d_RD_nameLengthAt_4 rfl ?_
    refine ab_aload_n d_RD_nameLengthAt_5 rfl ?_
    refine ab_getf (fs := [vR x, inn, vz dp, vz flg, vz grp, vR na, vR nl, vz lst, vz mst, vz bh]) f_RD_12 d_RD_nameLengthAt_6 hd_.2.2 rfl ?_
    refine ab_getf (fs := [vR se, vR by_, vz n, vz pl, vz fa, vz fp, vR kd, vz kn]) f_RD_52 d_RD_nameLengthAt_9 hx.2.2 rfl ?_
    refine zz_icmp_ge (tgt := 45) d_RD_nameLengthAt_12 (by decide) (by omega) (by omega) (fun c1 => ?_) (fun c1 => ?_)
    · refine ab_less (L' := [some (vR d_), some (vz b), some (vz le), none]) (fun i v h => by rcases i with _ | _ | _ | _ | i <;> first | exact h | (simp at h)) ?_
      exact hk0 _ _ hd_ hx hby_ (by omega) (by first | exact ⟨by omega, hwl, Or.inl (by omega)⟩ | exact ⟨by omega, hwl, Or.inr (by rw [tpk_off (by omega)]; exact isW_n)⟩) hfr hlen hsl
    · refine ab_iload_n d_RD_nameLengthAt_15 rfl ?_
      refine zz_bipush d_RD_nameLengthAt_16 (by decide) ?_
      refine zz_icmp_gt (tgt := 45) d_RD_nameLengthAt_18 (by decide) (by omega) (by decide) (fun c2 => ?_) (fun c2 => ?_)
      · refine ab_less (L' := [some (vR d_), some (vz b), some (vz le), none]) (fun i v h => by rcases i with _ | _ | _ | _ | i <;> first | exact h | (simp at h)) ?_
        exact hk0 _ _ hd_ hx hby_ (by omega) (by first | exact ⟨by omega, hwl, Or.inl (by omega)⟩ | exact ⟨by omega, hwl, Or.inr (by rw [tpk_off (by omega)]; exact isW_n)⟩) hfr hlen hsl
      · refine ab_aload_n d_RD_nameLengthAt_21 rfl ?_
        refine ab_getf (fs := [vR x, inn, vz dp, vz flg, vz grp, vR na, vR nl, vz lst, vz mst, vz bh]) f_RD_12 d_RD_nameLengthAt_22 hd_.2.2 rfl ?_
        refine ab_getf (fs := [vR se, vR by_, vz n, vz pl, vz fa, vz fp, vR kd, vz kn]) f_RD_175 d_RD_nameLengthAt_25 hx.2.2 rfl ?_
        refine ab_iload_n d_RD_nameLengthAt_28 rfl ?_
        refine zz_iald d_RD_nameLengthAt_29 hby_ (by omega) ?_
        have hq3 := hb at_ (by omega) (by omega)
        refine ab_callS (d' := d - 1) (as := [vz (f at_)]) (st := []) (z_PW_isWord (o := o) (x := (f at_)) (by omega)) (fun oc G2 h => by rcases h with ⟨h, _⟩ | ⟨h, _⟩ <;> exact ⟨_, h⟩) (by omega) m_PW_isWord ml_RD_178 st_PW_isWord (Nat.le_of_ble_eq_true rfl) d_RD_nameLengthAt_30 rfl ?_
        intro v G4 hq
        rcases hq with ⟨hv, hGe, hq5⟩ | ⟨hv, hGe, hq6⟩
        · cases hv
          rw [hGe]
          change ab_W _ _ _ G 33 [some (vR d_), some (vz b), some (vz le), some (vz at_)] [vz 1] _
          refine zz_if_eq (tgt := 45) d_RD_nameLengthAt_33 (by decide) (by decide) (fun c7 => absurd c7 (by decide)) (fun c7 => ?_)
          refine zz_iinc d_RD_nameLengthAt_36 rfl (Nat.le_of_ble_eq_true rfl) (Nat.le_of_ble_eq_true rfl) rfl ?_
          change ab_W _ _ _ G 39 [some (vR d_), some (vz b), some (vz (le + 1)), some (vz at_)] [] _
          refine zz_iinc d_RD_nameLengthAt_39 rfl (Nat.le_of_ble_eq_true rfl) (Nat.le_of_ble_eq_true rfl) rfl ?_
          change ab_W _ _ _ G 42 [some (vR d_), some (vz b), some (vz (le + 1)), some (vz (at_ + 1))] [] _
          refine ab_goto (tgt := 4) d_RD_nameLengthAt_42 (by decide) ?_
          exact ih (le := (le + 1)) (at_ := (at_ + 1)) hd_ hx hby_ (by omega) (wlI_s hwl (by rw [← ci.1, tpk_at (by omega)]; exact hq5)) hfr hlen hsl (by omega) hk0
        · cases hv
          rw [hGe]
          change ab_W _ _ _ G 33 [some (vR d_), some (vz b), some (vz le), some (vz at_)] [vz 0] _
          refine zz_if_eq (tgt := 45) d_RD_nameLengthAt_33 (by decide) (by decide) (fun c8 => ?_) (fun c8 => absurd c8 (by decide))
          refine ab_less (L' := [some (vR d_), some (vz b), some (vz le), none]) (fun i v h => by rcases i with _ | _ | _ | _ | i <;> first | exact h | (simp at h)) ?_
          exact hk0 _ _ hd_ hx hby_ (by omega) (by exact ⟨by omega, hwl, Or.inr (by rw [← ci.1, tpk_at (by omega)]; exact hq6)⟩) hfr hlen hsl
set_option maxRecDepth 100000 in
set_option maxHeartbeats 4000000 in
theorem z_RD_nameLengthAt {X : ab_X} {d : Nat} {o : Nat → Nat} {G : ab_G} {d_ : Nat} {inn : Value} {dp : Int} {flg : Int} {grp : Int} {na : Nat} {nl : Nat} {lst : Int} {mst : Int} {bh : Int} {x : Nat} {se : Nat} {by_ : Nat} {m : Nat} {f : Int → Int} {n : Int} {pl : Int} {fa : Int} {fp : Int} {kd : Nat} {kn : Int} {b : Int} (hd_ : cc o G d_ 25 (ab_ob 6 [vR x, inn, vz dp, vz flg, vz grp, vR na, vR nl, vz lst, vz mst, vz bh])) (hx : cc o G x 24 (ab_ob 10 [vR se, vR by_, vz n, vz pl, vz fa, vz fp, vR kd, vz kn])) (hby_ : cc o G by_ 23 (za m f)) (cn_ : 0 ≤ n ∧ n ≤ ↑m ∧ m ≤ 2000) (hb : bytes f n) (cb : 0 ≤ b ∧ b ≤ 20000) (hd : 2 ≤ d) : ab_F X d y_RD_nameLengthAt (.code y_RD_nameLengthAt b_RD_nameLengthAt 4 (some (.int))) [vR d_, vz b] G (fun oc G2 => (∃ v : Int, oc = .returned (some (vz v)) ∧ fx o o [] G G2 ∧ G2.length = G.length ∧ ab_slots G2 = ab_slots G ∧ (0 ≤ v ∧ v ≤ 12 ∧ b + v < n) ∧ (nmR f n b v)) ∨ (oc = .returned (some (vz 0)) ∧ fx o o [] G G2 ∧ G2.length = G.length ∧ ab_slots G2 = ab_slots G ∧ (nmR f n b 0))) := by
  refine ab_F_of (by decide +kernel) (Nat.le_of_ble_eq_true rfl) ?_
  obtain ⟨Q, hQ⟩ : ∃ z : Outcome → ab_G → Prop, z = (fun oc G2 => (∃ v : Int, oc = .returned (some (vz v)) ∧ fx o o [] G G2 ∧ G2.length = G.length ∧ ab_slots G2 = ab_slots G ∧ (0 ≤ v ∧ v ≤ 12 ∧ b + v < n) ∧ (nmR f n b v)) ∨ (oc = .returned (some (vz 0)) ∧ fx o o [] G G2 ∧ G2.length = G.length ∧ ab_slots G2 = ab_slots G ∧ (nmR f n b 0))) := ⟨_, rfl⟩
  rw [← hQ]
  change ab_W X (ab_pl y_RD_nameLengthAt b_RD_nameLengthAt 4 (some (.int))) d G 0 [some (vR d_), some (vz b), none, none] [] Q
  have hfr : fx o o [] G G := fx.rf
  have hlen : G.length = G.length := rfl
  have hsl : ab_slots G = ab_slots G := rfl
  refine zz_iconst d_RD_nameLengthAt_0 ?_
  refine ab_istore_n d_RD_nameLengthAt_1 (Nat.le_of_ble_eq_true rfl) (Nat.le_of_ble_eq_true rfl) rfl ?_
  change ab_W _ _ _ G 2 [some (vR d_), some (vz b), some (vz 0), none] [] _
  refine ab_iload_n d_RD_nameLengthAt_2 rfl ?_
  refine ab_istore_n d_RD_nameLengthAt_3 (Nat.le_of_ble_eq_true rfl) (Nat.le_of_ble_eq_true rfl) rfl ?_
  change ab_W _ _ _ G 4 [some (vR d_), some (vz b), some (vz 0), some (vz b)] [] _
  refine y_RD_nameLengthAt_4 (d_ := d_) (inn := inn) (dp := dp) (flg := flg) (grp := grp) (na := na) (nl := nl) (lst := lst) (mst := mst) (bh := bh) (x := x) (se := se) (by_ := by_) (m := m) (f := f) (n := n) (pl := pl) (fa := fa) (fp := fp) (kd := kd) (kn := kn) (b := b) (G0 := G) (le := 0) (at_ := b) (by omega) hb (by omega) (by omega) (Int.toNat (13 - 0) + 1) hd_ hx hby_ (by omega) wlI_0 fx.rf rfl rfl (by omega) (fun G1 le2 hNd_ hNx hNby_ hq3 hq4 hfk hlk hsk => ?_)
  · have hfr := hfr.tr hfk (by decide)
    have hlen := hlk.trans hlen
    have hsl := hsk.trans hsl
    have hd_ := hNd_
    have hx := hNx
    have hby_ := hNby_
    change ab_W _ _ _ G1 45 [some (vR d_), some (vz b), some (vz le2), none] [] _
    refine ab_iload_n d_RD_nameLengthAt_45 rfl ?_
    refine ab_iload_n d_RD_nameLengthAt_46 rfl ?_
    refine zz_iadd d_RD_nameLengthAt_47 ?_
    refine ab_aload_n d_RD_nameLengthAt_48 rfl ?_
    refine ab_getf (fs := [vR x, inn, vz dp, vz flg, vz grp, vR na, vR nl, vz lst, vz mst, vz bh]) f_RD_12 d_RD_nameLengthAt_49 hd_.2.2 rfl ?_
    refine ab_getf (fs := [vR se, vR by_, vz n, vz pl, vz fa, vz fp, vR kd, vz kn]) f_RD_52 d_RD_nameLengthAt_52 hx.2.2 rfl ?_
    refine zz_icmp_ge (tgt := 78) d_RD_nameLengthAt_55 (by decide) (by omega) (by omega) (fun c5 => ?_) (fun c5 => ?_)
    · refine zz_iconst d_RD_nameLengthAt_78 ?_
      refine ab_istore_n d_RD_nameLengthAt_79 (Nat.le_of_ble_eq_true rfl) (Nat.le_of_ble_eq_true rfl) rfl ?_
      change ab_W _ _ _ G1 80 [some (vR d_), some (vz b), some (vz le2), some (vz 0)] [] _
      refine ab_iload_n d_RD_nameLengthAt_80 rfl ?_
      refine zz_if_eq (tgt := 94) d_RD_nameLengthAt_81 (by decide) (by decide) (fun c6 => ?_) (fun c6 => absurd c6 (by decide))
      refine zz_iconst d_RD_nameLengthAt_94 ?_
      refine zz_iret rfl d_RD_nameLengthAt_95 ?_
      rw [hQ]; exact (Or.inr ⟨rfl, hfr, hlen, hsl, (by first | exact ⟨_, hq4, Or.inr ⟨rfl, Or.inl (by omega)⟩⟩ | exact ⟨_, hq4, Or.inr ⟨rfl, Or.inr (Or.inl (by omega))⟩⟩ | exact ⟨_, hq4, Or.inr ⟨rfl, Or.inr (Or.inr (by rw [tpk_off (by omega)]; decide))⟩⟩ | exact ⟨_, hq4, Or.inr ⟨rfl, Or.inr (Or.inr (by rw [tpk_at (by omega)]; omega))⟩⟩)⟩)
    · refine ab_aload_n d_RD_nameLengthAt_58 rfl ?_
      refine ab_getf (fs := [vR x, inn, vz dp, vz flg, vz grp, vR na, vR nl, vz lst, vz mst, vz bh]) f_RD_12 d_RD_nameLengthAt_59 hd_.2.2 rfl ?_
      refine ab_getf (fs := [vR se, vR by_, vz n, vz pl, vz fa, vz fp, vR kd, vz kn]) f_RD_175 d_RD_nameLengthAt_62 hx.2.2 rfl ?_
      refine ab_iload_n d_RD_nameLengthAt_65 rfl ?_
      refine ab_iload_n d_RD_nameLengthAt_66 rfl ?_
      refine zz_iadd d_RD_nameLengthAt_67 ?_
      refine zz_iald d_RD_nameLengthAt_68 hby_ (by omega) ?_
      have hq7 := hb (b + le2) (by omega) (by omega)
      refine zz_bipush d_RD_nameLengthAt_69 (by decide) ?_
      refine zz_icmp_ne (tgt := 78) d_RD_nameLengthAt_71 (by decide) (by omega) (by decide) (fun c8 => ?_) (fun c8 => ?_)
      · refine zz_iconst d_RD_nameLengthAt_78 ?_
        refine ab_istore_n d_RD_nameLengthAt_79 (Nat.le_of_ble_eq_true rfl) (Nat.le_of_ble_eq_true rfl) rfl ?_
        change ab_W _ _ _ G1 80 [some (vR d_), some (vz b), some (vz le2), some (vz 0)] [] _
        refine ab_iload_n d_RD_nameLengthAt_80 rfl ?_
        refine zz_if_eq (tgt := 94) d_RD_nameLengthAt_81 (by decide) (by decide) (fun c9 => ?_) (fun c9 => absurd c9 (by decide))
        refine zz_iconst d_RD_nameLengthAt_94 ?_
        refine zz_iret rfl d_RD_nameLengthAt_95 ?_
        rw [hQ]; exact (Or.inr ⟨rfl, hfr, hlen, hsl, (by first | exact ⟨_, hq4, Or.inr ⟨rfl, Or.inl (by omega)⟩⟩ | exact ⟨_, hq4, Or.inr ⟨rfl, Or.inr (Or.inl (by omega))⟩⟩ | exact ⟨_, hq4, Or.inr ⟨rfl, Or.inr (Or.inr (by rw [tpk_off (by omega)]; decide))⟩⟩ | exact ⟨_, hq4, Or.inr ⟨rfl, Or.inr (Or.inr (by rw [tpk_at (by omega)]; omega))⟩⟩)⟩)
      · refine zz_iconst d_RD_nameLengthAt_74 ?_
        refine ab_goto (tgt := 79) d_RD_nameLengthAt_75 (by decide) ?_
        refine ab_istore_n d_RD_nameLengthAt_79 (Nat.le_of_ble_eq_true rfl) (Nat.le_of_ble_eq_true rfl) rfl ?_
        change ab_W _ _ _ G1 80 [some (vR d_), some (vz b), some (vz le2), some (vz 1)] [] _
        refine ab_iload_n d_RD_nameLengthAt_80 rfl ?_
        refine zz_if_eq (tgt := 94) d_RD_nameLengthAt_81 (by decide) (by decide) (fun c10 => absurd c10 (by decide)) (fun c10 => ?_)
        refine ab_iload_n d_RD_nameLengthAt_84 rfl ?_
        refine zz_bipush d_RD_nameLengthAt_85 (by decide) ?_
        refine zz_icmp_gt (tgt := 94) d_RD_nameLengthAt_87 (by decide) (by omega) (by decide) (fun c11 => ?_) (fun c11 => ?_)
        · refine zz_iconst d_RD_nameLengthAt_94 ?_
          refine zz_iret rfl d_RD_nameLengthAt_95 ?_
          rw [hQ]; exact (Or.inr ⟨rfl, hfr, hlen, hsl, (by first | exact ⟨_, hq4, Or.inr ⟨rfl, Or.inl (by omega)⟩⟩ | exact ⟨_, hq4, Or.inr ⟨rfl, Or.inr (Or.inl (by omega))⟩⟩ | exact ⟨_, hq4, Or.inr ⟨rfl, Or.inr (Or.inr (by rw [tpk_off (by omega)]; decide))⟩⟩ | exact ⟨_, hq4, Or.inr ⟨rfl, Or.inr (Or.inr (by rw [tpk_at (by omega)]; omega))⟩⟩)⟩)
        · refine ab_iload_n d_RD_nameLengthAt_90 rfl ?_
          refine ab_goto (tgt := 95) d_RD_nameLengthAt_91 (by decide) ?_
          refine zz_iret rfl d_RD_nameLengthAt_95 ?_
          rw [hQ]; exact (Or.inl ⟨_, rfl, hfr, hlen, hsl, (by omega), (by by_cases h0_ : le2 = 0; (exact ⟨_, hq4, Or.inr ⟨h0_, Or.inl h0_⟩⟩); (exact ⟨_, hq4, Or.inl ⟨by omega, rfl, by omega, by rw [tpk_at (by omega)]; omega⟩⟩))⟩)
set_option maxRecDepth 100000 in
set_option maxHeartbeats 4000000 in
theorem y_RD_isTaken_38 {X : ab_X} {d : Nat} {Q : Outcome → ab_G → Prop} {o : Nat → Nat} {G0 : ab_G} {d_ : Nat} {inn : Value} {dp : Int} {flg : Int} {grp : Int} {na : Nat} {nl : Nat} {lst : Int} {mst : Int} {bh : Int} {NA : Int → Int} {NL : Int → Int} {x : Nat} {se : Nat} {by_ : Nat} {m : Nat} {f : Int → Int} {n : Int} {pl : Int} {fa : Int} {fp : Int} {kd : Nat} {kn : Int} {b : Int} {le : Int} {k : Int} (cn_ : 0 ≤ n ∧ n ≤ ↑m ∧ m ≤ 2000) (hb : bytes f n) (hnm : nmok NA NL grp n) (cbl : 0 ≤ b ∧ 0 ≤ le ∧ b + le ≤ n) (cg : 0 ≤ grp ∧ grp ≤ 9) (ck : 1 ≤ k ∧ k ≤ grp) : ∀ (mz : Nat) {G : ab_G} {tk : Int} {i : Int}, (cc o G d_ 25 (ab_ob 6 [vR x, inn, vz dp, vz flg, vz grp, vR na, vR nl, vz lst, vz mst, vz bh])) → (cc o G x 24 (ab_ob 10 [vR se, vR by_, vz n, vz pl, vz fa, vz fp, vR kd, vz kn])) → (cc o G by_ 23 (za m f)) → (cc o G na 86 (za 10 NA)) → (cc o G nl 87 (za 10 NL)) → (0 ≤ i ∧ i ≤ le ∧ 0 ≤ tk ∧ tk ≤ 1) → (tk = 1 → NL k = le) → (tnI f NA NL k b le i tk) → (fx o o [] G0 G) → (G.length = G0.length) → (ab_slots G = ab_slots G0) → (Int.toNat (le - i) < mz) → (∀ (G2 : ab_G) (tk : Int) (i2 : Int), (cc o G2 d_ 25 (ab_ob 6 [vR x, inn, vz dp, vz flg, vz grp, vR na, vR nl, vz lst, vz mst, vz bh])) → (cc o G2 x 24 (ab_ob 10 [vR se, vR by_, vz n, vz pl, vz fa, vz fp, vR kd, vz kn])) → (cc o G2 by_ 23 (za m f)) → (cc o G2 na 86 (za 10 NA)) → (cc o G2 nl 87 (za 10 NL)) → (0 ≤ tk ∧ tk ≤ 1) → (tnI f NA NL k b le i2 tk) → (i2 < le → tk = 0) → (fx o o [] G0 G2) → (G2.length = G0.length) → (ab_slots G2 = ab_slots G0) → ab_W X (ab_pl y_RD_isTaken b_RD_isTaken 6 (some (.boolean))) d G2 93 [some (vR d_), some (vz b), some (vz le), some (vz tk), some (vz k), none] [] Q) → ab_W X (ab_pl y_RD_isTaken b_RD_isTaken 6 (some (.boolean))) d G 38 [some (vR d_), some (vz b), some (vz le), some (vz tk), some (vz k), some (vz i)] [] Q := by
  intro mz
  induction mz with
  | zero => intro G tk i hd_ hx hby_ hna hnl ci cx htn hfr hlen hsl hm hk0; exact absurd hm (Nat.not_lt_zero _)
  | succ mz ih =>
    intro G tk i hd_ hx hby_ hna hnl ci cx htn hfr hlen hsl hm hk0
    refine ab_iload d_RD_isTaken_38 rfl ?_
    refine ab_iload_n d_RD_isTaken_40 rfl ?_
    refine zz_icmp_ge (tgt := 93) d_RD_isTaken_41 (by decide) (by omega) (by omega) (fun c1 => ?_) (fun c1 => ?_)
    · refine ab_less (L' := [some (vR d_), some (vz b), some (vz le), some (vz tk), some (vz k), none]) (fun i v h => by rcases i with _ | _ | _ | _ | _ | _ | i <;> first | exact h | (simp at h)) ?_
      exact hk0 _ _ i hd_ hx hby_ hna hnl (by omega) (by exact htn) (by intro _; omega) hfr hlen hsl
    · refine ab_iload_n d_RD_isTaken_44 rfl ?_
      refine zz_if_eq (tgt := 93) d_RD_isTaken_45 (by decide) (by omega) (fun c2 => ?_) (fun c2 => ?_)
      · refine ab_less (L' := [some (vR d_), some (vz b), some (vz le), some (vz tk), some (vz k), none]) (fun i v h => by rcases i with _ | _ | _ | _ | _ | _ | i <;> first | exact h | (simp at h)) ?_
        exact hk0 _ _ i hd_ hx hby_ hna hnl (by omega) (by exact htn) (by intro _; omega) hfr hlen hsl
      · have hk := hnm k (by omega) (by omega)
        refine ab_aload_n d_RD_isTaken_48 rfl ?_
        refine ab_getf (fs := [vR x, inn, vz dp, vz flg, vz grp, vR na, vR nl, vz lst, vz mst, vz bh]) f_RD_12 d_RD_isTaken_49 hd_.2.2 rfl ?_
        refine ab_getf (fs := [vR se, vR by_, vz n, vz pl, vz fa, vz fp, vR kd, vz kn]) f_RD_175 d_RD_isTaken_52 hx.2.2 rfl ?_
        refine ab_aload_n d_RD_isTaken_55 rfl ?_
        refine ab_getf (fs := [vR x, inn, vz dp, vz flg, vz grp, vR na, vR nl, vz lst, vz mst, vz bh]) f_RD_27 d_RD_isTaken_56 hd_.2.2 rfl ?_
        refine ab_iload d_RD_isTaken_59 rfl ?_
        refine zz_iald d_RD_isTaken_61 hna (by omega) ?_
        refine ab_iload d_RD_isTaken_62 rfl ?_
        refine zz_iadd d_RD_isTaken_64 ?_
        refine zz_iald d_RD_isTaken_65 hby_ (by omega) ?_
        have hq3 := hb ((NA k) + i) (by omega) (by omega)
        refine ab_aload_n d_RD_isTaken_66 rfl ?_
        refine ab_getf (fs := [vR x, inn, vz dp, vz flg, vz grp, vR na, vR nl, vz lst, vz mst, vz bh]) f_RD_12 d_RD_isTaken_67 hd_.2.2 rfl ?_
        refine ab_getf (fs := [vR se, vR by_, vz n, vz pl, vz fa, vz fp, vR kd, vz kn]) f_RD_175 d_RD_isTaken_70 hx.2.2 rfl ?_
        refine ab_iload_n d_RD_isTaken_73 rfl ?_
        refine ab_iload d_RD_isTaken_74 rfl ?_
        refine zz_iadd d_RD_isTaken_76 ?_
        refine zz_iald d_RD_isTaken_77 hby_ (by omega) ?_
        have hq4 := hb (b + i) (by omega) (by omega)
        refine zz_icmp_ne (tgt := 85) d_RD_isTaken_78 (by decide) (by omega) (by omega) (fun c5 => ?_) (fun c5 => ?_)
        · refine zz_iconst d_RD_isTaken_85 ?_
          refine ab_istore_n d_RD_isTaken_86 (Nat.le_of_ble_eq_true rfl) (Nat.le_of_ble_eq_true rfl) rfl ?_
          change ab_W _ _ _ G 87 [some (vR d_), some (vz b), some (vz le), some (vz 0), some (vz k), some (vz i)] [] _
          refine zz_iinc d_RD_isTaken_87 rfl (Nat.le_of_ble_eq_true rfl) (Nat.le_of_ble_eq_true rfl) rfl ?_
          change ab_W _ _ _ G 90 [some (vR d_), some (vz b), some (vz le), some (vz 0), some (vz k), some (vz (i + 1))] [] _
          refine ab_goto (tgt := 38) d_RD_isTaken_90 (by decide) ?_
          exact ih (tk := 0) (i := (i + 1)) hd_ hx hby_ hna hnl (by omega) (fun h => by omega) (tnI_0 (by omega) (by omega)) hfr hlen hsl (by omega) hk0
        · refine zz_iconst d_RD_isTaken_81 ?_
          refine ab_goto (tgt := 86) d_RD_isTaken_82 (by decide) ?_
          refine ab_istore_n d_RD_isTaken_86 (Nat.le_of_ble_eq_true rfl) (Nat.le_of_ble_eq_true rfl) rfl ?_
          change ab_W _ _ _ G 87 [some (vR d_), some (vz b), some (vz le), some (vz 1), some (vz k), some (vz i)] [] _
          refine zz_iinc d_RD_isTaken_87 rfl (Nat.le_of_ble_eq_true rfl) (Nat.le_of_ble_eq_true rfl) rfl ?_
          change ab_W _ _ _ G 90 [some (vR d_), some (vz b), some (vz le), some (vz 1), some (vz k), some (vz (i + 1))] [] _
          refine ab_goto (tgt := 38) d_RD_isTaken_90 (by decide) ?_
          exact ih (tk := 1) (i := (i + 1)) hd_ hx hby_ hna hnl (by omega) (fun h => by omega) (tnI_1 htn (by omega) (by omega)) hfr hlen hsl (by omega) hk0
set_option maxRecDepth 100000 in
set_option maxHeartbeats 4000000 in
theorem y_RD_isTaken_5 {X : ab_X} {d : Nat} {Q : Outcome → ab_G → Prop} {o : Nat → Nat} {G0 : ab_G} {d_ : Nat} {inn : Value} {dp : Int} {flg : Int} {grp : Int} {na : Nat} {nl : Nat} {lst : Int} {mst : Int} {bh : Int} {NA : Int → Int} {NL : Int → Int} {x : Nat} {se : Nat} {by_ : Nat} {m : Nat} {f : Int → Int} {n : Int} {pl : Int} {fa : Int} {fp : Int} {kd : Nat} {kn : Int} {b : Int} {le : Int} (cn_ : 0 ≤ n ∧ n ≤ ↑m ∧ m ≤ 2000) (hb : bytes f n) (hnm : nmok NA NL grp n) (cbl : 0 ≤ b ∧ 0 ≤ le ∧ b + le ≤ n) (cg : 0 ≤ grp ∧ grp ≤ 9) : ∀ (mz : Nat) {G : ab_G} {tk : Int} {k : Int}, (cc o G d_ 25 (ab_ob 6 [vR x, inn, vz dp, vz flg, vz grp, vR na, vR nl, vz lst, vz mst, vz bh])) → (cc o G x 24 (ab_ob 10 [vR se, vR by_, vz n, vz pl, vz fa, vz fp, vR kd, vz kn])) → (cc o G by_ 23 (za m f)) → (cc o G na 86 (za 10 NA)) → (cc o G nl 87 (za 10 NL)) → (1 ≤ k ∧ k ≤ grp + 1 ∧ 0 ≤ tk ∧ tk ≤ 1) → (tkI f NA NL k b le tk) → (fx o o [] G0 G) → (G.length = G0.length) → (ab_slots G = ab_slots G0) → (Int.toNat (grp + 1 - k) < mz) → (∀ (G2 : ab_G) (tk : Int), (cc o G2 d_ 25 (ab_ob 6 [vR x, inn, vz dp, vz flg, vz grp, vR na, vR nl, vz lst, vz mst, vz bh])) → (cc o G2 x 24 (ab_ob 10 [vR se, vR by_, vz n, vz pl, vz fa, vz fp, vR kd, vz kn])) → (cc o G2 by_ 23 (za m f)) → (cc o G2 na 86 (za 10 NA)) → (cc o G2 nl 87 (za 10 NL)) → (0 ≤ tk ∧ tk ≤ 1) → (tkI f NA NL (grp + 1) b le tk) → (fx o o [] G0 G2) → (G2.length = G0.length) → (ab_slots G2 = ab_slots G0) → Q (.returned (some (vz tk))) G2) → ab_W X (ab_pl y_RD_isTaken b_RD_isTaken 6 (some (.boolean))) d G 5 [some (vR d_), some (vz b), some (vz le), some (vz tk), some (vz k), none] [] Q := by
  intro mz
  induction mz with
  | zero => intro G tk k hd_ hx hby_ hna hnl ck htk hfr hlen hsl hm hk0; exact absurd hm (Nat.not_lt_zero _)
  | succ mz ih =>
    intro G tk k hd_ hx hby_ hna hnl ck htk hfr hlen hsl hm hk0
    refine ab_iload d_RD_isTaken_5 rfl ?_
    refine ab_aload_n d_RD_isTaken_7 rfl ?_
    refine ab_getf (fs := [vR x, inn, vz dp, vz flg, vz grp, vR na, vR nl, vz lst, vz mst, vz bh]) f_RD_42 d_RD_isTaken_8 hd_.2.2 rfl ?_
    refine zz_icmp_gt (tgt := 99) d_RD_isTaken_11 (by decide) (by omega) (by omega) (fun c1 => ?_) (fun c1 => ?_)
    · refine ab_iload_n d_RD_isTaken_99 rfl ?_
      refine zz_bret rfl (by omega) d_RD_isTaken_100 ?_
      exact hk0 _ _ hd_ hx hby_ hna hnl (by omega) (by first | exact htk | (rw [show grp + 1 = k by omega]; exact htk) | exact tkI_up htk (by omega) (by omega)) hfr hlen hsl
    · refine ab_iload_n d_RD_isTaken_14 rfl ?_
      refine zz_if_ne (tgt := 99) d_RD_isTaken_15 (by decide) (by omega) (fun c2 => ?_) (fun c2 => ?_)
      · refine ab_iload_n d_RD_isTaken_99 rfl ?_
        refine zz_bret rfl (by omega) d_RD_isTaken_100 ?_
        exact hk0 _ _ hd_ hx hby_ hna hnl (by omega) (by first | exact htk | (rw [show grp + 1 = k by omega]; exact htk) | exact tkI_up htk (by omega) (by omega)) hfr hlen hsl
      · have hk := hnm k (by omega) (by omega)
        refine ab_aload_n d_RD_isTaken_18 rfl ?_
        refine ab_getf (fs := [vR x, inn, vz dp, vz flg, vz grp, vR na, vR nl, vz lst, vz mst, vz bh]) f_RD_31 d_RD_isTaken_19 hd_.2.2 rfl ?_
        refine ab_iload d_RD_isTaken_22 rfl ?_
        refine zz_iald d_RD_isTaken_24 hnl (by omega) ?_
        refine ab_iload_n d_RD_isTaken_25 rfl ?_
        refine zz_icmp_ne (tgt := 33) d_RD_isTaken_26 (by decide) (by omega) (by omega) (fun c3 => ?_) (fun c3 => ?_)
        · refine zz_iconst d_RD_isTaken_33 ?_
          refine ab_istore_n d_RD_isTaken_34 (Nat.le_of_ble_eq_true rfl) (Nat.le_of_ble_eq_true rfl) rfl ?_
          change ab_W _ _ _ G 35 [some (vR d_), some (vz b), some (vz le), some (vz 0), some (vz k), none] [] _
          refine zz_iconst d_RD_isTaken_35 ?_
          refine ab_istore d_RD_isTaken_36 (Nat.le_of_ble_eq_true rfl) (Nat.le_of_ble_eq_true rfl) rfl ?_
          change ab_W _ _ _ G 38 [some (vR d_), some (vz b), some (vz le), some (vz 0), some (vz k), some (vz 0)] [] _
          refine y_RD_isTaken_38 (d_ := d_) (inn := inn) (dp := dp) (flg := flg) (grp := grp) (na := na) (nl := nl) (lst := lst) (mst := mst) (bh := bh) (NA := NA) (NL := NL) (x := x) (se := se) (by_ := by_) (m := m) (f := f) (n := n) (pl := pl) (fa := fa) (fp := fp) (kd := kd) (kn := kn) (b := b) (le := le) (k := k) (G0 := G) (tk := 0) (i := 0) (by omega) hb hnm (by omega) (by omega) (by omega) (Int.toNat (le - 0) + 1) hd_ hx hby_ hna hnl (by omega) (fun h => by omega) (tnI_n (by omega)) fx.rf rfl rfl (by omega) (fun G4 tk5 i26 hNd_ hNx hNby_ hNna hNnl hq7 hq8 hq9 hfk hlk hsk => ?_)
          · have hfr := hfr.tr hfk (by decide)
            have hlen := hlk.trans hlen
            have hsl := hsk.trans hsl
            have hd_ := hNd_
            have hx := hNx
            have hby_ := hNby_
            have hna := hNna
            have hnl := hNnl
            change ab_W _ _ _ G4 93 [some (vR d_), some (vz b), some (vz le), some (vz tk5), some (vz k), none] [] _
            refine zz_iinc d_RD_isTaken_93 rfl (Nat.le_of_ble_eq_true rfl) (Nat.le_of_ble_eq_true rfl) rfl ?_
            change ab_W _ _ _ G4 96 [some (vR d_), some (vz b), some (vz le), some (vz tk5), some (vz (k + 1)), none] [] _
            refine ab_goto (tgt := 5) d_RD_isTaken_96 (by decide) ?_
            exact ih (tk := tk5) (k := (k + 1)) hd_ hx hby_ hna hnl (by omega) (tkI_s htk (by omega) (by omega) hq8 (by omega)) hfr hlen hsl (by omega) hk0
        · refine zz_iconst d_RD_isTaken_29 ?_
          refine ab_goto (tgt := 34) d_RD_isTaken_30 (by decide) ?_
          refine ab_istore_n d_RD_isTaken_34 (Nat.le_of_ble_eq_true rfl) (Nat.le_of_ble_eq_true rfl) rfl ?_
          change ab_W _ _ _ G 35 [some (vR d_), some (vz b), some (vz le), some (vz 1), some (vz k), none] [] _
          refine zz_iconst d_RD_isTaken_35 ?_
          refine ab_istore d_RD_isTaken_36 (Nat.le_of_ble_eq_true rfl) (Nat.le_of_ble_eq_true rfl) rfl ?_
          change ab_W _ _ _ G 38 [some (vR d_), some (vz b), some (vz le), some (vz 1), some (vz k), some (vz 0)] [] _
          refine y_RD_isTaken_38 (d_ := d_) (inn := inn) (dp := dp) (flg := flg) (grp := grp) (na := na) (nl := nl) (lst := lst) (mst := mst) (bh := bh) (NA := NA) (NL := NL) (x := x) (se := se) (by_ := by_) (m := m) (f := f) (n := n) (pl := pl) (fa := fa) (fp := fp) (kd := kd) (kn := kn) (b := b) (le := le) (k := k) (G0 := G) (tk := 1) (i := 0) (by omega) hb hnm (by omega) (by omega) (by omega) (Int.toNat (le - 0) + 1) hd_ hx hby_ hna hnl (by omega) (fun h => by omega) (tnI_b (by omega)) fx.rf rfl rfl (by omega) (fun G10 tk11 i212 hNd_ hNx hNby_ hNna hNnl hq13 hq14 hq15 hfk hlk hsk => ?_)
          · have hfr := hfr.tr hfk (by decide)
            have hlen := hlk.trans hlen
            have hsl := hsk.trans hsl
            have hd_ := hNd_
            have hx := hNx
            have hby_ := hNby_
            have hna := hNna
            have hnl := hNnl
            change ab_W _ _ _ G10 93 [some (vR d_), some (vz b), some (vz le), some (vz tk11), some (vz k), none] [] _
            refine zz_iinc d_RD_isTaken_93 rfl (Nat.le_of_ble_eq_true rfl) (Nat.le_of_ble_eq_true rfl) rfl ?_
            change ab_W _ _ _ G10 96 [some (vR d_), some (vz b), some (vz le), some (vz tk11), some (vz (k + 1)), none] [] _
            refine ab_goto (tgt := 5) d_RD_isTaken_96 (by decide) ?_
            exact ih (tk := tk11) (k := (k + 1)) hd_ hx hby_ hna hnl (by omega) (tkI_s htk (by omega) (by omega) hq14 (by omega)) hfr hlen hsl (by omega) hk0
set_option maxRecDepth 100000 in
set_option maxHeartbeats 4000000 in
theorem z_RD_isTaken {X : ab_X} {d : Nat} {o : Nat → Nat} {G : ab_G} {d_ : Nat} {inn : Value} {dp : Int} {flg : Int} {grp : Int} {na : Nat} {nl : Nat} {lst : Int} {mst : Int} {bh : Int} {NA : Int → Int} {NL : Int → Int} {x : Nat} {se : Nat} {by_ : Nat} {m : Nat} {f : Int → Int} {n : Int} {pl : Int} {fa : Int} {fp : Int} {kd : Nat} {kn : Int} {b : Int} {le : Int} (hd_ : cc o G d_ 25 (ab_ob 6 [vR x, inn, vz dp, vz flg, vz grp, vR na, vR nl, vz lst, vz mst, vz bh])) (hx : cc o G x 24 (ab_ob 10 [vR se, vR by_, vz n, vz pl, vz fa, vz fp, vR kd, vz kn])) (hby_ : cc o G by_ 23 (za m f)) (hna : cc o G na 86 (za 10 NA)) (hnl : cc o G nl 87 (za 10 NL)) (cn_ : 0 ≤ n ∧ n ≤ ↑m ∧ m ≤ 2000) (hb : bytes f n) (hnm : nmok NA NL grp n) (cbl : 0 ≤ b ∧ 0 ≤ le ∧ b + le ≤ n) (cg : 0 ≤ grp ∧ grp ≤ 9) : ab_F X d y_RD_isTaken (.code y_RD_isTaken b_RD_isTaken 6 (some (.boolean))) [vR d_, vz b, vz le] G (fun oc G2 => ∃ tk : Int, oc = .returned (some (vz tk)) ∧ fx o o [] G G2 ∧ G2.length = G.length ∧ ab_slots G2 = ab_slots G ∧ (0 ≤ tk ∧ tk ≤ 1) ∧ (tkI f NA NL (grp + 1) b le tk)) := by
  refine ab_F_of (by decide +kernel) (Nat.le_of_ble_eq_true rfl) ?_
  obtain ⟨Q, hQ⟩ : ∃ z : Outcome → ab_G → Prop, z = (fun oc G2 => ∃ tk : Int, oc = .returned (some (vz tk)) ∧ fx o o [] G G2 ∧ G2.length = G.length ∧ ab_slots G2 = ab_slots G ∧ (0 ≤ tk ∧ tk ≤ 1) ∧ (tkI f NA NL (grp + 1) b le tk)) := ⟨_, rfl⟩
  rw [← hQ]
  change ab_W X (ab_pl y_RD_isTaken b_RD_isTaken 6 (some (.boolean))) d G 0 [some (vR d_), some (vz b), some (vz le), none, none, none] [] Q
  have hfr : fx o o [] G G := fx.rf
  have hlen : G.length = G.length := rfl
  have hsl : ab_slots G = ab_slots G := rfl
  refine zz_iconst d_RD_isTaken_0 ?_
  refine ab_istore_n d_RD_isTaken_1 (Nat.le_of_ble_eq_true rfl) (Nat.le_of_ble_eq_true rfl) rfl ?_
  change ab_W _ _ _ G 2 [some (vR d_), some (vz b), some (vz le), some (vz 0), none, none] [] _
  refine zz_iconst d_RD_isTaken_2 ?_
  refine ab_istore d_RD_isTaken_3 (Nat.le_of_ble_eq_true rfl) (Nat.le_of_ble_eq_true rfl) rfl ?_
  change ab_W _ _ _ G 5 [some (vR d_), some (vz b), some (vz le), some (vz 0), some (vz 1), none] [] _
  refine y_RD_isTaken_5 (d_ := d_) (inn := inn) (dp := dp) (flg := flg) (grp := grp) (na := na) (nl := nl) (lst := lst) (mst := mst) (bh := bh) (NA := NA) (NL := NL) (x := x) (se := se) (by_ := by_) (m := m) (f := f) (n := n) (pl := pl) (fa := fa) (fp := fp) (kd := kd) (kn := kn) (b := b) (le := le) (G0 := G) (tk := 0) (k := 1) (by omega) hb hnm (by omega) (by omega) (Int.toNat (grp + 1 - 1) + 1) hd_ hx hby_ hna hnl (by omega) tkI_b fx.rf rfl rfl (by omega) (fun G1 tk2 hNd_ hNx hNby_ hNna hNnl hq3 hq4 hfk hlk hsk => ?_)
  · have hfr := hfr.tr hfk (by decide)
    have hlen := hlk.trans hlen
    have hsl := hsk.trans hsl
    have hd_ := hNd_
    have hx := hNx
    have hby_ := hNby_
    have hna := hNna
    have hnl := hNnl
    rw [hQ]; exact ⟨_, rfl, hfr, hlen, hsl, (by omega), (by exact hq4)⟩
set_option maxRecDepth 100000 in
set_option maxHeartbeats 4000000 in
theorem z_RD_flagOf {X : ab_X} {d : Nat} {o : Nat → Nat} {G : ab_G} {c : Int} (cc_ : -1 ≤ c ∧ c ≤ 255) : ab_F X d y_RD_flagOf (.code y_RD_flagOf b_RD_flagOf 1 (some (.int))) [vz c] G (fun oc G2 => ∃ v : Int, oc = .returned (some (vz v)) ∧ G2 = G ∧ (0 ≤ v ∧ v ≤ 8) ∧ (v = fof c)) := by
  refine ab_F_of (by decide +kernel) (Nat.le_of_ble_eq_true rfl) ?_
  obtain ⟨Q, hQ⟩ : ∃ z : Outcome → ab_G → Prop, z = (fun oc G2 => ∃ v : Int, oc = .returned (some (vz v)) ∧ G2 = G ∧ (0 ≤ v ∧ v ≤ 8) ∧ (v = fof c)) := ⟨_, rfl⟩
  rw [← hQ]
  change ab_W X (ab_pl y_RD_flagOf b_RD_flagOf 1 (some (.int))) d G 0 [some (vz c)] [] Q
  have hfr : fx o o [] G G := fx.rf
  have hlen : G.length = G.length := rfl
  have hsl : ab_slots G = ab_slots G := rfl
  refine ab_iload_n d_RD_flagOf_0 rfl ?_
  by_cases c1 : c = 85
  · refine zz_lookup (off := 49) (tgt := 50) d_RD_flagOf_1 (by decide) (by omega) (by rw [c1]; decide) (by decide) ?_
    refine zz_bipush d_RD_flagOf_50 (by decide) ?_
    refine zz_iret rfl d_RD_flagOf_52 ?_
    rw [hQ]; exact ⟨_, rfl, rfl, (by omega), (by rw [c1]; rfl)⟩
  replace c1 : nzq c 85 := c1
  by_cases c2 : c = 105
  · refine zz_lookup (off := 43) (tgt := 44) d_RD_flagOf_1 (by decide) (by omega) (by rw [c2]; decide) (by decide) ?_
    refine zz_iconst d_RD_flagOf_44 ?_
    refine zz_iret rfl d_RD_flagOf_45 ?_
    rw [hQ]; exact ⟨_, rfl, rfl, (by omega), (by rw [c2]; rfl)⟩
  replace c2 : nzq c 105 := c2
  by_cases c3 : c = 109
  · refine zz_lookup (off := 45) (tgt := 46) d_RD_flagOf_1 (by decide) (by omega) (by rw [c3]; decide) (by decide) ?_
    refine zz_iconst d_RD_flagOf_46 ?_
    refine zz_iret rfl d_RD_flagOf_47 ?_
    rw [hQ]; exact ⟨_, rfl, rfl, (by omega), (by rw [c3]; rfl)⟩
  replace c3 : nzq c 109 := c3
  by_cases c4 : c = 115
  · refine zz_lookup (off := 47) (tgt := 48) d_RD_flagOf_1 (by decide) (by omega) (by rw [c4]; decide) (by decide) ?_
    refine zz_iconst d_RD_flagOf_48 ?_
    refine zz_iret rfl d_RD_flagOf_49 ?_
    rw [hQ]; exact ⟨_, rfl, rfl, (by omega), (by rw [c4]; rfl)⟩
  replace c4 : nzq c 115 := c4
  refine zz_lookup (off := 52) (tgt := 53) d_RD_flagOf_1 (by decide) (by omega) (by simp only [Op.lookupswitch.offset]; rw [if_neg (fun h => c1 h.symm)]; rw [if_neg (fun h => c2 h.symm)]; rw [if_neg (fun h => c3 h.symm)]; rw [if_neg (fun h => c4 h.symm)]) (by decide) ?_
  refine zz_iconst d_RD_flagOf_53 ?_
  refine zz_iret rfl d_RD_flagOf_54 ?_
  rw [hQ]; exact ⟨_, rfl, rfl, (by omega), (by unfold fof; rw [if_neg c2, if_neg c3, if_neg c4, if_neg c1])⟩
set_option maxRecDepth 100000 in
set_option maxHeartbeats 4000000 in
theorem y_RD_flagsTold_10 {X : ab_X} {d : Nat} {Q : Outcome → ab_G → Prop} {o : Nat → Nat} {G0 : ab_G} {d_ : Nat} {inn : Value} {dp : Int} {flg : Int} {grp : Int} {na : Nat} {nl : Nat} {lst : Int} {mst : Int} {bh : Int} {x : Nat} {se : Nat} {by_ : Nat} {m : Nat} {f : Int → Int} {n : Int} {fa : Int} {fp : Int} {kd : Nat} {kn : Int} {at_ : Int} {p0 : Int} {r0 : Option (Int × Int × Int × Int)} (cn_ : 0 ≤ n ∧ n ≤ ↑m ∧ m ≤ 2000) (hb : bytes f n) (cf : 0 ≤ flg ∧ flg ≤ 31) (n18 : ab_n0 = 18) (cfa : fa = 0) (hd : 2 ≤ d) : ∀ (mz : Nat) {G : ab_G} {on : Int} {of : Int} {mi : Int} {tu : Int} {pl : Int} {kr : Nat}, (cc o G d_ 25 (ab_ob 6 [vR x, inn, vz dp, vz flg, vz grp, vR na, vR nl, vz lst, vz mst, vz bh])) → (cc o G x 24 (ab_ob 10 [vR se, vR by_, vz n, vz pl, vz fa, vz fp, vR kd, vz kn])) → (cc o G by_ 23 (za m f)) → (0 ≤ on ∧ on ≤ 31 ∧ 0 ≤ of ∧ of ≤ 31 ∧ 0 ≤ mi ∧ mi ≤ 1 ∧ 0 ≤ tu ∧ tu ≤ n + 2) → (0 ≤ p0 ∧ p0 ≤ pl ∧ pl ≤ 2005 + tu) → (pl = p0 + tu ∧ pl ≤ n) → (↑kr = n + 3 - tu) → (r0 = flgS f n kr pl on of mi) → (fx o o [24] G0 G) → (G.length = G0.length) → (ab_slots G = ab_slots G0) → (Int.toNat (n + 2 - tu) < mz) → (∀ (G2 : ab_G) (v : Int) (p2 : Int), (cc o G2 x 24 (ab_ob 10 [vR se, vR by_, vz n, vz p2, vz fa, vz fp, vR kd, vz kn])) → (cc o G2 d_ 25 (ab_ob 6 [vR x, inn, vz dp, vz flg, vz grp, vR na, vR nl, vz lst, vz mst, vz bh])) → (0 ≤ v ∧ v ≤ 31) → (p0 ≤ p2 ∧ p2 ≤ 6010) → (∃ on2 of2 mi2 : Int, r0 = some (p2, on2, of2, mi2) ∧ ¬ (mi2 = 1 ∧ of2 = 0) ∧ v = fland (flor flg on2) of2) → (fx o o [24] G0 G2) → (G2.length = G0.length) → (ab_slots G2 = ab_slots G0) → Q (.returned (some (vz v))) G2) → (∀ (G2 : ab_G) (p2 : Int) (fa2 : Int) (fp2 : Int), (cc o G2 x 24 (ab_ob 10 [vR se, vR by_, vz n, vz p2, vz fa2, vz fp2, vR kd, vz kn])) → (cc o G2 d_ 25 (ab_ob 6 [vR x, inn, vz dp, vz flg, vz grp, vR na, vR nl, vz lst, vz mst, vz bh])) → (p0 ≤ p2 ∧ p2 ≤ 6010) → (1 ≤ fa2 ∧ fa2 ≤ 14) → (fa2 = 10 ∧ fp2 = at_) → (r0 = none ∨ ∃ e on2 mi2 : Int, r0 = some (e, on2, 0, mi2) ∧ mi2 = 1) → (fx o o [24] G0 G2) → (G2.length = G0.length) → (ab_slots G2 = ab_slots G0) → Q (.returned (some (vz (-1)))) G2) → ab_W X (ab_pl y_RD_flagsTold b_RD_flagsTold 8 (some (.int))) d G 10 [some (vR d_), some (vz at_), some (vz on), some (vz of), some (vz mi), some (vz tu), none, none] [] Q := by
  intro mz
  induction mz with
  | zero => intro G on of mi tu pl kr hd_ hx hby_ cb cp cpl hkr hfs hfr hlen hsl hm hk0 hk1; exact absurd hm (Nat.not_lt_zero _)
  | succ mz ih =>
    intro G on of mi tu pl kr hd_ hx hby_ cb cp cpl hkr hfs hfr hlen hsl hm hk0 hk1
    refine ab_iload d_RD_flagsTold_10 rfl ?_
    refine ab_aload_n d_RD_flagsTold_12 rfl ?_
    refine ab_getf (fs := [vR x, inn, vz dp, vz flg, vz grp, vR na, vR nl, vz lst, vz mst, vz bh]) f_RD_12 d_RD_flagsTold_13 hd_.2.2 rfl ?_
    refine ab_getf (fs := [vR se, vR by_, vz n, vz pl, vz fa, vz fp, vR kd, vz kn]) f_RD_52 d_RD_flagsTold_16 hx.2.2 rfl ?_
    refine zz_icmp_gt (tgt := 146) d_RD_flagsTold_19 (by decide) (by omega) (by omega) (fun c1 => absurd c1 (by omega)) (fun c1 => ?_)
    obtain ⟨kq1, hkq1⟩ : ∃ z : Nat, kr = z + 1 := ⟨kr - 1, by omega⟩
    refine ab_aload_n d_RD_flagsTold_22 rfl ?_
    refine ab_getf (fs := [vR x, inn, vz dp, vz flg, vz grp, vR na, vR nl, vz lst, vz mst, vz bh]) f_RD_12 d_RD_flagsTold_23 hd_.2.2 rfl ?_
    refine zz_iconst d_RD_flagsTold_26 ?_
    refine ab_callV (d' := d - 1) (as := [vz 0]) (st := []) (r := _) (z_TX_peek0 (o := o) (x := x) (lx := 24) (se := se) (by_ := by_) (lby := 23) (m := m) (f := f) (n := n) (pl := pl) (fa := fa) (fp := fp) (kd := kd) (kn := kn) hx hby_ (by omega) hb) (fun oc G2 h => by rcases h with ⟨_, h, _⟩ <;> exact ⟨_, h⟩) (by omega) m_TX_peek ml_RD_79 im_TX_peek se_TX_peek c_TX hx.2.2 (Nat.le_of_ble_eq_true rfl) d_RD_flagsTold_27 rfl ?_
    intro v G2 hq
    rcases hq with ⟨v3, hv, hGe, hq4, hq5⟩
    cases hv
    rw [hGe]
    change ab_W _ _ _ G 30 [some (vR d_), some (vz at_), some (vz on), some (vz of), some (vz mi), some (vz tu), none, none] [vz v3] _
    refine ab_istore d_RD_flagsTold_30 (Nat.le_of_ble_eq_true rfl) (Nat.le_of_ble_eq_true rfl) rfl ?_
    change ab_W _ _ _ G 32 [some (vR d_), some (vz at_), some (vz on), some (vz of), some (vz mi), some (vz tu), some (vz v3), none] [] _
    refine ab_iload d_RD_flagsTold_32 rfl ?_
    refine zz_bipush d_RD_flagsTold_34 (by decide) ?_
    refine zz_icmp_eq (tgt := 146) d_RD_flagsTold_36 (by decide) (by omega) (by decide) (fun c6 => ?_) (fun c6 => ?_)
    · refine ab_iload d_RD_flagsTold_146 rfl ?_
      refine zz_if_eq (tgt := 168) d_RD_flagsTold_148 (by decide) (by omega) (fun c7 => ?_) (fun c7 => ?_)
      · refine ab_aload_n d_RD_flagsTold_168 rfl ?_
        refine ab_getf (fs := [vR x, inn, vz dp, vz flg, vz grp, vR na, vR nl, vz lst, vz mst, vz bh]) f_RD_38 d_RD_flagsTold_169 hd_.2.2 rfl ?_
        refine ab_iload_n d_RD_flagsTold_172 rfl ?_
        refine zz_orE d_RD_flagsTold_173 (by omega) (by omega) ?_
        have hfl8 := flor_in (x := flg) (y := on) (by omega) (by omega)
        change ab_W _ _ _ G 174 [some (vR d_), some (vz at_), some (vz on), some (vz of), some (vz mi), some (vz tu), some (vz v3), none] [vz (flor flg on)] _
        refine ab_iload_n d_RD_flagsTold_174 rfl ?_
        refine zz_iconst d_RD_flagsTold_175 ?_
        refine zz_not32 d_RD_flagsTold_176 (by omega) ?_
        refine zz_andE (y := of) d_RD_flagsTold_177 (by omega) (by omega) ?_
        have hfl9 := fland_in (x := (flor flg on)) (y := of) (by omega) (by omega)
        change ab_W _ _ _ G 178 [some (vR d_), some (vz at_), some (vz on), some (vz of), some (vz mi), some (vz tu), some (vz v3), none] [vz (fland (flor flg on) of)] _
        refine zz_iret rfl d_RD_flagsTold_178 ?_
        exact hk0 _ _ _ hx hd_ (by omega) (by omega) (by exact ⟨_, _, _, flgS_end hfs hkq1 (by rw [← hq4]; omega), by omega, rfl⟩) hfr hlen hsl
      · refine ab_iload_n d_RD_flagsTold_151 rfl ?_
        refine zz_if_ne (tgt := 168) d_RD_flagsTold_152 (by decide) (by omega) (fun c10 => ?_) (fun c10 => ?_)
        · refine ab_aload_n d_RD_flagsTold_168 rfl ?_
          refine ab_getf (fs := [vR x, inn, vz dp, vz flg, vz grp, vR na, vR nl, vz lst, vz mst, vz bh]) f_RD_38 d_RD_flagsTold_169 hd_.2.2 rfl ?_
          refine ab_iload_n d_RD_flagsTold_172 rfl ?_
          refine zz_orE d_RD_flagsTold_173 (by omega) (by omega) ?_
          have hfl11 := flor_in (x := flg) (y := on) (by omega) (by omega)
          change ab_W _ _ _ G 174 [some (vR d_), some (vz at_), some (vz on), some (vz of), some (vz mi), some (vz tu), some (vz v3), none] [vz (flor flg on)] _
          refine ab_iload_n d_RD_flagsTold_174 rfl ?_
          refine zz_iconst d_RD_flagsTold_175 ?_
          refine zz_not32 d_RD_flagsTold_176 (by omega) ?_
          refine zz_andE (y := of) d_RD_flagsTold_177 (by omega) (by omega) ?_
          have hfl12 := fland_in (x := (flor flg on)) (y := of) (by omega) (by omega)
          change ab_W _ _ _ G 178 [some (vR d_), some (vz at_), some (vz on), some (vz of), some (vz mi), some (vz tu), some (vz v3), none] [vz (fland (flor flg on) of)] _
          refine zz_iret rfl d_RD_flagsTold_178 ?_
          exact hk0 _ _ _ hx hd_ (by omega) (by omega) (by exact ⟨_, _, _, flgS_end hfs hkq1 (by rw [← hq4]; omega), by omega, rfl⟩) hfr hlen hsl
        · refine ab_aload_n d_RD_flagsTold_155 rfl ?_
          refine ab_getf (fs := [vR x, inn, vz dp, vz flg, vz grp, vR na, vR nl, vz lst, vz mst, vz bh]) f_RD_12 d_RD_flagsTold_156 hd_.2.2 rfl ?_
          refine zz_bipush d_RD_flagsTold_159 (by decide) ?_
          refine ab_iload_n d_RD_flagsTold_161 rfl ?_
          refine ab_callV (d' := d - 1) (as := [vz 10, vz at_]) (st := []) (r := _) (z_TX_fail (o := o) (x := x) (lx := 24) (se := se) (by_ := by_) (n := n) (pl := pl) (fa := fa) (fp := fp) (kd := kd) (kn := kn) (w := 10) (p := at_) hx (by omega) (by omega) (by omega)) (fun oc G2 h => by rcases h with ⟨h, _⟩ | ⟨h, _⟩ <;> exact ⟨_, h⟩) (by omega) m_TX_fail ml_RD_69 im_TX_fail se_TX_fail c_TX hx.2.2 (Nat.le_of_ble_eq_true rfl) d_RD_flagsTold_162 rfl ?_
          intro v G13 hq
          rcases hq with ⟨hv, hfk, hlk, hsk, hNx, hq14⟩ | ⟨hv, hGe, hq15⟩
          · cases hv
            have hd_ := hfk.get hd_ (by decide)
            have hby_ := hfk.get hby_ (by decide)
            have hfr := hfr.tr hfk (by decide)
            have hlen := hlk.trans hlen
            have hsl := hsk.trans hsl
            have hx := hNx
            change ab_W _ _ _ G13 165 [some (vR d_), some (vz at_), some (vz on), some (vz of), some (vz mi), some (vz tu), some (vz v3), none] [vz (-1)] _
            refine ab_goto (tgt := 178) d_RD_flagsTold_165 (by decide) ?_
            refine zz_iret rfl d_RD_flagsTold_178 ?_
            exact hk1 _ _ _ _ hx hd_ (by omega) (by omega) (by omega) (by exact Or.inr ⟨_, _, _, by have t := flgS_end hfs hkq1 (by rw [← hq4]; omega); rw [show of = 0 by omega] at t; exact t, by omega⟩) hfr hlen hsl
          · cases hv
            rw [hGe]
            change ab_W _ _ _ G 165 [some (vR d_), some (vz at_), some (vz on), some (vz of), some (vz mi), some (vz tu), some (vz v3), none] [vz (-1)] _
            exfalso; omega
    · refine ab_iload d_RD_flagsTold_39 rfl ?_
      refine zz_bipush d_RD_flagsTold_41 (by decide) ?_
      refine zz_icmp_ne (tgt := 49) d_RD_flagsTold_43 (by decide) (by omega) (by decide) (fun c16 => ?_) (fun c16 => ?_)
      · refine ab_iload d_RD_flagsTold_49 rfl ?_
        refine ab_callS (d' := d - 1) (as := [vz v3]) (st := []) (z_RD_flagOf (o := o) (c := v3) (by omega)) (fun oc G2 h => by rcases h with ⟨_, h, _⟩ <;> exact ⟨_, h⟩) (by omega) m_RD_flagOf ml_RD_181 st_RD_flagOf (Nat.le_of_ble_eq_true rfl) d_RD_flagsTold_51 rfl ?_
        intro v G17 hq
        rcases hq with ⟨v18, hv, hGe, hq19, hq20⟩
        cases hv
        rw [hGe]
        change ab_W _ _ _ G 54 [some (vR d_), some (vz at_), some (vz on), some (vz of), some (vz mi), some (vz tu), some (vz v3), none] [vz v18] _
        refine ab_istore d_RD_flagsTold_54 (Nat.le_of_ble_eq_true rfl) (Nat.le_of_ble_eq_true rfl) rfl ?_
        change ab_W _ _ _ G 56 [some (vR d_), some (vz at_), some (vz on), some (vz of), some (vz mi), some (vz tu), some (vz v3), some (vz v18)] [] _
        refine ab_iload d_RD_flagsTold_56 rfl ?_
        refine zz_if_ne (tgt := 84) d_RD_flagsTold_58 (by decide) (by omega) (fun c21 => ?_) (fun c21 => ?_)
        · refine ab_iload_n d_RD_flagsTold_84 rfl ?_
          refine ab_iload d_RD_flagsTold_85 rfl ?_
          refine zz_if_eq (tgt := 94) d_RD_flagsTold_87 (by decide) (by omega) (fun c22 => ?_) (fun c22 => ?_)
          · refine ab_iload d_RD_flagsTold_94 rfl ?_
            refine zz_orE d_RD_flagsTold_96 (by omega) (by omega) ?_
            have hfl23 := flor_in (x := on) (y := v18) (by omega) (by omega)
            change ab_W _ _ _ G 97 [some (vR d_), some (vz at_), some (vz on), some (vz of), some (vz mi), some (vz tu), some (vz v3), some (vz v18)] [vz (flor on v18)] _
            refine ab_istore_n d_RD_flagsTold_97 (Nat.le_of_ble_eq_true rfl) (Nat.le_of_ble_eq_true rfl) rfl ?_
            change ab_W _ _ _ G 98 [some (vR d_), some (vz at_), some (vz (flor on v18)), some (vz of), some (vz mi), some (vz tu), some (vz v3), some (vz v18)] [] _
            refine ab_iload_n d_RD_flagsTold_98 rfl ?_
            refine ab_iload d_RD_flagsTold_99 rfl ?_
            refine zz_if_eq (tgt := 109) d_RD_flagsTold_101 (by decide) (by omega) (fun c24 => ?_) (fun c24 => absurd c24 (by omega))
            refine zz_iconst d_RD_flagsTold_109 ?_
            refine zz_orE d_RD_flagsTold_110 (by omega) (by omega) ?_
            refine zz_top (y := of) (flor_0 (by omega)) ?_
            change ab_W _ _ _ G 111 [some (vR d_), some (vz at_), some (vz (flor on v18)), some (vz of), some (vz mi), some (vz tu), some (vz v3), some (vz v18)] [vz of] _
            refine ab_istore_n d_RD_flagsTold_111 (Nat.le_of_ble_eq_true rfl) (Nat.le_of_ble_eq_true rfl) rfl ?_
            change ab_W _ _ _ G 112 [some (vR d_), some (vz at_), some (vz (flor on v18)), some (vz of), some (vz mi), some (vz tu), some (vz v3), some (vz v18)] [] _
            refine ab_iload d_RD_flagsTold_112 rfl ?_
            refine ab_iload d_RD_flagsTold_114 rfl ?_
            refine zz_if_ne (tgt := 123) d_RD_flagsTold_116 (by decide) (by omega) (fun c25 => ?_) (fun c25 => absurd c25 (by omega))
            refine zz_iconst d_RD_flagsTold_123 ?_
            refine zz_ior01 d_RD_flagsTold_124 (by omega) (by omega) ?_
            obtain ⟨v26, hv26⟩ : ∃ z : Int, z = (max mi 0) := ⟨_, rfl⟩
            rw [← hv26]
            have hv26b : v26 = 0 ∨ v26 = 1 := by omega
            change ab_W _ _ _ G 125 [some (vR d_), some (vz at_), some (vz (flor on v18)), some (vz of), some (vz mi), some (vz tu), some (vz v3), some (vz v18)] [vz v26] _
            refine ab_istore d_RD_flagsTold_125 (Nat.le_of_ble_eq_true rfl) (Nat.le_of_ble_eq_true rfl) rfl ?_
            change ab_W _ _ _ G 127 [some (vR d_), some (vz at_), some (vz (flor on v18)), some (vz of), some (vz v26), some (vz tu), some (vz v3), some (vz v18)] [] _
            refine ab_aload_n d_RD_flagsTold_127 rfl ?_
            refine ab_getf (fs := [vR x, inn, vz dp, vz flg, vz grp, vR na, vR nl, vz lst, vz mst, vz bh]) f_RD_12 d_RD_flagsTold_128 hd_.2.2 rfl ?_
            refine ab_dup d_RD_flagsTold_131 rfl ?_
            refine ab_getf (fs := [vR se, vR by_, vz n, vz pl, vz fa, vz fp, vR kd, vz kn]) f_RD_55 d_RD_flagsTold_132 hx.2.2 rfl ?_
            refine zz_iconst d_RD_flagsTold_135 ?_
            refine zz_iadd d_RD_flagsTold_136 ?_
            refine ab_putf (fs := [vR se, vR by_, vz n, vz pl, vz fa, vz fp, vR kd, vz kn]) f_RD_55 (Or.inl rfl) d_RD_flagsTold_137 hx.2.2 (Nat.le_of_ble_eq_true rfl) (fun _ => ⟨rfl, rfl⟩) (hx.2.1 (by decide)) ?_
            obtain ⟨G27, eG27⟩ : ∃ z : ab_G, z = List.set G x (ab_ob 10 [vR se, vR by_, vz n, vz (pl + 1), vz fa, vz fp, vR kd, vz kn]) := ⟨_, rfl⟩
            have hd_ := hd_.keep hx eG27 (by decide)
            have hby_ := hby_.keep hx eG27 (by decide)
            have hlen := (z_len eG27).trans hlen
            have hsl := (z_sl hx eG27 rfl).trans hsl
            have hfr := hfr.wr hx eG27 (by decide)
            have hx := hx.kept eG27
            change ab_W _ _ _ (List.set G x (ab_ob 10 [vR se, vR by_, vz n, vz (pl + 1), vz fa, vz fp, vR kd, vz kn])) 140 [some (vR d_), some (vz at_), some (vz (flor on v18)), some (vz of), some (vz v26), some (vz tu), some (vz v3), some (vz v18)] [] _
            rw [← eG27]
            refine zz_iinc d_RD_flagsTold_140 rfl (Nat.le_of_ble_eq_true rfl) (Nat.le_of_ble_eq_true rfl) rfl ?_
            change ab_W _ _ _ G27 143 [some (vR d_), some (vz at_), some (vz (flor on v18)), some (vz of), some (vz v26), some (vz (tu + 1)), some (vz v3), some (vz v18)] [] _
            refine ab_goto (tgt := 10) d_RD_flagsTold_143 (by decide) ?_
            refine ab_less (L' := [some (vR d_), some (vz at_), some (vz (flor on v18)), some (vz of), some (vz v26), some (vz (tu + 1)), none, none]) (fun i v h => by rcases i with _ | _ | _ | _ | _ | _ | _ | _ | i <;> first | exact h | (simp at h)) ?_
            exact ih (on := (flor on v18)) (of := of) (mi := v26) (tu := (tu + 1)) (pl := (pl + 1)) (kr := kq1) hd_ hx hby_ (by omega) (by omega) (by first | (have t := tpk_w (f := f) (n := n) (i := pl) (by omega); omega) | (have t := tpk_w (f := f) (n := n) (i := pl) (fof_w (by rw [← hq4, ← hq20]; omega)); omega)) (by omega) (by first | (rw [show v26 = 1 by omega]; exact flgS_minus hfs hkq1 (by rw [← hq4]; omega) (by rw [← hq4, ← hq20]; omega) (by rw [← hq4]; omega)) | (rw [show v26 = 1 by omega, show v18 = 0 by omega, flor_0 (by omega)]; exact flgS_minus hfs hkq1 (by rw [← hq4]; omega) (by rw [← hq4, ← hq20]; omega) (by rw [← hq4]; omega)) | (rw [show v26 = mi by omega]; have t := flgS_off hfs hkq1 (by rw [← hq4]; omega) (by rw [← hq4, ← hq20]; omega) (by omega); rw [← hq4, ← hq20] at t; exact t) | (rw [show v26 = mi by omega]; have t := flgS_on hfs hkq1 (by rw [← hq4]; omega) (by rw [← hq4, ← hq20]; omega) (by omega); rw [← hq4, ← hq20] at t; exact t)) hfr hlen hsl (by omega) hk0 hk1
          · refine zz_iconst d_RD_flagsTold_90 ?_
            refine ab_goto (tgt := 96) d_RD_flagsTold_91 (by decide) ?_
            refine zz_orE d_RD_flagsTold_96 (by omega) (by omega) ?_
            refine zz_top (y := on) (flor_0 (by omega)) ?_
            change ab_W _ _ _ G 97 [some (vR d_), some (vz at_), some (vz on), some (vz of), some (vz mi), some (vz tu), some (vz v3), some (vz v18)] [vz on] _
            refine ab_istore_n d_RD_flagsTold_97 (Nat.le_of_ble_eq_true rfl) (Nat.le_of_ble_eq_true rfl) rfl ?_
            change ab_W _ _ _ G 98 [some (vR d_), some (vz at_), some (vz on), some (vz of), some (vz mi), some (vz tu), some (vz v3), some (vz v18)] [] _
            refine ab_iload_n d_RD_flagsTold_98 rfl ?_
            refine ab_iload d_RD_flagsTold_99 rfl ?_
            refine zz_if_eq (tgt := 109) d_RD_flagsTold_101 (by decide) (by omega) (fun c28 => absurd c28 (by omega)) (fun c28 => ?_)
            refine ab_iload d_RD_flagsTold_104 rfl ?_
            refine ab_goto (tgt := 110) d_RD_flagsTold_106 (by decide) ?_
            refine zz_orE d_RD_flagsTold_110 (by omega) (by omega) ?_
            have hfl29 := flor_in (x := of) (y := v18) (by omega) (by omega)
            change ab_W _ _ _ G 111 [some (vR d_), some (vz at_), some (vz on), some (vz of), some (vz mi), some (vz tu), some (vz v3), some (vz v18)] [vz (flor of v18)] _
            refine ab_istore_n d_RD_flagsTold_111 (Nat.le_of_ble_eq_true rfl) (Nat.le_of_ble_eq_true rfl) rfl ?_
            change ab_W _ _ _ G 112 [some (vR d_), some (vz at_), some (vz on), some (vz (flor of v18)), some (vz mi), some (vz tu), some (vz v3), some (vz v18)] [] _
            refine ab_iload d_RD_flagsTold_112 rfl ?_
            refine ab_iload d_RD_flagsTold_114 rfl ?_
            refine zz_if_ne (tgt := 123) d_RD_flagsTold_116 (by decide) (by omega) (fun c30 => ?_) (fun c30 => absurd c30 (by omega))
            refine zz_iconst d_RD_flagsTold_123 ?_
            refine zz_ior01 d_RD_flagsTold_124 (by omega) (by omega) ?_
            obtain ⟨v31, hv31⟩ : ∃ z : Int, z = (max mi 0) := ⟨_, rfl⟩
            rw [← hv31]
            have hv31b : v31 = 0 ∨ v31 = 1 := by omega
            change ab_W _ _ _ G 125 [some (vR d_), some (vz at_), some (vz on), some (vz (flor of v18)), some (vz mi), some (vz tu), some (vz v3), some (vz v18)] [vz v31] _
            refine ab_istore d_RD_flagsTold_125 (Nat.le_of_ble_eq_true rfl) (Nat.le_of_ble_eq_true rfl) rfl ?_
            change ab_W _ _ _ G 127 [some (vR d_), some (vz at_), some (vz on), some (vz (flor of v18)), some (vz v31), some (vz tu), some (vz v3), some (vz v18)] [] _
            refine ab_aload_n d_RD_flagsTold_127 rfl ?_
            refine ab_getf (fs := [vR x, inn, vz dp, vz flg, vz grp, vR na, vR nl, vz lst, vz mst, vz bh]) f_RD_12 d_RD_flagsTold_128 hd_.2.2 rfl ?_
            refine ab_dup d_RD_flagsTold_131 rfl ?_
            refine ab_getf (fs := [vR se, vR by_, vz n, vz pl, vz fa, vz fp, vR kd, vz kn]) f_RD_55 d_RD_flagsTold_132 hx.2.2 rfl ?_
            refine zz_iconst d_RD_flagsTold_135 ?_
            refine zz_iadd d_RD_flagsTold_136 ?_
            refine ab_putf (fs := [vR se, vR by_, vz n, vz pl, vz fa, vz fp, vR kd, vz kn]) f_RD_55 (Or.inl rfl) d_RD_flagsTold_137 hx.2.2 (Nat.le_of_ble_eq_true rfl) (fun _ => ⟨rfl, rfl⟩) (hx.2.1 (by decide)) ?_
            obtain ⟨G32, eG32⟩ : ∃ z : ab_G, z = List.set G x (ab_ob 10 [vR se, vR by_, vz n, vz (pl + 1), vz fa, vz fp, vR kd, vz kn]) := ⟨_, rfl⟩
            have hd_ := hd_.keep hx eG32 (by decide)
            have hby_ := hby_.keep hx eG32 (by decide)
            have hlen := (z_len eG32).trans hlen
            have hsl := (z_sl hx eG32 rfl).trans hsl
            have hfr := hfr.wr hx eG32 (by decide)
            have hx := hx.kept eG32
            change ab_W _ _ _ (List.set G x (ab_ob 10 [vR se, vR by_, vz n, vz (pl + 1), vz fa, vz fp, vR kd, vz kn])) 140 [some (vR d_), some (vz at_), some (vz on), some (vz (flor of v18)), some (vz v31), some (vz tu), some (vz v3), some (vz v18)] [] _
            rw [← eG32]
            refine zz_iinc d_RD_flagsTold_140 rfl (Nat.le_of_ble_eq_true rfl) (Nat.le_of_ble_eq_true rfl) rfl ?_
            change ab_W _ _ _ G32 143 [some (vR d_), some (vz at_), some (vz on), some (vz (flor of v18)), some (vz v31), some (vz (tu + 1)), some (vz v3), some (vz v18)] [] _
            refine ab_goto (tgt := 10) d_RD_flagsTold_143 (by decide) ?_
            refine ab_less (L' := [some (vR d_), some (vz at_), some (vz on), some (vz (flor of v18)), some (vz v31), some (vz (tu + 1)), none, none]) (fun i v h => by rcases i with _ | _ | _ | _ | _ | _ | _ | _ | i <;> first | exact h | (simp at h)) ?_
            exact ih (on := on) (of := (flor of v18)) (mi := v31) (tu := (tu + 1)) (pl := (pl + 1)) (kr := kq1) hd_ hx hby_ (by omega) (by omega) (by first | (have t := tpk_w (f := f) (n := n) (i := pl) (by omega); omega) | (have t := tpk_w (f := f) (n := n) (i := pl) (fof_w (by rw [← hq4, ← hq20]; omega)); omega)) (by omega) (by first | (rw [show v31 = 1 by omega]; exact flgS_minus hfs hkq1 (by rw [← hq4]; omega) (by rw [← hq4, ← hq20]; omega) (by rw [← hq4]; omega)) | (rw [show v31 = 1 by omega, show v18 = 0 by omega, flor_0 (by omega)]; exact flgS_minus hfs hkq1 (by rw [← hq4]; omega) (by rw [← hq4, ← hq20]; omega) (by rw [← hq4]; omega)) | (rw [show v31 = mi by omega]; have t := flgS_off hfs hkq1 (by rw [← hq4]; omega) (by rw [← hq4, ← hq20]; omega) (by omega); rw [← hq4, ← hq20] at t; exact t) | (rw [show v31 = mi by omega]; have t := flgS_on hfs hkq1 (by rw [← hq4]; omega) (by rw [← hq4, ← hq20]; omega) (by omega); rw [← hq4, ← hq20] at t; exact t)) hfr hlen hsl (by omega) hk0 hk1
        · refine ab_iload d_RD_flagsTold_61 rfl ?_
          refine zz_if_ne (tgt := 73) d_RD_flagsTold_63 (by decide) (by omega) (fun c33 => ?_) (fun c33 => ?_)
          · refine ab_aload_n d_RD_flagsTold_73 rfl ?_
            refine ab_getf (fs := [vR x, inn, vz dp, vz flg, vz grp, vR na, vR nl, vz lst, vz mst, vz bh]) f_RD_12 d_RD_flagsTold_74 hd_.2.2 rfl ?_
            refine zz_bipush d_RD_flagsTold_77 (by decide) ?_
            refine ab_iload_n d_RD_flagsTold_79 rfl ?_
            refine ab_callV (d' := d - 1) (as := [vz 10, vz at_]) (st := []) (r := _) (z_TX_fail (o := o) (x := x) (lx := 24) (se := se) (by_ := by_) (n := n) (pl := pl) (fa := fa) (fp := fp) (kd := kd) (kn := kn) (w := 10) (p := at_) hx (by omega) (by omega) (by omega)) (fun oc G2 h => by rcases h with ⟨h, _⟩ | ⟨h, _⟩ <;> exact ⟨_, h⟩) (by omega) m_TX_fail ml_RD_69 im_TX_fail se_TX_fail c_TX hx.2.2 (Nat.le_of_ble_eq_true rfl) d_RD_flagsTold_80 rfl ?_
            intro v G34 hq
            rcases hq with ⟨hv, hfk, hlk, hsk, hNx, hq35⟩ | ⟨hv, hGe, hq36⟩
            · cases hv
              have hd_ := hfk.get hd_ (by decide)
              have hby_ := hfk.get hby_ (by decide)
              have hfr := hfr.tr hfk (by decide)
              have hlen := hlk.trans hlen
              have hsl := hsk.trans hsl
              have hx := hNx
              change ab_W _ _ _ G34 83 [some (vR d_), some (vz at_), some (vz on), some (vz of), some (vz mi), some (vz tu), some (vz v3), some (vz v18)] [vz (-1)] _
              refine zz_iret rfl d_RD_flagsTold_83 ?_
              exact hk1 _ _ _ _ hx hd_ (by omega) (by omega) (by omega) (by exact Or.inl (flgS_bad hfs hkq1 (by rw [← hq4]; omega) (by rw [← hq4, ← hq20]; omega) (by rw [← hq4]; omega))) hfr hlen hsl
            · cases hv
              rw [hGe]
              change ab_W _ _ _ G 83 [some (vR d_), some (vz at_), some (vz on), some (vz of), some (vz mi), some (vz tu), some (vz v3), some (vz v18)] [vz (-1)] _
              exfalso; omega
          · refine ab_iload d_RD_flagsTold_66 rfl ?_
            refine zz_bipush d_RD_flagsTold_68 (by decide) ?_
            refine zz_icmp_eq (tgt := 84) d_RD_flagsTold_70 (by decide) (by omega) (by decide) (fun c37 => ?_) (fun c37 => ?_)
            · refine ab_iload_n d_RD_flagsTold_84 rfl ?_
              refine ab_iload d_RD_flagsTold_85 rfl ?_
              refine zz_if_eq (tgt := 94) d_RD_flagsTold_87 (by decide) (by omega) (fun c38 => ?_) (fun c38 => absurd c38 (by omega))
              refine ab_iload d_RD_flagsTold_94 rfl ?_
              refine zz_orE d_RD_flagsTold_96 (by omega) (by omega) ?_
              have hfl39 := flor_in (x := on) (y := v18) (by omega) (by omega)
              change ab_W _ _ _ G 97 [some (vR d_), some (vz at_), some (vz on), some (vz of), some (vz mi), some (vz tu), some (vz v3), some (vz v18)] [vz (flor on v18)] _
              refine ab_istore_n d_RD_flagsTold_97 (Nat.le_of_ble_eq_true rfl) (Nat.le_of_ble_eq_true rfl) rfl ?_
              change ab_W _ _ _ G 98 [some (vR d_), some (vz at_), some (vz (flor on v18)), some (vz of), some (vz mi), some (vz tu), some (vz v3), some (vz v18)] [] _
              refine ab_iload_n d_RD_flagsTold_98 rfl ?_
              refine ab_iload d_RD_flagsTold_99 rfl ?_
              refine zz_if_eq (tgt := 109) d_RD_flagsTold_101 (by decide) (by omega) (fun c40 => ?_) (fun c40 => absurd c40 (by omega))
              refine zz_iconst d_RD_flagsTold_109 ?_
              refine zz_orE d_RD_flagsTold_110 (by omega) (by omega) ?_
              refine zz_top (y := of) (flor_0 (by omega)) ?_
              change ab_W _ _ _ G 111 [some (vR d_), some (vz at_), some (vz (flor on v18)), some (vz of), some (vz mi), some (vz tu), some (vz v3), some (vz v18)] [vz of] _
              refine ab_istore_n d_RD_flagsTold_111 (Nat.le_of_ble_eq_true rfl) (Nat.le_of_ble_eq_true rfl) rfl ?_
              change ab_W _ _ _ G 112 [some (vR d_), some (vz at_), some (vz (flor on v18)), some (vz of), some (vz mi), some (vz tu), some (vz v3), some (vz v18)] [] _
              refine ab_iload d_RD_flagsTold_112 rfl ?_
              refine ab_iload d_RD_flagsTold_114 rfl ?_
              refine zz_if_ne (tgt := 123) d_RD_flagsTold_116 (by decide) (by omega) (fun c41 => absurd c41 (by omega)) (fun c41 => ?_)
              refine zz_iconst d_RD_flagsTold_119 ?_
              refine ab_goto (tgt := 124) d_RD_flagsTold_120 (by decide) ?_
              refine zz_ior01 d_RD_flagsTold_124 (by omega) (by omega) ?_
              obtain ⟨v42, hv42⟩ : ∃ z : Int, z = (max mi 1) := ⟨_, rfl⟩
              rw [← hv42]
              have hv42b : v42 = 0 ∨ v42 = 1 := by omega
              change ab_W _ _ _ G 125 [some (vR d_), some (vz at_), some (vz (flor on v18)), some (vz of), some (vz mi), some (vz tu), some (vz v3), some (vz v18)] [vz v42] _
              refine ab_istore d_RD_flagsTold_125 (Nat.le_of_ble_eq_true rfl) (Nat.le_of_ble_eq_true rfl) rfl ?_
              change ab_W _ _ _ G 127 [some (vR d_), some (vz at_), some (vz (flor on v18)), some (vz of), some (vz v42), some (vz tu), some (vz v3), some (vz v18)] [] _
              refine ab_aload_n d_RD_flagsTold_127 rfl ?_
              refine ab_getf (fs := [vR x, inn, vz dp, vz flg, vz grp, vR na, vR nl, vz lst, vz mst, vz bh]) f_RD_12 d_RD_flagsTold_128 hd_.2.2 rfl ?_
              refine ab_dup d_RD_flagsTold_131 rfl ?_
              refine ab_getf (fs := [vR se, vR by_, vz n, vz pl, vz fa, vz fp, vR kd, vz kn]) f_RD_55 d_RD_flagsTold_132 hx.2.2 rfl ?_
              refine zz_iconst d_RD_flagsTold_135 ?_
              refine zz_iadd d_RD_flagsTold_136 ?_
              refine ab_putf (fs := [vR se, vR by_, vz n, vz pl, vz fa, vz fp, vR kd, vz kn]) f_RD_55 (Or.inl rfl) d_RD_flagsTold_137 hx.2.2 (Nat.le_of_ble_eq_true rfl) (fun _ => ⟨rfl, rfl⟩) (hx.2.1 (by decide)) ?_
              obtain ⟨G43, eG43⟩ : ∃ z : ab_G, z = List.set G x (ab_ob 10 [vR se, vR by_, vz n, vz (pl + 1), vz fa, vz fp, vR kd, vz kn]) := ⟨_, rfl⟩
              have hd_ := hd_.keep hx eG43 (by decide)
              have hby_ := hby_.keep hx eG43 (by decide)
              have hlen := (z_len eG43).trans hlen
              have hsl := (z_sl hx eG43 rfl).trans hsl
              have hfr := hfr.wr hx eG43 (by decide)
              have hx := hx.kept eG43
              change ab_W _ _ _ (List.set G x (ab_ob 10 [vR se, vR by_, vz n, vz (pl + 1), vz fa, vz fp, vR kd, vz kn])) 140 [some (vR d_), some (vz at_), some (vz (flor on v18)), some (vz of), some (vz v42), some (vz tu), some (vz v3), some (vz v18)] [] _
              rw [← eG43]
              refine zz_iinc d_RD_flagsTold_140 rfl (Nat.le_of_ble_eq_true rfl) (Nat.le_of_ble_eq_true rfl) rfl ?_
              change ab_W _ _ _ G43 143 [some (vR d_), some (vz at_), some (vz (flor on v18)), some (vz of), some (vz v42), some (vz (tu + 1)), some (vz v3), some (vz v18)] [] _
              refine ab_goto (tgt := 10) d_RD_flagsTold_143 (by decide) ?_
              refine ab_less (L' := [some (vR d_), some (vz at_), some (vz (flor on v18)), some (vz of), some (vz v42), some (vz (tu + 1)), none, none]) (fun i v h => by rcases i with _ | _ | _ | _ | _ | _ | _ | _ | i <;> first | exact h | (simp at h)) ?_
              exact ih (on := (flor on v18)) (of := of) (mi := v42) (tu := (tu + 1)) (pl := (pl + 1)) (kr := kq1) hd_ hx hby_ (by omega) (by omega) (by first | (have t := tpk_w (f := f) (n := n) (i := pl) (by omega); omega) | (have t := tpk_w (f := f) (n := n) (i := pl) (fof_w (by rw [← hq4, ← hq20]; omega)); omega)) (by omega) (by first | (rw [show v42 = 1 by omega]; exact flgS_minus hfs hkq1 (by rw [← hq4]; omega) (by rw [← hq4, ← hq20]; omega) (by rw [← hq4]; omega)) | (rw [show v42 = 1 by omega, show v18 = 0 by omega, flor_0 (by omega)]; exact flgS_minus hfs hkq1 (by rw [← hq4]; omega) (by rw [← hq4, ← hq20]; omega) (by rw [← hq4]; omega)) | (rw [show v42 = mi by omega]; have t := flgS_off hfs hkq1 (by rw [← hq4]; omega) (by rw [← hq4, ← hq20]; omega) (by omega); rw [← hq4, ← hq20] at t; exact t) | (rw [show v42 = mi by omega]; have t := flgS_on hfs hkq1 (by rw [← hq4]; omega) (by rw [← hq4, ← hq20]; omega) (by omega); rw [← hq4, ← hq20] at t; exact t)) hfr hlen hsl (by omega) hk0 hk1
            · refine ab_aload_n d_RD_flagsTold_73 rfl ?_
              refine ab_getf (fs := [vR x, inn, vz dp, vz flg, vz grp, vR na, vR nl, vz lst, vz mst, vz bh]) f_RD_12 d_RD_flagsTold_74 hd_.2.2 rfl ?_
              refine zz_bipush d_RD_flagsTold_77 (by decide) ?_
              refine ab_iload_n d_RD_flagsTold_79 rfl ?_
              refine ab_callV (d' := d - 1) (as := [vz 10, vz at_]) (st := []) (r := _) (z_TX_fail (o := o) (x := x) (lx := 24) (se := se) (by_ := by_) (n := n) (pl := pl) (fa := fa) (fp := fp) (kd := kd) (kn := kn) (w := 10) (p := at_) hx (by omega) (by omega) (by omega)) (fun oc G2 h => by rcases h with ⟨h, _⟩ | ⟨h, _⟩ <;> exact ⟨_, h⟩) (by omega) m_TX_fail ml_RD_69 im_TX_fail se_TX_fail c_TX hx.2.2 (Nat.le_of_ble_eq_true rfl) d_RD_flagsTold_80 rfl ?_
              intro v G44 hq
              rcases hq with ⟨hv, hfk, hlk, hsk, hNx, hq45⟩ | ⟨hv, hGe, hq46⟩
              · cases hv
                have hd_ := hfk.get hd_ (by decide)
                have hby_ := hfk.get hby_ (by decide)
                have hfr := hfr.tr hfk (by decide)
                have hlen := hlk.trans hlen
                have hsl := hsk.trans hsl
                have hx := hNx
                change ab_W _ _ _ G44 83 [some (vR d_), some (vz at_), some (vz on), some (vz of), some (vz mi), some (vz tu), some (vz v3), some (vz v18)] [vz (-1)] _
                refine zz_iret rfl d_RD_flagsTold_83 ?_
                exact hk1 _ _ _ _ hx hd_ (by omega) (by omega) (by omega) (by exact Or.inl (flgS_bad hfs hkq1 (by rw [← hq4]; omega) (by rw [← hq4, ← hq20]; omega) (by rw [← hq4]; omega))) hfr hlen hsl
              · cases hv
                rw [hGe]
                change ab_W _ _ _ G 83 [some (vR d_), some (vz at_), some (vz on), some (vz of), some (vz mi), some (vz tu), some (vz v3), some (vz v18)] [vz (-1)] _
                exfalso; omega
      · refine ab_goto (tgt := 146) d_RD_flagsTold_46 (by decide) ?_
        refine ab_iload d_RD_flagsTold_146 rfl ?_
        refine zz_if_eq (tgt := 168) d_RD_flagsTold_148 (by decide) (by omega) (fun c47 => ?_) (fun c47 => ?_)
        · refine ab_aload_n d_RD_flagsTold_168 rfl ?_
          refine ab_getf (fs := [vR x, inn, vz dp, vz flg, vz grp, vR na, vR nl, vz lst, vz mst, vz bh]) f_RD_38 d_RD_flagsTold_169 hd_.2.2 rfl ?_
          refine ab_iload_n d_RD_flagsTold_172 rfl ?_
          refine zz_orE d_RD_flagsTold_173 (by omega) (by omega) ?_
          have hfl48 := flor_in (x := flg) (y := on) (by omega) (by omega)
          change ab_W _ _ _ G 174 [some (vR d_), some (vz at_), some (vz on), some (vz of), some (vz mi), some (vz tu), some (vz v3), none] [vz (flor flg on)] _
          refine ab_iload_n d_RD_flagsTold_174 rfl ?_
          refine zz_iconst d_RD_flagsTold_175 ?_
          refine zz_not32 d_RD_flagsTold_176 (by omega) ?_
          refine zz_andE (y := of) d_RD_flagsTold_177 (by omega) (by omega) ?_
          have hfl49 := fland_in (x := (flor flg on)) (y := of) (by omega) (by omega)
          change ab_W _ _ _ G 178 [some (vR d_), some (vz at_), some (vz on), some (vz of), some (vz mi), some (vz tu), some (vz v3), none] [vz (fland (flor flg on) of)] _
          refine zz_iret rfl d_RD_flagsTold_178 ?_
          exact hk0 _ _ _ hx hd_ (by omega) (by omega) (by exact ⟨_, _, _, flgS_end hfs hkq1 (by rw [← hq4]; omega), by omega, rfl⟩) hfr hlen hsl
        · refine ab_iload_n d_RD_flagsTold_151 rfl ?_
          refine zz_if_ne (tgt := 168) d_RD_flagsTold_152 (by decide) (by omega) (fun c50 => ?_) (fun c50 => ?_)
          · refine ab_aload_n d_RD_flagsTold_168 rfl ?_
            refine ab_getf (fs := [vR x, inn, vz dp, vz flg, vz grp, vR na, vR nl, vz lst, vz mst, vz bh]) f_RD_38 d_RD_flagsTold_169 hd_.2.2 rfl ?_
            refine ab_iload_n d_RD_flagsTold_172 rfl ?_
            refine zz_orE d_RD_flagsTold_173 (by omega) (by omega) ?_
            have hfl51 := flor_in (x := flg) (y := on) (by omega) (by omega)
            change ab_W _ _ _ G 174 [some (vR d_), some (vz at_), some (vz on), some (vz of), some (vz mi), some (vz tu), some (vz v3), none] [vz (flor flg on)] _
            refine ab_iload_n d_RD_flagsTold_174 rfl ?_
            refine zz_iconst d_RD_flagsTold_175 ?_
            refine zz_not32 d_RD_flagsTold_176 (by omega) ?_
            refine zz_andE (y := of) d_RD_flagsTold_177 (by omega) (by omega) ?_
            have hfl52 := fland_in (x := (flor flg on)) (y := of) (by omega) (by omega)
            change ab_W _ _ _ G 178 [some (vR d_), some (vz at_), some (vz on), some (vz of), some (vz mi), some (vz tu), some (vz v3), none] [vz (fland (flor flg on) of)] _
            refine zz_iret rfl d_RD_flagsTold_178 ?_
            exact hk0 _ _ _ hx hd_ (by omega) (by omega) (by exact ⟨_, _, _, flgS_end hfs hkq1 (by rw [← hq4]; omega), by omega, rfl⟩) hfr hlen hsl
          · refine ab_aload_n d_RD_flagsTold_155 rfl ?_
            refine ab_getf (fs := [vR x, inn, vz dp, vz flg, vz grp, vR na, vR nl, vz lst, vz mst, vz bh]) f_RD_12 d_RD_flagsTold_156 hd_.2.2 rfl ?_
            refine zz_bipush d_RD_flagsTold_159 (by decide) ?_
            refine ab_iload_n d_RD_flagsTold_161 rfl ?_
            refine ab_callV (d' := d - 1) (as := [vz 10, vz at_]) (st := []) (r := _) (z_TX_fail (o := o) (x := x) (lx := 24) (se := se) (by_ := by_) (n := n) (pl := pl) (fa := fa) (fp := fp) (kd := kd) (kn := kn) (w := 10) (p := at_) hx (by omega) (by omega) (by omega)) (fun oc G2 h => by rcases h with ⟨h, _⟩ | ⟨h, _⟩ <;> exact ⟨_, h⟩) (by omega) m_TX_fail ml_RD_69 im_TX_fail se_TX_fail c_TX hx.2.2 (Nat.le_of_ble_eq_true rfl) d_RD_flagsTold_162 rfl ?_
            intro v G53 hq
            rcases hq with ⟨hv, hfk, hlk, hsk, hNx, hq54⟩ | ⟨hv, hGe, hq55⟩
            · cases hv
              have hd_ := hfk.get hd_ (by decide)
              have hby_ := hfk.get hby_ (by decide)
              have hfr := hfr.tr hfk (by decide)
              have hlen := hlk.trans hlen
              have hsl := hsk.trans hsl
              have hx := hNx
              change ab_W _ _ _ G53 165 [some (vR d_), some (vz at_), some (vz on), some (vz of), some (vz mi), some (vz tu), some (vz v3), none] [vz (-1)] _
              refine ab_goto (tgt := 178) d_RD_flagsTold_165 (by decide) ?_
              refine zz_iret rfl d_RD_flagsTold_178 ?_
              exact hk1 _ _ _ _ hx hd_ (by omega) (by omega) (by omega) (by exact Or.inr ⟨_, _, _, by have t := flgS_end hfs hkq1 (by rw [← hq4]; omega); rw [show of = 0 by omega] at t; exact t, by omega⟩) hfr hlen hsl
            · cases hv
              rw [hGe]
              change ab_W _ _ _ G 165 [some (vR d_), some (vz at_), some (vz on), some (vz of), some (vz mi), some (vz tu), some (vz v3), none] [vz (-1)] _
              exfalso; omega
set_option maxRecDepth 100000 in
set_option maxHeartbeats 4000000 in
theorem z_RD_flagsTold {X : ab_X} {d : Nat} {o : Nat → Nat} {G : ab_G} {d_ : Nat} {inn : Value} {dp : Int} {flg : Int} {grp : Int} {na : Nat} {nl : Nat} {lst : Int} {mst : Int} {bh : Int} {x : Nat} {se : Nat} {by_ : Nat} {m : Nat} {f : Int → Int} {n : Int} {pl : Int} {fa : Int} {fp : Int} {kd : Nat} {kn : Int} {at_ : Int} (hd_ : cc o G d_ 25 (ab_ob 6 [vR x, inn, vz dp, vz flg, vz grp, vR na, vR nl, vz lst, vz mst, vz bh])) (hx : cc o G x 24 (ab_ob 10 [vR se, vR by_, vz n, vz pl, vz fa, vz fp, vR kd, vz kn])) (hby_ : cc o G by_ 23 (za m f)) (cn_ : 0 ≤ n ∧ n ≤ ↑m ∧ m ≤ 2000) (hb : bytes f n) (cf : 0 ≤ flg ∧ flg ≤ 31) (n18 : ab_n0 = 18) (cfa : fa = 0) (cp : 0 ≤ pl ∧ pl ≤ 2005) (cpn : pl ≤ n) (hd : 3 ≤ d) : ab_F X d y_RD_flagsTold (.code y_RD_flagsTold b_RD_flagsTold 8 (some (.int))) [vR d_, vz at_] G (fun oc G2 => (∃ v : Int, ∃ p2 : Int, oc = .returned (some (vz v)) ∧ fx o o [24] G G2 ∧ G2.length = G.length ∧ ab_slots G2 = ab_slots G ∧ cc o G2 x 24 (ab_ob 10 [vR se, vR by_, vz n, vz p2, vz fa, vz fp, vR kd, vz kn]) ∧ cc o G2 d_ 25 (ab_ob 6 [vR x, inn, vz dp, vz flg, vz grp, vR na, vR nl, vz lst, vz mst, vz bh]) ∧ (0 ≤ v ∧ v ≤ 31) ∧ (pl ≤ p2 ∧ p2 ≤ 6010) ∧ (flgR f n pl flg v p2)) ∨ (∃ p2 : Int, ∃ fa2 : Int, ∃ fp2 : Int, oc = .returned (some (vz (-1))) ∧ fx o o [24] G G2 ∧ G2.length = G.length ∧ ab_slots G2 = ab_slots G ∧ cc o G2 x 24 (ab_ob 10 [vR se, vR by_, vz n, vz p2, vz fa2, vz fp2, vR kd, vz kn]) ∧ cc o G2 d_ 25 (ab_ob 6 [vR x, inn, vz dp, vz flg, vz grp, vR na, vR nl, vz lst, vz mst, vz bh]) ∧ (pl ≤ p2 ∧ p2 ≤ 6010) ∧ (1 ≤ fa2 ∧ fa2 ≤ 14) ∧ (fa2 = 10 ∧ fp2 = at_) ∧ (noflg f n pl))) := by
  refine ab_F_of (by decide +kernel) (Nat.le_of_ble_eq_true rfl) ?_
  obtain ⟨Q, hQ⟩ : ∃ z : Outcome → ab_G → Prop, z = (fun oc G2 => (∃ v : Int, ∃ p2 : Int, oc = .returned (some (vz v)) ∧ fx o o [24] G G2 ∧ G2.length = G.length ∧ ab_slots G2 = ab_slots G ∧ cc o G2 x 24 (ab_ob 10 [vR se, vR by_, vz n, vz p2, vz fa, vz fp, vR kd, vz kn]) ∧ cc o G2 d_ 25 (ab_ob 6 [vR x, inn, vz dp, vz flg, vz grp, vR na, vR nl, vz lst, vz mst, vz bh]) ∧ (0 ≤ v ∧ v ≤ 31) ∧ (pl ≤ p2 ∧ p2 ≤ 6010) ∧ (flgR f n pl flg v p2)) ∨ (∃ p2 : Int, ∃ fa2 : Int, ∃ fp2 : Int, oc = .returned (some (vz (-1))) ∧ fx o o [24] G G2 ∧ G2.length = G.length ∧ ab_slots G2 = ab_slots G ∧ cc o G2 x 24 (ab_ob 10 [vR se, vR by_, vz n, vz p2, vz fa2, vz fp2, vR kd, vz kn]) ∧ cc o G2 d_ 25 (ab_ob 6 [vR x, inn, vz dp, vz flg, vz grp, vR na, vR nl, vz lst, vz mst, vz bh]) ∧ (pl ≤ p2 ∧ p2 ≤ 6010) ∧ (1 ≤ fa2 ∧ fa2 ≤ 14) ∧ (fa2 = 10 ∧ fp2 = at_) ∧ (noflg f n pl))) := ⟨_, rfl⟩
  rw [← hQ]
  change ab_W X (ab_pl y_RD_flagsTold b_RD_flagsTold 8 (some (.int))) d G 0 [some (vR d_), some (vz at_), none, none, none, none, none, none] [] Q
  have hfr : fx o o [24] G G := fx.rf
  have hlen : G.length = G.length := rfl
  have hsl : ab_slots G = ab_slots G := rfl
  refine zz_iconst d_RD_flagsTold_0 ?_
  refine ab_istore_n d_RD_flagsTold_1 (Nat.le_of_ble_eq_true rfl) (Nat.le_of_ble_eq_true rfl) rfl ?_
  change ab_W _ _ _ G 2 [some (vR d_), some (vz at_), some (vz 0), none, none, none, none, none] [] _
  refine zz_iconst d_RD_flagsTold_2 ?_
  refine ab_istore_n d_RD_flagsTold_3 (Nat.le_of_ble_eq_true rfl) (Nat.le_of_ble_eq_true rfl) rfl ?_
  change ab_W _ _ _ G 4 [some (vR d_), some (vz at_), some (vz 0), some (vz 0), none, none, none, none] [] _
  refine zz_iconst d_RD_flagsTold_4 ?_
  refine ab_istore d_RD_flagsTold_5 (Nat.le_of_ble_eq_true rfl) (Nat.le_of_ble_eq_true rfl) rfl ?_
  change ab_W _ _ _ G 7 [some (vR d_), some (vz at_), some (vz 0), some (vz 0), some (vz 0), none, none, none] [] _
  refine zz_iconst d_RD_flagsTold_7 ?_
  refine ab_istore d_RD_flagsTold_8 (Nat.le_of_ble_eq_true rfl) (Nat.le_of_ble_eq_true rfl) rfl ?_
  change ab_W _ _ _ G 10 [some (vR d_), some (vz at_), some (vz 0), some (vz 0), some (vz 0), some (vz 0), none, none] [] _
  refine y_RD_flagsTold_10 (d_ := d_) (inn := inn) (dp := dp) (flg := flg) (grp := grp) (na := na) (nl := nl) (lst := lst) (mst := mst) (bh := bh) (x := x) (se := se) (by_ := by_) (m := m) (f := f) (n := n) (fa := fa) (fp := fp) (kd := kd) (kn := kn) (at_ := at_) (p0 := pl) (r0 := (flgS f n (Int.toNat (n + 3)) pl 0 0 0)) (G0 := G) (on := 0) (of := 0) (mi := 0) (tu := 0) (pl := pl) (kr := (Int.toNat (n + 3))) (by omega) hb (by omega) (by omega) (by omega) (by omega) (Int.toNat (n + 2 - 0) + 1) hd_ hx hby_ (by omega) (by omega) (by omega) (by omega) rfl fx.rf rfl rfl (by omega) (fun G1 v2 p23 hNx hNd_ hq4 hq5 hq6 hfk hlk hsk => ?_) (fun G7 p28 fa29 fp210 hNx hNd_ hq11 hq12 hq13 hq14 hfk hlk hsk => ?_)
  · have hby_ := hfk.get hby_ (by decide)
    have hfr := hfr.tr hfk (by decide)
    have hlen := hlk.trans hlen
    have hsl := hsk.trans hsl
    have hx := hNx
    have hd_ := hNd_
    rw [hQ]; exact (Or.inl ⟨_, _, rfl, hfr, hlen, hsl, hx, hd_, (by omega), (by omega), (by exact hq6)⟩)
  · have hby_ := hfk.get hby_ (by decide)
    have hfr := hfr.tr hfk (by decide)
    have hlen := hlk.trans hlen
    have hsl := hsk.trans hsl
    have hx := hNx
    have hd_ := hNd_
    rw [hQ]; exact (Or.inr ⟨_, _, _, rfl, hfr, hlen, hsl, hx, hd_, (by omega), (by omega), (by omega), (by exact hq14)⟩)
