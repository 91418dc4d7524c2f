set_option maxRecDepth 100000 in
set_option maxHeartbeats 4000000 in
theorem z_RD_part {X : ab_X} {d : Nat} {o : Nat → Nat} {G : ab_G} {d_ : Nat} {inn : Value} {dp : Int} {flg : Int} {grp : Int} {na : Nat} {nl : Nat} {lst : Int} {mst : Int} {bh : Int} {NA : Int → Int} {NL : Int → Int} {x : Nat} {se : Nat} {by_ : Nat} {m : Nat} {f : Int → Int} {n : Int} {pl : Int} {fa : Int} {fp : Int} {kd : Nat} {kn : Int} {ps : Nat → Nat} {wt : Nat → Nat} {bs : Nat} {ph : Int} {k : Nat} {hi : Nat} {wh : Nat} {nb : Nat} {cnt : Int} {P : Int → Prop} (hd_ : cc o G d_ 25 (ab_ob 6 [vR x, inn, vz dp, vz flg, vz grp, vR na, vR nl, vz lst, vz mst, vz bh])) (hx : cc o G x 24 (ab_ob 10 [vR se, vR by_, vz n, vz pl, vz fa, vz fp, vR kd, vz kn])) (hna : cc o G na 86 (za 10 NA)) (hnl : cc o G nl 87 (za 10 NL)) (hby_ : cc o G by_ 23 (za m f)) (h15 : cc o G 15 15 (za 18 zAR)) (h16 : cc o G 16 16 (za 20 zAF)) (ppaI_0 : paI o G 0 ps wt bs grp pr0 ph) (popI_0 : opI o G 0 ps k hi inn) (pcsI_se : csI o G se 88 89 nb cnt P) (ptbI_0 : tbI o G 0) (pszI_0 : szI o G 0 ps k hi inn wh 0) (n18 : ab_n0 = 18) (cn_ : 0 ≤ n ∧ n ≤ ↑m ∧ m ≤ 2000) (hb : bytes f n) (cf : 0 ≤ flg ∧ flg ≤ 31) (cg : 0 ≤ grp ∧ grp ≤ 9) (ck : 0 ≤ dp ∧ dp ≤ 30 ∧ ↑k = dp + 1 ∧ hi ≤ G.length) (hnm : nmok NA NL grp n) (cbs : bs ≤ G.length ∧ 18 ≤ G.length) (ckd : 1 ≤ kd ∧ kd ≤ 12 ∧ 0 ≤ kn ∧ kn ≤ 1) (cfa : fa = 0) (cp : 0 ≤ pl ∧ pl < n) (hnb : nb ≤ 104000) (rc : G.length + 9000 ≤ ab_n0 + room_1.cells) (rs : ab_slots G + 430000 ≤ room_1.slots + 2 * nb) (hd : 11 ≤ d) : ab_F X d y_RD_part (.code y_RD_part b_RD_part 3 (some (.object "PatternWorks$Part"))) [vR d_] G (fun oc G2 => (∃ o2 : Nat → Nat, ∃ inn2 : Value, ∃ dp2 : Int, ∃ flg2 : Int, ∃ grp2 : Int, ∃ NA2 : Int → Int, ∃ NL2 : Int → Int, ∃ lst2 : Int, ∃ mst2 : Int, ∃ bh2 : Int, ∃ p2 : Int, ∃ fa2 : Int, ∃ fp2 : Int, ∃ kd2 : Nat, ∃ kn2 : Int, ∃ k2 : Nat, ∃ hi2 : Nat, ∃ ps2 : Nat → Nat, ∃ wt2 : Nat → Nat, ∃ ph2 : Int, ∃ nb2 : Nat, ∃ c2 : Int, ∃ P2 : Int → Prop, ∃ q2 : Int, oc = .returned (some (vN)) ∧ fx o o2 [24, 25, 86, 87, 88, 89, 90, 92, 94] G G2 ∧ cc o2 G2 d_ 25 (ab_ob 6 [vR x, inn2, vz dp2, vz flg2, vz grp2, vR na, vR nl, vz lst2, vz mst2, vz bh2]) ∧ cc o2 G2 x 24 (ab_ob 10 [vR se, vR by_, vz n, vz p2, vz fa2, vz fp2, vR kd2, vz kn2]) ∧ cc o2 G2 na 86 (za 10 NA2) ∧ cc o2 G2 nl 87 (za 10 NL2) ∧ paI o2 G2 0 ps2 wt2 bs grp2 pr0 ph2 ∧ opI o2 G2 0 ps2 k2 hi2 inn2 ∧ csI o2 G2 se 88 89 nb2 c2 P2 ∧ szI o2 G2 0 ps2 k2 hi2 inn2 wh 0 ∧ (0 ≤ flg2 ∧ flg2 ≤ 31) ∧ (0 ≤ grp2 ∧ grp2 ≤ 9) ∧ (0 ≤ dp2 ∧ dp2 ≤ 30 ∧ ↑k2 = dp2 + 1) ∧ (nmok NA2 NL2 grp2 n) ∧ (hi2 ≤ G2.length) ∧ (psx ps ps2 G.length) ∧ (0 ≤ fa2 ∧ fa2 ≤ 14) ∧ (1 ≤ kd2 ∧ kd2 ≤ 12 ∧ 0 ≤ kn2 ∧ kn2 ≤ 1) ∧ (0 ≤ p2 ∧ p2 ≤ 8000) ∧ (pl ≤ q2 ∧ q2 ≤ n ∧ q2 ≤ p2) ∧ (nb2 ≤ 104000) ∧ (ph2 ≤ ph + 25 * (q2 - pl)) ∧ (64 * G2.length + nb ≤ 64 * G.length + nb2 + 400) ∧ ((↑(ab_slots G2) : Int) + 2 * ↑nb ≤ ↑(ab_slots G) + 2 * ↑nb2 + 100 * (q2 - pl))) ∨ (∃ o2 : Nat → Nat, ∃ p : Nat, ∃ inn2 : Value, ∃ dp2 : Int, ∃ flg2 : Int, ∃ grp2 : Int, ∃ NA2 : Int → Int, ∃ NL2 : Int → Int, ∃ lst2 : Int, ∃ mst2 : Int, ∃ bh2 : Int, ∃ p2 : Int, ∃ fa2 : Int, ∃ fp2 : Int, ∃ kd2 : Nat, ∃ kn2 : Int, ∃ k2 : Nat, ∃ ps2 : Nat → Nat, ∃ wt2 : Nat → Nat, ∃ ph2 : Int, ∃ nb2 : Nat, ∃ c2 : Int, ∃ P2 : Int → Prop, ∃ q2 : Int, oc = .returned (some (vR p)) ∧ fx o o2 [24, 25, 86, 87, 88, 89, 90, 92, 94] G G2 ∧ cc o2 G2 d_ 25 (ab_ob 6 [vR x, inn2, vz dp2, vz flg2, vz grp2, vR na, vR nl, vz lst2, vz mst2, vz bh2]) ∧ cc o2 G2 x 24 (ab_ob 10 [vR se, vR by_, vz n, vz p2, vz fa2, vz fp2, vR kd2, vz kn2]) ∧ cc o2 G2 na 86 (za 10 NA2) ∧ cc o2 G2 nl 87 (za 10 NL2) ∧ paI o2 G2 0 ps2 wt2 bs grp2 pr0 ph2 ∧ opI o2 G2 0 ps2 k2 p inn2 ∧ csI o2 G2 se 88 89 nb2 c2 P2 ∧ szI o2 G2 0 ps2 k2 p inn2 wh p ∧ (0 ≤ flg2 ∧ flg2 ≤ 31) ∧ (0 ≤ grp2 ∧ grp2 ≤ 9) ∧ (0 ≤ dp2 ∧ dp2 ≤ 30 ∧ ↑k2 = dp2 + 1) ∧ (nmok NA2 NL2 grp2 n) ∧ (p < G2.length) ∧ (psx ps ps2 G.length) ∧ (0 ≤ fa2 ∧ fa2 ≤ 14) ∧ (1 ≤ kd2 ∧ kd2 ≤ 12 ∧ 0 ≤ kn2 ∧ kn2 ≤ 1) ∧ (0 ≤ p2 ∧ p2 ≤ 8000) ∧ (pl ≤ q2 ∧ q2 ≤ n ∧ q2 ≤ p2) ∧ (nb2 ≤ 104000) ∧ (ph2 ≤ ph + 25 * (q2 - pl)) ∧ (64 * G2.length + nb ≤ 64 * G.length + nb2 + 400) ∧ ((↑(ab_slots G2) : Int) + 2 * ↑nb ≤ ↑(ab_slots G) + 2 * ↑nb2 + 100 * (q2 - pl)) ∧ (ps2 p = 90))) := by
  refine ab_F_of (by decide +kernel) (Nat.le_of_ble_eq_true rfl) ?_
  obtain ⟨Q, hQ⟩ : ∃ z : Outcome → ab_G → Prop, z = (fun oc G2 => (∃ o2 : Nat → Nat, ∃ inn2 : Value, ∃ dp2 : Int, ∃ flg2 : Int, ∃ grp2 : Int, ∃ NA2 : Int → Int, ∃ NL2 : Int → Int, ∃ lst2 : Int, ∃ mst2 : Int, ∃ bh2 : Int, ∃ p2 : Int, ∃ fa2 : Int, ∃ fp2 : Int, ∃ kd2 : Nat, ∃ kn2 : Int, ∃ k2 : Nat, ∃ hi2 : Nat, ∃ ps2 : Nat → Nat, ∃ wt2 : Nat → Nat, ∃ ph2 : Int, ∃ nb2 : Nat, ∃ c2 : Int, ∃ P2 : Int → Prop, ∃ q2 : Int, oc = .returned (some (vN)) ∧ fx o o2 [24, 25, 86, 87, 88, 89, 90, 92, 94] G G2 ∧ cc o2 G2 d_ 25 (ab_ob 6 [vR x, inn2, vz dp2, vz flg2, vz grp2, vR na, vR nl, vz lst2, vz mst2, vz bh2]) ∧ cc o2 G2 x 24 (ab_ob 10 [vR se, vR by_, vz n, vz p2, vz fa2, vz fp2, vR kd2, vz kn2]) ∧ cc o2 G2 na 86 (za 10 NA2) ∧ cc o2 G2 nl 87 (za 10 NL2) ∧ paI o2 G2 0 ps2 wt2 bs grp2 pr0 ph2 ∧ opI o2 G2 0 ps2 k2 hi2 inn2 ∧ csI o2 G2 se 88 89 nb2 c2 P2 ∧ szI o2 G2 0 ps2 k2 hi2 inn2 wh 0 ∧ (0 ≤ flg2 ∧ flg2 ≤ 31) ∧ (0 ≤ grp2 ∧ grp2 ≤ 9) ∧ (0 ≤ dp2 ∧ dp2 ≤ 30 ∧ ↑k2 = dp2 + 1) ∧ (nmok NA2 NL2 grp2 n) ∧ (hi2 ≤ G2.length) ∧ (psx ps ps2 G.length) ∧ (0 ≤ fa2 ∧ fa2 ≤ 14) ∧ (1 ≤ kd2 ∧ kd2 ≤ 12 ∧ 0 ≤ kn2 ∧ kn2 ≤ 1) ∧ (0 ≤ p2 ∧ p2 ≤ 8000) ∧ (pl ≤ q2 ∧ q2 ≤ n ∧ q2 ≤ p2) ∧ (nb2 ≤ 104000) ∧ (ph2 ≤ ph + 25 * (q2 - pl)) ∧ (64 * G2.length + nb ≤ 64 * G.length + nb2 + 400) ∧ ((↑(ab_slots G2) : Int) + 2 * ↑nb ≤ ↑(ab_slots G) + 2 * ↑nb2 + 100 * (q2 - pl))) ∨ (∃ o2 : Nat → Nat, ∃ p : Nat, ∃ inn2 : Value, ∃ dp2 : Int, ∃ flg2 : Int, ∃ grp2 : Int, ∃ NA2 : Int → Int, ∃ NL2 : Int → Int, ∃ lst2 : Int, ∃ mst2 : Int, ∃ bh2 : Int, ∃ p2 : Int, ∃ fa2 : Int, ∃ fp2 : Int, ∃ kd2 : Nat, ∃ kn2 : Int, ∃ k2 : Nat, ∃ ps2 : Nat → Nat, ∃ wt2 : Nat → Nat, ∃ ph2 : Int, ∃ nb2 : Nat, ∃ c2 : Int, ∃ P2 : Int → Prop, ∃ q2 : Int, oc = .returned (some (vR p)) ∧ fx o o2 [24, 25, 86, 87, 88, 89, 90, 92, 94] G G2 ∧ cc o2 G2 d_ 25 (ab_ob 6 [vR x, inn2, vz dp2, vz flg2, vz grp2, vR na, vR nl, vz lst2, vz mst2, vz bh2]) ∧ cc o2 G2 x 24 (ab_ob 10 [vR se, vR by_, vz n, vz p2, vz fa2, vz fp2, vR kd2, vz kn2]) ∧ cc o2 G2 na 86 (za 10 NA2) ∧ cc o2 G2 nl 87 (za 10 NL2) ∧ paI o2 G2 0 ps2 wt2 bs grp2 pr0 ph2 ∧ opI o2 G2 0 ps2 k2 p inn2 ∧ csI o2 G2 se 88 89 nb2 c2 P2 ∧ szI o2 G2 0 ps2 k2 p inn2 wh p ∧ (0 ≤ flg2 ∧ flg2 ≤ 31) ∧ (0 ≤ grp2 ∧ grp2 ≤ 9) ∧ (0 ≤ dp2 ∧ dp2 ≤ 30 ∧ ↑k2 = dp2 + 1) ∧ (nmok NA2 NL2 grp2 n) ∧ (p < G2.length) ∧ (psx ps ps2 G.length) ∧ (0 ≤ fa2 ∧ fa2 ≤ 14) ∧ (1 ≤ kd2 ∧ kd2 ≤ 12 ∧ 0 ≤ kn2 ∧ kn2 ≤ 1) ∧ (0 ≤ p2 ∧ p2 ≤ 8000) ∧ (pl ≤ q2 ∧ q2 ≤ n ∧ q2 ≤ p2) ∧ (nb2 ≤ 104000) ∧ (ph2 ≤ ph + 25 * (q2 - pl)) ∧ (64 * G2.length + nb ≤ 64 * G.length + nb2 + 400) ∧ ((↑(ab_slots G2) : Int) + 2 * ↑nb ≤ ↑(ab_slots G) + 2 * ↑nb2 + 100 * (q2 - pl)) ∧ (ps2 p = 90))) := ⟨_, rfl⟩
  rw [← hQ]
  change ab_W X (ab_pl y_RD_part b_RD_part 3 (some (.object "PatternWorks$Part"))) d G 0 [some (vR d_), none, none] [] Q
  have hfr : fx o o [24, 25, 86, 87, 88, 89, 90, 92, 94] G G := fx.rf
  refine ab_aload_n d_RD_part_0 rfl ?_
  refine ab_getf (fs := [vR x, inn, vz dp, vz flg, vz grp, vR na, vR nl, vz lst, vz mst, vz bh]) f_RD_12 d_RD_part_1 hd_.2.2 rfl ?_
  refine ab_getf (fs := [vR se, vR by_, vz n, vz pl, vz fa, vz fp, vR kd, vz kn]) f_RD_55 d_RD_part_4 hx.2.2 rfl ?_
  refine ab_istore_n d_RD_part_7 (Nat.le_of_ble_eq_true rfl) (Nat.le_of_ble_eq_true rfl) rfl ?_
  change ab_W _ _ _ G 8 [some (vR d_), some (vz pl), none] [] _
  refine ab_aload_n d_RD_part_8 rfl ?_
  refine ab_getf (fs := [vR x, inn, vz dp, vz flg, vz grp, vR na, vR nl, vz lst, vz mst, vz bh]) f_RD_12 d_RD_part_9 hd_.2.2 rfl ?_
  refine zz_iconst d_RD_part_12 ?_
  refine ab_callV (d' := d - 1) (as := [vz 0]) (st := []) (r := _) (z_TX_peek0 (o := o) (x := x) (lx := 24) (se := se) (by_ := by_) (lby := 23) (m := m) (f := f) (n := n) (pl := pl) (fa := fa) (fp := fp) (kd := kd) (kn := kn) hx hby_ (by omega) hb) (fun oc G2 h => by rcases h with ⟨_, h, _⟩ <;> exact ⟨_, h⟩) (by omega) m_TX_peek ml_RD_79 im_TX_peek se_TX_peek c_TX hx.2.2 (Nat.le_of_ble_eq_true rfl) d_RD_part_13 rfl ?_
  intro v G1 hq
  rcases hq with ⟨v2, hv, hGe, hq3, hq4⟩
  cases hv
  rw [hGe]
  change ab_W _ _ _ G 16 [some (vR d_), some (vz pl), none] [vz v2] _
  by_cases c5 : v2 = 36
  · refine zz_lookup (off := 204) (tgt := 220) d_RD_part_16 (by decide) (by omega) (by rw [c5]; decide) (by decide) ?_
    refine ab_aload_n d_RD_part_220 rfl ?_
    refine ab_getf (fs := [vR x, inn, vz dp, vz flg, vz grp, vR na, vR nl, vz lst, vz mst, vz bh]) f_RD_12 d_RD_part_221 hd_.2.2 rfl ?_
    refine ab_dup d_RD_part_224 rfl ?_
    refine ab_getf (fs := [vR se, vR by_, vz n, vz pl, vz fa, vz fp, vR kd, vz kn]) f_RD_55 d_RD_part_225 hx.2.2 rfl ?_
    refine zz_iconst d_RD_part_228 ?_
    refine zz_iadd d_RD_part_229 ?_
    refine ab_putf (fs := [vR se, vR by_, vz n, vz pl, vz fa, vz fp, vR kd, vz kn]) f_RD_55 (Or.inl rfl) d_RD_part_230 hx.2.2 (Nat.le_of_ble_eq_true rfl) (fun _ => ⟨rfl, rfl⟩) (hx.2.1 (by decide)) ?_
    obtain ⟨G6, eG6⟩ : ∃ z : ab_G, z = List.set G x (ab_ob 10 [vR se, vR by_, vz n, vz (pl + 1), vz fa, vz fp, vR kd, vz kn]) := ⟨_, rfl⟩
    have hd_ := hd_.keep hx eG6 (by decide)
    have hna := hna.keep hx eG6 (by decide)
    have hnl := hnl.keep hx eG6 (by decide)
    have hby_ := hby_.keep hx eG6 (by decide)
    have h15 := h15.keep hx eG6 (by decide)
    have h16 := h16.keep hx eG6 (by decide)
    have hst := (fx.rf (o := o) (S := [24]) (G := G)).wr hx eG6 (List.mem_singleton.mpr rfl)
    have popI_0 := opI.fr hst ppaI_0 popI_0 (by decide) (by decide)
    have pcsI_se := csI.fr hst pcsI_se (by decide) (by decide)
    have ptbI_0 := tbI.fr hst ptbI_0  (by decide)
    have pszI_0 := szI.fr hst ppaI_0 pszI_0 (by decide) (by decide)
    have ppaI_0 := paI.fr hst ppaI_0 (by decide) (by decide) (by decide) (by decide)
    have hq7 := z_len eG6
    have hq8 := z_sl hx eG6 rfl
    have hfr := hfr.wr hx eG6 (by decide)
    have hx := hx.kept eG6
    change ab_W _ _ _ (List.set G x (ab_ob 10 [vR se, vR by_, vz n, vz (pl + 1), vz fa, vz fp, vR kd, vz kn])) 233 [some (vR d_), some (vz pl), none] [] _
    rw [← eG6]
    refine ab_new (fs := [vz 0, vz 0, vN, vz 0, vz 0, vN, vN, vN, vz 0, vz 0, vz 0, vz 0, vz 0, vz 0, vz 0]) k_PA rfl cl_RD_18 inst_PA ini_PA d_RD_part_233 (by decide) (fun _ => rfl) (by omega) (by omega) ?_
    obtain ⟨G9, eG9⟩ : ∃ z : ab_G, z = G6 ++ [ab_ob 4 [vz 0, vz 0, vN, vz 0, vz 0, vN, vN, vN, vz 0, vz 0, vz 0, vz 0, vz 0, vz 0, vz 0]] := ⟨_, rfl⟩
    obtain ⟨o10, eo10⟩ : ∃ z : Nat → Nat, z = ol o G6.length 90 := ⟨_, rfl⟩
    obtain ⟨a11, ea11⟩ : ∃ z : Nat, z = G6.length := ⟨_, rfl⟩
    have hq12 := hby_.n0 (by first | decide | omega)
    have ne_a11_d_ : nq a11 d_ := by have hlt := hd_.lt; unfold nq; omega
    have ne_a11_x : nq a11 x := by have hlt := hx.lt; unfold nq; omega
    have ne_a11_na : nq a11 na := by have hlt := hna.lt; unfold nq; omega
    have ne_a11_nl : nq a11 nl := by have hlt := hnl.lt; unfold nq; omega
    have ne_a11_by_ : nq a11 by_ := by have hlt := hby_.lt; unfold nq; omega
    have ne_a11_15 : nq a11 15 := by have hlt := h15.lt; unfold nq; omega
    have ne_a11_16 : nq a11 16 := by have hlt := h16.lt; unfold nq; omega
    have hd_ := hd_.akeep (k := 90) eG9
    rw [← eo10] at hd_
    have hx := hx.akeep (k := 90) eG9
    rw [← eo10] at hx
    have hna := hna.akeep (k := 90) eG9
    rw [← eo10] at hna
    have hnl := hnl.akeep (k := 90) eG9
    rw [← eo10] at hnl
    have hby_ := hby_.akeep (k := 90) eG9
    rw [← eo10] at hby_
    have h15 := h15.akeep (k := 90) eG9
    rw [← eo10] at h15
    have h16 := h16.akeep (k := 90) eG9
    rw [← eo10] at h16
    have hst := (fx.rf (o := o) (S := []) (G := G6)).ap (k := 90) eG9
    rw [← eo10] at hst
    have hnpa11 := ppaI_0.new (a := a11) (by omega)
    have popI_0 := opI.fr hst ppaI_0 popI_0 (by decide) (by decide)
    have pcsI_se := csI.fr hst pcsI_se (by decide) (by decide)
    have ptbI_0 := tbI.fr hst ptbI_0  (by simp)
    have pszI_0 := szI.fr hst ppaI_0 pszI_0 (by decide) (by decide)
    have ppaI_0 := paI.fr hst ppaI_0 (by decide) (by decide) (by decide) (by simp)
    have ha11 := cc.anew (o := o) 90 eG9 hq12
    rw [← eo10, ← ea11] at ha11
    have hfr := hfr.ap (k := 90) eG9
    rw [← eo10] at hfr
    have hq13 := z_alen eG9
    have hq14 : ab_slots G9 = ab_slots G6 + 15 := z_asl eG9 hq12
    change ab_W _ _ _ (G6 ++ [ab_ob 4 [vz 0, vz 0, vN, vz 0, vz 0, vN, vN, vN, vz 0, vz 0, vz 0, vz 0, vz 0, vz 0, vz 0]]) 236 [some (vR d_), some (vz pl), none] [.ref G6.length] _
    rw [← eG9, ← ea11]
    change ab_W _ _ _ G9 236 [some (vR d_), some (vz pl), none] [vR a11] _
    refine ab_dup d_RD_part_236 rfl ?_
    refine zz_iconst d_RD_part_237 ?_
    refine ab_aload_n d_RD_part_238 rfl ?_
    refine zz_iconst d_RD_part_239 ?_
    refine ab_callV (d' := d - 1) (as := [vz 2]) (st := [vz 3, vR a11, vR a11]) (r := _) (z2_RD_isOn (o := o10) (d_ := d_) (inn := inn) (dp := dp) (flg := flg) (grp := grp) (na := na) (nl := nl) (lst := lst) (mst := mst) (bh := bh) (x := x) hd_ (by omega)) (fun oc G2 h => by rcases h with ⟨_, h, _⟩ <;> exact ⟨_, h⟩) (by omega) m_RD_isOn ml_RD_94 im_RD_isOn se_RD_isOn c_RD hd_.2.2 (Nat.le_of_ble_eq_true rfl) d_RD_part_240 rfl ?_
    intro v G15 hq
    rcases hq with ⟨v16, hv, hGe, hq17⟩
    cases hv
    rw [hGe]
    change ab_W _ _ _ G9 243 [some (vR d_), some (vz pl), none] [vz v16, vz 3, vR a11, vR a11] _
    refine zz_if_eq (tgt := 250) d_RD_part_243 (by decide) (by omega) (fun c18 => ?_) (fun c18 => ?_)
    · refine zz_iconst d_RD_part_250 ?_
      refine zz_iconst d_RD_part_251 ?_
      refine zz_iconst d_RD_part_252 ?_
      refine ab_callI (d' := d - 1) (as := [vz 3, vz 1, vz 1, vz 1]) (st := [vR a11]) (z90_PA_init (o := o10) (a := a11) (k0 := 3) (v0 := 1) (s0 := 1) (m0 := 1) (ps := ps) (wt := wt) (bs := bs) (gr := grp) (Pr := pr0) (ph := ph) ha11 ppaI_0 (by omega) (by omega) (by omega) (by omega)) (fun oc G2 h => by rcases h with ⟨h, _⟩ <;> exact ⟨_, h⟩) (by omega) m_PA_init ml_RD_20 im_PA_init rfl (Nat.le_of_ble_eq_true rfl) d_RD_part_253 rfl ?_
      intro v G19 hq
      rcases hq with ⟨hv, hfk, hlk, hsk, hNa11, pNpaI_0, hq20⟩
      cases hv
      have hd_ := hfk.get hd_ (by decide)
      have hx := hfk.get hx (by decide)
      have hna := hfk.get hna (by decide)
      have hnl := hfk.get hnl (by decide)
      have hby_ := hfk.get hby_ (by decide)
      have h15 := hfk.get h15 (by decide)
      have h16 := hfk.get h16 (by decide)
      have popI_0 := popI_0.fz (o2 := o10) hq20 (by simp)
      have pcsI_se := csI.fr hfk pcsI_se (by decide) (by decide)
      have ptbI_0 := tbI.fr hfk ptbI_0  (by decide)
      have pszI_0 := pszI_0.fzk (o2 := o10) hq20
      have ppaI_0 := pNpaI_0
      have hfr := hfr.tr hfk (by decide)
      have hq21 := hlk
      have hq22 := hsk
      have ha11 := hNa11
      change ab_W _ _ _ G19 256 [some (vR d_), some (vz pl), none] [vR a11] _
      have hnf_ := ppaI_0.nref hnpa11
      have hnp9_ := hnpa11
      have hlt23 := ha11.lt
      have hn23 : paN grp pr0 3 1 (-1) := ⟨by omega, by intro _; omega, by intro _; omega, by intro _; omega, pr0_⟩
      obtain ⟨ps23, wt23, hx23, hxo23, hpa23, ppaI_0⟩ : ∃ pz wz : Nat → Nat, psx ps pz a11 ∧ (∀ x, ¬ x = a11 → pz x = ps x) ∧ pz a11 = 90 ∧ paI o10 G19 0 pz wz bs grp pr0 (ph + 0) := ⟨_, _, psx.ol (Nat.le_refl _), fun x hx => if_neg hx, ol_self, ppaI_0.ad90 0 hnpa11 (by omega) ha11 hn23 (by unfold pnB; omega) (Or.inl ⟨by omega, rfl⟩) (Or.inl rfl) (Or.inl rfl) (Or.inl rfl)⟩
      have popI_0 : opI o10 G19 0 ps23 k hi inn := opn_ps _ _ _ popI_0 (psx.lt hx23 (by omega))
      have hlf_ : leafp ps ps23 G19 a11 := leafp.mk hnf_ hnp9_ hxo23 hpa23 ha11 (by omega)
      have pszI_0 := (pszI_0.leaf hlf_).up (hi2 := a11) (by omega)
      have popI_0 := opn_up (hi2 := a11) popI_0 (by omega)
      have popI_0 : opI o10 G19 0 ps23 k a11 inn := popI_0
      refine ab_aret (rt := _) rfl (Or.inl ⟨_, rfl⟩) (Or.inr ⟨_, rfl⟩) d_RD_part_256 ?_
      rw [hQ]; exact (Or.inr ⟨_, _, _, _, _, _, _, _, _, _, _, _, _, _, _, _, _, _, _, _, _, _, _, (pl + 1), rfl, hfr, hd_, hx, hna, hnl, ppaI_0, popI_0, pcsI_se, pszI_0, (by omega), (by omega), (by omega), (by exact hnm), (by have hlt := ha11.lt; omega), (by exact hx23.lt (by omega)), (by omega), (by omega), (by omega), (by omega), (by omega), (by omega), (by omega), (by omega), (by exact hpa23)⟩)
    · refine zz_iconst d_RD_part_246 ?_
      refine ab_goto (tgt := 251) d_RD_part_247 (by decide) ?_
      refine zz_iconst d_RD_part_251 ?_
      refine zz_iconst d_RD_part_252 ?_
      refine ab_callI (d' := d - 1) (as := [vz 3, vz 3, vz 1, vz 1]) (st := [vR a11]) (z90_PA_init (o := o10) (a := a11) (k0 := 3) (v0 := 3) (s0 := 1) (m0 := 1) (ps := ps) (wt := wt) (bs := bs) (gr := grp) (Pr := pr0) (ph := ph) ha11 ppaI_0 (by omega) (by omega) (by omega) (by omega)) (fun oc G2 h => by rcases h with ⟨h, _⟩ <;> exact ⟨_, h⟩) (by omega) m_PA_init ml_RD_20 im_PA_init rfl (Nat.le_of_ble_eq_true rfl) d_RD_part_253 rfl ?_
      intro v G24 hq
      rcases hq with ⟨hv, hfk, hlk, hsk, hNa11, pNpaI_0, hq25⟩
      cases hv
      have hd_ := hfk.get hd_ (by decide)
      have hx := hfk.get hx (by decide)
      have hna := hfk.get hna (by decide)
      have hnl := hfk.get hnl (by decide)
      have hby_ := hfk.get hby_ (by decide)
      have h15 := hfk.get h15 (by decide)
      have h16 := hfk.get h16 (by decide)
      have popI_0 := popI_0.fz (o2 := o10) hq25 (by simp)
      have pcsI_se := csI.fr hfk pcsI_se (by decide) (by decide)
      have ptbI_0 := tbI.fr hfk ptbI_0  (by decide)
      have pszI_0 := pszI_0.fzk (o2 := o10) hq25
      have ppaI_0 := pNpaI_0
      have hfr := hfr.tr hfk (by decide)
      have hq26 := hlk
      have hq27 := hsk
      have ha11 := hNa11
      change ab_W _ _ _ G24 256 [some (vR d_), some (vz pl), none] [vR a11] _
      have hnf_ := ppaI_0.nref hnpa11
      have hnp9_ := hnpa11
      have hlt28 := ha11.lt
      have hn28 : paN grp pr0 3 3 (-1) := ⟨by omega, by intro _; omega, by intro _; omega, by intro _; omega, pr0_⟩
      obtain ⟨ps28, wt28, hx28, hxo28, hpa28, ppaI_0⟩ : ∃ pz wz : Nat → Nat, psx ps pz a11 ∧ (∀ x, ¬ x = a11 → pz x = ps x) ∧ pz a11 = 90 ∧ paI o10 G24 0 pz wz bs grp pr0 (ph + 0) := ⟨_, _, psx.ol (Nat.le_refl _), fun x hx => if_neg hx, ol_self, ppaI_0.ad90 0 hnpa11 (by omega) ha11 hn28 (by unfold pnB; omega) (Or.inl ⟨by omega, rfl⟩) (Or.inl rfl) (Or.inl rfl) (Or.inl rfl)⟩
      have popI_0 : opI o10 G24 0 ps28 k hi inn := opn_ps _ _ _ popI_0 (psx.lt hx28 (by omega))
      have hlf_ : leafp ps ps28 G24 a11 := leafp.mk hnf_ hnp9_ hxo28 hpa28 ha11 (by omega)
      have pszI_0 := (pszI_0.leaf hlf_).up (hi2 := a11) (by omega)
      have popI_0 := opn_up (hi2 := a11) popI_0 (by omega)
      have popI_0 : opI o10 G24 0 ps28 k a11 inn := popI_0
      refine ab_aret (rt := _) rfl (Or.inl ⟨_, rfl⟩) (Or.inr ⟨_, rfl⟩) d_RD_part_256 ?_
      rw [hQ]; exact (Or.inr ⟨_, _, _, _, _, _, _, _, _, _, _, _, _, _, _, _, _, _, _, _, _, _, _, (pl + 1), rfl, hfr, hd_, hx, hna, hnl, ppaI_0, popI_0, pcsI_se, pszI_0, (by omega), (by omega), (by omega), (by exact hnm), (by have hlt := ha11.lt; omega), (by exact hx28.lt (by omega)), (by omega), (by omega), (by omega), (by omega), (by omega), (by omega), (by omega), (by omega), (by exact hpa28)⟩)
  replace c5 : nzq v2 36 := c5
  by_cases c29 : v2 = 40
  · refine zz_lookup (off := 120) (tgt := 136) d_RD_part_16 (by decide) (by omega) (by rw [c29]; decide) (by decide) ?_
    refine ab_aload_n d_RD_part_136 rfl ?_
    refine ab_iload_n d_RD_part_137 rfl ?_
    refine ab_callV (d' := d - 1) (as := [vz pl]) (st := []) (r := _) (z_RD_open (o := o) (d_ := d_) (inn := inn) (dp := dp) (flg := flg) (grp := grp) (na := na) (nl := nl) (lst := lst) (mst := mst) (bh := bh) (NA := NA) (NL := NL) (x := x) (se := se) (by_ := by_) (m := m) (f := f) (n := n) (pl := pl) (fa := fa) (fp := fp) (kd := kd) (kn := kn) (ps := ps) (wt := wt) (bs := bs) (ph := ph) (k := k) (hi := hi) (wh := wh) hd_ hx hna hnl hby_ ppaI_0 popI_0 pszI_0 (by omega) (by omega) hb (by omega) (by omega) (by omega) hnm (by omega) (by omega) (by omega) (by omega) (by omega) (by omega)) (fun oc G2 h => by rcases h with ⟨_, _, _, _, _, _, _, _, _, _, _, _, _, _, _, h, _⟩ <;> exact ⟨_, h⟩) (by omega) m_RD_open ml_RD_106 im_RD_open se_RD_open c_RD hd_.2.2 (Nat.le_of_ble_eq_true rfl) d_RD_part_138 rfl ?_
    intro v G30 hq
    rcases hq with ⟨o31, inn232, dp233, flg234, grp235, NA236, NL237, p238, fa239, fp240, k241, hi242, ps243, wt244, ph245, hv, hfk, hNd_, hNx, hNna, hNnl, pNpaI_0, pNopI_0, pNszI_0, hq46, hq47, hq48, hq49, hq50, hq51, hq52, hq53, hq54, hq55, hq56⟩
    cases hv
    have hby_ := hfk.get hby_ (by decide)
    have h15 := hfk.get h15 (by decide)
    have h16 := hfk.get h16 (by decide)
    have pcsI_se := csI.fr hfk pcsI_se (by decide) (by decide)
    have ptbI_0 := tbI.fr hfk ptbI_0  (by decide)
    have ppaI_0 := pNpaI_0
    have popI_0 := pNopI_0
    have pszI_0 := pNszI_0
    have hfr := hfr.tr hfk (by decide)
    have hq57 := hfk.1
    have hd_ := hNd_
    have hx := hNx
    have hna := hNna
    have hnl := hNnl
    change ab_W _ _ _ G30 141 [some (vR d_), some (vz pl), none] [] _
    refine ab_null d_RD_part_141 ?_
    refine ab_aret (rt := _) rfl (Or.inl ⟨_, rfl⟩) (Or.inl rfl) d_RD_part_142 ?_
    rw [hQ]; exact (Or.inl ⟨_, _, _, _, _, _, _, _, _, _, _, _, _, _, _, _, _, _, _, _, _, _, _, (pl + 1), rfl, hfr, hd_, hx, hna, hnl, ppaI_0, popI_0, pcsI_se, pszI_0, (by omega), (by omega), (by omega), (by exact hq49), (by omega), (by exact hq51.lt (by omega)), (by omega), (by omega), (by omega), (by omega), (by omega), (by omega), (by omega), (by omega)⟩)
  replace c29 : nzq v2 40 := c29
  by_cases c58 : v2 = 41
  · refine zz_lookup (off := 127) (tgt := 143) d_RD_part_16 (by decide) (by omega) (by rw [c58]; decide) (by decide) ?_
    refine ab_aload_n d_RD_part_143 rfl ?_
    refine ab_callV (d' := d - 1) (as := []) (st := []) (r := _) (z_RD_close (o := o) (d_ := d_) (inn := inn) (dp := dp) (flg := flg) (grp := grp) (na := na) (nl := nl) (lst := lst) (mst := mst) (bh := bh) (x := x) (se := se) (by_ := by_) (n := n) (pl := pl) (fa := fa) (fp := fp) (kd := kd) (kn := kn) (ps := ps) (wt := wt) (bs := bs) (ph := ph) (k := k) (hi := hi) (wh := wh) hd_ hx ppaI_0 popI_0 pszI_0 (by omega) (by omega) (by omega) (by omega) (by omega) (by omega) (by omega)) (fun oc G2 h => by rcases h with ⟨_, _, _, _, _, _, _, _, h, _⟩ | ⟨_, _, _, _, _, _, _, _, h, _⟩ <;> exact ⟨_, h⟩) (by omega) m_RD_close ml_RD_110 im_RD_close se_RD_close c_RD hd_.2.2 (Nat.le_of_ble_eq_true rfl) d_RD_part_144 rfl ?_
    intro v G59 hq
    rcases hq with ⟨inn260, dp261, flg262, p263, fa264, fp265, k266, hi267, hv, hfk, hlk, hsk, hNd_, hNx, pNpaI_0, pNopI_0, pNszI_0, hq68, hq69, hq70, hq71, hq72⟩ | ⟨p73, inn274, dp275, flg276, p277, fa278, fp279, k280, hv, hfk, hlk, hsk, hNd_, hNx, pNpaI_0, pNopI_0, pNszI_0, hq81, hq82, hq83, hq84, hq85, hq86⟩
    · cases hv
      have hna := hfk.get hna (by decide)
      have hnl := hfk.get hnl (by decide)
      have hby_ := hfk.get hby_ (by decide)
      have h15 := hfk.get h15 (by decide)
      have h16 := hfk.get h16 (by decide)
      have pcsI_se := csI.fr hfk pcsI_se (by decide) (by decide)
      have ptbI_0 := tbI.fr hfk ptbI_0  (by decide)
      have ppaI_0 := pNpaI_0
      have popI_0 := pNopI_0
      have pszI_0 := pNszI_0
      have hfr := hfr.tr hfk (by decide)
      have hq87 := hlk
      have hq88 := hsk
      have hd_ := hNd_
      have hx := hNx
      change ab_W _ _ _ G59 147 [some (vR d_), some (vz pl), none] [vN] _
      refine ab_aret (rt := _) rfl (Or.inl ⟨_, rfl⟩) (Or.inl rfl) d_RD_part_147 ?_
      rw [hQ]; exact (Or.inl ⟨_, _, _, _, _, _, _, _, _, _, _, _, _, _, _, _, _, _, _, _, _, _, _, pl, rfl, hfr, hd_, hx, hna, hnl, ppaI_0, popI_0, pcsI_se, pszI_0, (by omega), (by omega), (by omega), (by exact hnm), (by omega), (by exact psx.rf), (by omega), (by omega), (by omega), (by omega), (by omega), (by omega), (by omega), (by omega)⟩)
    · cases hv
      have hna := hfk.get hna (by decide)
      have hnl := hfk.get hnl (by decide)
      have hby_ := hfk.get hby_ (by decide)
      have h15 := hfk.get h15 (by decide)
      have h16 := hfk.get h16 (by decide)
      have pcsI_se := csI.fr hfk pcsI_se (by decide) (by decide)
      have ptbI_0 := tbI.fr hfk ptbI_0  (by decide)
      have ppaI_0 := pNpaI_0
      have popI_0 := pNopI_0
      have pszI_0 := pNszI_0
      have hfr := hfr.tr hfk (by decide)
      have hq89 := hlk
      have hq90 := hsk
      have hd_ := hNd_
      have hx := hNx
      change ab_W _ _ _ G59 147 [some (vR d_), some (vz pl), none] [vR p73] _
      refine ab_aret (rt := _) rfl (Or.inl ⟨_, rfl⟩) (Or.inr ⟨_, rfl⟩) d_RD_part_147 ?_
      rw [hQ]; exact (Or.inr ⟨_, _, _, _, _, _, _, _, _, _, _, _, _, _, _, _, _, _, _, _, _, _, _, pl, rfl, hfr, hd_, hx, hna, hnl, ppaI_0, popI_0, pcsI_se, pszI_0, (by omega), (by omega), (by omega), (by exact hnm), (by omega), (by exact psx.rf), (by omega), (by omega), (by omega), (by omega), (by omega), (by omega), (by omega), (by omega), (by exact hq85)⟩)
  replace c58 : nzq v2 41 := c58
  by_cases c91 : v2 = 46
  · refine zz_lookup (off := 132) (tgt := 148) d_RD_part_16 (by decide) (by omega) (by rw [c91]; decide) (by decide) ?_
    refine ab_aload_n d_RD_part_148 rfl ?_
    refine ab_getf (fs := [vR x, inn, vz dp, vz flg, vz grp, vR na, vR nl, vz lst, vz mst, vz bh]) f_RD_12 d_RD_part_149 hd_.2.2 rfl ?_
    refine ab_dup d_RD_part_152 rfl ?_
    refine ab_getf (fs := [vR se, vR by_, vz n, vz pl, vz fa, vz fp, vR kd, vz kn]) f_RD_55 d_RD_part_153 hx.2.2 rfl ?_
    refine zz_iconst d_RD_part_156 ?_
    refine zz_iadd d_RD_part_157 ?_
    refine ab_putf (fs := [vR se, vR by_, vz n, vz pl, vz fa, vz fp, vR kd, vz kn]) f_RD_55 (Or.inl rfl) d_RD_part_158 hx.2.2 (Nat.le_of_ble_eq_true rfl) (fun _ => ⟨rfl, rfl⟩) (hx.2.1 (by decide)) ?_
    obtain ⟨G92, eG92⟩ : ∃ z : ab_G, z = List.set G x (ab_ob 10 [vR se, vR by_, vz n, vz (pl + 1), vz fa, vz fp, vR kd, vz kn]) := ⟨_, rfl⟩
    have hd_ := hd_.keep hx eG92 (by decide)
    have hna := hna.keep hx eG92 (by decide)
    have hnl := hnl.keep hx eG92 (by decide)
    have hby_ := hby_.keep hx eG92 (by decide)
    have h15 := h15.keep hx eG92 (by decide)
    have h16 := h16.keep hx eG92 (by decide)
    have hst := (fx.rf (o := o) (S := [24]) (G := G)).wr hx eG92 (List.mem_singleton.mpr rfl)
    have popI_0 := opI.fr hst ppaI_0 popI_0 (by decide) (by decide)
    have pcsI_se := csI.fr hst pcsI_se (by decide) (by decide)
    have ptbI_0 := tbI.fr hst ptbI_0  (by decide)
    have pszI_0 := szI.fr hst ppaI_0 pszI_0 (by decide) (by decide)
    have ppaI_0 := paI.fr hst ppaI_0 (by decide) (by decide) (by decide) (by decide)
    have hq93 := z_len eG92
    have hq94 := z_sl hx eG92 rfl
    have hfr := hfr.wr hx eG92 (by decide)
    have hx := hx.kept eG92
    change ab_W _ _ _ (List.set G x (ab_ob 10 [vR se, vR by_, vz n, vz (pl + 1), vz fa, vz fp, vR kd, vz kn])) 161 [some (vR d_), some (vz pl), none] [] _
    rw [← eG92]
    refine ab_aload_n d_RD_part_161 rfl ?_
    refine ab_aload_n d_RD_part_162 rfl ?_
    refine zz_iconst d_RD_part_163 ?_
    refine ab_callV (d' := d - 1) (as := [vz 4]) (st := [vR d_]) (r := _) (z4_RD_isOn (o := o) (d_ := d_) (inn := inn) (dp := dp) (flg := flg) (grp := grp) (na := na) (nl := nl) (lst := lst) (mst := mst) (bh := bh) (x := x) hd_ (by omega)) (fun oc G2 h => by rcases h with ⟨_, h, _⟩ <;> exact ⟨_, h⟩) (by omega) m_RD_isOn ml_RD_94 im_RD_isOn se_RD_isOn c_RD hd_.2.2 (Nat.le_of_ble_eq_true rfl) d_RD_part_164 rfl ?_
    intro v G95 hq
    rcases hq with ⟨v96, hv, hGe, hq97⟩
    cases hv
    rw [hGe]
    change ab_W _ _ _ G92 167 [some (vR d_), some (vz pl), none] [vz v96, vR d_] _
    refine zz_if_eq (tgt := 176) d_RD_part_167 (by decide) (by omega) (fun c98 => ?_) (fun c98 => ?_)
    · refine ab_gets (i := 14) (by decide) s_RD_116 d_RD_part_176 ?_
      obtain ⟨w99, q99, mm99, hk99, hw99, hc99⟩ := ptbI_0.at 14 (by decide) (by decide)
      refine ab_callV (d' := d - 1) (as := [vR 14]) (st := []) (r := _) (zs_RD_classPart (o := o) (d_ := d_) (w := 14) (lw := 14) (w2 := w99) (q2 := q99) (m2 := mm99) (ps := ps) (wt := wt) (bs := bs) (gr := grp) (ph := ph) hk99 ppaI_0 (by omega) (by omega) (by omega) (by omega) hc99 (by omega) (by omega) (by omega) (by omega)) (fun oc G2 h => by rcases h with ⟨_, _, _, _, _, h, _⟩ <;> exact ⟨_, h⟩) (by omega) m_RD_classPart ml_RD_102 im_RD_classPart se_RD_classPart c_RD hd_.2.2 (Nat.le_of_ble_eq_true rfl) d_RD_part_179 rfl ?_
      intro v G100 hq
      rcases hq with ⟨o101, p102, ps2103, wt2104, ph2105, hv, hfk, pNpaI_0, hq106, hq107, hq108, hq109, hq110, hq111, hq112, hq113⟩
      cases hv
      have hd_ := hfk.get hd_ (by decide)
      have hx := hfk.get hx (by decide)
      have hna := hfk.get hna (by decide)
      have hnl := hfk.get hnl (by decide)
      have hby_ := hfk.get hby_ (by decide)
      have h15 := hfk.get h15 (by decide)
      have h16 := hfk.get h16 (by decide)
      have hk99 := hfk.get hk99 (by decide)
      have popI_0 := popI_0.fz (o2 := o101) hq109 (by simp)
      have pcsI_se := csI.fr hfk pcsI_se (by decide) (by decide)
      have ptbI_0 := tbI.fr hfk ptbI_0  (by decide)
      have pszI_0 := pszI_0.fzk (o2 := o101) hq109
      have ppaI_0 := pNpaI_0
      have hfr := hfr.tr hfk (by decide)
      have hq114 := hfk.1
      change ab_W _ _ _ G100 182 [some (vR d_), some (vz pl), none] [vR p102] _
      have popI_0 : opI o101 G100 0 ps2103 k hi inn := opn_ps _ _ _ popI_0 (psx.lt hq106 (by omega))
      have pszI_0 := (pszI_0.leaf hq113).up (hi2 := p102) (by omega)
      have popI_0 := opn_up (hi2 := p102) popI_0 (by omega)
      have popI_0 : opI o101 G100 0 ps2103 k p102 inn := popI_0
      refine ab_aret (rt := _) rfl (Or.inl ⟨_, rfl⟩) (Or.inr ⟨_, rfl⟩) d_RD_part_182 ?_
      rw [hQ]; exact (Or.inr ⟨_, _, _, _, _, _, _, _, _, _, _, _, _, _, _, _, _, _, _, _, _, _, _, (pl + 1), rfl, hfr, hd_, hx, hna, hnl, ppaI_0, popI_0, pcsI_se, pszI_0, (by omega), (by omega), (by omega), (by exact hnm), (by omega), (by exact hq106.lt (by omega)), (by omega), (by omega), (by omega), (by omega), (by omega), (by omega), (by omega), (by omega), (by exact hq107)⟩)
    · refine ab_gets (i := 13) (by decide) s_RD_113 d_RD_part_170 ?_
      refine ab_goto (tgt := 179) d_RD_part_173 (by decide) ?_
      obtain ⟨w115, q115, mm115, hk115, hw115, hc115⟩ := ptbI_0.at 13 (by decide) (by decide)
      refine ab_callV (d' := d - 1) (as := [vR 13]) (st := []) (r := _) (zs_RD_classPart (o := o) (d_ := d_) (w := 13) (lw := 13) (w2 := w115) (q2 := q115) (m2 := mm115) (ps := ps) (wt := wt) (bs := bs) (gr := grp) (ph := ph) hk115 ppaI_0 (by omega) (by omega) (by omega) (by omega) hc115 (by omega) (by omega) (by omega) (by omega)) (fun oc G2 h => by rcases h with ⟨_, _, _, _, _, h, _⟩ <;> exact ⟨_, h⟩) (by omega) m_RD_classPart ml_RD_102 im_RD_classPart se_RD_classPart c_RD hd_.2.2 (Nat.le_of_ble_eq_true rfl) d_RD_part_179 rfl ?_
      intro v G116 hq
      rcases hq with ⟨o117, p118, ps2119, wt2120, ph2121, hv, hfk, pNpaI_0, hq122, hq123, hq124, hq125, hq126, hq127, hq128, hq129⟩
      cases hv
      have hd_ := hfk.get hd_ (by decide)
      have hx := hfk.get hx (by decide)
      have hna := hfk.get hna (by decide)
      have hnl := hfk.get hnl (by decide)
      have hby_ := hfk.get hby_ (by decide)
      have h15 := hfk.get h15 (by decide)
      have h16 := hfk.get h16 (by decide)
      have hk115 := hfk.get hk115 (by decide)
      have popI_0 := popI_0.fz (o2 := o117) hq125 (by simp)
      have pcsI_se := csI.fr hfk pcsI_se (by decide) (by decide)
      have ptbI_0 := tbI.fr hfk ptbI_0  (by decide)
      have pszI_0 := pszI_0.fzk (o2 := o117) hq125
      have ppaI_0 := pNpaI_0
      have hfr := hfr.tr hfk (by decide)
      have hq130 := hfk.1
      change ab_W _ _ _ G116 182 [some (vR d_), some (vz pl), none] [vR p118] _
      have popI_0 : opI o117 G116 0 ps2119 k hi inn := opn_ps _ _ _ popI_0 (psx.lt hq122 (by omega))
      have pszI_0 := (pszI_0.leaf hq129).up (hi2 := p118) (by omega)
      have popI_0 := opn_up (hi2 := p118) popI_0 (by omega)
      have popI_0 : opI o117 G116 0 ps2119 k p118 inn := popI_0
      refine ab_aret (rt := _) rfl (Or.inl ⟨_, rfl⟩) (Or.inr ⟨_, rfl⟩) d_RD_part_182 ?_
      rw [hQ]; exact (Or.inr ⟨_, _, _, _, _, _, _, _, _, _, _, _, _, _, _, _, _, _, _, _, _, _, _, (pl + 1), rfl, hfr, hd_, hx, hna, hnl, ppaI_0, popI_0, pcsI_se, pszI_0, (by omega), (by omega), (by omega), (by exact hnm), (by omega), (by exact hq122.lt (by omega)), (by omega), (by omega), (by omega), (by omega), (by omega), (by omega), (by omega), (by omega), (by exact hq123)⟩)
  replace c91 : nzq v2 46 := c91
  by_cases c131 : v2 = 91
  · refine zz_lookup (off := 103) (tgt := 119) d_RD_part_16 (by decide) (by omega) (by rw [c131]; decide) (by decide) ?_
    refine ab_aload_n d_RD_part_119 rfl ?_
    refine ab_aload_n d_RD_part_120 rfl ?_
    refine ab_getf (fs := [vR x, inn, vz dp, vz flg, vz grp, vR na, vR nl, vz lst, vz mst, vz bh]) f_RD_12 d_RD_part_121 hd_.2.2 rfl ?_
    refine ab_aload_n d_RD_part_124 rfl ?_
    refine zz_iconst d_RD_part_125 ?_
    refine ab_callV (d' := d - 1) (as := [vz 1]) (st := [vR x, vR d_]) (r := _) (z1_RD_isOn (o := o) (d_ := d_) (inn := inn) (dp := dp) (flg := flg) (grp := grp) (na := na) (nl := nl) (lst := lst) (mst := mst) (bh := bh) (x := x) hd_ (by omega)) (fun oc G2 h => by rcases h with ⟨_, h, _⟩ <;> exact ⟨_, h⟩) (by omega) m_RD_isOn ml_RD_94 im_RD_isOn se_RD_isOn c_RD hd_.2.2 (Nat.le_of_ble_eq_true rfl) d_RD_part_126 rfl ?_
    intro v G132 hq
    rcases hq with ⟨v133, hv, hGe, hq134⟩
    cases hv
    rw [hGe]
    change ab_W _ _ _ G 129 [some (vR d_), some (vz pl), none] [vz v133, vR x, vR d_] _
    refine ab_callV (d' := d - 1) (as := [vz v133]) (st := [vR d_]) (r := _) (z_TX_charClass (o := o) (x := x) (se := se) (by_ := by_) (m := m) (f := f) (n := n) (pl := pl) (fa := fa) (fp := fp) (kd := kd) (kn := kn) (nb := nb) (cnt := cnt) (P := P) (al := v133) hx hby_ h15 h16 pcsI_se ptbI_0 (by omega) hb (by omega) (by omega) (by omega) (by omega) (by omega) (by omega) (by omega) (by omega)) (fun oc G2 h => by rcases h with ⟨_, _, _, _, _, _, _, _, _, h, _⟩ | ⟨_, _, _, _, _, _, _, _, _, _, _, _, _, h, _⟩ <;> exact ⟨_, h⟩) (by omega) m_TX_charClass ml_RD_98 im_TX_charClass se_TX_charClass c_TX hx.2.2 (Nat.le_of_ble_eq_true rfl) d_RD_part_129 rfl ?_
    intro v G135 hq
    rcases hq with ⟨o136, p2137, fa2138, fp2139, kd2140, kn2141, nb2142, c2143, P2144, hv, hfk, hNx, hNby_, pNcsI_se, hq145, hq146, hq147, hq148, hq149, hq150⟩ | ⟨o151, w152, p2153, fa2154, fp2155, kd2156, kn2157, nb2158, c2159, P2160, q2161, m2162, w2163, hv, hfk, hNx, hNby_, hNw152, pNcsI_se, hq164, hq165, hq166, hq167, hq168, hq169, hq170, hq171⟩
    · cases hv
      have hd_ := hfk.get hd_ (by decide)
      have hna := hfk.get hna (by decide)
      have hnl := hfk.get hnl (by decide)
      have h15 := hfk.get h15 (by decide)
      have h16 := hfk.get h16 (by decide)
      have popI_0 := opI.fr hfk ppaI_0 popI_0 (by decide) (by decide)
      have ptbI_0 := tbI.fr hfk ptbI_0  (by decide)
      have pszI_0 := szI.fr hfk ppaI_0 pszI_0 (by decide) (by decide)
      have ppaI_0 := paI.fr hfk ppaI_0 (by decide) (by decide) (by decide) (by decide)
      have pcsI_se := pNcsI_se
      have hfr := hfr.tr hfk (by decide)
      have hq172 := hfk.1
      have hx := hNx
      have hby_ := hNby_
      change ab_W _ _ _ G135 132 [some (vR d_), some (vz pl), none] [vN, vR d_] _
      refine ab_callV (d' := d - 1) (as := [vN]) (st := []) (r := _) (zN_RD_classPart (o := o136) (d_ := d_) ) (fun oc G2 h => by rcases h with ⟨h, _⟩ <;> exact ⟨_, h⟩) (by omega) m_RD_classPart ml_RD_102 im_RD_classPart se_RD_classPart c_RD hd_.2.2 (Nat.le_of_ble_eq_true rfl) d_RD_part_132 rfl ?_
      intro v G174 hq
      rcases hq with ⟨hv, hGe⟩
      cases hv
      rw [hGe]
      change ab_W _ _ _ G135 135 [some (vR d_), some (vz pl), none] [vN] _
      refine ab_aret (rt := _) rfl (Or.inl ⟨_, rfl⟩) (Or.inl rfl) d_RD_part_135 ?_
      rw [hQ]; exact (Or.inl ⟨_, _, _, _, _, _, _, _, _, _, _, _, _, _, _, _, _, _, _, _, _, _, _, pl, rfl, hfr, hd_, hx, hna, hnl, ppaI_0, popI_0, pcsI_se, pszI_0, (by omega), (by omega), (by omega), (by exact hnm), (by omega), (by exact psx.rf), (by omega), (by omega), (by omega), (by omega), (by omega), (by omega), (by omega), (by omega)⟩)
    · cases hv
      have hd_ := hfk.get hd_ (by decide)
      have hna := hfk.get hna (by decide)
      have hnl := hfk.get hnl (by decide)
      have h15 := hfk.get h15 (by decide)
      have h16 := hfk.get h16 (by decide)
      have popI_0 := opI.fr hfk ppaI_0 popI_0 (by decide) (by decide)
      have ptbI_0 := tbI.fr hfk ptbI_0  (by decide)
      have pszI_0 := szI.fr hfk ppaI_0 pszI_0 (by decide) (by decide)
      have ppaI_0 := paI.fr hfk ppaI_0 (by decide) (by decide) (by decide) (by decide)
      have pcsI_se := pNcsI_se
      have hfr := hfr.tr hfk (by decide)
      have hq173 := hfk.1
      have hx := hNx
      have hby_ := hNby_
      have hw152 := hNw152
      change ab_W _ _ _ G135 132 [some (vR d_), some (vz pl), none] [vR w152, vR d_] _
      refine ab_callV (d' := d - 1) (as := [vR w152]) (st := []) (r := _) (z93_RD_classPart (o := o151) (d_ := d_) (w := w152) (w2 := w2163) (q2 := q2161) (m2 := m2162) (ps := ps) (wt := wt) (bs := bs) (gr := grp) (ph := ph) hw152 ppaI_0 (by omega) (by omega) hq168 (by omega) (by omega) (by omega) (by omega)) (fun oc G2 h => by rcases h with ⟨_, _, _, _, _, h, _⟩ <;> exact ⟨_, h⟩) (by omega) m_RD_classPart ml_RD_102 im_RD_classPart se_RD_classPart c_RD hd_.2.2 (Nat.le_of_ble_eq_true rfl) d_RD_part_132 rfl ?_
      intro v G175 hq
      rcases hq with ⟨o176, p177, ps2178, wt2179, ph2180, hv, hfk, pNpaI_0, hq181, hq182, hq183, hq184, hq185, hq186, hq187, hq188⟩
      cases hv
      have hd_ := hfk.get hd_ (by decide)
      have hx := hfk.get hx (by decide)
      have hna := hfk.get hna (by decide)
      have hnl := hfk.get hnl (by decide)
      have hby_ := hfk.get hby_ (by decide)
      have h15 := hfk.get h15 (by decide)
      have h16 := hfk.get h16 (by decide)
      have hw152 := hfk.get hw152 (by decide)
      have popI_0 := popI_0.fz (o2 := o176) hq184 (by simp)
      have pcsI_se := csI.fr hfk pcsI_se (by decide) (by decide)
      have ptbI_0 := tbI.fr hfk ptbI_0  (by decide)
      have pszI_0 := pszI_0.fzk (o2 := o176) hq184
      have ppaI_0 := pNpaI_0
      have hfr := hfr.tr hfk (by decide)
      have hq189 := hfk.1
      change ab_W _ _ _ G175 135 [some (vR d_), some (vz pl), none] [vR p177] _
      have popI_0 : opI o176 G175 0 ps2178 k hi inn := opn_ps _ _ _ popI_0 (psx.lt hq181 (by omega))
      have pszI_0 := (pszI_0.leaf hq188).up (hi2 := p177) (by omega)
      have popI_0 := opn_up (hi2 := p177) popI_0 (by omega)
      have popI_0 : opI o176 G175 0 ps2178 k p177 inn := popI_0
      refine ab_aret (rt := _) rfl (Or.inl ⟨_, rfl⟩) (Or.inr ⟨_, rfl⟩) d_RD_part_135 ?_
      rw [hQ]; exact (Or.inr ⟨_, _, _, _, _, _, _, _, _, _, _, _, _, _, _, _, _, _, _, _, _, _, _, p2153, rfl, hfr, hd_, hx, hna, hnl, ppaI_0, popI_0, pcsI_se, pszI_0, (by omega), (by omega), (by omega), (by exact hnm), (by omega), (by exact hq181.lt (by omega)), (by omega), (by omega), (by omega), (by omega), (by omega), (by omega), (by omega), (by omega), (by exact hq182)⟩)
  replace c131 : nzq v2 91 := c131
  by_cases c190 : v2 = 92
  · refine zz_lookup (off := 76) (tgt := 92) d_RD_part_16 (by decide) (by omega) (by rw [c190]; decide) (by decide) ?_
    refine ab_aload_n d_RD_part_92 rfl ?_
    refine ab_getf (fs := [vR x, inn, vz dp, vz flg, vz grp, vR na, vR nl, vz lst, vz mst, vz bh]) f_RD_12 d_RD_part_93 hd_.2.2 rfl ?_
    refine ab_callV (d' := d - 1) (as := []) (st := []) (r := _) (z_TX_escape (o := o) (x := x) (lx := 24) (se := se) (by_ := by_) (lby := 23) (m := m) (f := f) (n := n) (pl := pl) (fa := fa) (fp := fp) (kd := kd) (kn := kn) hx hby_ (by omega) hb (by omega) (by omega) (by omega) (by omega)) (fun oc G2 h => by rcases h with ⟨_, _, h, _⟩ | ⟨_, _, _, h, _⟩ | ⟨_, _, h, _⟩ <;> exact ⟨_, h⟩) (by omega) m_TX_escape ml_RD_83 im_TX_escape se_TX_escape c_TX hx.2.2 (Nat.le_of_ble_eq_true rfl) d_RD_part_96 rfl ?_
    intro v G191 hq
    rcases hq with ⟨v192, p2193, hv, hfk, hlk, hsk, hNx, hNby_, hq194, hq195, hq196⟩ | ⟨p2197, k2198, b2199, hv, hfk, hlk, hsk, hNx, hNby_, hq200, hq201, hq202, hq203⟩ | ⟨p2204, w205, hv, hfk, hlk, hsk, hNx, hNby_, hq206, hq207, hq208⟩
    · cases hv
      have hd_ := hfk.get hd_ (by decide)
      have hna := hfk.get hna (by decide)
      have hnl := hfk.get hnl (by decide)
      have h15 := hfk.get h15 (by decide)
      have h16 := hfk.get h16 (by decide)
      have popI_0 := opI.fr hfk ppaI_0 popI_0 (by decide) (by decide)
      have pcsI_se := csI.fr hfk pcsI_se (by decide) (by decide)
      have ptbI_0 := tbI.fr hfk ptbI_0  (by decide)
      have pszI_0 := szI.fr hfk ppaI_0 pszI_0 (by decide) (by decide)
      have ppaI_0 := paI.fr hfk ppaI_0 (by decide) (by decide) (by decide) (by decide)
      have hfr := hfr.tr hfk (by decide)
      have hq209 := hlk
      have hq210 := hsk
      have hx := hNx
      have hby_ := hNby_
      change ab_W _ _ _ G191 99 [some (vR d_), some (vz pl), none] [vz v192] _
      refine ab_istore_n d_RD_part_99 (Nat.le_of_ble_eq_true rfl) (Nat.le_of_ble_eq_true rfl) rfl ?_
      change ab_W _ _ _ G191 100 [some (vR d_), some (vz pl), some (vz v192)] [] _
      have hew := esc1_w hq196
      have hgp := esc1_gap hq196
      refine ab_iload_n d_RD_part_100 rfl ?_
      refine zz_iconst d_RD_part_101 ?_
      refine zz_icmp_lt (tgt := 113) d_RD_part_102 (by decide) (by omega) (by decide) (fun c215 => ?_) (fun c215 => ?_)
      · refine ab_aload_n d_RD_part_113 rfl ?_
        refine ab_iload_n d_RD_part_114 rfl ?_
        by_cases hv216 : v192 = -3
        · subst hv216
          change ab_W _ _ _ G191 115 [some (vR d_), some (vz pl), some (vz (-3))] [vz (-3), vR d_] _
          refine ab_callV (d' := d - 1) (as := [vz (-3)]) (st := []) (r := _) (z3_RD_escaped (o := o) (d_ := d_) (ps := ps) (wt := wt) (bs := bs) (gr := grp) (ph := ph) ppaI_0 (by omega) (by omega) (by omega) (by omega) (by omega)) (fun oc G2 h => by rcases h with ⟨_, _, _, _, _, h, _⟩ <;> exact ⟨_, h⟩) (by omega) m_RD_escaped ml_RD_91 im_RD_escaped se_RD_escaped c_RD hd_.2.2 (Nat.le_of_ble_eq_true rfl) d_RD_part_115 rfl ?_
          intro v G217 hq
          rcases hq with ⟨o218, p219, ps2220, wt2221, ph2222, hv, hfk, pNpaI_0, hq223, hq224, hq225, hq226, hq227, hq228, hq229, hq230⟩
          cases hv
          have hd_ := hfk.get hd_ (by decide)
          have hx := hfk.get hx (by decide)
          have hna := hfk.get hna (by decide)
          have hnl := hfk.get hnl (by decide)
          have hby_ := hfk.get hby_ (by decide)
          have h15 := hfk.get h15 (by decide)
          have h16 := hfk.get h16 (by decide)
          have popI_0 := popI_0.fz (o2 := o218) hq226 (by simp)
          have pcsI_se := csI.fr hfk pcsI_se (by decide) (by decide)
          have ptbI_0 := tbI.fr hfk ptbI_0  (by decide)
          have pszI_0 := pszI_0.fzk (o2 := o218) hq226
          have ppaI_0 := pNpaI_0
          have hfr := hfr.tr hfk (by decide)
          have hq231 := hfk.1
          change ab_W _ _ _ G217 118 [some (vR d_), some (vz pl), some (vz (-3))] [vR p219] _
          have popI_0 : opI o218 G217 0 ps2220 k hi inn := opn_ps _ _ _ popI_0 (psx.lt hq223 (by omega))
          have pszI_0 := (pszI_0.leaf hq230).up (hi2 := p219) (by omega)
          have popI_0 := opn_up (hi2 := p219) popI_0 (by omega)
          have popI_0 : opI o218 G217 0 ps2220 k p219 inn := popI_0
          refine ab_aret (rt := _) rfl (Or.inl ⟨_, rfl⟩) (Or.inr ⟨_, rfl⟩) d_RD_part_118 ?_
          rw [hQ]; exact (Or.inr ⟨_, _, _, _, _, _, _, _, _, _, _, _, _, _, _, _, _, _, _, _, _, _, _, p2193, rfl, hfr, hd_, hx, hna, hnl, ppaI_0, popI_0, pcsI_se, pszI_0, (by omega), (by omega), (by omega), (by exact hnm), (by omega), (by exact hq223.lt (by omega)), (by omega), (by omega), (by omega), (by omega), (by omega), (by omega), (by omega), (by omega), (by exact hq224)⟩)
        · have hv4 : v192 ≤ -4 := by omega
          refine ab_callV (d' := d - 1) (as := [vz v192]) (st := []) (r := _) (z4_RD_escaped (o := o) (d_ := d_) (ps := ps) (wt := wt) (bs := bs) (gr := grp) (ph := ph) (c := v192) ppaI_0 (by omega) (by omega) (by omega) (by omega) (by omega) (by omega)) (fun oc G2 h => by rcases h with ⟨_, _, _, _, _, h, _⟩ <;> exact ⟨_, h⟩) (by omega) m_RD_escaped ml_RD_91 im_RD_escaped se_RD_escaped c_RD hd_.2.2 (Nat.le_of_ble_eq_true rfl) d_RD_part_115 rfl ?_
          intro v G232 hq
          rcases hq with ⟨o233, p234, ps2235, wt2236, ph2237, hv, hfk, pNpaI_0, hq238, hq239, hq240, hq241, hq242, hq243, hq244, hq245⟩
          cases hv
          have hd_ := hfk.get hd_ (by decide)
          have hx := hfk.get hx (by decide)
          have hna := hfk.get hna (by decide)
          have hnl := hfk.get hnl (by decide)
          have hby_ := hfk.get hby_ (by decide)
          have h15 := hfk.get h15 (by decide)
          have h16 := hfk.get h16 (by decide)
          have popI_0 := popI_0.fz (o2 := o233) hq241 (by simp)
          have pcsI_se := csI.fr hfk pcsI_se (by decide) (by decide)
          have ptbI_0 := tbI.fr hfk ptbI_0  (by decide)
          have pszI_0 := pszI_0.fzk (o2 := o233) hq241
          have ppaI_0 := pNpaI_0
          have hfr := hfr.tr hfk (by decide)
          have hq246 := hfk.1
          change ab_W _ _ _ G232 118 [some (vR d_), some (vz pl), some (vz v192)] [vR p234] _
          have popI_0 : opI o233 G232 0 ps2235 k hi inn := opn_ps _ _ _ popI_0 (psx.lt hq238 (by omega))
          have pszI_0 := (pszI_0.leaf hq245).up (hi2 := p234) (by omega)
          have popI_0 := opn_up (hi2 := p234) popI_0 (by omega)
          have popI_0 : opI o233 G232 0 ps2235 k p234 inn := popI_0
          refine ab_aret (rt := _) rfl (Or.inl ⟨_, rfl⟩) (Or.inr ⟨_, rfl⟩) d_RD_part_118 ?_
          rw [hQ]; exact (Or.inr ⟨_, _, _, _, _, _, _, _, _, _, _, _, _, _, _, _, _, _, _, _, _, _, _, p2193, rfl, hfr, hd_, hx, hna, hnl, ppaI_0, popI_0, pcsI_se, pszI_0, (by omega), (by omega), (by omega), (by exact hnm), (by omega), (by exact hq238.lt (by omega)), (by omega), (by omega), (by omega), (by omega), (by omega), (by omega), (by omega), (by omega), (by exact hq239)⟩)
      · refine ab_aload_n d_RD_part_105 rfl ?_
        refine ab_iload_n d_RD_part_106 rfl ?_
        refine ab_callV (d' := d - 1) (as := [vz v192]) (st := []) (r := _) (z_RD_literal (o := o) (d_ := d_) (inn := inn) (dp := dp) (flg := flg) (grp := grp) (na := na) (nl := nl) (lst := lst) (mst := mst) (bh := bh) (x := x) (se := se) (by_ := by_) (n := n) (pl := p2193) (fa := fa) (fp := fp) (kd := kd) (kn := kn) (nb := nb) (cnt := cnt) (P := P) (ps := ps) (wt := wt) (bs := bs) (gr := grp) (ph := ph) (c := v192) hd_ hx h15 h16 ppaI_0 pcsI_se (by omega) (by omega) (by omega) hgp (by omega) (by omega) (by omega) (by omega) (by omega)) (fun oc G2 h => by rcases h with ⟨_, _, _, _, _, _, _, _, h, _⟩ <;> exact ⟨_, h⟩) (by omega) m_RD_literal ml_RD_87 im_RD_literal se_RD_literal c_RD hd_.2.2 (Nat.le_of_ble_eq_true rfl) d_RD_part_107 rfl ?_
        intro v G247 hq
        rcases hq with ⟨o248, p249, ps2250, wt2251, ph2252, nb2253, c2254, P2255, hv, hfk, pNpaI_0, pNcsI_se, hq256, hq257, hq258, hq259, hq260, hq261, hq262, hq263, hq264⟩
        cases hv
        have hd_ := hfk.get hd_ (by decide)
        have hx := hfk.get hx (by decide)
        have hna := hfk.get hna (by decide)
        have hnl := hfk.get hnl (by decide)
        have hby_ := hfk.get hby_ (by decide)
        have h15 := hfk.get h15 (by decide)
        have h16 := hfk.get h16 (by decide)
        have popI_0 := popI_0.fz (o2 := o248) hq259 (by simp)
        have ptbI_0 := tbI.fr hfk ptbI_0  (by decide)
        have pszI_0 := pszI_0.fzk (o2 := o248) hq259
        have ppaI_0 := pNpaI_0
        have pcsI_se := pNcsI_se
        have hfr := hfr.tr hfk (by decide)
        have hq265 := hfk.1
        change ab_W _ _ _ G247 110 [some (vR d_), some (vz pl), some (vz v192)] [vR p249] _
        refine ab_goto (tgt := 118) d_RD_part_110 (by decide) ?_
        have popI_0 : opI o248 G247 0 ps2250 k hi inn := opn_ps _ _ _ popI_0 (psx.lt hq256 (by omega))
        have pszI_0 := (pszI_0.leaf hq264).up (hi2 := p249) (by omega)
        have popI_0 := opn_up (hi2 := p249) popI_0 (by omega)
        have popI_0 : opI o248 G247 0 ps2250 k p249 inn := popI_0
        refine ab_aret (rt := _) rfl (Or.inl ⟨_, rfl⟩) (Or.inr ⟨_, rfl⟩) d_RD_part_118 ?_
        rw [hQ]; exact (Or.inr ⟨_, _, _, _, _, _, _, _, _, _, _, _, _, _, _, _, _, _, _, _, _, _, _, p2193, rfl, hfr, hd_, hx, hna, hnl, ppaI_0, popI_0, pcsI_se, pszI_0, (by omega), (by omega), (by omega), (by exact hnm), (by omega), (by exact hq256.lt (by omega)), (by omega), (by omega), (by omega), (by omega), (by omega), (by omega), (by omega), (by omega), (by exact hq257)⟩)
    · cases hv
      have hd_ := hfk.get hd_ (by decide)
      have hna := hfk.get hna (by decide)
      have hnl := hfk.get hnl (by decide)
      have h15 := hfk.get h15 (by decide)
      have h16 := hfk.get h16 (by decide)
      have popI_0 := opI.fr hfk ppaI_0 popI_0 (by decide) (by decide)
      have pcsI_se := csI.fr hfk pcsI_se (by decide) (by decide)
      have ptbI_0 := tbI.fr hfk ptbI_0  (by decide)
      have pszI_0 := szI.fr hfk ppaI_0 pszI_0 (by decide) (by decide)
      have ppaI_0 := paI.fr hfk ppaI_0 (by decide) (by decide) (by decide) (by decide)
      have hfr := hfr.tr hfk (by decide)
      have hq211 := hlk
      have hq212 := hsk
      have hx := hNx
      have hby_ := hNby_
      change ab_W _ _ _ G191 99 [some (vR d_), some (vz pl), none] [vz (-2)] _
      refine ab_istore_n d_RD_part_99 (Nat.le_of_ble_eq_true rfl) (Nat.le_of_ble_eq_true rfl) rfl ?_
      change ab_W _ _ _ G191 100 [some (vR d_), some (vz pl), some (vz (-2))] [] _
      have hew := esc2_w hq203
      refine ab_iload_n d_RD_part_100 rfl ?_
      refine zz_iconst d_RD_part_101 ?_
      refine zz_icmp_lt (tgt := 113) d_RD_part_102 (by decide) (by decide) (by decide) (fun c266 => ?_) (fun c266 => absurd c266 (by decide))
      refine ab_aload_n d_RD_part_113 rfl ?_
      refine ab_iload_n d_RD_part_114 rfl ?_
      refine ab_callV (d' := d - 1) (as := [vz (-2)]) (st := []) (r := _) (z2_RD_escaped (o := o) (d_ := d_) (inn := inn) (dp := dp) (flg := flg) (grp := grp) (na := na) (nl := nl) (lst := lst) (mst := mst) (bh := bh) (x := x) (se := se) (by_ := by_) (n := n) (pl := p2197) (fa := fa) (fp := fp) (kd := k2198) (kn := b2199) (nb := nb) (cnt := cnt) (P := P) (ps := ps) (wt := wt) (bs := bs) (gr := grp) (ph := ph) hd_ hx ppaI_0 pcsI_se ptbI_0 (by omega) (by omega) (by omega) (by omega) (by omega) (by omega) (by omega)) (fun oc G2 h => by rcases h with ⟨_, _, _, _, _, _, _, _, h, _⟩ <;> exact ⟨_, h⟩) (by omega) m_RD_escaped ml_RD_91 im_RD_escaped se_RD_escaped c_RD hd_.2.2 (Nat.le_of_ble_eq_true rfl) d_RD_part_115 rfl ?_
      intro v G267 hq
      rcases hq with ⟨o268, p269, ps2270, wt2271, ph2272, nb2273, c2274, P2275, hv, hfk, pNpaI_0, pNcsI_se, hq276, hq277, hq278, hq279, hq280, hq281, hq282, hq283, hq284⟩
      cases hv
      have hd_ := hfk.get hd_ (by decide)
      have hx := hfk.get hx (by decide)
      have hna := hfk.get hna (by decide)
      have hnl := hfk.get hnl (by decide)
      have hby_ := hfk.get hby_ (by decide)
      have h15 := hfk.get h15 (by decide)
      have h16 := hfk.get h16 (by decide)
      have popI_0 := popI_0.fz (o2 := o268) hq279 (by simp)
      have ptbI_0 := tbI.fr hfk ptbI_0  (by decide)
      have pszI_0 := pszI_0.fzk (o2 := o268) hq279
      have ppaI_0 := pNpaI_0
      have pcsI_se := pNcsI_se
      have hfr := hfr.tr hfk (by decide)
      have hq285 := hfk.1
      change ab_W _ _ _ G267 118 [some (vR d_), some (vz pl), some (vz (-2))] [vR p269] _
      have popI_0 : opI o268 G267 0 ps2270 k hi inn := opn_ps _ _ _ popI_0 (psx.lt hq276 (by omega))
      have pszI_0 := (pszI_0.leaf hq284).up (hi2 := p269) (by omega)
      have popI_0 := opn_up (hi2 := p269) popI_0 (by omega)
      have popI_0 : opI o268 G267 0 ps2270 k p269 inn := popI_0
      refine ab_aret (rt := _) rfl (Or.inl ⟨_, rfl⟩) (Or.inr ⟨_, rfl⟩) d_RD_part_118 ?_
      rw [hQ]; exact (Or.inr ⟨_, _, _, _, _, _, _, _, _, _, _, _, _, _, _, _, _, _, _, _, _, _, _, p2197, rfl, hfr, hd_, hx, hna, hnl, ppaI_0, popI_0, pcsI_se, pszI_0, (by omega), (by omega), (by omega), (by exact hnm), (by omega), (by exact hq276.lt (by omega)), (by omega), (by omega), (by omega), (by omega), (by omega), (by omega), (by omega), (by omega), (by exact hq277)⟩)
    · cases hv
      have hd_ := hfk.get hd_ (by decide)
      have hna := hfk.get hna (by decide)
      have hnl := hfk.get hnl (by decide)
      have h15 := hfk.get h15 (by decide)
      have h16 := hfk.get h16 (by decide)
      have popI_0 := opI.fr hfk ppaI_0 popI_0 (by decide) (by decide)
      have pcsI_se := csI.fr hfk pcsI_se (by decide) (by decide)
      have ptbI_0 := tbI.fr hfk ptbI_0  (by decide)
      have pszI_0 := szI.fr hfk ppaI_0 pszI_0 (by decide) (by decide)
      have ppaI_0 := paI.fr hfk ppaI_0 (by decide) (by decide) (by decide) (by decide)
      have hfr := hfr.tr hfk (by decide)
      have hq213 := hlk
      have hq214 := hsk
      have hx := hNx
      have hby_ := hNby_
      change ab_W _ _ _ G191 99 [some (vR d_), some (vz pl), none] [vz (-1)] _
      refine ab_istore_n d_RD_part_99 (Nat.le_of_ble_eq_true rfl) (Nat.le_of_ble_eq_true rfl) rfl ?_
      change ab_W _ _ _ G191 100 [some (vR d_), some (vz pl), some (vz (-1))] [] _
      refine ab_iload_n d_RD_part_100 rfl ?_
      refine zz_iconst d_RD_part_101 ?_
      refine zz_icmp_lt (tgt := 113) d_RD_part_102 (by decide) (by decide) (by decide) (fun c286 => absurd c286 (by decide)) (fun c286 => ?_)
      refine ab_aload_n d_RD_part_105 rfl ?_
      refine ab_iload_n d_RD_part_106 rfl ?_
      refine ab_callV (d' := d - 1) (as := [vz (-1)]) (st := []) (r := _) (zN_RD_literal (o := o) (d_ := d_) ) (fun oc G2 h => by rcases h with ⟨h, _⟩ <;> exact ⟨_, h⟩) (by omega) m_RD_literal ml_RD_87 im_RD_literal se_RD_literal c_RD hd_.2.2 (Nat.le_of_ble_eq_true rfl) d_RD_part_107 rfl ?_
      intro v G287 hq
      rcases hq with ⟨hv, hGe⟩
      cases hv
      rw [hGe]
      change ab_W _ _ _ G191 110 [some (vR d_), some (vz pl), some (vz (-1))] [vN] _
      refine ab_goto (tgt := 118) d_RD_part_110 (by decide) ?_
      refine ab_aret (rt := _) rfl (Or.inl ⟨_, rfl⟩) (Or.inl rfl) d_RD_part_118 ?_
      rw [hQ]; exact (Or.inl ⟨_, _, _, _, _, _, _, _, _, _, _, _, _, _, _, _, _, _, _, _, _, _, _, pl, rfl, hfr, hd_, hx, hna, hnl, ppaI_0, popI_0, pcsI_se, pszI_0, (by omega), (by omega), (by omega), (by exact hnm), (by omega), (by exact psx.rf), (by omega), (by omega), (by omega), (by omega), (by omega), (by omega), (by omega), (by omega)⟩)
  replace c190 : nzq v2 92 := c190
  by_cases c288 : v2 = 94
  · refine zz_lookup (off := 167) (tgt := 183) d_RD_part_16 (by decide) (by omega) (by rw [c288]; decide) (by decide) ?_
    refine ab_aload_n d_RD_part_183 rfl ?_
    refine ab_getf (fs := [vR x, inn, vz dp, vz flg, vz grp, vR na, vR nl, vz lst, vz mst, vz bh]) f_RD_12 d_RD_part_184 hd_.2.2 rfl ?_
    refine ab_dup d_RD_part_187 rfl ?_
    refine ab_getf (fs := [vR se, vR by_, vz n, vz pl, vz fa, vz fp, vR kd, vz kn]) f_RD_55 d_RD_part_188 hx.2.2 rfl ?_
    refine zz_iconst d_RD_part_191 ?_
    refine zz_iadd d_RD_part_192 ?_
    refine ab_putf (fs := [vR se, vR by_, vz n, vz pl, vz fa, vz fp, vR kd, vz kn]) f_RD_55 (Or.inl rfl) d_RD_part_193 hx.2.2 (Nat.le_of_ble_eq_true rfl) (fun _ => ⟨rfl, rfl⟩) (hx.2.1 (by decide)) ?_
    obtain ⟨G289, eG289⟩ : ∃ z : ab_G, z = List.set G x (ab_ob 10 [vR se, vR by_, vz n, vz (pl + 1), vz fa, vz fp, vR kd, vz kn]) := ⟨_, rfl⟩
    have hd_ := hd_.keep hx eG289 (by decide)
    have hna := hna.keep hx eG289 (by decide)
    have hnl := hnl.keep hx eG289 (by decide)
    have hby_ := hby_.keep hx eG289 (by decide)
    have h15 := h15.keep hx eG289 (by decide)
    have h16 := h16.keep hx eG289 (by decide)
    have hst := (fx.rf (o := o) (S := [24]) (G := G)).wr hx eG289 (List.mem_singleton.mpr rfl)
    have popI_0 := opI.fr hst ppaI_0 popI_0 (by decide) (by decide)
    have pcsI_se := csI.fr hst pcsI_se (by decide) (by decide)
    have ptbI_0 := tbI.fr hst ptbI_0  (by decide)
    have pszI_0 := szI.fr hst ppaI_0 pszI_0 (by decide) (by decide)
    have ppaI_0 := paI.fr hst ppaI_0 (by decide) (by decide) (by decide) (by decide)
    have hq290 := z_len eG289
    have hq291 := z_sl hx eG289 rfl
    have hfr := hfr.wr hx eG289 (by decide)
    have hx := hx.kept eG289
    change ab_W _ _ _ (List.set G x (ab_ob 10 [vR se, vR by_, vz n, vz (pl + 1), vz fa, vz fp, vR kd, vz kn])) 196 [some (vR d_), some (vz pl), none] [] _
    rw [← eG289]
    refine ab_new (fs := [vz 0, vz 0, vN, vz 0, vz 0, vN, vN, vN, vz 0, vz 0, vz 0, vz 0, vz 0, vz 0, vz 0]) k_PA rfl cl_RD_18 inst_PA ini_PA d_RD_part_196 (by decide) (fun _ => rfl) (by omega) (by omega) ?_
    obtain ⟨G292, eG292⟩ : ∃ z : ab_G, z = G289 ++ [ab_ob 4 [vz 0, vz 0, vN, vz 0, vz 0, vN, vN, vN, vz 0, vz 0, vz 0, vz 0, vz 0, vz 0, vz 0]] := ⟨_, rfl⟩
    obtain ⟨o293, eo293⟩ : ∃ z : Nat → Nat, z = ol o G289.length 90 := ⟨_, rfl⟩
    obtain ⟨a294, ea294⟩ : ∃ z : Nat, z = G289.length := ⟨_, rfl⟩
    have hq295 := hby_.n0 (by first | decide | omega)
    have ne_a294_d_ : nq a294 d_ := by have hlt := hd_.lt; unfold nq; omega
    have ne_a294_x : nq a294 x := by have hlt := hx.lt; unfold nq; omega
    have ne_a294_na : nq a294 na := by have hlt := hna.lt; unfold nq; omega
    have ne_a294_nl : nq a294 nl := by have hlt := hnl.lt; unfold nq; omega
    have ne_a294_by_ : nq a294 by_ := by have hlt := hby_.lt; unfold nq; omega
    have ne_a294_15 : nq a294 15 := by have hlt := h15.lt; unfold nq; omega
    have ne_a294_16 : nq a294 16 := by have hlt := h16.lt; unfold nq; omega
    have hd_ := hd_.akeep (k := 90) eG292
    rw [← eo293] at hd_
    have hx := hx.akeep (k := 90) eG292
    rw [← eo293] at hx
    have hna := hna.akeep (k := 90) eG292
    rw [← eo293] at hna
    have hnl := hnl.akeep (k := 90) eG292
    rw [← eo293] at hnl
    have hby_ := hby_.akeep (k := 90) eG292
    rw [← eo293] at hby_
    have h15 := h15.akeep (k := 90) eG292
    rw [← eo293] at h15
    have h16 := h16.akeep (k := 90) eG292
    rw [← eo293] at h16
    have hst := (fx.rf (o := o) (S := []) (G := G289)).ap (k := 90) eG292
    rw [← eo293] at hst
    have hnpa294 := ppaI_0.new (a := a294) (by omega)
    have popI_0 := opI.fr hst ppaI_0 popI_0 (by decide) (by decide)
    have pcsI_se := csI.fr hst pcsI_se (by decide) (by decide)
    have ptbI_0 := tbI.fr hst ptbI_0  (by simp)
    have pszI_0 := szI.fr hst ppaI_0 pszI_0 (by decide) (by decide)
    have ppaI_0 := paI.fr hst ppaI_0 (by decide) (by decide) (by decide) (by simp)
    have ha294 := cc.anew (o := o) 90 eG292 hq295
    rw [← eo293, ← ea294] at ha294
    have hfr := hfr.ap (k := 90) eG292
    rw [← eo293] at hfr
    have hq296 := z_alen eG292
    have hq297 : ab_slots G292 = ab_slots G289 + 15 := z_asl eG292 hq295
    change ab_W _ _ _ (G289 ++ [ab_ob 4 [vz 0, vz 0, vN, vz 0, vz 0, vN, vN, vN, vz 0, vz 0, vz 0, vz 0, vz 0, vz 0, vz 0]]) 199 [some (vR d_), some (vz pl), none] [.ref G289.length] _
    rw [← eG292, ← ea294]
    change ab_W _ _ _ G292 199 [some (vR d_), some (vz pl), none] [vR a294] _
    refine ab_dup d_RD_part_199 rfl ?_
    refine zz_iconst d_RD_part_200 ?_
    refine ab_aload_n d_RD_part_201 rfl ?_
    refine zz_iconst d_RD_part_202 ?_
    refine ab_callV (d' := d - 1) (as := [vz 2]) (st := [vz 3, vR a294, vR a294]) (r := _) (z2_RD_isOn (o := o293) (d_ := d_) (inn := inn) (dp := dp) (flg := flg) (grp := grp) (na := na) (nl := nl) (lst := lst) (mst := mst) (bh := bh) (x := x) hd_ (by omega)) (fun oc G2 h => by rcases h with ⟨_, h, _⟩ <;> exact ⟨_, h⟩) (by omega) m_RD_isOn ml_RD_94 im_RD_isOn se_RD_isOn c_RD hd_.2.2 (Nat.le_of_ble_eq_true rfl) d_RD_part_203 rfl ?_
    intro v G298 hq
    rcases hq with ⟨v299, hv, hGe, hq300⟩
    cases hv
    rw [hGe]
    change ab_W _ _ _ G292 206 [some (vR d_), some (vz pl), none] [vz v299, vz 3, vR a294, vR a294] _
    refine zz_if_eq (tgt := 213) d_RD_part_206 (by decide) (by omega) (fun c301 => ?_) (fun c301 => ?_)
    · refine zz_iconst d_RD_part_213 ?_
      refine zz_iconst d_RD_part_214 ?_
      refine zz_iconst d_RD_part_215 ?_
      refine ab_callI (d' := d - 1) (as := [vz 3, vz 0, vz 1, vz 1]) (st := [vR a294]) (z90_PA_init (o := o293) (a := a294) (k0 := 3) (v0 := 0) (s0 := 1) (m0 := 1) (ps := ps) (wt := wt) (bs := bs) (gr := grp) (Pr := pr0) (ph := ph) ha294 ppaI_0 (by omega) (by omega) (by omega) (by omega)) (fun oc G2 h => by rcases h with ⟨h, _⟩ <;> exact ⟨_, h⟩) (by omega) m_PA_init ml_RD_20 im_PA_init rfl (Nat.le_of_ble_eq_true rfl) d_RD_part_216 rfl ?_
      intro v G302 hq
      rcases hq with ⟨hv, hfk, hlk, hsk, hNa294, pNpaI_0, hq303⟩
      cases hv
      have hd_ := hfk.get hd_ (by decide)
      have hx := hfk.get hx (by decide)
      have hna := hfk.get hna (by decide)
      have hnl := hfk.get hnl (by decide)
      have hby_ := hfk.get hby_ (by decide)
      have h15 := hfk.get h15 (by decide)
      have h16 := hfk.get h16 (by decide)
      have popI_0 := popI_0.fz (o2 := o293) hq303 (by simp)
      have pcsI_se := csI.fr hfk pcsI_se (by decide) (by decide)
      have ptbI_0 := tbI.fr hfk ptbI_0  (by decide)
      have pszI_0 := pszI_0.fzk (o2 := o293) hq303
      have ppaI_0 := pNpaI_0
      have hfr := hfr.tr hfk (by decide)
      have hq304 := hlk
      have hq305 := hsk
      have ha294 := hNa294
      change ab_W _ _ _ G302 219 [some (vR d_), some (vz pl), none] [vR a294] _
      have hnf_ := ppaI_0.nref hnpa294
      have hnp9_ := hnpa294
      have hlt306 := ha294.lt
      have hn306 : paN grp pr0 3 0 (-1) := ⟨by omega, by intro _; omega, by intro _; omega, by intro _; omega, pr0_⟩
      obtain ⟨ps306, wt306, hx306, hxo306, hpa306, ppaI_0⟩ : ∃ pz wz : Nat → Nat, psx ps pz a294 ∧ (∀ x, ¬ x = a294 → pz x = ps x) ∧ pz a294 = 90 ∧ paI o293 G302 0 pz wz bs grp pr0 (ph + 0) := ⟨_, _, psx.ol (Nat.le_refl _), fun x hx => if_neg hx, ol_self, ppaI_0.ad90 0 hnpa294 (by omega) ha294 hn306 (by unfold pnB; omega) (Or.inl ⟨by omega, rfl⟩) (Or.inl rfl) (Or.inl rfl) (Or.inl rfl)⟩
      have popI_0 : opI o293 G302 0 ps306 k hi inn := opn_ps _ _ _ popI_0 (psx.lt hx306 (by omega))
      have hlf_ : leafp ps ps306 G302 a294 := leafp.mk hnf_ hnp9_ hxo306 hpa306 ha294 (by omega)
      have pszI_0 := (pszI_0.leaf hlf_).up (hi2 := a294) (by omega)
      have popI_0 := opn_up (hi2 := a294) popI_0 (by omega)
      have popI_0 : opI o293 G302 0 ps306 k a294 inn := popI_0
      refine ab_aret (rt := _) rfl (Or.inl ⟨_, rfl⟩) (Or.inr ⟨_, rfl⟩) d_RD_part_219 ?_
      rw [hQ]; exact (Or.inr ⟨_, _, _, _, _, _, _, _, _, _, _, _, _, _, _, _, _, _, _, _, _, _, _, (pl + 1), rfl, hfr, hd_, hx, hna, hnl, ppaI_0, popI_0, pcsI_se, pszI_0, (by omega), (by omega), (by omega), (by exact hnm), (by have hlt := ha294.lt; omega), (by exact hx306.lt (by omega)), (by omega), (by omega), (by omega), (by omega), (by omega), (by omega), (by omega), (by omega), (by exact hpa306)⟩)
    · refine zz_iconst d_RD_part_209 ?_
      refine ab_goto (tgt := 214) d_RD_part_210 (by decide) ?_
      refine zz_iconst d_RD_part_214 ?_
      refine zz_iconst d_RD_part_215 ?_
      refine ab_callI (d' := d - 1) (as := [vz 3, vz 2, vz 1, vz 1]) (st := [vR a294]) (z90_PA_init (o := o293) (a := a294) (k0 := 3) (v0 := 2) (s0 := 1) (m0 := 1) (ps := ps) (wt := wt) (bs := bs) (gr := grp) (Pr := pr0) (ph := ph) ha294 ppaI_0 (by omega) (by omega) (by omega) (by omega)) (fun oc G2 h => by rcases h with ⟨h, _⟩ <;> exact ⟨_, h⟩) (by omega) m_PA_init ml_RD_20 im_PA_init rfl (Nat.le_of_ble_eq_true rfl) d_RD_part_216 rfl ?_
      intro v G307 hq
      rcases hq with ⟨hv, hfk, hlk, hsk, hNa294, pNpaI_0, hq308⟩
      cases hv
      have hd_ := hfk.get hd_ (by decide)
      have hx := hfk.get hx (by decide)
      have hna := hfk.get hna (by decide)
      have hnl := hfk.get hnl (by decide)
      have hby_ := hfk.get hby_ (by decide)
      have h15 := hfk.get h15 (by decide)
      have h16 := hfk.get h16 (by decide)
      have popI_0 := popI_0.fz (o2 := o293) hq308 (by simp)
      have pcsI_se := csI.fr hfk pcsI_se (by decide) (by decide)
      have ptbI_0 := tbI.fr hfk ptbI_0  (by decide)
      have pszI_0 := pszI_0.fzk (o2 := o293) hq308
      have ppaI_0 := pNpaI_0
      have hfr := hfr.tr hfk (by decide)
      have hq309 := hlk
      have hq310 := hsk
      have ha294 := hNa294
      change ab_W _ _ _ G307 219 [some (vR d_), some (vz pl), none] [vR a294] _
      have hnf_ := ppaI_0.nref hnpa294
      have hnp9_ := hnpa294
      have hlt311 := ha294.lt
      have hn311 : paN grp pr0 3 2 (-1) := ⟨by omega, by intro _; omega, by intro _; omega, by intro _; omega, pr0_⟩
      obtain ⟨ps311, wt311, hx311, hxo311, hpa311, ppaI_0⟩ : ∃ pz wz : Nat → Nat, psx ps pz a294 ∧ (∀ x, ¬ x = a294 → pz x = ps x) ∧ pz a294 = 90 ∧ paI o293 G307 0 pz wz bs grp pr0 (ph + 0) := ⟨_, _, psx.ol (Nat.le_refl _), fun x hx => if_neg hx, ol_self, ppaI_0.ad90 0 hnpa294 (by omega) ha294 hn311 (by unfold pnB; omega) (Or.inl ⟨by omega, rfl⟩) (Or.inl rfl) (Or.inl rfl) (Or.inl rfl)⟩
      have popI_0 : opI o293 G307 0 ps311 k hi inn := opn_ps _ _ _ popI_0 (psx.lt hx311 (by omega))
      have hlf_ : leafp ps ps311 G307 a294 := leafp.mk hnf_ hnp9_ hxo311 hpa311 ha294 (by omega)
      have pszI_0 := (pszI_0.leaf hlf_).up (hi2 := a294) (by omega)
      have popI_0 := opn_up (hi2 := a294) popI_0 (by omega)
      have popI_0 : opI o293 G307 0 ps311 k a294 inn := popI_0
      refine ab_aret (rt := _) rfl (Or.inl ⟨_, rfl⟩) (Or.inr ⟨_, rfl⟩) d_RD_part_219 ?_
      rw [hQ]; exact (Or.inr ⟨_, _, _, _, _, _, _, _, _, _, _, _, _, _, _, _, _, _, _, _, _, _, _, (pl + 1), rfl, hfr, hd_, hx, hna, hnl, ppaI_0, popI_0, pcsI_se, pszI_0, (by omega), (by omega), (by omega), (by exact hnm), (by have hlt := ha294.lt; omega), (by exact hx311.lt (by omega)), (by omega), (by omega), (by omega), (by omega), (by omega), (by omega), (by omega), (by omega), (by exact hpa311)⟩)
  replace c288 : nzq v2 94 := c288
  by_cases c312 : v2 = 124
  · refine zz_lookup (off := 241) (tgt := 257) d_RD_part_16 (by decide) (by omega) (by rw [c312]; decide) (by decide) ?_
    refine ab_aload_n d_RD_part_257 rfl ?_
    refine ab_getf (fs := [vR x, inn, vz dp, vz flg, vz grp, vR na, vR nl, vz lst, vz mst, vz bh]) f_RD_12 d_RD_part_258 hd_.2.2 rfl ?_
    refine ab_dup d_RD_part_261 rfl ?_
    refine ab_getf (fs := [vR se, vR by_, vz n, vz pl, vz fa, vz fp, vR kd, vz kn]) f_RD_55 d_RD_part_262 hx.2.2 rfl ?_
    refine zz_iconst d_RD_part_265 ?_
    refine zz_iadd d_RD_part_266 ?_
    refine ab_putf (fs := [vR se, vR by_, vz n, vz pl, vz fa, vz fp, vR kd, vz kn]) f_RD_55 (Or.inl rfl) d_RD_part_267 hx.2.2 (Nat.le_of_ble_eq_true rfl) (fun _ => ⟨rfl, rfl⟩) (hx.2.1 (by decide)) ?_
    obtain ⟨G313, eG313⟩ : ∃ z : ab_G, z = List.set G x (ab_ob 10 [vR se, vR by_, vz n, vz (pl + 1), vz fa, vz fp, vR kd, vz kn]) := ⟨_, rfl⟩
    have hd_ := hd_.keep hx eG313 (by decide)
    have hna := hna.keep hx eG313 (by decide)
    have hnl := hnl.keep hx eG313 (by decide)
    have hby_ := hby_.keep hx eG313 (by decide)
    have h15 := h15.keep hx eG313 (by decide)
    have h16 := h16.keep hx eG313 (by decide)
    have hst := (fx.rf (o := o) (S := [24]) (G := G)).wr hx eG313 (List.mem_singleton.mpr rfl)
    have popI_0 := opI.fr hst ppaI_0 popI_0 (by decide) (by decide)
    have pcsI_se := csI.fr hst pcsI_se (by decide) (by decide)
    have ptbI_0 := tbI.fr hst ptbI_0  (by decide)
    have pszI_0 := szI.fr hst ppaI_0 pszI_0 (by decide) (by decide)
    have ppaI_0 := paI.fr hst ppaI_0 (by decide) (by decide) (by decide) (by decide)
    have hq314 := z_len eG313
    have hq315 := z_sl hx eG313 rfl
    have hfr := hfr.wr hx eG313 (by decide)
    have hx := hx.kept eG313
    change ab_W _ _ _ (List.set G x (ab_ob 10 [vR se, vR by_, vz n, vz (pl + 1), vz fa, vz fp, vR kd, vz kn])) 270 [some (vR d_), some (vz pl), none] [] _
    rw [← eG313]
    obtain ⟨j316, hj316⟩ : ∃ j, k = j + 1 := ⟨k - 1, by omega⟩
    rw [hj316] at popI_0
    obtain ⟨g316, r316, w316, lv316, hv316, ⟨hpg316, hpr316⟩, ⟨hgl316, hrl316⟩, hf6316, hf5316, hr6316, hlv316, hop316⟩ := popI_0
    subst hv316
    obtain ⟨k_317, v_317, rg_317, pl_317, fl_317, ou_317, ls_317, bf_317, sz_317, mb_317, oe_317, le_317, mo_317, la_317, rc_317, hg316, hn317, hb317, hg317, ho317, hl317, hf317⟩ := ppaI_0.1 g316 hpg316
    have hB317 := hb317
    unfold pnB at hB317
    have hK317 := hn317.1
    obtain ⟨ls318, bf318, sz318, mb318, hr316, hB318, hl318, hf318⟩ := ppaI_0.2.1 r316 hpr316
    have e6316 : some ls_317 = some (vR r316) := by have t := hf6316; unfold pf at t; rw [hg316.2.2] at t; exact t
    have e6316 := Option.some.inj e6316
    subst e6316
    have e5316 : some ou_317 = some w316 := by have t := hf5316; unfold pf at t; rw [hg316.2.2] at t; exact t
    have e5316 := Option.some.inj e5316
    subst e5316
    have e7316 : some ls318 = some lv316 := by have t := hr6316; unfold pf at t; rw [hr316.2.2] at t; exact t
    have e7316 := Option.some.inj e7316
    subst e7316
    have popI_0 : opI o G313 0 ps j316 g316 ou_317 := hop316
    have hnq316 : nq g316 r316 := hg316.ne hr316 (by decide)
    change ab_W _ _ _ G313 270 [some (vR d_), some (vz pl), none] [] _
    refine ab_aload_n d_RD_part_270 rfl ?_
    refine ab_getf (fs := [vR x, vR g316, vz dp, vz flg, vz grp, vR na, vR nl, vz lst, vz mst, vz bh]) f_RD_23 d_RD_part_271 hd_.2.2 rfl ?_
    refine ab_new (fs := [vz 0, vz 0, vN, vz 0, vz 0, vN, vN, vN, vz 0, vz 0, vz 0, vz 0, vz 0, vz 0, vz 0]) k_PA rfl cl_RD_18 inst_PA ini_PA d_RD_part_274 (by decide) (fun _ => rfl) (by omega) (by omega) ?_
    obtain ⟨G319, eG319⟩ : ∃ z : ab_G, z = G313 ++ [ab_ob 4 [vz 0, vz 0, vN, vz 0, vz 0, vN, vN, vN, vz 0, vz 0, vz 0, vz 0, vz 0, vz 0, vz 0]] := ⟨_, rfl⟩
    obtain ⟨o320, eo320⟩ : ∃ z : Nat → Nat, z = ol o G313.length 94 := ⟨_, rfl⟩
    obtain ⟨a321, ea321⟩ : ∃ z : Nat, z = G313.length := ⟨_, rfl⟩
    have hq322 := hr316.n0 (by first | decide | omega)
    have ne_a321_d_ : nq a321 d_ := by have hlt := hd_.lt; unfold nq; omega
    have ne_a321_x : nq a321 x := by have hlt := hx.lt; unfold nq; omega
    have ne_a321_na : nq a321 na := by have hlt := hna.lt; unfold nq; omega
    have ne_a321_nl : nq a321 nl := by have hlt := hnl.lt; unfold nq; omega
    have ne_a321_by_ : nq a321 by_ := by have hlt := hby_.lt; unfold nq; omega
    have ne_a321_15 : nq a321 15 := by have hlt := h15.lt; unfold nq; omega
    have ne_a321_16 : nq a321 16 := by have hlt := h16.lt; unfold nq; omega
    have ne_a321_g316 : nq a321 g316 := by have hlt := hg316.lt; unfold nq; omega
    have ne_a321_r316 : nq a321 r316 := by have hlt := hr316.lt; unfold nq; omega
    have hd_ := hd_.akeep (k := 94) eG319
    rw [← eo320] at hd_
    have hx := hx.akeep (k := 94) eG319
    rw [← eo320] at hx
    have hna := hna.akeep (k := 94) eG319
    rw [← eo320] at hna
    have hnl := hnl.akeep (k := 94) eG319
    rw [← eo320] at hnl
    have hby_ := hby_.akeep (k := 94) eG319
    rw [← eo320] at hby_
    have h15 := h15.akeep (k := 94) eG319
    rw [← eo320] at h15
    have h16 := h16.akeep (k := 94) eG319
    rw [← eo320] at h16
    have hg316 := hg316.akeep (k := 94) eG319
    rw [← eo320] at hg316
    have hr316 := hr316.akeep (k := 94) eG319
    rw [← eo320] at hr316
    have hst := (fx.rf (o := o) (S := []) (G := G313)).ap (k := 94) eG319
    rw [← eo320] at hst
    have hnpa321 := ppaI_0.new (a := a321) (by omega)
    have pcsI_se := csI.fr hst pcsI_se (by decide) (by decide)
    have ptbI_0 := tbI.fr hst ptbI_0  (by simp)
    have pszI_0 := szI.fr hst ppaI_0 pszI_0 (by decide) (by decide)
    have popI_0 := opI.fr hst ppaI_0 popI_0 (by decide) (by decide)
    have ppaI_0 := paI.fr hst ppaI_0 (by decide) (by decide) (by decide) (by simp)
    have ha321 := cc.anew (o := o) 94 eG319 hq322
    rw [← eo320, ← ea321] at ha321
    have hfr := hfr.ap (k := 94) eG319
    rw [← eo320] at hfr
    have hq323 := z_alen eG319
    have hq324 : ab_slots G319 = ab_slots G313 + 15 := z_asl eG319 hq322
    change ab_W _ _ _ (G313 ++ [ab_ob 4 [vz 0, vz 0, vN, vz 0, vz 0, vN, vN, vN, vz 0, vz 0, vz 0, vz 0, vz 0, vz 0, vz 0]]) 277 [some (vR d_), some (vz pl), none] [.ref G313.length, vR g316] _
    rw [← eG319, ← ea321]
    change ab_W _ _ _ G319 277 [some (vR d_), some (vz pl), none] [vR a321, vR g316] _
    refine ab_dup d_RD_part_277 rfl ?_
    refine zz_iconst d_RD_part_278 ?_
    refine zz_iconst d_RD_part_279 ?_
    refine zz_iconst d_RD_part_280 ?_
    refine zz_iconst d_RD_part_281 ?_
    refine ab_callI (d' := d - 1) (as := [vz 5, vz 0, vz 0, vz 1]) (st := [vR a321, vR g316]) (z94_PA_init (o := o320) (a := a321) (k0 := 5) (v0 := 0) (s0 := 0) (m0 := 1) (ps := ps) (wt := wt) (bs := bs) (gr := grp) (Pr := pr0) (ph := ph) ha321 ppaI_0 (by omega) (by omega) (by omega) (by omega)) (fun oc G2 h => by rcases h with ⟨h, _⟩ <;> exact ⟨_, h⟩) (by omega) m_PA_init ml_RD_20 im_PA_init rfl (Nat.le_of_ble_eq_true rfl) d_RD_part_282 rfl ?_
    intro v G325 hq
    rcases hq with ⟨hv, hfk, hlk, hsk, hNa321, pNpaI_0, hq326⟩
    cases hv
    have hd_ := hfk.get hd_ (by decide)
    have hx := hfk.get hx (by decide)
    have hna := hfk.get hna (by decide)
    have hnl := hfk.get hnl (by decide)
    have hby_ := hfk.get hby_ (by decide)
    have h15 := hfk.get h15 (by decide)
    have h16 := hfk.get h16 (by decide)
    have hg316 := hfk.get hg316 (by decide)
    have hKr316 := hq326.get hfk hr316 (Or.inr hpr316) (by simp only [List.mem_cons, List.not_mem_nil, or_false, not_or]; exact not_false)
    have hr316 := hKr316
    have pcsI_se := csI.fr hfk pcsI_se (by decide) (by decide)
    have ptbI_0 := tbI.fr hfk ptbI_0  (by decide)
    have pszI_0 := pszI_0.fzk (o2 := o320) hq326
    have popI_0 := popI_0.fz (o2 := o320) hq326 (by simp)
    have ppaI_0 := pNpaI_0
    have hfr := hfr.tr hfk (by decide)
    have hq327 := hlk
    have hq328 := hsk
    have ha321 := hNa321
    change ab_W _ _ _ G325 285 [some (vR d_), some (vz pl), none] [vR a321, vR g316] _
    have hnf_ := ppaI_0.nref hnpa321
    have hnp9_ := hnpa321
    have hsz9 := pszI_0
    have hg9 := hg316
    have hlt329 := ha321.lt
    obtain ⟨ps329, hx329, hxo329, hpa329, ppaI_0⟩ : ∃ pz : Nat → Nat, psx ps pz a321 ∧ (∀ x, ¬ x = a321 → pz x = ps x) ∧ pz a321 = 94 ∧ paI o320 G325 0 pz wt bs grp pr0 ph := ⟨_, psx.ol (Nat.le_refl _), fun x hx => if_neg hx, ol_self, ppaI_0.ad94 hnpa321 ha321 (by omega) (Or.inl rfl) (Or.inl rfl)⟩
    have hp330 : ps329 g316 = 90 := hx329.at (by have hlt := hg316.lt; omega) hpg316
    have hp331 : ps329 r316 = 94 := hx329.at (by have hlt := hr316.lt; omega) hpr316
    have hl332 := ho317.ps (by have hlt := hg316.lt; omega) hx329
    have hl333 := hl317.ps (by omega) hx329
    have hl334 := hf317.ps (by have hlt := hg316.lt; omega) hx329
    have hl335 := hl318.ps (by omega) hx329
    have hl336 := hf318.ps (by have hlt := hr316.lt; omega) hx329
    have hl337 := hlv316.ps (by omega) hx329
    have popI_0 : opI o320 G325 0 ps329 j316 g316 ou_317 := opn_ps _ _ _ popI_0 (psx.lt hx329 (by omega))
    have hfz : fz ps329 [g316, a321] G325 G325 := fz.rf
    refine ab_callV (d' := d - 1) (as := [vR a321]) (st := []) (r := _) (z90_PA_push (o := o320) (k := k_317) (v := v_317) (rg := rg_317) (pl := pl_317) (fl := fl_317) (ou := ou_317) (ls := vR r316) (bf := bf_317) (sz := sz_317) (mb := mb_317) (oe := oe_317) (le := le_317) (mo := mo_317) (la := la_317) (rc := rc_317) (lr := vN) (br := vN) (sr := 0) (mr := 1) (ps := ps329) (wt := wt) (bs := bs) (gr := grp) (Pr := pr0) (ph := ph) (r := a321) (p := g316) hg316 ha321 ppaI_0 (by omega) hp330 hpa329 hn317 (by omega) (by omega) (hl332.up (by omega)) (Or.inr ⟨_, rfl, hp331, by have hlt := hr316.lt; omega⟩) (hl334.up (by omega)) (Or.inl rfl) (Or.inl rfl) (Or.inr ⟨_, rfl, hp331, by have hlt := hr316.lt; omega⟩) (by omega)) (fun oc G2 h => by rcases h with ⟨h, _⟩ <;> exact ⟨_, h⟩) (by omega) m_PA_push ml_RD_48 im_PA_push se_PA_push c_PA hg316.2.2 (Nat.le_of_ble_eq_true rfl) d_RD_part_285 rfl ?_
    intro v G338 hq
    rcases hq with ⟨hv, hfk, hlk, hsk, hNg316, hNa321, pNpaI_0, hq339⟩
    cases hv
    have hd_ := hfk.get hd_ (by decide)
    have hx := hfk.get hx (by decide)
    have hna := hfk.get hna (by decide)
    have hnl := hfk.get hnl (by decide)
    have hby_ := hfk.get hby_ (by decide)
    have h15 := hfk.get h15 (by decide)
    have h16 := hfk.get h16 (by decide)
    have hKr316 := hq339.get hfk hr316 (Or.inr hp331) (by simp only [List.mem_cons, List.not_mem_nil, or_false, not_or]; exact ⟨(hr316.ne hg316 (by decide)), (nq.s ne_a321_r316)⟩)
    have hr316 := hKr316
    have hfz := hfz.tr hq339 (by simp)
    have pcsI_se := csI.fr hfk pcsI_se (by decide) (by decide)
    have ptbI_0 := tbI.fr hfk ptbI_0  (by decide)
    have popI_0 := popI_0.fz (o2 := o320) hq339 (by intro y hy; simp only [List.mem_cons, List.not_mem_nil, or_false] at hy; omega)
    have ppaI_0 := pNpaI_0
    have hfr := hfr.tr hfk (by decide)
    have hq340 := hlk
    have hq341 := hsk
    have hg316 := hNg316
    have ha321 := hNa321
    change ab_W _ _ _ G338 288 [some (vR d_), some (vz pl), none] [] _
    refine ab_null d_RD_part_288 ?_
    have popI_0 : opI o320 G338 0 ps329 (j316 + 1) G338.length (vR g316) := ⟨g316, a321, ou_317, (vN), rfl, ⟨hp330, hpa329⟩, ⟨by omega, by omega⟩, by unfold pf; rw [hg316.2.2]; rfl, by unfold pf; rw [hg316.2.2]; rfl, by unfold pf; rw [ha321.2.2]; rfl, (Or.inl rfl), popI_0⟩
    rw [← hj316] at popI_0
    have pszI_0 : szI o320 G338 0 ps329 k G338.length (vR g316) wh 0 := (szI.barC hj316 hsz9 hnf_ hnp9_ hpg316 hxo329 hpa329 hfz hg9 hg316 ha321 (by omega) (by omega)).up (by omega)
    refine ab_aret (rt := _) rfl (Or.inl ⟨_, rfl⟩) (Or.inl rfl) d_RD_part_289 ?_
    rw [hQ]; exact (Or.inl ⟨_, _, _, _, _, _, _, _, _, _, _, _, _, _, _, _, _, _, _, _, _, _, _, (pl + 1), rfl, hfr, hd_, hx, hna, hnl, ppaI_0, popI_0, pcsI_se, pszI_0, (by omega), (by omega), (by omega), (by exact hnm), (by omega), (by exact hx329.lt (by omega)), (by omega), (by omega), (by omega), (by omega), (by omega), (by omega), (by omega), (by omega)⟩)
  replace c312 : nzq v2 124 := c312
  refine zz_lookup (off := 274) (tgt := 290) d_RD_part_16 (by decide) (by omega) (by simp only [Op.lookupswitch.offset]; rw [if_neg (fun h => c5 h.symm)]; rw [if_neg (fun h => c29 h.symm)]; rw [if_neg (fun h => c58 h.symm)]; rw [if_neg (fun h => c91 h.symm)]; rw [if_neg (fun h => c131 h.symm)]; rw [if_neg (fun h => c190 h.symm)]; rw [if_neg (fun h => c288 h.symm)]; rw [if_neg (fun h => c312 h.symm)]) (by decide) ?_
  refine ab_aload_n d_RD_part_290 rfl ?_
  refine ab_callV (d' := d - 1) (as := []) (st := []) (r := _) (z_RD_isRepeat (o := o) (d_ := d_) (inn := inn) (dp := dp) (flg := flg) (grp := grp) (na := na) (nl := nl) (lst := lst) (mst := mst) (bh := bh) (x := x) (se := se) (by_ := by_) (m := m) (f := f) (n := n) (pl := pl) (fa := fa) (fp := fp) (kd := kd) (kn := kn) hd_ hx hby_ (by omega) hb (by omega) (by omega) (by omega)) (fun oc G2 h => by rcases h with ⟨_, _, _, h, _⟩ | ⟨_, _, _, h, _⟩ | ⟨_, _, _, h, _⟩ <;> exact ⟨_, h⟩) (by omega) m_RD_isRepeat ml_RD_119 im_RD_isRepeat se_RD_isRepeat c_RD hd_.2.2 (Nat.le_of_ble_eq_true rfl) d_RD_part_291 rfl ?_
  intro v G343 hq
  rcases hq with ⟨l2344, m2345, bh2346, hv, hfk, hlk, hsk, hNd_, hq347, hq348⟩ | ⟨l2349, m2350, bh2351, hv, hfk, hlk, hsk, hNd_, hq352, hq353⟩ | ⟨l2354, m2355, bh2356, hv, hfk, hlk, hsk, hNd_, hq357⟩
  · cases hv
    have hx := hfk.get hx (by decide)
    have hna := hfk.get hna (by decide)
    have hnl := hfk.get hnl (by decide)
    have hby_ := hfk.get hby_ (by decide)
    have h15 := hfk.get h15 (by decide)
    have h16 := hfk.get h16 (by decide)
    have popI_0 := opI.fr hfk ppaI_0 popI_0 (by decide) (by decide)
    have pcsI_se := csI.fr hfk pcsI_se (by decide) (by decide)
    have ptbI_0 := tbI.fr hfk ptbI_0  (by decide)
    have pszI_0 := szI.fr hfk ppaI_0 pszI_0 (by decide) (by decide)
    have ppaI_0 := paI.fr hfk ppaI_0 (by decide) (by decide) (by decide) (by decide)
    have hfr := hfr.tr hfk (by decide)
    have hq358 := hlk
    have hq359 := hsk
    have hd_ := hNd_
    change ab_W _ _ _ G343 294 [some (vR d_), some (vz pl), none] [vz 1] _
    refine zz_if_eq (tgt := 310) d_RD_part_294 (by decide) (by decide) (fun c364 => absurd c364 (by decide)) (fun c364 => ?_)
    refine ab_aload_n d_RD_part_297 rfl ?_
    refine ab_getf (fs := [vR x, inn, vz dp, vz flg, vz grp, vR na, vR nl, vz l2344, vz m2345, vz bh2346]) f_RD_12 d_RD_part_298 hd_.2.2 rfl ?_
    refine zz_bipush d_RD_part_301 (by decide) ?_
    refine ab_iload_n d_RD_part_303 rfl ?_
    refine ab_callV (d' := d - 1) (as := [vz 8, vz pl]) (st := []) (r := _) (z_TX_fail (o := o) (x := x) (lx := 24) (se := se) (by_ := by_) (n := n) (pl := pl) (fa := fa) (fp := fp) (kd := kd) (kn := kn) (w := 8) (p := pl) hx (by omega) (by omega) (by omega)) (fun oc G2 h => by rcases h with ⟨h, _⟩ | ⟨h, _⟩ <;> exact ⟨_, h⟩) (by omega) m_TX_fail ml_RD_69 im_TX_fail se_TX_fail c_TX hx.2.2 (Nat.le_of_ble_eq_true rfl) d_RD_part_304 rfl ?_
    intro v G365 hq
    rcases hq with ⟨hv, hfk, hlk, hsk, hNx, hq366⟩ | ⟨hv, hGe, hq367⟩
    · cases hv
      have hd_ := hfk.get hd_ (by decide)
      have hna := hfk.get hna (by decide)
      have hnl := hfk.get hnl (by decide)
      have hby_ := hfk.get hby_ (by decide)
      have h15 := hfk.get h15 (by decide)
      have h16 := hfk.get h16 (by decide)
      have popI_0 := opI.fr hfk ppaI_0 popI_0 (by decide) (by decide)
      have pcsI_se := csI.fr hfk pcsI_se (by decide) (by decide)
      have ptbI_0 := tbI.fr hfk ptbI_0  (by decide)
      have pszI_0 := szI.fr hfk ppaI_0 pszI_0 (by decide) (by decide)
      have ppaI_0 := paI.fr hfk ppaI_0 (by decide) (by decide) (by decide) (by decide)
      have hfr := hfr.tr hfk (by decide)
      have hq368 := hlk
      have hq369 := hsk
      have hx := hNx
      change ab_W _ _ _ G365 307 [some (vR d_), some (vz pl), none] [vz (-1)] _
      refine ab_pop d_RD_part_307 rfl ?_
      refine ab_null d_RD_part_308 ?_
      refine ab_aret (rt := _) rfl (Or.inl ⟨_, rfl⟩) (Or.inl rfl) d_RD_part_309 ?_
      rw [hQ]; exact (Or.inl ⟨_, _, _, _, _, _, _, _, _, _, _, _, _, _, _, _, _, _, _, _, _, _, _, pl, rfl, hfr, hd_, hx, hna, hnl, ppaI_0, popI_0, pcsI_se, pszI_0, (by omega), (by omega), (by omega), (by exact hnm), (by omega), (by exact psx.rf), (by omega), (by omega), (by omega), (by omega), (by omega), (by omega), (by omega), (by omega)⟩)
    · cases hv
      rw [hGe]
      change ab_W _ _ _ G343 307 [some (vR d_), some (vz pl), none] [vz (-1)] _
      exfalso; omega
  · cases hv
    have hx := hfk.get hx (by decide)
    have hna := hfk.get hna (by decide)
    have hnl := hfk.get hnl (by decide)
    have hby_ := hfk.get hby_ (by decide)
    have h15 := hfk.get h15 (by decide)
    have h16 := hfk.get h16 (by decide)
    have popI_0 := opI.fr hfk ppaI_0 popI_0 (by decide) (by decide)
    have pcsI_se := csI.fr hfk pcsI_se (by decide) (by decide)
    have ptbI_0 := tbI.fr hfk ptbI_0  (by decide)
    have pszI_0 := szI.fr hfk ppaI_0 pszI_0 (by decide) (by decide)
    have ppaI_0 := paI.fr hfk ppaI_0 (by decide) (by decide) (by decide) (by decide)
    have hfr := hfr.tr hfk (by decide)
    have hq360 := hlk
    have hq361 := hsk
    have hd_ := hNd_
    change ab_W _ _ _ G343 294 [some (vR d_), some (vz pl), none] [vz 1] _
    refine zz_if_eq (tgt := 310) d_RD_part_294 (by decide) (by decide) (fun c370 => absurd c370 (by decide)) (fun c370 => ?_)
    refine ab_aload_n d_RD_part_297 rfl ?_
    refine ab_getf (fs := [vR x, inn, vz dp, vz flg, vz grp, vR na, vR nl, vz l2349, vz m2350, vz bh2351]) f_RD_12 d_RD_part_298 hd_.2.2 rfl ?_
    refine zz_bipush d_RD_part_301 (by decide) ?_
    refine ab_iload_n d_RD_part_303 rfl ?_
    refine ab_callV (d' := d - 1) (as := [vz 8, vz pl]) (st := []) (r := _) (z_TX_fail (o := o) (x := x) (lx := 24) (se := se) (by_ := by_) (n := n) (pl := pl) (fa := fa) (fp := fp) (kd := kd) (kn := kn) (w := 8) (p := pl) hx (by omega) (by omega) (by omega)) (fun oc G2 h => by rcases h with ⟨h, _⟩ | ⟨h, _⟩ <;> exact ⟨_, h⟩) (by omega) m_TX_fail ml_RD_69 im_TX_fail se_TX_fail c_TX hx.2.2 (Nat.le_of_ble_eq_true rfl) d_RD_part_304 rfl ?_
    intro v G371 hq
    rcases hq with ⟨hv, hfk, hlk, hsk, hNx, hq372⟩ | ⟨hv, hGe, hq373⟩
    · cases hv
      have hd_ := hfk.get hd_ (by decide)
      have hna := hfk.get hna (by decide)
      have hnl := hfk.get hnl (by decide)
      have hby_ := hfk.get hby_ (by decide)
      have h15 := hfk.get h15 (by decide)
      have h16 := hfk.get h16 (by decide)
      have popI_0 := opI.fr hfk ppaI_0 popI_0 (by decide) (by decide)
      have pcsI_se := csI.fr hfk pcsI_se (by decide) (by decide)
      have ptbI_0 := tbI.fr hfk ptbI_0  (by decide)
      have pszI_0 := szI.fr hfk ppaI_0 pszI_0 (by decide) (by decide)
      have ppaI_0 := paI.fr hfk ppaI_0 (by decide) (by decide) (by decide) (by decide)
      have hfr := hfr.tr hfk (by decide)
      have hq374 := hlk
      have hq375 := hsk
      have hx := hNx
      change ab_W _ _ _ G371 307 [some (vR d_), some (vz pl), none] [vz (-1)] _
      refine ab_pop d_RD_part_307 rfl ?_
      refine ab_null d_RD_part_308 ?_
      refine ab_aret (rt := _) rfl (Or.inl ⟨_, rfl⟩) (Or.inl rfl) d_RD_part_309 ?_
      rw [hQ]; exact (Or.inl ⟨_, _, _, _, _, _, _, _, _, _, _, _, _, _, _, _, _, _, _, _, _, _, _, pl, rfl, hfr, hd_, hx, hna, hnl, ppaI_0, popI_0, pcsI_se, pszI_0, (by omega), (by omega), (by omega), (by exact hnm), (by omega), (by exact psx.rf), (by omega), (by omega), (by omega), (by omega), (by omega), (by omega), (by omega), (by omega)⟩)
    · cases hv
      rw [hGe]
      change ab_W _ _ _ G343 307 [some (vR d_), some (vz pl), none] [vz (-1)] _
      exfalso; omega
  · cases hv
    have hx := hfk.get hx (by decide)
    have hna := hfk.get hna (by decide)
    have hnl := hfk.get hnl (by decide)
    have hby_ := hfk.get hby_ (by decide)
    have h15 := hfk.get h15 (by decide)
    have h16 := hfk.get h16 (by decide)
    have popI_0 := opI.fr hfk ppaI_0 popI_0 (by decide) (by decide)
    have pcsI_se := csI.fr hfk pcsI_se (by decide) (by decide)
    have ptbI_0 := tbI.fr hfk ptbI_0  (by decide)
    have pszI_0 := szI.fr hfk ppaI_0 pszI_0 (by decide) (by decide)
    have ppaI_0 := paI.fr hfk ppaI_0 (by decide) (by decide) (by decide) (by decide)
    have hfr := hfr.tr hfk (by decide)
    have hq362 := hlk
    have hq363 := hsk
    have hd_ := hNd_
    change ab_W _ _ _ G343 294 [some (vR d_), some (vz pl), none] [vz 0] _
    refine zz_if_eq (tgt := 310) d_RD_part_294 (by decide) (by decide) (fun c376 => ?_) (fun c376 => absurd c376 (by decide))
    refine ab_aload_n d_RD_part_310 rfl ?_
    refine ab_aload_n d_RD_part_311 rfl ?_
    refine ab_getf (fs := [vR x, inn, vz dp, vz flg, vz grp, vR na, vR nl, vz l2354, vz m2355, vz bh2356]) f_RD_12 d_RD_part_312 hd_.2.2 rfl ?_
    refine ab_callV (d' := d - 1) (as := []) (st := [vR d_]) (r := _) (z_TX_character (o := o) (x := x) (lx := 24) (se := se) (by_ := by_) (lby := 23) (m := m) (f := f) (n := n) (pl := pl) (fa := fa) (fp := fp) (kd := kd) (kn := kn) hx hby_ (by omega) hb (by omega) (by omega) (by omega) (by omega)) (fun oc G2 h => by rcases h with ⟨h, _⟩ | ⟨_, _, h, _⟩ <;> exact ⟨_, h⟩) (by omega) m_TX_character ml_RD_123 im_TX_character se_TX_character c_TX hx.2.2 (Nat.le_of_ble_eq_true rfl) d_RD_part_315 rfl ?_
    intro v G377 hq
    rcases hq with ⟨hv, hfk, hlk, hsk, hNx, hq378⟩ | ⟨v379, p2380, hv, hfk, hlk, hsk, hNx, hq381, hq382, hq383, hq384⟩
    · cases hv
      have hd_ := hfk.get hd_ (by decide)
      have hna := hfk.get hna (by decide)
      have hnl := hfk.get hnl (by decide)
      have hby_ := hfk.get hby_ (by decide)
      have h15 := hfk.get h15 (by decide)
      have h16 := hfk.get h16 (by decide)
      have popI_0 := opI.fr hfk ppaI_0 popI_0 (by decide) (by decide)
      have pcsI_se := csI.fr hfk pcsI_se (by decide) (by decide)
      have ptbI_0 := tbI.fr hfk ptbI_0  (by decide)
      have pszI_0 := szI.fr hfk ppaI_0 pszI_0 (by decide) (by decide)
      have ppaI_0 := paI.fr hfk ppaI_0 (by decide) (by decide) (by decide) (by decide)
      have hfr := hfr.tr hfk (by decide)
      have hq385 := hlk
      have hq386 := hsk
      have hx := hNx
      change ab_W _ _ _ G377 318 [some (vR d_), some (vz pl), none] [vz (-1), vR d_] _
      refine ab_callV (d' := d - 1) (as := [vz (-1)]) (st := []) (r := _) (zN_RD_literal (o := o) (d_ := d_) ) (fun oc G2 h => by rcases h with ⟨h, _⟩ <;> exact ⟨_, h⟩) (by omega) m_RD_literal ml_RD_87 im_RD_literal se_RD_literal c_RD hd_.2.2 (Nat.le_of_ble_eq_true rfl) d_RD_part_318 rfl ?_
      intro v G389 hq
      rcases hq with ⟨hv, hGe⟩
      cases hv
      rw [hGe]
      change ab_W _ _ _ G377 321 [some (vR d_), some (vz pl), none] [vN] _
      refine ab_aret (rt := _) rfl (Or.inl ⟨_, rfl⟩) (Or.inl rfl) d_RD_part_321 ?_
      rw [hQ]; exact (Or.inl ⟨_, _, _, _, _, _, _, _, _, _, _, _, _, _, _, _, _, _, _, _, _, _, _, pl, rfl, hfr, hd_, hx, hna, hnl, ppaI_0, popI_0, pcsI_se, pszI_0, (by omega), (by omega), (by omega), (by exact hnm), (by omega), (by exact psx.rf), (by omega), (by omega), (by omega), (by omega), (by omega), (by omega), (by omega), (by omega)⟩)
    · cases hv
      have hd_ := hfk.get hd_ (by decide)
      have hna := hfk.get hna (by decide)
      have hnl := hfk.get hnl (by decide)
      have hby_ := hfk.get hby_ (by decide)
      have h15 := hfk.get h15 (by decide)
      have h16 := hfk.get h16 (by decide)
      have popI_0 := opI.fr hfk ppaI_0 popI_0 (by decide) (by decide)
      have pcsI_se := csI.fr hfk pcsI_se (by decide) (by decide)
      have ptbI_0 := tbI.fr hfk ptbI_0  (by decide)
      have pszI_0 := szI.fr hfk ppaI_0 pszI_0 (by decide) (by decide)
      have ppaI_0 := paI.fr hfk ppaI_0 (by decide) (by decide) (by decide) (by decide)
      have hfr := hfr.tr hfk (by decide)
      have hq387 := hlk
      have hq388 := hsk
      have hx := hNx
      change ab_W _ _ _ G377 318 [some (vR d_), some (vz pl), none] [vz v379, vR d_] _
      have hgp : ¬ cs_gap v379 := by rw [hq381]; exact u8_gap hb (by rw [← hq381]; omega)
      have hew : p2380 ≤ n := by have t := u8_w (p := pl) hb (by rw [← hq381]; omega); rw [← hq381] at t; omega
      refine ab_callV (d' := d - 1) (as := [vz v379]) (st := []) (r := _) (z_RD_literal (o := o) (d_ := d_) (inn := inn) (dp := dp) (flg := flg) (grp := grp) (na := na) (nl := nl) (lst := l2354) (mst := m2355) (bh := bh2356) (x := x) (se := se) (by_ := by_) (n := n) (pl := p2380) (fa := fa) (fp := fp) (kd := kd) (kn := kn) (nb := nb) (cnt := cnt) (P := P) (ps := ps) (wt := wt) (bs := bs) (gr := grp) (ph := ph) (c := v379) hd_ hx h15 h16 ppaI_0 pcsI_se (by omega) (by omega) (by omega) hgp (by omega) (by omega) (by omega) (by omega) (by omega)) (fun oc G2 h => by rcases h with ⟨_, _, _, _, _, _, _, _, h, _⟩ <;> exact ⟨_, h⟩) (by omega) m_RD_literal ml_RD_87 im_RD_literal se_RD_literal c_RD hd_.2.2 (Nat.le_of_ble_eq_true rfl) d_RD_part_318 rfl ?_
      intro v G390 hq
      rcases hq with ⟨o391, p392, ps2393, wt2394, ph2395, nb2396, c2397, P2398, hv, hfk, pNpaI_0, pNcsI_se, hq399, hq400, hq401, hq402, hq403, hq404, hq405, hq406, hq407⟩
      cases hv
      have hd_ := hfk.get hd_ (by decide)
      have hx := hfk.get hx (by decide)
      have hna := hfk.get hna (by decide)
      have hnl := hfk.get hnl (by decide)
      have hby_ := hfk.get hby_ (by decide)
      have h15 := hfk.get h15 (by decide)
      have h16 := hfk.get h16 (by decide)
      have popI_0 := popI_0.fz (o2 := o391) hq402 (by simp)
      have ptbI_0 := tbI.fr hfk ptbI_0  (by decide)
      have pszI_0 := pszI_0.fzk (o2 := o391) hq402
      have ppaI_0 := pNpaI_0
      have pcsI_se := pNcsI_se
      have hfr := hfr.tr hfk (by decide)
      have hq408 := hfk.1
      change ab_W _ _ _ G390 321 [some (vR d_), some (vz pl), none] [vR p392] _
      have popI_0 : opI o391 G390 0 ps2393 k hi inn := opn_ps _ _ _ popI_0 (psx.lt hq399 (by omega))
      have pszI_0 := (pszI_0.leaf hq407).up (hi2 := p392) (by omega)
      have popI_0 := opn_up (hi2 := p392) popI_0 (by omega)
      have popI_0 : opI o391 G390 0 ps2393 k p392 inn := popI_0
      refine ab_aret (rt := _) rfl (Or.inl ⟨_, rfl⟩) (Or.inr ⟨_, rfl⟩) d_RD_part_321 ?_
      rw [hQ]; exact (Or.inr ⟨_, _, _, _, _, _, _, _, _, _, _, _, _, _, _, _, _, _, _, _, _, _, _, p2380, rfl, hfr, hd_, hx, hna, hnl, ppaI_0, popI_0, pcsI_se, pszI_0, (by omega), (by omega), (by omega), (by exact hnm), (by omega), (by exact hq399.lt (by omega)), (by omega), (by omega), (by omega), (by omega), (by omega), (by omega), (by omega), (by omega), (by exact hq400)⟩)
