set_option maxRecDepth 100000 in
set_option maxHeartbeats 4000000 in
theorem z_RD_part {X : ab_X} {d : Nat} {o : Nat → Nat} {G : ab_G} {d_ : Nat} {inn : Value} {dp : Int} {flg : Int} {grp : Int} {na : Nat} {nl : Nat} {lst : Int} {mst : Int} {bh : Int} {NA : Int → Int} {NL : Int → Int} {x : Nat} {se : Nat} {by_ : Nat} {m : Nat} {f : Int → Int} {n : Int} {pl : Int} {fa : Int} {fp : Int} {kd : Nat} {kn : Int} {ps : Nat → Nat} {wt : Nat → Nat} {bs : Nat} {ph : Int} {k : Nat} {hi : Nat} {wh : Nat} {fr : List Fr} {nb : Nat} {cnt : Int} {P : Int → Prop} (hd_ : cc o G d_ 25 (ab_ob 6 [vR x, inn, vz dp, vz flg, vz grp, vR na, vR nl, vz lst, vz mst, vz bh])) (hx : cc o G x 24 (ab_ob 10 [vR se, vR by_, vz n, vz pl, vz fa, vz fp, vR kd, vz kn])) (hna : cc o G na 86 (za 10 NA)) (hnl : cc o G nl 87 (za 10 NL)) (hby_ : cc o G by_ 23 (za m f)) (h15 : cc o G 15 15 (za 18 zAR)) (h16 : cc o G 16 16 (za 20 zAF)) (ppaI_0 : paI o G 0 ps wt bs grp pr0 ph) (popI_0 : opI o G 0 ps k hi inn) (pcsI_se : csI o G se 88 89 nb cnt P) (ptbI_0 : tbI o G 0) (pszJ_0 : szJ o G 0 ps fr hi inn wh 0 0) (hkf : k = fr.length) (n18 : ab_n0 = 18) (cn_ : 0 ≤ n ∧ n ≤ ↑m ∧ m ≤ 2000) (hb : bytes f n) (cf : 0 ≤ flg ∧ flg ≤ 31) (cg : 0 ≤ grp ∧ grp ≤ 9) (ck : 0 ≤ dp ∧ dp ≤ 30 ∧ ↑k = dp + 1 ∧ hi ≤ G.length) (hnm : nmok NA NL grp n) (cbs : bs ≤ G.length ∧ 18 ≤ G.length) (ckd : 1 ≤ kd ∧ kd ≤ 12 ∧ 0 ≤ kn ∧ kn ≤ 1) (cfa : fa = 0) (cp : 0 ≤ pl ∧ pl < n) (hnb : nb ≤ 104000) (rc : G.length + 9000 ≤ ab_n0 + room_1.cells) (rs : ab_slots G + 430000 ≤ room_1.slots + 2 * nb) (hd : 11 ≤ d) : ab_F X d y_RD_part (.code y_RD_part b_RD_part 3 (some (.object "PatternWorks$Part"))) [vR d_] G (fun oc G2 => (∃ o2 : Nat → Nat, ∃ inn2 : Value, ∃ dp2 : Int, ∃ flg2 : Int, ∃ grp2 : Int, ∃ NA2 : Int → Int, ∃ NL2 : Int → Int, ∃ lst2 : Int, ∃ mst2 : Int, ∃ bh2 : Int, ∃ p2 : Int, ∃ fa2 : Int, ∃ fp2 : Int, ∃ kd2 : Nat, ∃ kn2 : Int, ∃ k2 : Nat, ∃ hi2 : Nat, ∃ ps2 : Nat → Nat, ∃ wt2 : Nat → Nat, ∃ ph2 : Int, ∃ nb2 : Nat, ∃ c2 : Int, ∃ P2 : Int → Prop, ∃ q2 : Int, ∃ fr2 : List Fr, oc = .returned (some (vN)) ∧ fx o o2 [24, 25, 86, 87, 88, 89, 90, 92, 94] G G2 ∧ cc o2 G2 d_ 25 (ab_ob 6 [vR x, inn2, vz dp2, vz flg2, vz grp2, vR na, vR nl, vz lst2, vz mst2, vz bh2]) ∧ cc o2 G2 x 24 (ab_ob 10 [vR se, vR by_, vz n, vz p2, vz fa2, vz fp2, vR kd2, vz kn2]) ∧ cc o2 G2 na 86 (za 10 NA2) ∧ cc o2 G2 nl 87 (za 10 NL2) ∧ paI o2 G2 0 ps2 wt2 bs grp2 pr0 ph2 ∧ opI o2 G2 0 ps2 k2 hi2 inn2 ∧ csI o2 G2 se 88 89 nb2 c2 P2 ∧ szJ o2 G2 0 ps2 fr2 hi2 inn2 wh 0 0 ∧ (0 ≤ flg2 ∧ flg2 ≤ 31) ∧ (0 ≤ grp2 ∧ grp2 ≤ 9) ∧ (0 ≤ dp2 ∧ dp2 ≤ 30 ∧ ↑k2 = dp2 + 1) ∧ (nmok NA2 NL2 grp2 n) ∧ (hi2 ≤ G2.length) ∧ (psx ps ps2 G.length) ∧ (0 ≤ fa2 ∧ fa2 ≤ 14) ∧ (1 ≤ kd2 ∧ kd2 ≤ 12 ∧ 0 ≤ kn2 ∧ kn2 ≤ 1) ∧ (0 ≤ p2 ∧ p2 ≤ 8000) ∧ (pl ≤ q2 ∧ q2 ≤ n ∧ q2 ≤ p2) ∧ (nb2 ≤ 104000) ∧ (ph2 ≤ ph + 25 * (q2 - pl)) ∧ (64 * G2.length + nb ≤ 64 * G.length + nb2 + 400) ∧ ((↑(ab_slots G2) : Int) + 2 * ↑nb ≤ ↑(ab_slots G) + 2 * ↑nb2 + 100 * (q2 - pl)) ∧ (k2 = fr2.length) ∧ (1 ≤ fa2) ∧ (ptF f n pl flg grp NA NL fr fa2 fp2 ∨ strF f n pl fa2 fp2)) ∨ (∃ o2 : Nat → Nat, ∃ inn2 : Value, ∃ dp2 : Int, ∃ flg2 : Int, ∃ grp2 : Int, ∃ NA2 : Int → Int, ∃ NL2 : Int → Int, ∃ lst2 : Int, ∃ mst2 : Int, ∃ bh2 : Int, ∃ p2 : Int, ∃ fa2 : Int, ∃ fp2 : Int, ∃ kd2 : Nat, ∃ kn2 : Int, ∃ k2 : Nat, ∃ hi2 : Nat, ∃ ps2 : Nat → Nat, ∃ wt2 : Nat → Nat, ∃ ph2 : Int, ∃ nb2 : Nat, ∃ c2 : Int, ∃ P2 : Int → Prop, ∃ q2 : Int, ∃ fr2 : List Fr, oc = .returned (some (vN)) ∧ fx o o2 [24, 25, 86, 87, 88, 89, 90, 92, 94] G G2 ∧ cc o2 G2 d_ 25 (ab_ob 6 [vR x, inn2, vz dp2, vz flg2, vz grp2, vR na, vR nl, vz lst2, vz mst2, vz bh2]) ∧ cc o2 G2 x 24 (ab_ob 10 [vR se, vR by_, vz n, vz p2, vz fa2, vz fp2, vR kd2, vz kn2]) ∧ cc o2 G2 na 86 (za 10 NA2) ∧ cc o2 G2 nl 87 (za 10 NL2) ∧ paI o2 G2 0 ps2 wt2 bs grp2 pr0 ph2 ∧ opI o2 G2 0 ps2 k2 hi2 inn2 ∧ csI o2 G2 se 88 89 nb2 c2 P2 ∧ szJ o2 G2 0 ps2 fr2 hi2 inn2 wh 0 0 ∧ (0 ≤ flg2 ∧ flg2 ≤ 31) ∧ (0 ≤ grp2 ∧ grp2 ≤ 9) ∧ (0 ≤ dp2 ∧ dp2 ≤ 30 ∧ ↑k2 = dp2 + 1) ∧ (nmok NA2 NL2 grp2 n) ∧ (hi2 ≤ G2.length) ∧ (psx ps ps2 G.length) ∧ (0 ≤ fa2 ∧ fa2 ≤ 14) ∧ (1 ≤ kd2 ∧ kd2 ≤ 12 ∧ 0 ≤ kn2 ∧ kn2 ≤ 1) ∧ (0 ≤ p2 ∧ p2 ≤ 8000) ∧ (pl ≤ q2 ∧ q2 ≤ n ∧ q2 ≤ p2) ∧ (nb2 ≤ 104000) ∧ (ph2 ≤ ph + 25 * (q2 - pl)) ∧ (64 * G2.length + nb ≤ 64 * G.length + nb2 + 400) ∧ ((↑(ab_slots G2) : Int) + 2 * ↑nb ≤ ↑(ab_slots G) + 2 * ↑nb2 + 100 * (q2 - pl)) ∧ (k2 = fr2.length) ∧ (fa2 = 0) ∧ (ptN f n pl flg grp NA NL fr p2 flg2 grp2 NA2 NL2 fr2) ∧ (pl < p2 ∧ p2 ≤ n)) ∨ (∃ o2 : Nat → Nat, ∃ p : Nat, ∃ inn2 : Value, ∃ dp2 : Int, ∃ flg2 : Int, ∃ grp2 : Int, ∃ NA2 : Int → Int, ∃ NL2 : Int → Int, ∃ lst2 : Int, ∃ mst2 : Int, ∃ bh2 : Int, ∃ p2 : Int, ∃ fa2 : Int, ∃ fp2 : Int, ∃ kd2 : Nat, ∃ kn2 : Int, ∃ k2 : Nat, ∃ ps2 : Nat → Nat, ∃ wt2 : Nat → Nat, ∃ ph2 : Int, ∃ nb2 : Nat, ∃ c2 : Int, ∃ P2 : Int → Prop, ∃ q2 : Int, ∃ fr2 : List Fr, ∃ psz2 : Int, oc = .returned (some (vR p)) ∧ fx o o2 [24, 25, 86, 87, 88, 89, 90, 92, 94] G G2 ∧ cc o2 G2 d_ 25 (ab_ob 6 [vR x, inn2, vz dp2, vz flg2, vz grp2, vR na, vR nl, vz lst2, vz mst2, vz bh2]) ∧ cc o2 G2 x 24 (ab_ob 10 [vR se, vR by_, vz n, vz p2, vz fa2, vz fp2, vR kd2, vz kn2]) ∧ cc o2 G2 na 86 (za 10 NA2) ∧ cc o2 G2 nl 87 (za 10 NL2) ∧ paI o2 G2 0 ps2 wt2 bs grp2 pr0 ph2 ∧ opI o2 G2 0 ps2 k2 p inn2 ∧ csI o2 G2 se 88 89 nb2 c2 P2 ∧ szJ o2 G2 0 ps2 fr2 p inn2 wh p psz2 ∧ (0 ≤ flg2 ∧ flg2 ≤ 31) ∧ (0 ≤ grp2 ∧ grp2 ≤ 9) ∧ (0 ≤ dp2 ∧ dp2 ≤ 30 ∧ ↑k2 = dp2 + 1) ∧ (nmok NA2 NL2 grp2 n) ∧ (p < G2.length) ∧ (psx ps ps2 G.length) ∧ (0 ≤ fa2 ∧ fa2 ≤ 14) ∧ (1 ≤ kd2 ∧ kd2 ≤ 12 ∧ 0 ≤ kn2 ∧ kn2 ≤ 1) ∧ (0 ≤ p2 ∧ p2 ≤ 8000) ∧ (pl ≤ q2 ∧ q2 ≤ n ∧ q2 ≤ p2) ∧ (nb2 ≤ 104000) ∧ (ph2 ≤ ph + 25 * (q2 - pl)) ∧ (64 * G2.length + nb ≤ 64 * G.length + nb2 + 400) ∧ ((↑(ab_slots G2) : Int) + 2 * ↑nb ≤ ↑(ab_slots G) + 2 * ↑nb2 + 100 * (q2 - pl)) ∧ (ps2 p = 90) ∧ (k2 = fr2.length) ∧ (fa2 = 0) ∧ (ptP f n pl flg fr p2 flg2 fr2 psz2) ∧ (grp2 = grp ∧ NA2 = NA ∧ NL2 = NL) ∧ (pl < p2 ∧ p2 ≤ n))) := by
  refine ab_F_of (by decide +kernel) (Nat.le_of_ble_eq_true rfl) ?_
  obtain ⟨Q, hQ⟩ : ∃ z : Outcome → ab_G → Prop, z = (fun oc G2 => (∃ o2 : Nat → Nat, ∃ inn2 : Value, ∃ dp2 : Int, ∃ flg2 : Int, ∃ grp2 : Int, ∃ NA2 : Int → Int, ∃ NL2 : Int → Int, ∃ lst2 : Int, ∃ mst2 : Int, ∃ bh2 : Int, ∃ p2 : Int, ∃ fa2 : Int, ∃ fp2 : Int, ∃ kd2 : Nat, ∃ kn2 : Int, ∃ k2 : Nat, ∃ hi2 : Nat, ∃ ps2 : Nat → Nat, ∃ wt2 : Nat → Nat, ∃ ph2 : Int, ∃ nb2 : Nat, ∃ c2 : Int, ∃ P2 : Int → Prop, ∃ q2 : Int, ∃ fr2 : List Fr, oc = .returned (some (vN)) ∧ fx o o2 [24, 25, 86, 87, 88, 89, 90, 92, 94] G G2 ∧ cc o2 G2 d_ 25 (ab_ob 6 [vR x, inn2, vz dp2, vz flg2, vz grp2, vR na, vR nl, vz lst2, vz mst2, vz bh2]) ∧ cc o2 G2 x 24 (ab_ob 10 [vR se, vR by_, vz n, vz p2, vz fa2, vz fp2, vR kd2, vz kn2]) ∧ cc o2 G2 na 86 (za 10 NA2) ∧ cc o2 G2 nl 87 (za 10 NL2) ∧ paI o2 G2 0 ps2 wt2 bs grp2 pr0 ph2 ∧ opI o2 G2 0 ps2 k2 hi2 inn2 ∧ csI o2 G2 se 88 89 nb2 c2 P2 ∧ szJ o2 G2 0 ps2 fr2 hi2 inn2 wh 0 0 ∧ (0 ≤ flg2 ∧ flg2 ≤ 31) ∧ (0 ≤ grp2 ∧ grp2 ≤ 9) ∧ (0 ≤ dp2 ∧ dp2 ≤ 30 ∧ ↑k2 = dp2 + 1) ∧ (nmok NA2 NL2 grp2 n) ∧ (hi2 ≤ G2.length) ∧ (psx ps ps2 G.length) ∧ (0 ≤ fa2 ∧ fa2 ≤ 14) ∧ (1 ≤ kd2 ∧ kd2 ≤ 12 ∧ 0 ≤ kn2 ∧ kn2 ≤ 1) ∧ (0 ≤ p2 ∧ p2 ≤ 8000) ∧ (pl ≤ q2 ∧ q2 ≤ n ∧ q2 ≤ p2) ∧ (nb2 ≤ 104000) ∧ (ph2 ≤ ph + 25 * (q2 - pl)) ∧ (64 * G2.length + nb ≤ 64 * G.length + nb2 + 400) ∧ ((↑(ab_slots G2) : Int) + 2 * ↑nb ≤ ↑(ab_slots G) + 2 * ↑nb2 + 100 * (q2 - pl)) ∧ (k2 = fr2.length) ∧ (1 ≤ fa2) ∧ (ptF f n pl flg grp NA NL fr fa2 fp2 ∨ strF f n pl fa2 fp2)) ∨ (∃ o2 : Nat → Nat, ∃ inn2 : Value, ∃ dp2 : Int, ∃ flg2 : Int, ∃ grp2 : Int, ∃ NA2 : Int → Int, ∃ NL2 : Int → Int, ∃ lst2 : Int, ∃ mst2 : Int, ∃ bh2 : Int, ∃ p2 : Int, ∃ fa2 : Int, ∃ fp2 : Int, ∃ kd2 : Nat, ∃ kn2 : Int, ∃ k2 : Nat, ∃ hi2 : Nat, ∃ ps2 : Nat → Nat, ∃ wt2 : Nat → Nat, ∃ ph2 : Int, ∃ nb2 : Nat, ∃ c2 : Int, ∃ P2 : Int → Prop, ∃ q2 : Int, ∃ fr2 : List Fr, oc = .returned (some (vN)) ∧ fx o o2 [24, 25, 86, 87, 88, 89, 90, 92, 94] G G2 ∧ cc o2 G2 d_ 25 (ab_ob 6 [vR x, inn2, vz dp2, vz flg2, vz grp2, vR na, vR nl, vz lst2, vz mst2, vz bh2]) ∧ cc o2 G2 x 24 (ab_ob 10 [vR se, vR by_, vz n, vz p2, vz fa2, vz fp2, vR kd2, vz kn2]) ∧ cc o2 G2 na 86 (za 10 NA2) ∧ cc o2 G2 nl 87 (za 10 NL2) ∧ paI o2 G2 0 ps2 wt2 bs grp2 pr0 ph2 ∧ opI o2 G2 0 ps2 k2 hi2 inn2 ∧ csI o2 G2 se 88 89 nb2 c2 P2 ∧ szJ o2 G2 0 ps2 fr2 hi2 inn2 wh 0 0 ∧ (0 ≤ flg2 ∧ flg2 ≤ 31) ∧ (0 ≤ grp2 ∧ grp2 ≤ 9) ∧ (0 ≤ dp2 ∧ dp2 ≤ 30 ∧ ↑k2 = dp2 + 1) ∧ (nmok NA2 NL2 grp2 n) ∧ (hi2 ≤ G2.length) ∧ (psx ps ps2 G.length) ∧ (0 ≤ fa2 ∧ fa2 ≤ 14) ∧ (1 ≤ kd2 ∧ kd2 ≤ 12 ∧ 0 ≤ kn2 ∧ kn2 ≤ 1) ∧ (0 ≤ p2 ∧ p2 ≤ 8000) ∧ (pl ≤ q2 ∧ q2 ≤ n ∧ q2 ≤ p2) ∧ (nb2 ≤ 104000) ∧ (ph2 ≤ ph + 25 * (q2 - pl)) ∧ (64 * G2.length + nb ≤ 64 * G.length + nb2 + 400) ∧ ((↑(ab_slots G2) : Int) + 2 * ↑nb ≤ ↑(ab_slots G) + 2 * ↑nb2 + 100 * (q2 - pl)) ∧ (k2 = fr2.length) ∧ (fa2 = 0) ∧ (ptN f n pl flg grp NA NL fr p2 flg2 grp2 NA2 NL2 fr2) ∧ (pl < p2 ∧ p2 ≤ n)) ∨ (∃ o2 : Nat → Nat, ∃ p : Nat, ∃ inn2 : Value, ∃ dp2 : Int, ∃ flg2 : Int, ∃ grp2 : Int, ∃ NA2 : Int → Int, ∃ NL2 : Int → Int, ∃ lst2 : Int, ∃ mst2 : Int, ∃ bh2 : Int, ∃ p2 : Int, ∃ fa2 : Int, ∃ fp2 : Int, ∃ kd2 : Nat, ∃ kn2 : Int, ∃ k2 : Nat, ∃ ps2 : Nat → Nat, ∃ wt2 : Nat → Nat, ∃ ph2 : Int, ∃ nb2 : Nat, ∃ c2 : Int, ∃ P2 : Int → Prop, ∃ q2 : Int, ∃ fr2 : List Fr, ∃ psz2 : Int, oc = .returned (some (vR p)) ∧ fx o o2 [24, 25, 86, 87, 88, 89, 90, 92, 94] G G2 ∧ cc o2 G2 d_ 25 (ab_ob 6 [vR x, inn2, vz dp2, vz flg2, vz grp2, vR na, vR nl, vz lst2, vz mst2, vz bh2]) ∧ cc o2 G2 x 24 (ab_ob 10 [vR se, vR by_, vz n, vz p2, vz fa2, vz fp2, vR kd2, vz kn2]) ∧ cc o2 G2 na 86 (za 10 NA2) ∧ cc o2 G2 nl 87 (za 10 NL2) ∧ paI o2 G2 0 ps2 wt2 bs grp2 pr0 ph2 ∧ opI o2 G2 0 ps2 k2 p inn2 ∧ csI o2 G2 se 88 89 nb2 c2 P2 ∧ szJ o2 G2 0 ps2 fr2 p inn2 wh p psz2 ∧ (0 ≤ flg2 ∧ flg2 ≤ 31) ∧ (0 ≤ grp2 ∧ grp2 ≤ 9) ∧ (0 ≤ dp2 ∧ dp2 ≤ 30 ∧ ↑k2 = dp2 + 1) ∧ (nmok NA2 NL2 grp2 n) ∧ (p < G2.length) ∧ (psx ps ps2 G.length) ∧ (0 ≤ fa2 ∧ fa2 ≤ 14) ∧ (1 ≤ kd2 ∧ kd2 ≤ 12 ∧ 0 ≤ kn2 ∧ kn2 ≤ 1) ∧ (0 ≤ p2 ∧ p2 ≤ 8000) ∧ (pl ≤ q2 ∧ q2 ≤ n ∧ q2 ≤ p2) ∧ (nb2 ≤ 104000) ∧ (ph2 ≤ ph + 25 * (q2 - pl)) ∧ (64 * G2.length + nb ≤ 64 * G.length + nb2 + 400) ∧ ((↑(ab_slots G2) : Int) + 2 * ↑nb ≤ ↑(ab_slots G) + 2 * ↑nb2 + 100 * (q2 - pl)) ∧ (ps2 p = 90) ∧ (k2 = fr2.length) ∧ (fa2 = 0) ∧ (ptP f n pl flg fr p2 flg2 fr2 psz2) ∧ (grp2 = grp ∧ NA2 = NA ∧ NL2 = NL) ∧ (pl < p2 ∧ p2 ≤ n))) := ⟨_, rfl⟩
  rw [← hQ]
  change ab_W X (ab_pl y_RD_part b_RD_part 3 (some (.object "PatternWorks$Part"))) d G 0 [some (vR d_), none, none] [] Q
  have hfr : fx o o [24, 25, 86, 87, 88, 89, 90, 92, 94] G G := fx.rf
  refine ab_aload_n d_RD_part_0 rfl ?_
  refine ab_getf (fs := [vR x, inn, vz dp, vz flg, vz grp, vR na, vR nl, vz lst, vz mst, vz bh]) f_RD_12 d_RD_part_1 hd_.2.2 rfl ?_
  refine ab_getf (fs := [vR se, vR by_, vz n, vz pl, vz fa, vz fp, vR kd, vz kn]) f_RD_55 d_RD_part_4 hx.2.2 rfl ?_
  refine ab_istore_n d_RD_part_7 (Nat.le_of_ble_eq_true rfl) (Nat.le_of_ble_eq_true rfl) rfl ?_
  change ab_W _ _ _ G 8 [some (vR d_), some (vz pl), none] [] _
  refine ab_aload_n d_RD_part_8 rfl ?_
  refine ab_getf (fs := [vR x, inn, vz dp, vz flg, vz grp, vR na, vR nl, vz lst, vz mst, vz bh]) f_RD_12 d_RD_part_9 hd_.2.2 rfl ?_
  refine zz_iconst d_RD_part_12 ?_
  refine ab_callV (d' := d - 1) (as := [vz 0]) (st := []) (r := _) (z_TX_peek0 (o := o) (x := x) (lx := 24) (se := se) (by_ := by_) (lby := 23) (m := m) (f := f) (n := n) (pl := pl) (fa := fa) (fp := fp) (kd := kd) (kn := kn) hx hby_ (by omega) hb) (fun oc G2 h => by rcases h with ⟨_, h, _⟩ <;> exact ⟨_, h⟩) (by omega) m_TX_peek ml_RD_79 im_TX_peek se_TX_peek c_TX hx.2.2 (Nat.le_of_ble_eq_true rfl) d_RD_part_13 rfl ?_
  intro v G1 hq
  rcases hq with ⟨v2, hv, hGe, hq3, hq4⟩
  cases hv
  rw [hGe]
  change ab_W _ _ _ G 16 [some (vR d_), some (vz pl), none] [vz v2] _
  by_cases c5 : v2 = 36
  · refine zz_lookup (off := 204) (tgt := 220) d_RD_part_16 (by decide) (by omega) (by rw [c5]; decide) (by decide) ?_
    refine ab_aload_n d_RD_part_220 rfl ?_
    refine ab_getf (fs := [vR x, inn, vz dp, vz flg, vz grp, vR na, vR nl, vz lst, vz mst, vz bh]) f_RD_12 d_RD_part_221 hd_.2.2 rfl ?_
    refine ab_dup d_RD_part_224 rfl ?_
    refine ab_getf (fs := [vR se, vR by_, vz n, vz pl, vz fa, vz fp, vR kd, vz kn]) f_RD_55 d_RD_part_225 hx.2.2 rfl ?_
    refine zz_iconst d_RD_part_228 ?_
    refine zz_iadd d_RD_part_229 ?_
    refine ab_putf (fs := [vR se, vR by_, vz n, vz pl, vz fa, vz fp, vR kd, vz kn]) f_RD_55 (Or.inl rfl) d_RD_part_230 hx.2.2 (Nat.le_of_ble_eq_true rfl) (fun _ => ⟨rfl, rfl⟩) (hx.2.1 (by decide)) ?_
    obtain ⟨G6, eG6⟩ : ∃ z : ab_G, z = List.set G x (ab_ob 10 [vR se, vR by_, vz n, vz (pl + 1), vz fa, vz fp, vR kd, vz kn]) := ⟨_, rfl⟩
    have hd_ := hd_.keep hx eG6 (by decide)
    have hna := hna.keep hx eG6 (by decide)
    have hnl := hnl.keep hx eG6 (by decide)
    have hby_ := hby_.keep hx eG6 (by decide)
    have h15 := h15.keep hx eG6 (by decide)
    have h16 := h16.keep hx eG6 (by decide)
    have hst := (fx.rf (o := o) (S := [24]) (G := G)).wr hx eG6 (List.mem_singleton.mpr rfl)
    have popI_0 := opI.fr hst ppaI_0 popI_0 (by decide) (by decide)
    have pcsI_se := csI.fr hst pcsI_se (by decide) (by decide)
    have ptbI_0 := tbI.fr hst ptbI_0  (by decide)
    have pszJ_0 := szJ.fr hst ppaI_0 pszJ_0 (by decide) (by decide)
    have ppaI_0 := paI.fr hst ppaI_0 (by decide) (by decide) (by decide) (by decide)
    have hq7 := z_len eG6
    have hq8 := z_sl hx eG6 rfl
    have hfr := hfr.wr hx eG6 (by decide)
    have hx := hx.kept eG6
    change ab_W _ _ _ (List.set G x (ab_ob 10 [vR se, vR by_, vz n, vz (pl + 1), vz fa, vz fp, vR kd, vz kn])) 233 [some (vR d_), some (vz pl), none] [] _
    rw [← eG6]
    refine ab_new (fs := [vz 0, vz 0, vN, vz 0, vz 0, vN, vN, vN, vz 0, vz 0, vz 0, vz 0, vz 0, vz 0, vz 0]) k_PA rfl cl_RD_18 inst_PA ini_PA d_RD_part_233 (by decide) (fun _ => rfl) (by omega) (by omega) ?_
    obtain ⟨G9, eG9⟩ : ∃ z : ab_G, z = G6 ++ [ab_ob 4 [vz 0, vz 0, vN, vz 0, vz 0, vN, vN, vN, vz 0, vz 0, vz 0, vz 0, vz 0, vz 0, vz 0]] := ⟨_, rfl⟩
    obtain ⟨o10, eo10⟩ : ∃ z : Nat → Nat, z = ol o G6.length 90 := ⟨_, rfl⟩
    obtain ⟨a11, ea11⟩ : ∃ z : Nat, z = G6.length := ⟨_, rfl⟩
    have hq12 := hby_.n0 (by first | decide | omega)
    have ne_a11_d_ : nq a11 d_ := by have hlt := hd_.lt; unfold nq; omega
    have ne_a11_x : nq a11 x := by have hlt := hx.lt; unfold nq; omega
    have ne_a11_na : nq a11 na := by have hlt := hna.lt; unfold nq; omega
    have ne_a11_nl : nq a11 nl := by have hlt := hnl.lt; unfold nq; omega
    have ne_a11_by_ : nq a11 by_ := by have hlt := hby_.lt; unfold nq; omega
    have ne_a11_15 : nq a11 15 := by have hlt := h15.lt; unfold nq; omega
    have ne_a11_16 : nq a11 16 := by have hlt := h16.lt; unfold nq; omega
    have hd_ := hd_.akeep (k := 90) eG9
    rw [← eo10] at hd_
    have hx := hx.akeep (k := 90) eG9
    rw [← eo10] at hx
    have hna := hna.akeep (k := 90) eG9
    rw [← eo10] at hna
    have hnl := hnl.akeep (k := 90) eG9
    rw [← eo10] at hnl
    have hby_ := hby_.akeep (k := 90) eG9
    rw [← eo10] at hby_
    have h15 := h15.akeep (k := 90) eG9
    rw [← eo10] at h15
    have h16 := h16.akeep (k := 90) eG9
    rw [← eo10] at h16
    have hst := (fx.rf (o := o) (S := []) (G := G6)).ap (k := 90) eG9
    rw [← eo10] at hst
    have hnpa11 := ppaI_0.new (a := a11) (by omega)
    have popI_0 := opI.fr hst ppaI_0 popI_0 (by decide) (by decide)
    have pcsI_se := csI.fr hst pcsI_se (by decide) (by decide)
    have ptbI_0 := tbI.fr hst ptbI_0  (by simp)
    have pszJ_0 := szJ.fr hst ppaI_0 pszJ_0 (by decide) (by decide)
    have ppaI_0 := paI.fr hst ppaI_0 (by decide) (by decide) (by decide) (by simp)
    have ha11 := cc.anew (o := o) 90 eG9 hq12
    rw [← eo10, ← ea11] at ha11
    have hfr := hfr.ap (k := 90) eG9
    rw [← eo10] at hfr
    have hq13 := z_alen eG9
    have hq14 : ab_slots G9 = ab_slots G6 + 15 := z_asl eG9 hq12
    change ab_W _ _ _ (G6 ++ [ab_ob 4 [vz 0, vz 0, vN, vz 0, vz 0, vN, vN, vN, vz 0, vz 0, vz 0, vz 0, vz 0, vz 0, vz 0]]) 236 [some (vR d_), some (vz pl), none] [.ref G6.length] _
    rw [← eG9, ← ea11]
    change ab_W _ _ _ G9 236 [some (vR d_), some (vz pl), none] [vR a11] _
    refine ab_dup d_RD_part_236 rfl ?_
    refine zz_iconst d_RD_part_237 ?_
    refine ab_aload_n d_RD_part_238 rfl ?_
    refine zz_iconst d_RD_part_239 ?_
    refine ab_callV (d' := d - 1) (as := [vz 2]) (st := [vz 3, vR a11, vR a11]) (r := _) (z2_RD_isOn (o := o10) (d_ := d_) (inn := inn) (dp := dp) (flg := flg) (grp := grp) (na := na) (nl := nl) (lst := lst) (mst := mst) (bh := bh) (x := x) hd_ (by omega)) (fun oc G2 h => by rcases h with ⟨_, h, _⟩ <;> exact ⟨_, h⟩) (by omega) m_RD_isOn ml_RD_94 im_RD_isOn se_RD_isOn c_RD hd_.2.2 (Nat.le_of_ble_eq_true rfl) d_RD_part_240 rfl ?_
    intro v G15 hq
    rcases hq with ⟨v16, hv, hGe, hq17, hq18⟩
    cases hv
    rw [hGe]
    change ab_W _ _ _ G9 243 [some (vR d_), some (vz pl), none] [vz v16, vz 3, vR a11, vR a11] _
    refine zz_if_eq (tgt := 250) d_RD_part_243 (by decide) (by omega) (fun c19 => ?_) (fun c19 => ?_)
    · refine zz_iconst d_RD_part_250 ?_
      refine zz_iconst d_RD_part_251 ?_
      refine zz_iconst d_RD_part_252 ?_
      refine ab_callI (d' := d - 1) (as := [vz 3, vz 1, vz 1, vz 1]) (st := [vR a11]) (z90_PA_init (o := o10) (a := a11) (k0 := 3) (v0 := 1) (s0 := 1) (m0 := 1) (ps := ps) (wt := wt) (bs := bs) (gr := grp) (Pr := pr0) (ph := ph) ha11 ppaI_0 (by omega) (by omega) (by omega) (by omega)) (fun oc G2 h => by rcases h with ⟨h, _⟩ <;> exact ⟨_, h⟩) (by omega) m_PA_init ml_RD_20 im_PA_init rfl (Nat.le_of_ble_eq_true rfl) d_RD_part_253 rfl ?_
      intro v G20 hq
      rcases hq with ⟨hv, hfk, hlk, hsk, hNa11, pNpaI_0, hq21⟩
      cases hv
      have hd_ := hfk.get hd_ (by decide)
      have hx := hfk.get hx (by decide)
      have hna := hfk.get hna (by decide)
      have hnl := hfk.get hnl (by decide)
      have hby_ := hfk.get hby_ (by decide)
      have h15 := hfk.get h15 (by decide)
      have h16 := hfk.get h16 (by decide)
      have popI_0 := popI_0.fz (o2 := o10) hq21 (by simp)
      have pcsI_se := csI.fr hfk pcsI_se (by decide) (by decide)
      have ptbI_0 := tbI.fr hfk ptbI_0  (by decide)
      have pszJ_0 := pszJ_0.fzk (o2 := o10) hq21
      have ppaI_0 := pNpaI_0
      have hfr := hfr.tr hfk (by decide)
      have hq22 := hlk
      have hq23 := hsk
      have ha11 := hNa11
      change ab_W _ _ _ G20 256 [some (vR d_), some (vz pl), none] [vR a11] _
      have hnf_ := ppaI_0.nref hnpa11
      have hnp9_ := hnpa11
      have hlt24 := ha11.lt
      have hn24 : paN grp pr0 3 1 (-1) := ⟨by omega, by intro _; omega, by intro _; omega, by intro _; omega, pr0_⟩
      obtain ⟨ps24, wt24, hx24, hxo24, hpa24, ppaI_0⟩ : ∃ pz wz : Nat → Nat, psx ps pz a11 ∧ (∀ x, ¬ x = a11 → pz x = ps x) ∧ pz a11 = 90 ∧ paI o10 G20 0 pz wz bs grp pr0 (ph + 0) := ⟨_, _, psx.ol (Nat.le_refl _), fun x hx => if_neg hx, ol_self, ppaI_0.ad90 0 hnpa11 (by omega) ha11 hn24 (by unfold pnB; omega) (Or.inl ⟨by omega, rfl⟩) (Or.inl rfl) (Or.inl rfl) (Or.inl rfl)⟩
      have popI_0 : opI o10 G20 0 ps24 k hi inn := opn_ps _ _ _ popI_0 (psx.lt hx24 (by omega))
      have hlf_ : leafp ps ps24 G20 a11 := leafp.mk hnf_ hnp9_ hxo24 hpa24 ha11 (by omega)
      have pszJ_0 := (pszJ_0.leaf hlf_ (s := (fi G20 a11 8)) ceq.rf (by have t := hlf_.2.2.2.2.1.2.1; omega)).up (hi2 := a11) (by omega)
      have popI_0 := opn_up (hi2 := a11) popI_0 (by omega)
      have popI_0 : opI o10 G20 0 ps24 k a11 inn := popI_0
      refine ab_aret (rt := _) rfl (Or.inl ⟨_, rfl⟩) (Or.inr ⟨_, rfl⟩) d_RD_part_256 ?_
      rw [hQ]; exact (Or.inr (Or.inr ⟨_, _, _, _, _, _, _, _, _, _, _, _, _, _, _, _, _, _, _, _, _, _, _, (pl + 1), fr, (fi G20 a11 8), rfl, hfr, hd_, hx, hna, hnl, ppaI_0, popI_0, pcsI_se, pszJ_0, (by omega), (by omega), (by omega), (by exact hnm), (by have hlt := ha11.lt; omega), (by exact hx24.lt (by omega)), (by omega), (by omega), (by omega), (by omega), (by omega), (by omega), (by omega), (by omega), (by exact hpa24), (by first | exact hkf | (simp only [List.length_cons]; omega) | omega), (by omega), (by exact Or.inl ⟨Or.inr (Or.inr (Or.inr (Or.inr (Or.inl ⟨by omega, by omega, (fi_pa ha11 (by omega) (by omega)).2.2.1⟩)))), rfl, rfl⟩), (by exact ⟨rfl, rfl, rfl⟩), (by omega)⟩))
    · refine zz_iconst d_RD_part_246 ?_
      refine ab_goto (tgt := 251) d_RD_part_247 (by decide) ?_
      refine zz_iconst d_RD_part_251 ?_
      refine zz_iconst d_RD_part_252 ?_
      refine ab_callI (d' := d - 1) (as := [vz 3, vz 3, vz 1, vz 1]) (st := [vR a11]) (z90_PA_init (o := o10) (a := a11) (k0 := 3) (v0 := 3) (s0 := 1) (m0 := 1) (ps := ps) (wt := wt) (bs := bs) (gr := grp) (Pr := pr0) (ph := ph) ha11 ppaI_0 (by omega) (by omega) (by omega) (by omega)) (fun oc G2 h => by rcases h with ⟨h, _⟩ <;> exact ⟨_, h⟩) (by omega) m_PA_init ml_RD_20 im_PA_init rfl (Nat.le_of_ble_eq_true rfl) d_RD_part_253 rfl ?_
      intro v G25 hq
      rcases hq with ⟨hv, hfk, hlk, hsk, hNa11, pNpaI_0, hq26⟩
      cases hv
      have hd_ := hfk.get hd_ (by decide)
      have hx := hfk.get hx (by decide)
      have hna := hfk.get hna (by decide)
      have hnl := hfk.get hnl (by decide)
      have hby_ := hfk.get hby_ (by decide)
      have h15 := hfk.get h15 (by decide)
      have h16 := hfk.get h16 (by decide)
      have popI_0 := popI_0.fz (o2 := o10) hq26 (by simp)
      have pcsI_se := csI.fr hfk pcsI_se (by decide) (by decide)
      have ptbI_0 := tbI.fr hfk ptbI_0  (by decide)
      have pszJ_0 := pszJ_0.fzk (o2 := o10) hq26
      have ppaI_0 := pNpaI_0
      have hfr := hfr.tr hfk (by decide)
      have hq27 := hlk
      have hq28 := hsk
      have ha11 := hNa11
      change ab_W _ _ _ G25 256 [some (vR d_), some (vz pl), none] [vR a11] _
      have hnf_ := ppaI_0.nref hnpa11
      have hnp9_ := hnpa11
      have hlt29 := ha11.lt
      have hn29 : paN grp pr0 3 3 (-1) := ⟨by omega, by intro _; omega, by intro _; omega, by intro _; omega, pr0_⟩
      obtain ⟨ps29, wt29, hx29, hxo29, hpa29, ppaI_0⟩ : ∃ pz wz : Nat → Nat, psx ps pz a11 ∧ (∀ x, ¬ x = a11 → pz x = ps x) ∧ pz a11 = 90 ∧ paI o10 G25 0 pz wz bs grp pr0 (ph + 0) := ⟨_, _, psx.ol (Nat.le_refl _), fun x hx => if_neg hx, ol_self, ppaI_0.ad90 0 hnpa11 (by omega) ha11 hn29 (by unfold pnB; omega) (Or.inl ⟨by omega, rfl⟩) (Or.inl rfl) (Or.inl rfl) (Or.inl rfl)⟩
      have popI_0 : opI o10 G25 0 ps29 k hi inn := opn_ps _ _ _ popI_0 (psx.lt hx29 (by omega))
      have hlf_ : leafp ps ps29 G25 a11 := leafp.mk hnf_ hnp9_ hxo29 hpa29 ha11 (by omega)
      have pszJ_0 := (pszJ_0.leaf hlf_ (s := (fi G25 a11 8)) ceq.rf (by have t := hlf_.2.2.2.2.1.2.1; omega)).up (hi2 := a11) (by omega)
      have popI_0 := opn_up (hi2 := a11) popI_0 (by omega)
      have popI_0 : opI o10 G25 0 ps29 k a11 inn := popI_0
      refine ab_aret (rt := _) rfl (Or.inl ⟨_, rfl⟩) (Or.inr ⟨_, rfl⟩) d_RD_part_256 ?_
      rw [hQ]; exact (Or.inr (Or.inr ⟨_, _, _, _, _, _, _, _, _, _, _, _, _, _, _, _, _, _, _, _, _, _, _, (pl + 1), fr, (fi G25 a11 8), rfl, hfr, hd_, hx, hna, hnl, ppaI_0, popI_0, pcsI_se, pszJ_0, (by omega), (by omega), (by omega), (by exact hnm), (by have hlt := ha11.lt; omega), (by exact hx29.lt (by omega)), (by omega), (by omega), (by omega), (by omega), (by omega), (by omega), (by omega), (by omega), (by exact hpa29), (by first | exact hkf | (simp only [List.length_cons]; omega) | omega), (by omega), (by exact Or.inl ⟨Or.inr (Or.inr (Or.inr (Or.inr (Or.inl ⟨by omega, by omega, (fi_pa ha11 (by omega) (by omega)).2.2.1⟩)))), rfl, rfl⟩), (by exact ⟨rfl, rfl, rfl⟩), (by omega)⟩))
  replace c5 : nzq v2 36 := c5
  by_cases c30 : v2 = 40
  · refine zz_lookup (off := 120) (tgt := 136) d_RD_part_16 (by decide) (by omega) (by rw [c30]; decide) (by decide) ?_
    refine ab_aload_n d_RD_part_136 rfl ?_
    refine ab_iload_n d_RD_part_137 rfl ?_
    refine ab_callV (d' := d - 1) (as := [vz pl]) (st := []) (r := _) (z_RD_open (o := o) (d_ := d_) (inn := inn) (dp := dp) (flg := flg) (grp := grp) (na := na) (nl := nl) (lst := lst) (mst := mst) (bh := bh) (NA := NA) (NL := NL) (x := x) (se := se) (by_ := by_) (m := m) (f := f) (n := n) (pl := pl) (fa := fa) (fp := fp) (kd := kd) (kn := kn) (ps := ps) (wt := wt) (bs := bs) (ph := ph) (k := k) (hi := hi) (wh := wh) (fr := fr) hd_ hx hna hnl hby_ ppaI_0 popI_0 pszJ_0 (by omega) (by omega) hb (by omega) (by omega) (by omega) hnm (by omega) (by omega) (by omega) (by omega) (by omega) (by omega) (by omega)) (fun oc G2 h => by rcases h with ⟨_, _, _, _, _, _, _, h, _⟩ | ⟨_, _, _, _, _, _, _, _, h, _⟩ | ⟨_, _, _, _, _, _, _, _, _, h, _⟩ | ⟨_, _, _, h, _⟩ | ⟨_, _, _, _, h, _⟩ <;> exact ⟨_, h⟩) (by omega) m_RD_open ml_RD_106 im_RD_open se_RD_open c_RD hd_.2.2 (Nat.le_of_ble_eq_true rfl) d_RD_part_138 rfl ?_
    intro v G31 hq
    rcases hq with ⟨o32, inn233, k234, hi235, ps236, wt237, ph238, hv, hfk, hNd_, hNx, hNna, hNnl, pNpaI_0, pNopI_0, pNszJ_0, hq39, hq40, hq41, hq42, hq43, hq44, hq45, hq46, hq47⟩ | ⟨o48, nm249, inn250, k251, hi252, ps253, wt254, ph255, hv, hfk, hNd_, hNx, hNna, hNnl, pNpaI_0, pNopI_0, pNszJ_0, hq56, hq57, hq58, hq59, hq60, hq61, hq62, hq63, hq64, hq65, hq66, hq67, hq68⟩ | ⟨o69, v270, e271, inn272, k273, hi274, ps275, wt276, ph277, hv, hfk, hNd_, hNx, hNna, hNnl, pNpaI_0, pNopI_0, pNszJ_0, hq78, hq79, hq80, hq81, hq82, hq83, hq84, hq85, hq86, hq87, hq88, hq89⟩ | ⟨o90, v291, e292, hv, hfk, hNd_, hNx, hNna, hNnl, pNpaI_0, pNopI_0, pNszJ_0, hq93, hq94, hq95, hq96, hq97, hq98, hq99⟩ | ⟨o100, p2101, fa2102, fp2103, hv, hfk, hNd_, hNx, hNna, hNnl, pNpaI_0, pNopI_0, pNszJ_0, hq104, hq105, hq106, hq107, hq108⟩
    · cases hv
      have hby_ := hfk.get hby_ (by decide)
      have h15 := hfk.get h15 (by decide)
      have h16 := hfk.get h16 (by decide)
      have pcsI_se := csI.fr hfk pcsI_se (by decide) (by decide)
      have ptbI_0 := tbI.fr hfk ptbI_0  (by decide)
      have ppaI_0 := pNpaI_0
      have popI_0 := pNopI_0
      have pszJ_0 := pNszJ_0
      have hfr := hfr.tr hfk (by decide)
      have hq109 := hfk.1
      have hd_ := hNd_
      have hx := hNx
      have hna := hNna
      have hnl := hNnl
      change ab_W _ _ _ G31 141 [some (vR d_), some (vz pl), none] [] _
      refine ab_null d_RD_part_141 ?_
      refine ab_aret (rt := _) rfl (Or.inl ⟨_, rfl⟩) (Or.inl rfl) d_RD_part_142 ?_
      rw [hQ]; exact (Or.inr (Or.inl ⟨_, _, _, _, _, _, _, _, _, _, _, _, _, _, _, _, _, _, _, _, _, _, _, (pl + 1), ((pl, flg, (grp + 1), 0, 0) :: fr), rfl, hfr, hd_, hx, hna, hnl, ppaI_0, popI_0, pcsI_se, pszJ_0, (by omega), (by omega), (by omega), (by exact nmok_s hnm (by omega) (by omega)), (by omega), (by exact hq44.lt (by omega)), (by omega), (by omega), (by omega), (by omega), (by omega), (by omega), (by omega), (by omega), (by first | exact hkf | (simp only [List.length_cons]; omega) | omega), (by omega), (by exact Or.inr (Or.inl ⟨by omega, by omega, ⟨by omega, by omega⟩, ⟨by omega, rfl, rfl, rfl, rfl⟩, rfl⟩)), (by None)⟩))
    · cases hv
      have hby_ := hfk.get hby_ (by decide)
      have h15 := hfk.get h15 (by decide)
      have h16 := hfk.get h16 (by decide)
      have pcsI_se := csI.fr hfk pcsI_se (by decide) (by decide)
      have ptbI_0 := tbI.fr hfk ptbI_0  (by decide)
      have ppaI_0 := pNpaI_0
      have popI_0 := pNopI_0
      have pszJ_0 := pNszJ_0
      have hfr := hfr.tr hfk (by decide)
      have hq110 := hfk.1
      have hd_ := hNd_
      have hx := hNx
      have hna := hNna
      have hnl := hNnl
      change ab_W _ _ _ G31 141 [some (vR d_), some (vz pl), none] [] _
      refine ab_null d_RD_part_141 ?_
      refine ab_aret (rt := _) rfl (Or.inl ⟨_, rfl⟩) (Or.inl rfl) d_RD_part_142 ?_
      rw [hQ]; exact (Or.inr (Or.inl ⟨_, _, _, _, _, _, _, _, _, _, _, _, _, _, _, _, _, _, _, _, _, _, _, (pl + 1), ((pl, flg, (grp + 1), 0, 0) :: fr), rfl, hfr, hd_, hx, hna, hnl, ppaI_0, popI_0, pcsI_se, pszJ_0, (by omega), (by omega), (by omega), (by exact nmok_s hnm (by omega) (by omega)), (by omega), (by exact hq65.lt (by omega)), (by omega), (by omega), (by omega), (by omega), (by omega), (by omega), (by omega), (by omega), (by first | exact hkf | (simp only [List.length_cons]; omega) | omega), (by omega), (by exact Or.inr (Or.inr (Or.inl ⟨by omega, by omega, ⟨by omega, by omega⟩, _, ⟨hq58, by omega, hq60⟩, ⟨by omega, by omega⟩, ⟨by omega, rfl, rfl, rfl, rfl⟩, rfl⟩))), (by first | omega | (have t := nmR_w hq58; omega))⟩))
    · cases hv
      have hby_ := hfk.get hby_ (by decide)
      have h15 := hfk.get h15 (by decide)
      have h16 := hfk.get h16 (by decide)
      have pcsI_se := csI.fr hfk pcsI_se (by decide) (by decide)
      have ptbI_0 := tbI.fr hfk ptbI_0  (by decide)
      have ppaI_0 := pNpaI_0
      have popI_0 := pNopI_0
      have pszJ_0 := pNszJ_0
      have hfr := hfr.tr hfk (by decide)
      have hq111 := hfk.1
      have hd_ := hNd_
      have hx := hNx
      have hna := hNna
      have hnl := hNnl
      change ab_W _ _ _ G31 141 [some (vR d_), some (vz pl), none] [] _
      refine ab_null d_RD_part_141 ?_
      refine ab_aret (rt := _) rfl (Or.inl ⟨_, rfl⟩) (Or.inl rfl) d_RD_part_142 ?_
      rw [hQ]; exact (Or.inr (Or.inl ⟨_, _, _, _, _, _, _, _, _, _, _, _, _, _, _, _, _, _, _, _, _, _, _, (pl + 1), ((pl, flg, 0, 0, 0) :: fr), rfl, hfr, hd_, hx, hna, hnl, ppaI_0, popI_0, pcsI_se, pszJ_0, (by omega), (by omega), (by omega), (by exact hnm), (by omega), (by exact hq86.lt (by omega)), (by omega), (by omega), (by omega), (by omega), (by omega), (by omega), (by omega), (by omega), (by first | exact hkf | (simp only [List.length_cons]; omega) | omega), (by omega), (by exact Or.inr (Or.inr (Or.inr ⟨by omega, by omega, by omega, _, hq80, ⟨by omega, rfl, rfl, rfl⟩, Or.inl ⟨by omega, by omega, rfl⟩⟩))), (by first | omega | (have t := flgR_w hq80; omega))⟩))
    · cases hv
      have hby_ := hfk.get hby_ (by decide)
      have h15 := hfk.get h15 (by decide)
      have h16 := hfk.get h16 (by decide)
      have pcsI_se := csI.fr hfk pcsI_se (by decide) (by decide)
      have ptbI_0 := tbI.fr hfk ptbI_0  (by decide)
      have ppaI_0 := pNpaI_0
      have popI_0 := pNopI_0
      have pszJ_0 := pNszJ_0
      have hfr := hfr.tr hfk (by decide)
      have hq112 := hfk.1
      have hd_ := hNd_
      have hx := hNx
      have hna := hNna
      have hnl := hNnl
      change ab_W _ _ _ G31 141 [some (vR d_), some (vz pl), none] [] _
      refine ab_null d_RD_part_141 ?_
      refine ab_aret (rt := _) rfl (Or.inl ⟨_, rfl⟩) (Or.inl rfl) d_RD_part_142 ?_
      rw [hQ]; exact (Or.inr (Or.inl ⟨_, _, _, _, _, _, _, _, _, _, _, _, _, _, _, _, _, _, _, _, _, _, _, (pl + 1), fr, rfl, hfr, hd_, hx, hna, hnl, ppaI_0, popI_0, pcsI_se, pszJ_0, (by omega), (by omega), (by omega), (by exact hnm), (by omega), (by exact psx.rf), (by omega), (by omega), (by omega), (by omega), (by omega), (by omega), (by omega), (by omega), (by first | exact hkf | (simp only [List.length_cons]; omega) | omega), (by omega), (by exact Or.inr (Or.inr (Or.inr ⟨by omega, by omega, by omega, _, hq95, ⟨by omega, rfl, rfl, rfl⟩, Or.inr ⟨by omega, rfl⟩⟩))), (by first | omega | (have t := flgR_w hq95; omega))⟩))
    · cases hv
      have hby_ := hfk.get hby_ (by decide)
      have h15 := hfk.get h15 (by decide)
      have h16 := hfk.get h16 (by decide)
      have pcsI_se := csI.fr hfk pcsI_se (by decide) (by decide)
      have ptbI_0 := tbI.fr hfk ptbI_0  (by decide)
      have ppaI_0 := pNpaI_0
      have popI_0 := pNopI_0
      have pszJ_0 := pNszJ_0
      have hfr := hfr.tr hfk (by decide)
      have hq113 := hfk.1
      have hd_ := hNd_
      have hx := hNx
      have hna := hNna
      have hnl := hNnl
      change ab_W _ _ _ G31 141 [some (vR d_), some (vz pl), none] [] _
      refine ab_null d_RD_part_141 ?_
      refine ab_aret (rt := _) rfl (Or.inl ⟨_, rfl⟩) (Or.inl rfl) d_RD_part_142 ?_
      rw [hQ]; exact (Or.inl ⟨_, _, _, _, _, _, _, _, _, _, _, _, _, _, _, _, _, _, _, _, _, _, _, (pl + 1), fr, rfl, hfr, hd_, hx, hna, hnl, ppaI_0, popI_0, pcsI_se, pszJ_0, (by omega), (by omega), (by omega), (by exact hnm), (by omega), (by exact psx.rf), (by omega), (by omega), (by omega), (by omega), (by omega), (by omega), (by omega), (by omega), (by first | exact hkf | (simp only [List.length_cons]; omega) | omega), (by omega), (by exact Or.inl (Or.inr (Or.inl ⟨by omega, by have t := hq104; rw [show dp = ↑fr.length - 1 by omega] at t; exact t, by omega⟩)))⟩)
  replace c30 : nzq v2 40 := c30
  by_cases c114 : v2 = 41
  · refine zz_lookup (off := 127) (tgt := 143) d_RD_part_16 (by decide) (by omega) (by rw [c114]; decide) (by decide) ?_
    refine ab_aload_n d_RD_part_143 rfl ?_
    refine ab_callV (d' := d - 1) (as := []) (st := []) (r := _) (z_RD_close (o := o) (d_ := d_) (inn := inn) (dp := dp) (flg := flg) (grp := grp) (na := na) (nl := nl) (lst := lst) (mst := mst) (bh := bh) (x := x) (se := se) (by_ := by_) (n := n) (pl := pl) (fa := fa) (fp := fp) (kd := kd) (kn := kn) (ps := ps) (wt := wt) (bs := bs) (ph := ph) (k := k) (hi := hi) (wh := wh) (fr := fr) hd_ hx ppaI_0 popI_0 pszJ_0 (by omega) (by omega) (by omega) (by omega) (by omega) (by omega) (by omega) (by omega)) (fun oc G2 h => by rcases h with ⟨_, _, _, _, _, _, _, _, h, _⟩ | ⟨_, _, _, _, _, _, _, _, _, _, _, _, _, _, h, _⟩ <;> exact ⟨_, h⟩) (by omega) m_RD_close ml_RD_110 im_RD_close se_RD_close c_RD hd_.2.2 (Nat.le_of_ble_eq_true rfl) d_RD_part_144 rfl ?_
    intro v G115 hq
    rcases hq with ⟨inn2116, dp2117, flg2118, p2119, fa2120, fp2121, k2122, hi2123, hv, hfk, hlk, hsk, hNd_, hNx, pNpaI_0, pNopI_0, pNszJ_0, hq124, hq125, hq126, hq127, hq128, hq129, hq130, hq131⟩ | ⟨p132, a1_133, b1_134, c1_135, d1_136, e1_137, t_138, inn2139, dp2140, flg2141, p2142, fa2143, fp2144, k2145, hv, hfk, hlk, hsk, hNd_, hNx, pNpaI_0, pNopI_0, pNszJ_0, hq146, hq147, hq148, hq149, hq150, hq151, hq152, hq153, hq154⟩
    · cases hv
      have hna := hfk.get hna (by decide)
      have hnl := hfk.get hnl (by decide)
      have hby_ := hfk.get hby_ (by decide)
      have h15 := hfk.get h15 (by decide)
      have h16 := hfk.get h16 (by decide)
      have pcsI_se := csI.fr hfk pcsI_se (by decide) (by decide)
      have ptbI_0 := tbI.fr hfk ptbI_0  (by decide)
      have ppaI_0 := pNpaI_0
      have popI_0 := pNopI_0
      have pszJ_0 := pNszJ_0
      have hfr := hfr.tr hfk (by decide)
      have hq155 := hlk
      have hq156 := hsk
      have hd_ := hNd_
      have hx := hNx
      change ab_W _ _ _ G115 147 [some (vR d_), some (vz pl), none] [vN] _
      refine ab_aret (rt := _) rfl (Or.inl ⟨_, rfl⟩) (Or.inl rfl) d_RD_part_147 ?_
      rw [hQ]; exact (Or.inl ⟨_, _, _, _, _, _, _, _, _, _, _, _, _, _, _, _, _, _, _, _, _, _, _, pl, fr, rfl, hfr, hd_, hx, hna, hnl, ppaI_0, popI_0, pcsI_se, pszJ_0, (by omega), (by omega), (by omega), (by exact hnm), (by omega), (by exact psx.rf), (by omega), (by omega), (by omega), (by omega), (by omega), (by omega), (by omega), (by omega), (by first | exact hkf | (simp only [List.length_cons]; omega) | omega), (by omega), (by exact Or.inl (Or.inr (Or.inr ⟨by omega, by omega, by omega, by omega⟩)))⟩)
    · cases hv
      have hna := hfk.get hna (by decide)
      have hnl := hfk.get hnl (by decide)
      have hby_ := hfk.get hby_ (by decide)
      have h15 := hfk.get h15 (by decide)
      have h16 := hfk.get h16 (by decide)
      have pcsI_se := csI.fr hfk pcsI_se (by decide) (by decide)
      have ptbI_0 := tbI.fr hfk ptbI_0  (by decide)
      have ppaI_0 := pNpaI_0
      have popI_0 := pNopI_0
      have pszJ_0 := pNszJ_0
      have hfr := hfr.tr hfk (by decide)
      have hq157 := hlk
      have hq158 := hsk
      have hd_ := hNd_
      have hx := hNx
      change ab_W _ _ _ G115 147 [some (vR d_), some (vz pl), none] [vR p132] _
      refine ab_aret (rt := _) rfl (Or.inl ⟨_, rfl⟩) (Or.inr ⟨_, rfl⟩) d_RD_part_147 ?_
      rw [hQ]; exact (Or.inr (Or.inr ⟨_, _, _, _, _, _, _, _, _, _, _, _, _, _, _, _, _, _, _, _, _, _, _, pl, t_138, (pin 4 c1_135 + e1_137 + d1_136), rfl, hfr, hd_, hx, hna, hnl, ppaI_0, popI_0, pcsI_se, pszJ_0, (by omega), (by omega), (by omega), (by exact hnm), (by omega), (by exact psx.rf), (by omega), (by omega), (by omega), (by omega), (by omega), (by omega), (by omega), (by omega), (by exact hq153), (by first | exact hkf | (simp only [List.length_cons]; omega) | omega | (have t := congrArg List.length hq146; simp only [List.length_cons] at t ⊢; omega) | (have t := congrArg List.length hq146; simp only [List.length_cons] at t; omega)), (by omega), (by exact Or.inr ⟨by omega, by omega, _, _, _, _, _, hq146, by have t := congrArg List.length hq146; simp only [List.length_cons] at t; omega, by omega, rfl⟩), (by exact ⟨rfl, rfl, rfl⟩), (by omega)⟩))
  replace c114 : nzq v2 41 := c114
  by_cases c159 : v2 = 46
  · refine zz_lookup (off := 132) (tgt := 148) d_RD_part_16 (by decide) (by omega) (by rw [c159]; decide) (by decide) ?_
    refine ab_aload_n d_RD_part_148 rfl ?_
    refine ab_getf (fs := [vR x, inn, vz dp, vz flg, vz grp, vR na, vR nl, vz lst, vz mst, vz bh]) f_RD_12 d_RD_part_149 hd_.2.2 rfl ?_
    refine ab_dup d_RD_part_152 rfl ?_
    refine ab_getf (fs := [vR se, vR by_, vz n, vz pl, vz fa, vz fp, vR kd, vz kn]) f_RD_55 d_RD_part_153 hx.2.2 rfl ?_
    refine zz_iconst d_RD_part_156 ?_
    refine zz_iadd d_RD_part_157 ?_
    refine ab_putf (fs := [vR se, vR by_, vz n, vz pl, vz fa, vz fp, vR kd, vz kn]) f_RD_55 (Or.inl rfl) d_RD_part_158 hx.2.2 (Nat.le_of_ble_eq_true rfl) (fun _ => ⟨rfl, rfl⟩) (hx.2.1 (by decide)) ?_
    obtain ⟨G160, eG160⟩ : ∃ z : ab_G, z = List.set G x (ab_ob 10 [vR se, vR by_, vz n, vz (pl + 1), vz fa, vz fp, vR kd, vz kn]) := ⟨_, rfl⟩
    have hd_ := hd_.keep hx eG160 (by decide)
    have hna := hna.keep hx eG160 (by decide)
    have hnl := hnl.keep hx eG160 (by decide)
    have hby_ := hby_.keep hx eG160 (by decide)
    have h15 := h15.keep hx eG160 (by decide)
    have h16 := h16.keep hx eG160 (by decide)
    have hst := (fx.rf (o := o) (S := [24]) (G := G)).wr hx eG160 (List.mem_singleton.mpr rfl)
    have popI_0 := opI.fr hst ppaI_0 popI_0 (by decide) (by decide)
    have pcsI_se := csI.fr hst pcsI_se (by decide) (by decide)
    have ptbI_0 := tbI.fr hst ptbI_0  (by decide)
    have pszJ_0 := szJ.fr hst ppaI_0 pszJ_0 (by decide) (by decide)
    have ppaI_0 := paI.fr hst ppaI_0 (by decide) (by decide) (by decide) (by decide)
    have hq161 := z_len eG160
    have hq162 := z_sl hx eG160 rfl
    have hfr := hfr.wr hx eG160 (by decide)
    have hx := hx.kept eG160
    change ab_W _ _ _ (List.set G x (ab_ob 10 [vR se, vR by_, vz n, vz (pl + 1), vz fa, vz fp, vR kd, vz kn])) 161 [some (vR d_), some (vz pl), none] [] _
    rw [← eG160]
    refine ab_aload_n d_RD_part_161 rfl ?_
    refine ab_aload_n d_RD_part_162 rfl ?_
    refine zz_iconst d_RD_part_163 ?_
    refine ab_callV (d' := d - 1) (as := [vz 4]) (st := [vR d_]) (r := _) (z4_RD_isOn (o := o) (d_ := d_) (inn := inn) (dp := dp) (flg := flg) (grp := grp) (na := na) (nl := nl) (lst := lst) (mst := mst) (bh := bh) (x := x) hd_ (by omega)) (fun oc G2 h => by rcases h with ⟨_, h, _⟩ <;> exact ⟨_, h⟩) (by omega) m_RD_isOn ml_RD_94 im_RD_isOn se_RD_isOn c_RD hd_.2.2 (Nat.le_of_ble_eq_true rfl) d_RD_part_164 rfl ?_
    intro v G163 hq
    rcases hq with ⟨v164, hv, hGe, hq165, hq166⟩
    cases hv
    rw [hGe]
    change ab_W _ _ _ G160 167 [some (vR d_), some (vz pl), none] [vz v164, vR d_] _
    refine zz_if_eq (tgt := 176) d_RD_part_167 (by decide) (by omega) (fun c167 => ?_) (fun c167 => ?_)
    · refine ab_gets (i := 14) (by decide) s_RD_116 d_RD_part_176 ?_
      obtain ⟨w168, q168, mm168, hk168, hw168, hc168, hL168⟩ := ptbI_0.atL 14 (by decide) (by decide)
      have hL168 : w168 = 6 := hL168.trans (by decide)
      refine ab_callV (d' := d - 1) (as := [vR 14]) (st := []) (r := _) (zs_RD_classPart (o := o) (d_ := d_) (w := 14) (lw := 14) (w2 := w168) (q2 := q168) (m2 := mm168) (ps := ps) (wt := wt) (bs := bs) (gr := grp) (ph := ph) hk168 ppaI_0 (by omega) (by omega) (by omega) (by omega) hc168 (by omega) (by omega) (by omega) (by omega)) (fun oc G2 h => by rcases h with ⟨_, _, _, _, _, h, _⟩ <;> exact ⟨_, h⟩) (by omega) m_RD_classPart ml_RD_102 im_RD_classPart se_RD_classPart c_RD hd_.2.2 (Nat.le_of_ble_eq_true rfl) d_RD_part_179 rfl ?_
      intro v G169 hq
      rcases hq with ⟨o170, p171, ps2172, wt2173, ph2174, hv, hfk, pNpaI_0, hq175, hq176, hq177, hq178, hq179, hq180, hq181, hq182, hq183⟩
      cases hv
      have hd_ := hfk.get hd_ (by decide)
      have hx := hfk.get hx (by decide)
      have hna := hfk.get hna (by decide)
      have hnl := hfk.get hnl (by decide)
      have hby_ := hfk.get hby_ (by decide)
      have h15 := hfk.get h15 (by decide)
      have h16 := hfk.get h16 (by decide)
      have hk168 := hfk.get hk168 (by decide)
      have popI_0 := popI_0.fz (o2 := o170) hq178 (by simp)
      have pcsI_se := csI.fr hfk pcsI_se (by decide) (by decide)
      have ptbI_0 := tbI.fr hfk ptbI_0  (by decide)
      have pszJ_0 := pszJ_0.fzk (o2 := o170) hq178
      have ppaI_0 := pNpaI_0
      have hfr := hfr.tr hfk (by decide)
      have hq184 := hfk.1
      change ab_W _ _ _ G169 182 [some (vR d_), some (vz pl), none] [vR p171] _
      have popI_0 : opI o170 G169 0 ps2172 k hi inn := opn_ps _ _ _ popI_0 (psx.lt hq175 (by omega))
      have pszJ_0 := (pszJ_0.leaf hq182 (s := (fi G169 p171 8)) ceq.rf (by have t := hq182.2.2.2.2.1.2.1; omega)).up (hi2 := p171) (by omega)
      have popI_0 := opn_up (hi2 := p171) popI_0 (by omega)
      have popI_0 : opI o170 G169 0 ps2172 k p171 inn := popI_0
      refine ab_aret (rt := _) rfl (Or.inl ⟨_, rfl⟩) (Or.inr ⟨_, rfl⟩) d_RD_part_182 ?_
      rw [hQ]; exact (Or.inr (Or.inr ⟨_, _, _, _, _, _, _, _, _, _, _, _, _, _, _, _, _, _, _, _, _, _, _, (pl + 1), fr, (fi G169 p171 8), rfl, hfr, hd_, hx, hna, hnl, ppaI_0, popI_0, pcsI_se, pszJ_0, (by omega), (by omega), (by omega), (by exact hnm), (by omega), (by exact hq175.lt (by omega)), (by omega), (by omega), (by omega), (by omega), (by omega), (by omega), (by omega), (by omega), (by exact hq176), (by first | exact hkf | (simp only [List.length_cons]; omega) | omega), (by omega), (by exact Or.inl ⟨Or.inr (Or.inr (Or.inr (Or.inl ⟨by omega, by omega, by omega⟩))), rfl, rfl⟩), (by exact ⟨rfl, rfl, rfl⟩), (by omega)⟩))
    · refine ab_gets (i := 13) (by decide) s_RD_113 d_RD_part_170 ?_
      refine ab_goto (tgt := 179) d_RD_part_173 (by decide) ?_
      obtain ⟨w185, q185, mm185, hk185, hw185, hc185, hL185⟩ := ptbI_0.atL 13 (by decide) (by decide)
      have hL185 : w185 = 4 := hL185.trans (by decide)
      refine ab_callV (d' := d - 1) (as := [vR 13]) (st := []) (r := _) (zs_RD_classPart (o := o) (d_ := d_) (w := 13) (lw := 13) (w2 := w185) (q2 := q185) (m2 := mm185) (ps := ps) (wt := wt) (bs := bs) (gr := grp) (ph := ph) hk185 ppaI_0 (by omega) (by omega) (by omega) (by omega) hc185 (by omega) (by omega) (by omega) (by omega)) (fun oc G2 h => by rcases h with ⟨_, _, _, _, _, h, _⟩ <;> exact ⟨_, h⟩) (by omega) m_RD_classPart ml_RD_102 im_RD_classPart se_RD_classPart c_RD hd_.2.2 (Nat.le_of_ble_eq_true rfl) d_RD_part_179 rfl ?_
      intro v G186 hq
      rcases hq with ⟨o187, p188, ps2189, wt2190, ph2191, hv, hfk, pNpaI_0, hq192, hq193, hq194, hq195, hq196, hq197, hq198, hq199, hq200⟩
      cases hv
      have hd_ := hfk.get hd_ (by decide)
      have hx := hfk.get hx (by decide)
      have hna := hfk.get hna (by decide)
      have hnl := hfk.get hnl (by decide)
      have hby_ := hfk.get hby_ (by decide)
      have h15 := hfk.get h15 (by decide)
      have h16 := hfk.get h16 (by decide)
      have hk185 := hfk.get hk185 (by decide)
      have popI_0 := popI_0.fz (o2 := o187) hq195 (by simp)
      have pcsI_se := csI.fr hfk pcsI_se (by decide) (by decide)
      have ptbI_0 := tbI.fr hfk ptbI_0  (by decide)
      have pszJ_0 := pszJ_0.fzk (o2 := o187) hq195
      have ppaI_0 := pNpaI_0
      have hfr := hfr.tr hfk (by decide)
      have hq201 := hfk.1
      change ab_W _ _ _ G186 182 [some (vR d_), some (vz pl), none] [vR p188] _
      have popI_0 : opI o187 G186 0 ps2189 k hi inn := opn_ps _ _ _ popI_0 (psx.lt hq192 (by omega))
      have pszJ_0 := (pszJ_0.leaf hq199 (s := (fi G186 p188 8)) ceq.rf (by have t := hq199.2.2.2.2.1.2.1; omega)).up (hi2 := p188) (by omega)
      have popI_0 := opn_up (hi2 := p188) popI_0 (by omega)
      have popI_0 : opI o187 G186 0 ps2189 k p188 inn := popI_0
      refine ab_aret (rt := _) rfl (Or.inl ⟨_, rfl⟩) (Or.inr ⟨_, rfl⟩) d_RD_part_182 ?_
      rw [hQ]; exact (Or.inr (Or.inr ⟨_, _, _, _, _, _, _, _, _, _, _, _, _, _, _, _, _, _, _, _, _, _, _, (pl + 1), fr, (fi G186 p188 8), rfl, hfr, hd_, hx, hna, hnl, ppaI_0, popI_0, pcsI_se, pszJ_0, (by omega), (by omega), (by omega), (by exact hnm), (by omega), (by exact hq192.lt (by omega)), (by omega), (by omega), (by omega), (by omega), (by omega), (by omega), (by omega), (by omega), (by exact hq193), (by first | exact hkf | (simp only [List.length_cons]; omega) | omega), (by omega), (by exact Or.inl ⟨Or.inr (Or.inr (Or.inr (Or.inl ⟨by omega, by omega, by omega⟩))), rfl, rfl⟩), (by exact ⟨rfl, rfl, rfl⟩), (by omega)⟩))
  replace c159 : nzq v2 46 := c159
  by_cases c202 : v2 = 91
  · refine zz_lookup (off := 103) (tgt := 119) d_RD_part_16 (by decide) (by omega) (by rw [c202]; decide) (by decide) ?_
    refine ab_aload_n d_RD_part_119 rfl ?_
    refine ab_aload_n d_RD_part_120 rfl ?_
    refine ab_getf (fs := [vR x, inn, vz dp, vz flg, vz grp, vR na, vR nl, vz lst, vz mst, vz bh]) f_RD_12 d_RD_part_121 hd_.2.2 rfl ?_
    refine ab_aload_n d_RD_part_124 rfl ?_
    refine zz_iconst d_RD_part_125 ?_
    refine ab_callV (d' := d - 1) (as := [vz 1]) (st := [vR x, vR d_]) (r := _) (z1_RD_isOn (o := o) (d_ := d_) (inn := inn) (dp := dp) (flg := flg) (grp := grp) (na := na) (nl := nl) (lst := lst) (mst := mst) (bh := bh) (x := x) hd_ (by omega)) (fun oc G2 h => by rcases h with ⟨_, h, _⟩ <;> exact ⟨_, h⟩) (by omega) m_RD_isOn ml_RD_94 im_RD_isOn se_RD_isOn c_RD hd_.2.2 (Nat.le_of_ble_eq_true rfl) d_RD_part_126 rfl ?_
    intro v G203 hq
    rcases hq with ⟨v204, hv, hGe, hq205, hq206⟩
    cases hv
    rw [hGe]
    change ab_W _ _ _ G 129 [some (vR d_), some (vz pl), none] [vz v204, vR x, vR d_] _
    refine ab_callV (d' := d - 1) (as := [vz v204]) (st := [vR d_]) (r := _) (z_TX_charClass (o := o) (x := x) (se := se) (by_ := by_) (m := m) (f := f) (n := n) (pl := pl) (fa := fa) (fp := fp) (kd := kd) (kn := kn) (nb := nb) (cnt := cnt) (P := P) (al := v204) hx hby_ h15 h16 pcsI_se ptbI_0 (by omega) hb (by omega) (by omega) (by omega) (by omega) (by omega) (by omega) (by omega) (by omega)) (fun oc G2 h => by rcases h with ⟨_, _, _, _, _, _, _, _, _, h, _⟩ | ⟨_, _, _, _, _, _, _, _, _, _, _, _, _, h, _⟩ <;> exact ⟨_, h⟩) (by omega) m_TX_charClass ml_RD_98 im_TX_charClass se_TX_charClass c_TX hx.2.2 (Nat.le_of_ble_eq_true rfl) d_RD_part_129 rfl ?_
    intro v G207 hq
    rcases hq with ⟨o208, p2209, fa2210, fp2211, kd2212, kn2213, nb2214, c2215, P2216, hv, hfk, hNx, hNby_, pNcsI_se, hq217, hq218, hq219, hq220, hq221, hq222, hq223, hq224⟩ | ⟨o225, w226, p2227, fa2228, fp2229, kd2230, kn2231, nb2232, c2233, P2234, q2235, m2236, w2237, hv, hfk, hNx, hNby_, hNw226, pNcsI_se, hq238, hq239, hq240, hq241, hq242, hq243, hq244, hq245, hq246⟩
    · cases hv
      have hd_ := hfk.get hd_ (by decide)
      have hna := hfk.get hna (by decide)
      have hnl := hfk.get hnl (by decide)
      have h15 := hfk.get h15 (by decide)
      have h16 := hfk.get h16 (by decide)
      have popI_0 := opI.fr hfk ppaI_0 popI_0 (by decide) (by decide)
      have ptbI_0 := tbI.fr hfk ptbI_0  (by decide)
      have pszJ_0 := szJ.fr hfk ppaI_0 pszJ_0 (by decide) (by decide)
      have ppaI_0 := paI.fr hfk ppaI_0 (by decide) (by decide) (by decide) (by decide)
      have pcsI_se := pNcsI_se
      have hfr := hfr.tr hfk (by decide)
      have hq247 := hfk.1
      have hx := hNx
      have hby_ := hNby_
      change ab_W _ _ _ G207 132 [some (vR d_), some (vz pl), none] [vN, vR d_] _
      refine ab_callV (d' := d - 1) (as := [vN]) (st := []) (r := _) (zN_RD_classPart (o := o208) (d_ := d_) ) (fun oc G2 h => by rcases h with ⟨h, _⟩ <;> exact ⟨_, h⟩) (by omega) m_RD_classPart ml_RD_102 im_RD_classPart se_RD_classPart c_RD hd_.2.2 (Nat.le_of_ble_eq_true rfl) d_RD_part_132 rfl ?_
      intro v G249 hq
      rcases hq with ⟨hv, hGe⟩
      cases hv
      rw [hGe]
      change ab_W _ _ _ G207 135 [some (vR d_), some (vz pl), none] [vN] _
      refine ab_aret (rt := _) rfl (Or.inl ⟨_, rfl⟩) (Or.inl rfl) d_RD_part_135 ?_
      rw [hQ]; exact (Or.inl ⟨_, _, _, _, _, _, _, _, _, _, _, _, _, _, _, _, _, _, _, _, _, _, _, pl, fr, rfl, hfr, hd_, hx, hna, hnl, ppaI_0, popI_0, pcsI_se, pszJ_0, (by omega), (by omega), (by omega), (by exact hnm), (by omega), (by exact psx.rf), (by omega), (by omega), (by omega), (by omega), (by omega), (by omega), (by omega), (by omega), (by first | exact hkf | (simp only [List.length_cons]; omega) | omega), (by omega), (by exact Or.inl (Or.inl (Or.inr (Or.inl ⟨by omega, by rw [show flg % 2 = v204 by omega]; exact hq218⟩))))⟩)
    · cases hv
      have hd_ := hfk.get hd_ (by decide)
      have hna := hfk.get hna (by decide)
      have hnl := hfk.get hnl (by decide)
      have h15 := hfk.get h15 (by decide)
      have h16 := hfk.get h16 (by decide)
      have popI_0 := opI.fr hfk ppaI_0 popI_0 (by decide) (by decide)
      have ptbI_0 := tbI.fr hfk ptbI_0  (by decide)
      have pszJ_0 := szJ.fr hfk ppaI_0 pszJ_0 (by decide) (by decide)
      have ppaI_0 := paI.fr hfk ppaI_0 (by decide) (by decide) (by decide) (by decide)
      have pcsI_se := pNcsI_se
      have hfr := hfr.tr hfk (by decide)
      have hq248 := hfk.1
      have hx := hNx
      have hby_ := hNby_
      have hw226 := hNw226
      change ab_W _ _ _ G207 132 [some (vR d_), some (vz pl), none] [vR w226, vR d_] _
      refine ab_callV (d' := d - 1) (as := [vR w226]) (st := []) (r := _) (z93_RD_classPart (o := o225) (d_ := d_) (w := w226) (w2 := w2237) (q2 := q2235) (m2 := m2236) (ps := ps) (wt := wt) (bs := bs) (gr := grp) (ph := ph) hw226 ppaI_0 (by omega) (by omega) hq243 (by omega) (by omega) (by omega) (by omega)) (fun oc G2 h => by rcases h with ⟨_, _, _, _, _, h, _⟩ <;> exact ⟨_, h⟩) (by omega) m_RD_classPart ml_RD_102 im_RD_classPart se_RD_classPart c_RD hd_.2.2 (Nat.le_of_ble_eq_true rfl) d_RD_part_132 rfl ?_
      intro v G250 hq
      rcases hq with ⟨o251, p252, ps2253, wt2254, ph2255, hv, hfk, pNpaI_0, hq256, hq257, hq258, hq259, hq260, hq261, hq262, hq263, hq264⟩
      cases hv
      have hd_ := hfk.get hd_ (by decide)
      have hx := hfk.get hx (by decide)
      have hna := hfk.get hna (by decide)
      have hnl := hfk.get hnl (by decide)
      have hby_ := hfk.get hby_ (by decide)
      have h15 := hfk.get h15 (by decide)
      have h16 := hfk.get h16 (by decide)
      have hw226 := hfk.get hw226 (by decide)
      have popI_0 := popI_0.fz (o2 := o251) hq259 (by simp)
      have pcsI_se := csI.fr hfk pcsI_se (by decide) (by decide)
      have ptbI_0 := tbI.fr hfk ptbI_0  (by decide)
      have pszJ_0 := pszJ_0.fzk (o2 := o251) hq259
      have ppaI_0 := pNpaI_0
      have hfr := hfr.tr hfk (by decide)
      have hq265 := hfk.1
      change ab_W _ _ _ G250 135 [some (vR d_), some (vz pl), none] [vR p252] _
      have popI_0 : opI o251 G250 0 ps2253 k hi inn := opn_ps _ _ _ popI_0 (psx.lt hq256 (by omega))
      have pszJ_0 := (pszJ_0.leaf hq263 (s := (fi G250 p252 8)) ceq.rf (by have t := hq263.2.2.2.2.1.2.1; omega)).up (hi2 := p252) (by omega)
      have popI_0 := opn_up (hi2 := p252) popI_0 (by omega)
      have popI_0 : opI o251 G250 0 ps2253 k p252 inn := popI_0
      refine ab_aret (rt := _) rfl (Or.inl ⟨_, rfl⟩) (Or.inr ⟨_, rfl⟩) d_RD_part_135 ?_
      rw [hQ]; exact (Or.inr (Or.inr ⟨_, _, _, _, _, _, _, _, _, _, _, _, _, _, _, _, _, _, _, _, _, _, _, p2227, fr, (fi G250 p252 8), rfl, hfr, hd_, hx, hna, hnl, ppaI_0, popI_0, pcsI_se, pszJ_0, (by omega), (by omega), (by omega), (by exact hnm), (by omega), (by exact hq256.lt (by omega)), (by omega), (by omega), (by omega), (by omega), (by omega), (by omega), (by omega), (by omega), (by exact hq257), (by first | exact hkf | (simp only [List.length_cons]; omega) | omega), (by omega), (by obtain ⟨no9, fi9, P9, y1, y2, y3, y4⟩ := hq238; exact Or.inl ⟨Or.inr (Or.inr (Or.inl ⟨by omega, no9, fi9, P9, y1, by rw [show flg % 2 = v204 by omega]; exact y2, y3, _, _, ⟨hq243, by omega⟩, y4, by omega⟩)), rfl, rfl⟩), (by exact ⟨rfl, rfl, rfl⟩), (by omega)⟩))
  replace c202 : nzq v2 91 := c202
  by_cases c266 : v2 = 92
  · refine zz_lookup (off := 76) (tgt := 92) d_RD_part_16 (by decide) (by omega) (by rw [c266]; decide) (by decide) ?_
    refine ab_aload_n d_RD_part_92 rfl ?_
    refine ab_getf (fs := [vR x, inn, vz dp, vz flg, vz grp, vR na, vR nl, vz lst, vz mst, vz bh]) f_RD_12 d_RD_part_93 hd_.2.2 rfl ?_
    refine ab_callV (d' := d - 1) (as := []) (st := []) (r := _) (z_TX_escape (o := o) (x := x) (lx := 24) (se := se) (by_ := by_) (lby := 23) (m := m) (f := f) (n := n) (pl := pl) (fa := fa) (fp := fp) (kd := kd) (kn := kn) hx hby_ (by omega) hb (by omega) (by omega) (by omega) (by omega)) (fun oc G2 h => by rcases h with ⟨_, _, h, _⟩ | ⟨_, _, _, h, _⟩ | ⟨_, _, h, _⟩ <;> exact ⟨_, h⟩) (by omega) m_TX_escape ml_RD_83 im_TX_escape se_TX_escape c_TX hx.2.2 (Nat.le_of_ble_eq_true rfl) d_RD_part_96 rfl ?_
    intro v G267 hq
    rcases hq with ⟨v268, p2269, hv, hfk, hlk, hsk, hNx, hNby_, hq270, hq271, hq272⟩ | ⟨p2273, k2274, b2275, hv, hfk, hlk, hsk, hNx, hNby_, hq276, hq277, hq278, hq279⟩ | ⟨p2280, w281, hv, hfk, hlk, hsk, hNx, hNby_, hq282, hq283, hq284⟩
    · cases hv
      have hd_ := hfk.get hd_ (by decide)
      have hna := hfk.get hna (by decide)
      have hnl := hfk.get hnl (by decide)
      have h15 := hfk.get h15 (by decide)
      have h16 := hfk.get h16 (by decide)
      have popI_0 := opI.fr hfk ppaI_0 popI_0 (by decide) (by decide)
      have pcsI_se := csI.fr hfk pcsI_se (by decide) (by decide)
      have ptbI_0 := tbI.fr hfk ptbI_0  (by decide)
      have pszJ_0 := szJ.fr hfk ppaI_0 pszJ_0 (by decide) (by decide)
      have ppaI_0 := paI.fr hfk ppaI_0 (by decide) (by decide) (by decide) (by decide)
      have hfr := hfr.tr hfk (by decide)
      have hq285 := hlk
      have hq286 := hsk
      have hx := hNx
      have hby_ := hNby_
      change ab_W _ _ _ G267 99 [some (vR d_), some (vz pl), none] [vz v268] _
      refine ab_istore_n d_RD_part_99 (Nat.le_of_ble_eq_true rfl) (Nat.le_of_ble_eq_true rfl) rfl ?_
      change ab_W _ _ _ G267 100 [some (vR d_), some (vz pl), some (vz v268)] [] _
      have hew := esc1_w hq272
      have hgp := esc1_gap hq272
      refine ab_iload_n d_RD_part_100 rfl ?_
      refine zz_iconst d_RD_part_101 ?_
      refine zz_icmp_lt (tgt := 113) d_RD_part_102 (by decide) (by omega) (by decide) (fun c291 => ?_) (fun c291 => ?_)
      · refine ab_aload_n d_RD_part_113 rfl ?_
        refine ab_iload_n d_RD_part_114 rfl ?_
        by_cases hv292 : v268 = -3
        · subst hv292
          change ab_W _ _ _ G267 115 [some (vR d_), some (vz pl), some (vz (-3))] [vz (-3), vR d_] _
          refine ab_callV (d' := d - 1) (as := [vz (-3)]) (st := []) (r := _) (z3_RD_escaped (o := o) (d_ := d_) (ps := ps) (wt := wt) (bs := bs) (gr := grp) (ph := ph) ppaI_0 (by omega) (by omega) (by omega) (by omega) (by omega)) (fun oc G2 h => by rcases h with ⟨_, _, _, _, _, h, _⟩ <;> exact ⟨_, h⟩) (by omega) m_RD_escaped ml_RD_91 im_RD_escaped se_RD_escaped c_RD hd_.2.2 (Nat.le_of_ble_eq_true rfl) d_RD_part_115 rfl ?_
          intro v G293 hq
          rcases hq with ⟨o294, p295, ps2296, wt2297, ph2298, hv, hfk, pNpaI_0, hq299, hq300, hq301, hq302, hq303, hq304, hq305, hq306, hq307⟩
          cases hv
          have hd_ := hfk.get hd_ (by decide)
          have hx := hfk.get hx (by decide)
          have hna := hfk.get hna (by decide)
          have hnl := hfk.get hnl (by decide)
          have hby_ := hfk.get hby_ (by decide)
          have h15 := hfk.get h15 (by decide)
          have h16 := hfk.get h16 (by decide)
          have popI_0 := popI_0.fz (o2 := o294) hq302 (by simp)
          have pcsI_se := csI.fr hfk pcsI_se (by decide) (by decide)
          have ptbI_0 := tbI.fr hfk ptbI_0  (by decide)
          have pszJ_0 := pszJ_0.fzk (o2 := o294) hq302
          have ppaI_0 := pNpaI_0
          have hfr := hfr.tr hfk (by decide)
          have hq308 := hfk.1
          change ab_W _ _ _ G293 118 [some (vR d_), some (vz pl), some (vz (-3))] [vR p295] _
          have popI_0 : opI o294 G293 0 ps2296 k hi inn := opn_ps _ _ _ popI_0 (psx.lt hq299 (by omega))
          have pszJ_0 := (pszJ_0.leaf hq306 (s := (fi G293 p295 8)) ceq.rf (by have t := hq306.2.2.2.2.1.2.1; omega)).up (hi2 := p295) (by omega)
          have popI_0 := opn_up (hi2 := p295) popI_0 (by omega)
          have popI_0 : opI o294 G293 0 ps2296 k p295 inn := popI_0
          refine ab_aret (rt := _) rfl (Or.inl ⟨_, rfl⟩) (Or.inr ⟨_, rfl⟩) d_RD_part_118 ?_
          rw [hQ]; exact (Or.inr (Or.inr ⟨_, _, _, _, _, _, _, _, _, _, _, _, _, _, _, _, _, _, _, _, _, _, _, p2269, fr, (fi G293 p295 8), rfl, hfr, hd_, hx, hna, hnl, ppaI_0, popI_0, pcsI_se, pszJ_0, (by omega), (by omega), (by omega), (by exact hnm), (by omega), (by exact hq299.lt (by omega)), (by omega), (by omega), (by omega), (by omega), (by omega), (by omega), (by omega), (by omega), (by exact hq300), (by first | exact hkf | (simp only [List.length_cons]; omega) | omega), (by omega), (by exact Or.inl ⟨Or.inl ⟨by omega, _, hq272, Or.inr ⟨by omega, hq307⟩⟩, rfl, rfl⟩), (by exact ⟨rfl, rfl, rfl⟩), (by omega)⟩))
        · have hv4 : v268 ≤ -4 := by omega
          refine ab_callV (d' := d - 1) (as := [vz v268]) (st := []) (r := _) (z4_RD_escaped (o := o) (d_ := d_) (ps := ps) (wt := wt) (bs := bs) (gr := grp) (ph := ph) (c := v268) ppaI_0 (by omega) (by omega) (by omega) (by omega) (by omega) (by omega)) (fun oc G2 h => by rcases h with ⟨_, _, _, _, _, h, _⟩ <;> exact ⟨_, h⟩) (by omega) m_RD_escaped ml_RD_91 im_RD_escaped se_RD_escaped c_RD hd_.2.2 (Nat.le_of_ble_eq_true rfl) d_RD_part_115 rfl ?_
          intro v G309 hq
          rcases hq with ⟨o310, p311, ps2312, wt2313, ph2314, hv, hfk, pNpaI_0, hq315, hq316, hq317, hq318, hq319, hq320, hq321, hq322, hq323⟩
          cases hv
          have hd_ := hfk.get hd_ (by decide)
          have hx := hfk.get hx (by decide)
          have hna := hfk.get hna (by decide)
          have hnl := hfk.get hnl (by decide)
          have hby_ := hfk.get hby_ (by decide)
          have h15 := hfk.get h15 (by decide)
          have h16 := hfk.get h16 (by decide)
          have popI_0 := popI_0.fz (o2 := o310) hq318 (by simp)
          have pcsI_se := csI.fr hfk pcsI_se (by decide) (by decide)
          have ptbI_0 := tbI.fr hfk ptbI_0  (by decide)
          have pszJ_0 := pszJ_0.fzk (o2 := o310) hq318
          have ppaI_0 := pNpaI_0
          have hfr := hfr.tr hfk (by decide)
          have hq324 := hfk.1
          change ab_W _ _ _ G309 118 [some (vR d_), some (vz pl), some (vz v268)] [vR p311] _
          have popI_0 : opI o310 G309 0 ps2312 k hi inn := opn_ps _ _ _ popI_0 (psx.lt hq315 (by omega))
          have pszJ_0 := (pszJ_0.leaf hq322 (s := (fi G309 p311 8)) ceq.rf (by have t := hq322.2.2.2.2.1.2.1; omega)).up (hi2 := p311) (by omega)
          have popI_0 := opn_up (hi2 := p311) popI_0 (by omega)
          have popI_0 : opI o310 G309 0 ps2312 k p311 inn := popI_0
          refine ab_aret (rt := _) rfl (Or.inl ⟨_, rfl⟩) (Or.inr ⟨_, rfl⟩) d_RD_part_118 ?_
          rw [hQ]; exact (Or.inr (Or.inr ⟨_, _, _, _, _, _, _, _, _, _, _, _, _, _, _, _, _, _, _, _, _, _, _, p2269, fr, (fi G309 p311 8), rfl, hfr, hd_, hx, hna, hnl, ppaI_0, popI_0, pcsI_se, pszJ_0, (by omega), (by omega), (by omega), (by exact hnm), (by omega), (by exact hq315.lt (by omega)), (by omega), (by omega), (by omega), (by omega), (by omega), (by omega), (by omega), (by omega), (by exact hq316), (by first | exact hkf | (simp only [List.length_cons]; omega) | omega), (by omega), (by exact Or.inl ⟨Or.inl ⟨by omega, _, hq272, Or.inr ⟨by omega, hq323⟩⟩, rfl, rfl⟩), (by exact ⟨rfl, rfl, rfl⟩), (by omega)⟩))
      · refine ab_aload_n d_RD_part_105 rfl ?_
        refine ab_iload_n d_RD_part_106 rfl ?_
        refine ab_callV (d' := d - 1) (as := [vz v268]) (st := []) (r := _) (z_RD_literal (o := o) (d_ := d_) (inn := inn) (dp := dp) (flg := flg) (grp := grp) (na := na) (nl := nl) (lst := lst) (mst := mst) (bh := bh) (x := x) (se := se) (by_ := by_) (n := n) (pl := p2269) (fa := fa) (fp := fp) (kd := kd) (kn := kn) (nb := nb) (cnt := cnt) (P := P) (ps := ps) (wt := wt) (bs := bs) (gr := grp) (ph := ph) (c := v268) hd_ hx h15 h16 ppaI_0 pcsI_se (by omega) (by omega) (by omega) hgp (by omega) (by omega) (by omega) (by omega) (by omega)) (fun oc G2 h => by rcases h with ⟨_, _, _, _, _, _, _, _, h, _⟩ <;> exact ⟨_, h⟩) (by omega) m_RD_literal ml_RD_87 im_RD_literal se_RD_literal c_RD hd_.2.2 (Nat.le_of_ble_eq_true rfl) d_RD_part_107 rfl ?_
        intro v G325 hq
        rcases hq with ⟨o326, p327, ps2328, wt2329, ph2330, nb2331, c2332, P2333, hv, hfk, pNpaI_0, pNcsI_se, hq334, hq335, hq336, hq337, hq338, hq339, hq340, hq341, hq342, hq343⟩
        cases hv
        have hd_ := hfk.get hd_ (by decide)
        have hx := hfk.get hx (by decide)
        have hna := hfk.get hna (by decide)
        have hnl := hfk.get hnl (by decide)
        have hby_ := hfk.get hby_ (by decide)
        have h15 := hfk.get h15 (by decide)
        have h16 := hfk.get h16 (by decide)
        have popI_0 := popI_0.fz (o2 := o326) hq337 (by simp)
        have ptbI_0 := tbI.fr hfk ptbI_0  (by decide)
        have pszJ_0 := pszJ_0.fzk (o2 := o326) hq337
        have ppaI_0 := pNpaI_0
        have pcsI_se := pNcsI_se
        have hfr := hfr.tr hfk (by decide)
        have hq344 := hfk.1
        change ab_W _ _ _ G325 110 [some (vR d_), some (vz pl), some (vz v268)] [vR p327] _
        refine ab_goto (tgt := 118) d_RD_part_110 (by decide) ?_
        have popI_0 : opI o326 G325 0 ps2328 k hi inn := opn_ps _ _ _ popI_0 (psx.lt hq334 (by omega))
        have pszJ_0 := (pszJ_0.leaf hq342 (s := (fi G325 p327 8)) ceq.rf (by have t := hq342.2.2.2.2.1.2.1; omega)).up (hi2 := p327) (by omega)
        have popI_0 := opn_up (hi2 := p327) popI_0 (by omega)
        have popI_0 : opI o326 G325 0 ps2328 k p327 inn := popI_0
        refine ab_aret (rt := _) rfl (Or.inl ⟨_, rfl⟩) (Or.inr ⟨_, rfl⟩) d_RD_part_118 ?_
        rw [hQ]; exact (Or.inr (Or.inr ⟨_, _, _, _, _, _, _, _, _, _, _, _, _, _, _, _, _, _, _, _, _, _, _, p2269, fr, (fi G325 p327 8), rfl, hfr, hd_, hx, hna, hnl, ppaI_0, popI_0, pcsI_se, pszJ_0, (by omega), (by omega), (by omega), (by exact hnm), (by omega), (by exact hq334.lt (by omega)), (by omega), (by omega), (by omega), (by omega), (by omega), (by omega), (by omega), (by omega), (by exact hq335), (by first | exact hkf | (simp only [List.length_cons]; omega) | omega), (by omega), (by exact Or.inl ⟨Or.inl ⟨by omega, _, hq272, Or.inl ⟨by omega, hq343⟩⟩, rfl, rfl⟩), (by exact ⟨rfl, rfl, rfl⟩), (by omega)⟩))
    · cases hv
      have hd_ := hfk.get hd_ (by decide)
      have hna := hfk.get hna (by decide)
      have hnl := hfk.get hnl (by decide)
      have h15 := hfk.get h15 (by decide)
      have h16 := hfk.get h16 (by decide)
      have popI_0 := opI.fr hfk ppaI_0 popI_0 (by decide) (by decide)
      have pcsI_se := csI.fr hfk pcsI_se (by decide) (by decide)
      have ptbI_0 := tbI.fr hfk ptbI_0  (by decide)
      have pszJ_0 := szJ.fr hfk ppaI_0 pszJ_0 (by decide) (by decide)
      have ppaI_0 := paI.fr hfk ppaI_0 (by decide) (by decide) (by decide) (by decide)
      have hfr := hfr.tr hfk (by decide)
      have hq287 := hlk
      have hq288 := hsk
      have hx := hNx
      have hby_ := hNby_
      change ab_W _ _ _ G267 99 [some (vR d_), some (vz pl), none] [vz (-2)] _
      refine ab_istore_n d_RD_part_99 (Nat.le_of_ble_eq_true rfl) (Nat.le_of_ble_eq_true rfl) rfl ?_
      change ab_W _ _ _ G267 100 [some (vR d_), some (vz pl), some (vz (-2))] [] _
      have hew := esc2_w hq279
      refine ab_iload_n d_RD_part_100 rfl ?_
      refine zz_iconst d_RD_part_101 ?_
      refine zz_icmp_lt (tgt := 113) d_RD_part_102 (by decide) (by decide) (by decide) (fun c345 => ?_) (fun c345 => absurd c345 (by decide))
      refine ab_aload_n d_RD_part_113 rfl ?_
      refine ab_iload_n d_RD_part_114 rfl ?_
      refine ab_callV (d' := d - 1) (as := [vz (-2)]) (st := []) (r := _) (z2_RD_escaped (o := o) (d_ := d_) (inn := inn) (dp := dp) (flg := flg) (grp := grp) (na := na) (nl := nl) (lst := lst) (mst := mst) (bh := bh) (x := x) (se := se) (by_ := by_) (n := n) (pl := p2273) (fa := fa) (fp := fp) (kd := k2274) (kn := b2275) (nb := nb) (cnt := cnt) (P := P) (ps := ps) (wt := wt) (bs := bs) (gr := grp) (ph := ph) hd_ hx ppaI_0 pcsI_se ptbI_0 (by omega) (by omega) (by omega) (by omega) (by omega) (by omega) (by omega)) (fun oc G2 h => by rcases h with ⟨_, _, _, _, _, _, _, _, h, _⟩ <;> exact ⟨_, h⟩) (by omega) m_RD_escaped ml_RD_91 im_RD_escaped se_RD_escaped c_RD hd_.2.2 (Nat.le_of_ble_eq_true rfl) d_RD_part_115 rfl ?_
      intro v G346 hq
      rcases hq with ⟨o347, p348, ps2349, wt2350, ph2351, nb2352, c2353, P2354, hv, hfk, pNpaI_0, pNcsI_se, hq355, hq356, hq357, hq358, hq359, hq360, hq361, hq362, hq363, hq364⟩
      cases hv
      have hd_ := hfk.get hd_ (by decide)
      have hx := hfk.get hx (by decide)
      have hna := hfk.get hna (by decide)
      have hnl := hfk.get hnl (by decide)
      have hby_ := hfk.get hby_ (by decide)
      have h15 := hfk.get h15 (by decide)
      have h16 := hfk.get h16 (by decide)
      have popI_0 := popI_0.fz (o2 := o347) hq358 (by simp)
      have ptbI_0 := tbI.fr hfk ptbI_0  (by decide)
      have pszJ_0 := pszJ_0.fzk (o2 := o347) hq358
      have ppaI_0 := pNpaI_0
      have pcsI_se := pNcsI_se
      have hfr := hfr.tr hfk (by decide)
      have hq365 := hfk.1
      change ab_W _ _ _ G346 118 [some (vR d_), some (vz pl), some (vz (-2))] [vR p348] _
      have popI_0 : opI o347 G346 0 ps2349 k hi inn := opn_ps _ _ _ popI_0 (psx.lt hq355 (by omega))
      have pszJ_0 := (pszJ_0.leaf hq363 (s := (fi G346 p348 8)) ceq.rf (by have t := hq363.2.2.2.2.1.2.1; omega)).up (hi2 := p348) (by omega)
      have popI_0 := opn_up (hi2 := p348) popI_0 (by omega)
      have popI_0 : opI o347 G346 0 ps2349 k p348 inn := popI_0
      refine ab_aret (rt := _) rfl (Or.inl ⟨_, rfl⟩) (Or.inr ⟨_, rfl⟩) d_RD_part_118 ?_
      rw [hQ]; exact (Or.inr (Or.inr ⟨_, _, _, _, _, _, _, _, _, _, _, _, _, _, _, _, _, _, _, _, _, _, _, p2273, fr, (fi G346 p348 8), rfl, hfr, hd_, hx, hna, hnl, ppaI_0, popI_0, pcsI_se, pszJ_0, (by omega), (by omega), (by omega), (by exact hnm), (by omega), (by exact hq355.lt (by omega)), (by omega), (by omega), (by omega), (by omega), (by omega), (by omega), (by omega), (by omega), (by exact hq356), (by first | exact hkf | (simp only [List.length_cons]; omega) | omega), (by omega), (by exact Or.inl ⟨Or.inr (Or.inl ⟨by omega, _, _, hq279, hq364⟩), rfl, rfl⟩), (by exact ⟨rfl, rfl, rfl⟩), (by omega)⟩))
    · cases hv
      have hd_ := hfk.get hd_ (by decide)
      have hna := hfk.get hna (by decide)
      have hnl := hfk.get hnl (by decide)
      have h15 := hfk.get h15 (by decide)
      have h16 := hfk.get h16 (by decide)
      have popI_0 := opI.fr hfk ppaI_0 popI_0 (by decide) (by decide)
      have pcsI_se := csI.fr hfk pcsI_se (by decide) (by decide)
      have ptbI_0 := tbI.fr hfk ptbI_0  (by decide)
      have pszJ_0 := szJ.fr hfk ppaI_0 pszJ_0 (by decide) (by decide)
      have ppaI_0 := paI.fr hfk ppaI_0 (by decide) (by decide) (by decide) (by decide)
      have hfr := hfr.tr hfk (by decide)
      have hq289 := hlk
      have hq290 := hsk
      have hx := hNx
      have hby_ := hNby_
      change ab_W _ _ _ G267 99 [some (vR d_), some (vz pl), none] [vz (-1)] _
      refine ab_istore_n d_RD_part_99 (Nat.le_of_ble_eq_true rfl) (Nat.le_of_ble_eq_true rfl) rfl ?_
      change ab_W _ _ _ G267 100 [some (vR d_), some (vz pl), some (vz (-1))] [] _
      refine ab_iload_n d_RD_part_100 rfl ?_
      refine zz_iconst d_RD_part_101 ?_
      refine zz_icmp_lt (tgt := 113) d_RD_part_102 (by decide) (by decide) (by decide) (fun c366 => absurd c366 (by decide)) (fun c366 => ?_)
      refine ab_aload_n d_RD_part_105 rfl ?_
      refine ab_iload_n d_RD_part_106 rfl ?_
      refine ab_callV (d' := d - 1) (as := [vz (-1)]) (st := []) (r := _) (zN_RD_literal (o := o) (d_ := d_) ) (fun oc G2 h => by rcases h with ⟨h, _⟩ <;> exact ⟨_, h⟩) (by omega) m_RD_literal ml_RD_87 im_RD_literal se_RD_literal c_RD hd_.2.2 (Nat.le_of_ble_eq_true rfl) d_RD_part_107 rfl ?_
      intro v G367 hq
      rcases hq with ⟨hv, hGe⟩
      cases hv
      rw [hGe]
      change ab_W _ _ _ G267 110 [some (vR d_), some (vz pl), some (vz (-1))] [vN] _
      refine ab_goto (tgt := 118) d_RD_part_110 (by decide) ?_
      refine ab_aret (rt := _) rfl (Or.inl ⟨_, rfl⟩) (Or.inl rfl) d_RD_part_118 ?_
      rw [hQ]; exact (Or.inl ⟨_, _, _, _, _, _, _, _, _, _, _, _, _, _, _, _, _, _, _, _, _, _, _, pl, fr, rfl, hfr, hd_, hx, hna, hnl, ppaI_0, popI_0, pcsI_se, pszJ_0, (by omega), (by omega), (by omega), (by exact hnm), (by omega), (by exact psx.rf), (by omega), (by omega), (by omega), (by omega), (by omega), (by omega), (by omega), (by omega), (by first | exact hkf | (simp only [List.length_cons]; omega) | omega), (by omega), (by exact Or.inl (Or.inl (Or.inl ⟨by omega, hq284, by omega⟩)))⟩)
  replace c266 : nzq v2 92 := c266
  by_cases c368 : v2 = 94
  · refine zz_lookup (off := 167) (tgt := 183) d_RD_part_16 (by decide) (by omega) (by rw [c368]; decide) (by decide) ?_
    refine ab_aload_n d_RD_part_183 rfl ?_
    refine ab_getf (fs := [vR x, inn, vz dp, vz flg, vz grp, vR na, vR nl, vz lst, vz mst, vz bh]) f_RD_12 d_RD_part_184 hd_.2.2 rfl ?_
    refine ab_dup d_RD_part_187 rfl ?_
    refine ab_getf (fs := [vR se, vR by_, vz n, vz pl, vz fa, vz fp, vR kd, vz kn]) f_RD_55 d_RD_part_188 hx.2.2 rfl ?_
    refine zz_iconst d_RD_part_191 ?_
    refine zz_iadd d_RD_part_192 ?_
    refine ab_putf (fs := [vR se, vR by_, vz n, vz pl, vz fa, vz fp, vR kd, vz kn]) f_RD_55 (Or.inl rfl) d_RD_part_193 hx.2.2 (Nat.le_of_ble_eq_true rfl) (fun _ => ⟨rfl, rfl⟩) (hx.2.1 (by decide)) ?_
    obtain ⟨G369, eG369⟩ : ∃ z : ab_G, z = List.set G x (ab_ob 10 [vR se, vR by_, vz n, vz (pl + 1), vz fa, vz fp, vR kd, vz kn]) := ⟨_, rfl⟩
    have hd_ := hd_.keep hx eG369 (by decide)
    have hna := hna.keep hx eG369 (by decide)
    have hnl := hnl.keep hx eG369 (by decide)
    have hby_ := hby_.keep hx eG369 (by decide)
    have h15 := h15.keep hx eG369 (by decide)
    have h16 := h16.keep hx eG369 (by decide)
    have hst := (fx.rf (o := o) (S := [24]) (G := G)).wr hx eG369 (List.mem_singleton.mpr rfl)
    have popI_0 := opI.fr hst ppaI_0 popI_0 (by decide) (by decide)
    have pcsI_se := csI.fr hst pcsI_se (by decide) (by decide)
    have ptbI_0 := tbI.fr hst ptbI_0  (by decide)
    have pszJ_0 := szJ.fr hst ppaI_0 pszJ_0 (by decide) (by decide)
    have ppaI_0 := paI.fr hst ppaI_0 (by decide) (by decide) (by decide) (by decide)
    have hq370 := z_len eG369
    have hq371 := z_sl hx eG369 rfl
    have hfr := hfr.wr hx eG369 (by decide)
    have hx := hx.kept eG369
    change ab_W _ _ _ (List.set G x (ab_ob 10 [vR se, vR by_, vz n, vz (pl + 1), vz fa, vz fp, vR kd, vz kn])) 196 [some (vR d_), some (vz pl), none] [] _
    rw [← eG369]
    refine ab_new (fs := [vz 0, vz 0, vN, vz 0, vz 0, vN, vN, vN, vz 0, vz 0, vz 0, vz 0, vz 0, vz 0, vz 0]) k_PA rfl cl_RD_18 inst_PA ini_PA d_RD_part_196 (by decide) (fun _ => rfl) (by omega) (by omega) ?_
    obtain ⟨G372, eG372⟩ : ∃ z : ab_G, z = G369 ++ [ab_ob 4 [vz 0, vz 0, vN, vz 0, vz 0, vN, vN, vN, vz 0, vz 0, vz 0, vz 0, vz 0, vz 0, vz 0]] := ⟨_, rfl⟩
    obtain ⟨o373, eo373⟩ : ∃ z : Nat → Nat, z = ol o G369.length 90 := ⟨_, rfl⟩
    obtain ⟨a374, ea374⟩ : ∃ z : Nat, z = G369.length := ⟨_, rfl⟩
    have hq375 := hby_.n0 (by first | decide | omega)
    have ne_a374_d_ : nq a374 d_ := by have hlt := hd_.lt; unfold nq; omega
    have ne_a374_x : nq a374 x := by have hlt := hx.lt; unfold nq; omega
    have ne_a374_na : nq a374 na := by have hlt := hna.lt; unfold nq; omega
    have ne_a374_nl : nq a374 nl := by have hlt := hnl.lt; unfold nq; omega
    have ne_a374_by_ : nq a374 by_ := by have hlt := hby_.lt; unfold nq; omega
    have ne_a374_15 : nq a374 15 := by have hlt := h15.lt; unfold nq; omega
    have ne_a374_16 : nq a374 16 := by have hlt := h16.lt; unfold nq; omega
    have hd_ := hd_.akeep (k := 90) eG372
    rw [← eo373] at hd_
    have hx := hx.akeep (k := 90) eG372
    rw [← eo373] at hx
    have hna := hna.akeep (k := 90) eG372
    rw [← eo373] at hna
    have hnl := hnl.akeep (k := 90) eG372
    rw [← eo373] at hnl
    have hby_ := hby_.akeep (k := 90) eG372
    rw [← eo373] at hby_
    have h15 := h15.akeep (k := 90) eG372
    rw [← eo373] at h15
    have h16 := h16.akeep (k := 90) eG372
    rw [← eo373] at h16
    have hst := (fx.rf (o := o) (S := []) (G := G369)).ap (k := 90) eG372
    rw [← eo373] at hst
    have hnpa374 := ppaI_0.new (a := a374) (by omega)
    have popI_0 := opI.fr hst ppaI_0 popI_0 (by decide) (by decide)
    have pcsI_se := csI.fr hst pcsI_se (by decide) (by decide)
    have ptbI_0 := tbI.fr hst ptbI_0  (by simp)
    have pszJ_0 := szJ.fr hst ppaI_0 pszJ_0 (by decide) (by decide)
    have ppaI_0 := paI.fr hst ppaI_0 (by decide) (by decide) (by decide) (by simp)
    have ha374 := cc.anew (o := o) 90 eG372 hq375
    rw [← eo373, ← ea374] at ha374
    have hfr := hfr.ap (k := 90) eG372
    rw [← eo373] at hfr
    have hq376 := z_alen eG372
    have hq377 : ab_slots G372 = ab_slots G369 + 15 := z_asl eG372 hq375
    change ab_W _ _ _ (G369 ++ [ab_ob 4 [vz 0, vz 0, vN, vz 0, vz 0, vN, vN, vN, vz 0, vz 0, vz 0, vz 0, vz 0, vz 0, vz 0]]) 199 [some (vR d_), some (vz pl), none] [.ref G369.length] _
    rw [← eG372, ← ea374]
    change ab_W _ _ _ G372 199 [some (vR d_), some (vz pl), none] [vR a374] _
    refine ab_dup d_RD_part_199 rfl ?_
    refine zz_iconst d_RD_part_200 ?_
    refine ab_aload_n d_RD_part_201 rfl ?_
    refine zz_iconst d_RD_part_202 ?_
    refine ab_callV (d' := d - 1) (as := [vz 2]) (st := [vz 3, vR a374, vR a374]) (r := _) (z2_RD_isOn (o := o373) (d_ := d_) (inn := inn) (dp := dp) (flg := flg) (grp := grp) (na := na) (nl := nl) (lst := lst) (mst := mst) (bh := bh) (x := x) hd_ (by omega)) (fun oc G2 h => by rcases h with ⟨_, h, _⟩ <;> exact ⟨_, h⟩) (by omega) m_RD_isOn ml_RD_94 im_RD_isOn se_RD_isOn c_RD hd_.2.2 (Nat.le_of_ble_eq_true rfl) d_RD_part_203 rfl ?_
    intro v G378 hq
    rcases hq with ⟨v379, hv, hGe, hq380, hq381⟩
    cases hv
    rw [hGe]
    change ab_W _ _ _ G372 206 [some (vR d_), some (vz pl), none] [vz v379, vz 3, vR a374, vR a374] _
    refine zz_if_eq (tgt := 213) d_RD_part_206 (by decide) (by omega) (fun c382 => ?_) (fun c382 => ?_)
    · refine zz_iconst d_RD_part_213 ?_
      refine zz_iconst d_RD_part_214 ?_
      refine zz_iconst d_RD_part_215 ?_
      refine ab_callI (d' := d - 1) (as := [vz 3, vz 0, vz 1, vz 1]) (st := [vR a374]) (z90_PA_init (o := o373) (a := a374) (k0 := 3) (v0 := 0) (s0 := 1) (m0 := 1) (ps := ps) (wt := wt) (bs := bs) (gr := grp) (Pr := pr0) (ph := ph) ha374 ppaI_0 (by omega) (by omega) (by omega) (by omega)) (fun oc G2 h => by rcases h with ⟨h, _⟩ <;> exact ⟨_, h⟩) (by omega) m_PA_init ml_RD_20 im_PA_init rfl (Nat.le_of_ble_eq_true rfl) d_RD_part_216 rfl ?_
      intro v G383 hq
      rcases hq with ⟨hv, hfk, hlk, hsk, hNa374, pNpaI_0, hq384⟩
      cases hv
      have hd_ := hfk.get hd_ (by decide)
      have hx := hfk.get hx (by decide)
      have hna := hfk.get hna (by decide)
      have hnl := hfk.get hnl (by decide)
      have hby_ := hfk.get hby_ (by decide)
      have h15 := hfk.get h15 (by decide)
      have h16 := hfk.get h16 (by decide)
      have popI_0 := popI_0.fz (o2 := o373) hq384 (by simp)
      have pcsI_se := csI.fr hfk pcsI_se (by decide) (by decide)
      have ptbI_0 := tbI.fr hfk ptbI_0  (by decide)
      have pszJ_0 := pszJ_0.fzk (o2 := o373) hq384
      have ppaI_0 := pNpaI_0
      have hfr := hfr.tr hfk (by decide)
      have hq385 := hlk
      have hq386 := hsk
      have ha374 := hNa374
      change ab_W _ _ _ G383 219 [some (vR d_), some (vz pl), none] [vR a374] _
      have hnf_ := ppaI_0.nref hnpa374
      have hnp9_ := hnpa374
      have hlt387 := ha374.lt
      have hn387 : paN grp pr0 3 0 (-1) := ⟨by omega, by intro _; omega, by intro _; omega, by intro _; omega, pr0_⟩
      obtain ⟨ps387, wt387, hx387, hxo387, hpa387, ppaI_0⟩ : ∃ pz wz : Nat → Nat, psx ps pz a374 ∧ (∀ x, ¬ x = a374 → pz x = ps x) ∧ pz a374 = 90 ∧ paI o373 G383 0 pz wz bs grp pr0 (ph + 0) := ⟨_, _, psx.ol (Nat.le_refl _), fun x hx => if_neg hx, ol_self, ppaI_0.ad90 0 hnpa374 (by omega) ha374 hn387 (by unfold pnB; omega) (Or.inl ⟨by omega, rfl⟩) (Or.inl rfl) (Or.inl rfl) (Or.inl rfl)⟩
      have popI_0 : opI o373 G383 0 ps387 k hi inn := opn_ps _ _ _ popI_0 (psx.lt hx387 (by omega))
      have hlf_ : leafp ps ps387 G383 a374 := leafp.mk hnf_ hnp9_ hxo387 hpa387 ha374 (by omega)
      have pszJ_0 := (pszJ_0.leaf hlf_ (s := (fi G383 a374 8)) ceq.rf (by have t := hlf_.2.2.2.2.1.2.1; omega)).up (hi2 := a374) (by omega)
      have popI_0 := opn_up (hi2 := a374) popI_0 (by omega)
      have popI_0 : opI o373 G383 0 ps387 k a374 inn := popI_0
      refine ab_aret (rt := _) rfl (Or.inl ⟨_, rfl⟩) (Or.inr ⟨_, rfl⟩) d_RD_part_219 ?_
      rw [hQ]; exact (Or.inr (Or.inr ⟨_, _, _, _, _, _, _, _, _, _, _, _, _, _, _, _, _, _, _, _, _, _, _, (pl + 1), fr, (fi G383 a374 8), rfl, hfr, hd_, hx, hna, hnl, ppaI_0, popI_0, pcsI_se, pszJ_0, (by omega), (by omega), (by omega), (by exact hnm), (by have hlt := ha374.lt; omega), (by exact hx387.lt (by omega)), (by omega), (by omega), (by omega), (by omega), (by omega), (by omega), (by omega), (by omega), (by exact hpa387), (by first | exact hkf | (simp only [List.length_cons]; omega) | omega), (by omega), (by exact Or.inl ⟨Or.inr (Or.inr (Or.inr (Or.inr (Or.inl ⟨by omega, by omega, (fi_pa ha374 (by omega) (by omega)).2.2.1⟩)))), rfl, rfl⟩), (by exact ⟨rfl, rfl, rfl⟩), (by omega)⟩))
    · refine zz_iconst d_RD_part_209 ?_
      refine ab_goto (tgt := 214) d_RD_part_210 (by decide) ?_
      refine zz_iconst d_RD_part_214 ?_
      refine zz_iconst d_RD_part_215 ?_
      refine ab_callI (d' := d - 1) (as := [vz 3, vz 2, vz 1, vz 1]) (st := [vR a374]) (z90_PA_init (o := o373) (a := a374) (k0 := 3) (v0 := 2) (s0 := 1) (m0 := 1) (ps := ps) (wt := wt) (bs := bs) (gr := grp) (Pr := pr0) (ph := ph) ha374 ppaI_0 (by omega) (by omega) (by omega) (by omega)) (fun oc G2 h => by rcases h with ⟨h, _⟩ <;> exact ⟨_, h⟩) (by omega) m_PA_init ml_RD_20 im_PA_init rfl (Nat.le_of_ble_eq_true rfl) d_RD_part_216 rfl ?_
      intro v G388 hq
      rcases hq with ⟨hv, hfk, hlk, hsk, hNa374, pNpaI_0, hq389⟩
      cases hv
      have hd_ := hfk.get hd_ (by decide)
      have hx := hfk.get hx (by decide)
      have hna := hfk.get hna (by decide)
      have hnl := hfk.get hnl (by decide)
      have hby_ := hfk.get hby_ (by decide)
      have h15 := hfk.get h15 (by decide)
      have h16 := hfk.get h16 (by decide)
      have popI_0 := popI_0.fz (o2 := o373) hq389 (by simp)
      have pcsI_se := csI.fr hfk pcsI_se (by decide) (by decide)
      have ptbI_0 := tbI.fr hfk ptbI_0  (by decide)
      have pszJ_0 := pszJ_0.fzk (o2 := o373) hq389
      have ppaI_0 := pNpaI_0
      have hfr := hfr.tr hfk (by decide)
      have hq390 := hlk
      have hq391 := hsk
      have ha374 := hNa374
      change ab_W _ _ _ G388 219 [some (vR d_), some (vz pl), none] [vR a374] _
      have hnf_ := ppaI_0.nref hnpa374
      have hnp9_ := hnpa374
      have hlt392 := ha374.lt
      have hn392 : paN grp pr0 3 2 (-1) := ⟨by omega, by intro _; omega, by intro _; omega, by intro _; omega, pr0_⟩
      obtain ⟨ps392, wt392, hx392, hxo392, hpa392, ppaI_0⟩ : ∃ pz wz : Nat → Nat, psx ps pz a374 ∧ (∀ x, ¬ x = a374 → pz x = ps x) ∧ pz a374 = 90 ∧ paI o373 G388 0 pz wz bs grp pr0 (ph + 0) := ⟨_, _, psx.ol (Nat.le_refl _), fun x hx => if_neg hx, ol_self, ppaI_0.ad90 0 hnpa374 (by omega) ha374 hn392 (by unfold pnB; omega) (Or.inl ⟨by omega, rfl⟩) (Or.inl rfl) (Or.inl rfl) (Or.inl rfl)⟩
      have popI_0 : opI o373 G388 0 ps392 k hi inn := opn_ps _ _ _ popI_0 (psx.lt hx392 (by omega))
      have hlf_ : leafp ps ps392 G388 a374 := leafp.mk hnf_ hnp9_ hxo392 hpa392 ha374 (by omega)
      have pszJ_0 := (pszJ_0.leaf hlf_ (s := (fi G388 a374 8)) ceq.rf (by have t := hlf_.2.2.2.2.1.2.1; omega)).up (hi2 := a374) (by omega)
      have popI_0 := opn_up (hi2 := a374) popI_0 (by omega)
      have popI_0 : opI o373 G388 0 ps392 k a374 inn := popI_0
      refine ab_aret (rt := _) rfl (Or.inl ⟨_, rfl⟩) (Or.inr ⟨_, rfl⟩) d_RD_part_219 ?_
      rw [hQ]; exact (Or.inr (Or.inr ⟨_, _, _, _, _, _, _, _, _, _, _, _, _, _, _, _, _, _, _, _, _, _, _, (pl + 1), fr, (fi G388 a374 8), rfl, hfr, hd_, hx, hna, hnl, ppaI_0, popI_0, pcsI_se, pszJ_0, (by omega), (by omega), (by omega), (by exact hnm), (by have hlt := ha374.lt; omega), (by exact hx392.lt (by omega)), (by omega), (by omega), (by omega), (by omega), (by omega), (by omega), (by omega), (by omega), (by exact hpa392), (by first | exact hkf | (simp only [List.length_cons]; omega) | omega), (by omega), (by exact Or.inl ⟨Or.inr (Or.inr (Or.inr (Or.inr (Or.inl ⟨by omega, by omega, (fi_pa ha374 (by omega) (by omega)).2.2.1⟩)))), rfl, rfl⟩), (by exact ⟨rfl, rfl, rfl⟩), (by omega)⟩))
  replace c368 : nzq v2 94 := c368
  by_cases c393 : v2 = 124
  · refine zz_lookup (off := 241) (tgt := 257) d_RD_part_16 (by decide) (by omega) (by rw [c393]; decide) (by decide) ?_
    refine ab_aload_n d_RD_part_257 rfl ?_
    refine ab_getf (fs := [vR x, inn, vz dp, vz flg, vz grp, vR na, vR nl, vz lst, vz mst, vz bh]) f_RD_12 d_RD_part_258 hd_.2.2 rfl ?_
    refine ab_dup d_RD_part_261 rfl ?_
    refine ab_getf (fs := [vR se, vR by_, vz n, vz pl, vz fa, vz fp, vR kd, vz kn]) f_RD_55 d_RD_part_262 hx.2.2 rfl ?_
    refine zz_iconst d_RD_part_265 ?_
    refine zz_iadd d_RD_part_266 ?_
    refine ab_putf (fs := [vR se, vR by_, vz n, vz pl, vz fa, vz fp, vR kd, vz kn]) f_RD_55 (Or.inl rfl) d_RD_part_267 hx.2.2 (Nat.le_of_ble_eq_true rfl) (fun _ => ⟨rfl, rfl⟩) (hx.2.1 (by decide)) ?_
    obtain ⟨G394, eG394⟩ : ∃ z : ab_G, z = List.set G x (ab_ob 10 [vR se, vR by_, vz n, vz (pl + 1), vz fa, vz fp, vR kd, vz kn]) := ⟨_, rfl⟩
    have hd_ := hd_.keep hx eG394 (by decide)
    have hna := hna.keep hx eG394 (by decide)
    have hnl := hnl.keep hx eG394 (by decide)
    have hby_ := hby_.keep hx eG394 (by decide)
    have h15 := h15.keep hx eG394 (by decide)
    have h16 := h16.keep hx eG394 (by decide)
    have hst := (fx.rf (o := o) (S := [24]) (G := G)).wr hx eG394 (List.mem_singleton.mpr rfl)
    have popI_0 := opI.fr hst ppaI_0 popI_0 (by decide) (by decide)
    have pcsI_se := csI.fr hst pcsI_se (by decide) (by decide)
    have ptbI_0 := tbI.fr hst ptbI_0  (by decide)
    have pszJ_0 := szJ.fr hst ppaI_0 pszJ_0 (by decide) (by decide)
    have ppaI_0 := paI.fr hst ppaI_0 (by decide) (by decide) (by decide) (by decide)
    have hq395 := z_len eG394
    have hq396 := z_sl hx eG394 rfl
    have hfr := hfr.wr hx eG394 (by decide)
    have hx := hx.kept eG394
    change ab_W _ _ _ (List.set G x (ab_ob 10 [vR se, vR by_, vz n, vz (pl + 1), vz fa, vz fp, vR kd, vz kn])) 270 [some (vR d_), some (vz pl), none] [] _
    rw [← eG394]
    obtain ⟨j397, hj397⟩ : ∃ j, k = j + 1 := ⟨k - 1, by omega⟩
    rw [hj397] at popI_0
    obtain ⟨g397, r397, w397, lv397, hv397, ⟨hpg397, hpr397⟩, ⟨hgl397, hrl397⟩, hf6397, hf5397, hr6397, hlv397, hop397⟩ := popI_0
    subst hv397
    obtain ⟨k_398, v_398, rg_398, pl_398, fl_398, ou_398, ls_398, bf_398, sz_398, mb_398, oe_398, le_398, mo_398, la_398, rc_398, hg397, hn398, hb398, hg398, ho398, hl398, hf398⟩ := ppaI_0.1 g397 hpg397
    have hB398 := hb398
    unfold pnB at hB398
    have hK398 := hn398.1
    obtain ⟨ls399, bf399, sz399, mb399, hr397, hB399, hl399, hf399⟩ := ppaI_0.2.1 r397 hpr397
    have e6397 : some ls_398 = some (vR r397) := by have t := hf6397; unfold pf at t; rw [hg397.2.2] at t; exact t
    have e6397 := Option.some.inj e6397
    subst e6397
    have e5397 : some ou_398 = some w397 := by have t := hf5397; unfold pf at t; rw [hg397.2.2] at t; exact t
    have e5397 := Option.some.inj e5397
    subst e5397
    have e7397 : some ls399 = some lv397 := by have t := hr6397; unfold pf at t; rw [hr397.2.2] at t; exact t
    have e7397 := Option.some.inj e7397
    subst e7397
    have popI_0 : opI o G394 0 ps j397 g397 ou_398 := hop397
    have hnq397 : nq g397 r397 := hg397.ne hr397 (by decide)
    change ab_W _ _ _ G394 270 [some (vR d_), some (vz pl), none] [] _
    refine ab_aload_n d_RD_part_270 rfl ?_
    refine ab_getf (fs := [vR x, vR g397, vz dp, vz flg, vz grp, vR na, vR nl, vz lst, vz mst, vz bh]) f_RD_23 d_RD_part_271 hd_.2.2 rfl ?_
    refine ab_new (fs := [vz 0, vz 0, vN, vz 0, vz 0, vN, vN, vN, vz 0, vz 0, vz 0, vz 0, vz 0, vz 0, vz 0]) k_PA rfl cl_RD_18 inst_PA ini_PA d_RD_part_274 (by decide) (fun _ => rfl) (by omega) (by omega) ?_
    obtain ⟨G400, eG400⟩ : ∃ z : ab_G, z = G394 ++ [ab_ob 4 [vz 0, vz 0, vN, vz 0, vz 0, vN, vN, vN, vz 0, vz 0, vz 0, vz 0, vz 0, vz 0, vz 0]] := ⟨_, rfl⟩
    obtain ⟨o401, eo401⟩ : ∃ z : Nat → Nat, z = ol o G394.length 94 := ⟨_, rfl⟩
    obtain ⟨a402, ea402⟩ : ∃ z : Nat, z = G394.length := ⟨_, rfl⟩
    have hq403 := hr397.n0 (by first | decide | omega)
    have ne_a402_d_ : nq a402 d_ := by have hlt := hd_.lt; unfold nq; omega
    have ne_a402_x : nq a402 x := by have hlt := hx.lt; unfold nq; omega
    have ne_a402_na : nq a402 na := by have hlt := hna.lt; unfold nq; omega
    have ne_a402_nl : nq a402 nl := by have hlt := hnl.lt; unfold nq; omega
    have ne_a402_by_ : nq a402 by_ := by have hlt := hby_.lt; unfold nq; omega
    have ne_a402_15 : nq a402 15 := by have hlt := h15.lt; unfold nq; omega
    have ne_a402_16 : nq a402 16 := by have hlt := h16.lt; unfold nq; omega
    have ne_a402_g397 : nq a402 g397 := by have hlt := hg397.lt; unfold nq; omega
    have ne_a402_r397 : nq a402 r397 := by have hlt := hr397.lt; unfold nq; omega
    have hd_ := hd_.akeep (k := 94) eG400
    rw [← eo401] at hd_
    have hx := hx.akeep (k := 94) eG400
    rw [← eo401] at hx
    have hna := hna.akeep (k := 94) eG400
    rw [← eo401] at hna
    have hnl := hnl.akeep (k := 94) eG400
    rw [← eo401] at hnl
    have hby_ := hby_.akeep (k := 94) eG400
    rw [← eo401] at hby_
    have h15 := h15.akeep (k := 94) eG400
    rw [← eo401] at h15
    have h16 := h16.akeep (k := 94) eG400
    rw [← eo401] at h16
    have hg397 := hg397.akeep (k := 94) eG400
    rw [← eo401] at hg397
    have hr397 := hr397.akeep (k := 94) eG400
    rw [← eo401] at hr397
    have hst := (fx.rf (o := o) (S := []) (G := G394)).ap (k := 94) eG400
    rw [← eo401] at hst
    have hnpa402 := ppaI_0.new (a := a402) (by omega)
    have pcsI_se := csI.fr hst pcsI_se (by decide) (by decide)
    have ptbI_0 := tbI.fr hst ptbI_0  (by simp)
    have pszJ_0 := szJ.fr hst ppaI_0 pszJ_0 (by decide) (by decide)
    have popI_0 := opI.fr hst ppaI_0 popI_0 (by decide) (by decide)
    have ppaI_0 := paI.fr hst ppaI_0 (by decide) (by decide) (by decide) (by simp)
    have ha402 := cc.anew (o := o) 94 eG400 hq403
    rw [← eo401, ← ea402] at ha402
    have hfr := hfr.ap (k := 94) eG400
    rw [← eo401] at hfr
    have hq404 := z_alen eG400
    have hq405 : ab_slots G400 = ab_slots G394 + 15 := z_asl eG400 hq403
    change ab_W _ _ _ (G394 ++ [ab_ob 4 [vz 0, vz 0, vN, vz 0, vz 0, vN, vN, vN, vz 0, vz 0, vz 0, vz 0, vz 0, vz 0, vz 0]]) 277 [some (vR d_), some (vz pl), none] [.ref G394.length, vR g397] _
    rw [← eG400, ← ea402]
    change ab_W _ _ _ G400 277 [some (vR d_), some (vz pl), none] [vR a402, vR g397] _
    refine ab_dup d_RD_part_277 rfl ?_
    refine zz_iconst d_RD_part_278 ?_
    refine zz_iconst d_RD_part_279 ?_
    refine zz_iconst d_RD_part_280 ?_
    refine zz_iconst d_RD_part_281 ?_
    refine ab_callI (d' := d - 1) (as := [vz 5, vz 0, vz 0, vz 1]) (st := [vR a402, vR g397]) (z94_PA_init (o := o401) (a := a402) (k0 := 5) (v0 := 0) (s0 := 0) (m0 := 1) (ps := ps) (wt := wt) (bs := bs) (gr := grp) (Pr := pr0) (ph := ph) ha402 ppaI_0 (by omega) (by omega) (by omega) (by omega)) (fun oc G2 h => by rcases h with ⟨h, _⟩ <;> exact ⟨_, h⟩) (by omega) m_PA_init ml_RD_20 im_PA_init rfl (Nat.le_of_ble_eq_true rfl) d_RD_part_282 rfl ?_
    intro v G406 hq
    rcases hq with ⟨hv, hfk, hlk, hsk, hNa402, pNpaI_0, hq407⟩
    cases hv
    have hd_ := hfk.get hd_ (by decide)
    have hx := hfk.get hx (by decide)
    have hna := hfk.get hna (by decide)
    have hnl := hfk.get hnl (by decide)
    have hby_ := hfk.get hby_ (by decide)
    have h15 := hfk.get h15 (by decide)
    have h16 := hfk.get h16 (by decide)
    have hg397 := hfk.get hg397 (by decide)
    have hKr397 := hq407.get hfk hr397 (Or.inr hpr397) (by simp only [List.mem_cons, List.not_mem_nil, or_false, not_or]; exact not_false)
    have hr397 := hKr397
    have pcsI_se := csI.fr hfk pcsI_se (by decide) (by decide)
    have ptbI_0 := tbI.fr hfk ptbI_0  (by decide)
    have pszJ_0 := pszJ_0.fzk (o2 := o401) hq407
    have popI_0 := popI_0.fz (o2 := o401) hq407 (by simp)
    have ppaI_0 := pNpaI_0
    have hfr := hfr.tr hfk (by decide)
    have hq408 := hlk
    have hq409 := hsk
    have ha402 := hNa402
    change ab_W _ _ _ G406 285 [some (vR d_), some (vz pl), none] [vR a402, vR g397] _
    have hnf_ := ppaI_0.nref hnpa402
    have hnp9_ := hnpa402
    obtain ⟨a1_, b1_, c1_, d1_, e1_, t_, hft_⟩ := pszJ_0.hd (by omega)
    rw [hft_] at pszJ_0
    have hsz9 := pszJ_0
    have hg9 := hg397
    have hlt410 := ha402.lt
    obtain ⟨ps410, hx410, hxo410, hpa410, ppaI_0⟩ : ∃ pz : Nat → Nat, psx ps pz a402 ∧ (∀ x, ¬ x = a402 → pz x = ps x) ∧ pz a402 = 94 ∧ paI o401 G406 0 pz wt bs grp pr0 ph := ⟨_, psx.ol (Nat.le_refl _), fun x hx => if_neg hx, ol_self, ppaI_0.ad94 hnpa402 ha402 (by omega) (Or.inl rfl) (Or.inl rfl)⟩
    have hp411 : ps410 g397 = 90 := hx410.at (by have hlt := hg397.lt; omega) hpg397
    have hp412 : ps410 r397 = 94 := hx410.at (by have hlt := hr397.lt; omega) hpr397
    have hl413 := ho398.ps (by have hlt := hg397.lt; omega) hx410
    have hl414 := hl398.ps (by omega) hx410
    have hl415 := hf398.ps (by have hlt := hg397.lt; omega) hx410
    have hl416 := hl399.ps (by omega) hx410
    have hl417 := hf399.ps (by have hlt := hr397.lt; omega) hx410
    have hl418 := hlv397.ps (by omega) hx410
    have popI_0 : opI o401 G406 0 ps410 j397 g397 ou_398 := opn_ps _ _ _ popI_0 (psx.lt hx410 (by omega))
    have hfz : fz ps410 [g397, a402] G406 G406 := fz.rf
    refine ab_callV (d' := d - 1) (as := [vR a402]) (st := []) (r := _) (z90_PA_push (o := o401) (k := k_398) (v := v_398) (rg := rg_398) (pl := pl_398) (fl := fl_398) (ou := ou_398) (ls := vR r397) (bf := bf_398) (sz := sz_398) (mb := mb_398) (oe := oe_398) (le := le_398) (mo := mo_398) (la := la_398) (rc := rc_398) (lr := vN) (br := vN) (sr := 0) (mr := 1) (ps := ps410) (wt := wt) (bs := bs) (gr := grp) (Pr := pr0) (ph := ph) (r := a402) (p := g397) hg397 ha402 ppaI_0 (by omega) hp411 hpa410 hn398 (by omega) (by omega) (hl413.up (by omega)) (Or.inr ⟨_, rfl, hp412, by have hlt := hr397.lt; omega⟩) (hl415.up (by omega)) (Or.inl rfl) (Or.inl rfl) (Or.inr ⟨_, rfl, hp412, by have hlt := hr397.lt; omega⟩) (by omega)) (fun oc G2 h => by rcases h with ⟨h, _⟩ <;> exact ⟨_, h⟩) (by omega) m_PA_push ml_RD_48 im_PA_push se_PA_push c_PA hg397.2.2 (Nat.le_of_ble_eq_true rfl) d_RD_part_285 rfl ?_
    intro v G419 hq
    rcases hq with ⟨hv, hfk, hlk, hsk, hNg397, hNa402, pNpaI_0, hq420⟩
    cases hv
    have hd_ := hfk.get hd_ (by decide)
    have hx := hfk.get hx (by decide)
    have hna := hfk.get hna (by decide)
    have hnl := hfk.get hnl (by decide)
    have hby_ := hfk.get hby_ (by decide)
    have h15 := hfk.get h15 (by decide)
    have h16 := hfk.get h16 (by decide)
    have hKr397 := hq420.get hfk hr397 (Or.inr hp412) (by simp only [List.mem_cons, List.not_mem_nil, or_false, not_or]; exact ⟨(hr397.ne hg397 (by decide)), (nq.s ne_a402_r397)⟩)
    have hr397 := hKr397
    have hfz := hfz.tr hq420 (by simp)
    have pcsI_se := csI.fr hfk pcsI_se (by decide) (by decide)
    have ptbI_0 := tbI.fr hfk ptbI_0  (by decide)
    have popI_0 := popI_0.fz (o2 := o401) hq420 (by intro y hy; simp only [List.mem_cons, List.not_mem_nil, or_false] at hy; omega)
    have ppaI_0 := pNpaI_0
    have hfr := hfr.tr hfk (by decide)
    have hq421 := hlk
    have hq422 := hsk
    have hg397 := hNg397
    have ha402 := hNa402
    change ab_W _ _ _ G419 288 [some (vR d_), some (vz pl), none] [] _
    refine ab_null d_RD_part_288 ?_
    have popI_0 : opI o401 G419 0 ps410 (j397 + 1) G419.length (vR g397) := ⟨g397, a402, ou_398, (vN), rfl, ⟨hp411, hpa410⟩, ⟨by omega, by omega⟩, by unfold pf; rw [hg397.2.2]; rfl, by unfold pf; rw [hg397.2.2]; rfl, by unfold pf; rw [ha402.2.2]; rfl, (Or.inl rfl), popI_0⟩
    rw [← hj397] at popI_0
    have pszJ_0 : szJ o401 G419 0 ps410 ((a1_, b1_, c1_, (d1_ + e1_ + 1), 0) :: t_) G419.length (vR g397) wh 0 0 := (szJ.barC hsz9 hnf_ hnp9_ hxo410 hpa410 hfz hg9 hg397 ha402 (by omega) (by omega)).up (by omega)
    refine ab_aret (rt := _) rfl (Or.inl ⟨_, rfl⟩) (Or.inl rfl) d_RD_part_289 ?_
    rw [hQ]; exact (Or.inr (Or.inl ⟨_, _, _, _, _, _, _, _, _, _, _, _, _, _, _, _, _, _, _, _, _, _, _, (pl + 1), ((a1_, b1_, c1_, (d1_ + e1_ + 1), 0) :: t_), rfl, hfr, hd_, hx, hna, hnl, ppaI_0, popI_0, pcsI_se, pszJ_0, (by omega), (by omega), (by omega), (by exact hnm), (by omega), (by exact hx410.lt (by omega)), (by omega), (by omega), (by omega), (by omega), (by omega), (by omega), (by omega), (by omega), (by first | exact hkf | (simp only [List.length_cons]; omega) | omega | (have t := congrArg List.length hft_; simp only [List.length_cons] at t ⊢; omega) | (have t := congrArg List.length hft_; simp only [List.length_cons] at t; omega)), (by omega), (by exact Or.inl ⟨by omega, ⟨by omega, rfl, rfl, rfl, rfl⟩, _, _, _, _, _, _, hft_, rfl⟩), (by None)⟩))
  replace c393 : nzq v2 124 := c393
  refine zz_lookup (off := 274) (tgt := 290) d_RD_part_16 (by decide) (by omega) (by simp only [Op.lookupswitch.offset]; rw [if_neg (fun h => c5 h.symm)]; rw [if_neg (fun h => c30 h.symm)]; rw [if_neg (fun h => c114 h.symm)]; rw [if_neg (fun h => c159 h.symm)]; rw [if_neg (fun h => c202 h.symm)]; rw [if_neg (fun h => c266 h.symm)]; rw [if_neg (fun h => c368 h.symm)]; rw [if_neg (fun h => c393 h.symm)]) (by decide) ?_
  refine ab_aload_n d_RD_part_290 rfl ?_
  refine ab_callV (d' := d - 1) (as := []) (st := []) (r := _) (z_RD_isRepeat (o := o) (d_ := d_) (inn := inn) (dp := dp) (flg := flg) (grp := grp) (na := na) (nl := nl) (lst := lst) (mst := mst) (bh := bh) (x := x) (se := se) (by_ := by_) (m := m) (f := f) (n := n) (pl := pl) (fa := fa) (fp := fp) (kd := kd) (kn := kn) hd_ hx hby_ (by omega) hb (by omega) (by omega) (by omega)) (fun oc G2 h => by rcases h with ⟨_, _, _, h, _⟩ | ⟨_, _, _, h, _⟩ | ⟨_, _, _, h, _⟩ <;> exact ⟨_, h⟩) (by omega) m_RD_isRepeat ml_RD_119 im_RD_isRepeat se_RD_isRepeat c_RD hd_.2.2 (Nat.le_of_ble_eq_true rfl) d_RD_part_291 rfl ?_
  intro v G424 hq
  rcases hq with ⟨l2425, m2426, bh2427, hv, hfk, hlk, hsk, hNd_, hq428, hq429, hq430⟩ | ⟨l2431, m2432, bh2433, hv, hfk, hlk, hsk, hNd_, hq434, hq435, hq436⟩ | ⟨l2437, m2438, bh2439, hv, hfk, hlk, hsk, hNd_, hq440, hq441⟩
  · cases hv
    have hx := hfk.get hx (by decide)
    have hna := hfk.get hna (by decide)
    have hnl := hfk.get hnl (by decide)
    have hby_ := hfk.get hby_ (by decide)
    have h15 := hfk.get h15 (by decide)
    have h16 := hfk.get h16 (by decide)
    have popI_0 := opI.fr hfk ppaI_0 popI_0 (by decide) (by decide)
    have pcsI_se := csI.fr hfk pcsI_se (by decide) (by decide)
    have ptbI_0 := tbI.fr hfk ptbI_0  (by decide)
    have pszJ_0 := szJ.fr hfk ppaI_0 pszJ_0 (by decide) (by decide)
    have ppaI_0 := paI.fr hfk ppaI_0 (by decide) (by decide) (by decide) (by decide)
    have hfr := hfr.tr hfk (by decide)
    have hq442 := hlk
    have hq443 := hsk
    have hd_ := hNd_
    change ab_W _ _ _ G424 294 [some (vR d_), some (vz pl), none] [vz 1] _
    refine zz_if_eq (tgt := 310) d_RD_part_294 (by decide) (by decide) (fun c448 => absurd c448 (by decide)) (fun c448 => ?_)
    refine ab_aload_n d_RD_part_297 rfl ?_
    refine ab_getf (fs := [vR x, inn, vz dp, vz flg, vz grp, vR na, vR nl, vz l2425, vz m2426, vz bh2427]) f_RD_12 d_RD_part_298 hd_.2.2 rfl ?_
    refine zz_bipush d_RD_part_301 (by decide) ?_
    refine ab_iload_n d_RD_part_303 rfl ?_
    refine ab_callV (d' := d - 1) (as := [vz 8, vz pl]) (st := []) (r := _) (z_TX_fail (o := o) (x := x) (lx := 24) (se := se) (by_ := by_) (n := n) (pl := pl) (fa := fa) (fp := fp) (kd := kd) (kn := kn) (w := 8) (p := pl) hx (by omega) (by omega) (by omega)) (fun oc G2 h => by rcases h with ⟨h, _⟩ | ⟨h, _⟩ <;> exact ⟨_, h⟩) (by omega) m_TX_fail ml_RD_69 im_TX_fail se_TX_fail c_TX hx.2.2 (Nat.le_of_ble_eq_true rfl) d_RD_part_304 rfl ?_
    intro v G449 hq
    rcases hq with ⟨hv, hfk, hlk, hsk, hNx, hq450⟩ | ⟨hv, hGe, hq451⟩
    · cases hv
      have hd_ := hfk.get hd_ (by decide)
      have hna := hfk.get hna (by decide)
      have hnl := hfk.get hnl (by decide)
      have hby_ := hfk.get hby_ (by decide)
      have h15 := hfk.get h15 (by decide)
      have h16 := hfk.get h16 (by decide)
      have popI_0 := opI.fr hfk ppaI_0 popI_0 (by decide) (by decide)
      have pcsI_se := csI.fr hfk pcsI_se (by decide) (by decide)
      have ptbI_0 := tbI.fr hfk ptbI_0  (by decide)
      have pszJ_0 := szJ.fr hfk ppaI_0 pszJ_0 (by decide) (by decide)
      have ppaI_0 := paI.fr hfk ppaI_0 (by decide) (by decide) (by decide) (by decide)
      have hfr := hfr.tr hfk (by decide)
      have hq452 := hlk
      have hq453 := hsk
      have hx := hNx
      change ab_W _ _ _ G449 307 [some (vR d_), some (vz pl), none] [vz (-1)] _
      refine ab_pop d_RD_part_307 rfl ?_
      refine ab_null d_RD_part_308 ?_
      refine ab_aret (rt := _) rfl (Or.inl ⟨_, rfl⟩) (Or.inl rfl) d_RD_part_309 ?_
      rw [hQ]; exact (Or.inl ⟨_, _, _, _, _, _, _, _, _, _, _, _, _, _, _, _, _, _, _, _, _, _, _, pl, fr, rfl, hfr, hd_, hx, hna, hnl, ppaI_0, popI_0, pcsI_se, pszJ_0, (by omega), (by omega), (by omega), (by exact hnm), (by omega), (by exact psx.rf), (by omega), (by omega), (by omega), (by omega), (by omega), (by omega), (by omega), (by omega), (by first | exact hkf | (simp only [List.length_cons]; omega) | omega), (by omega), (by exact Or.inr ⟨⟨fun z => by have t := tpk_at (f := f) (n := n) (i := pl) (by omega); have u := hb pl (by omega) (by omega); omega, fun z => c266 (hq3.trans z), fun z => c202 (hq3.trans z), fun z => c30 (hq3.trans z), fun z => c114 (hq3.trans z), fun z => c159 (hq3.trans z), fun z => c368 (hq3.trans z), fun z => c5 (hq3.trans z), fun z => c393 (hq3.trans z)⟩, ⟨_, _, _, _, hq430⟩, by omega, by omega⟩)⟩)
    · cases hv
      rw [hGe]
      change ab_W _ _ _ G424 307 [some (vR d_), some (vz pl), none] [vz (-1)] _
      exfalso; omega
  · cases hv
    have hx := hfk.get hx (by decide)
    have hna := hfk.get hna (by decide)
    have hnl := hfk.get hnl (by decide)
    have hby_ := hfk.get hby_ (by decide)
    have h15 := hfk.get h15 (by decide)
    have h16 := hfk.get h16 (by decide)
    have popI_0 := opI.fr hfk ppaI_0 popI_0 (by decide) (by decide)
    have pcsI_se := csI.fr hfk pcsI_se (by decide) (by decide)
    have ptbI_0 := tbI.fr hfk ptbI_0  (by decide)
    have pszJ_0 := szJ.fr hfk ppaI_0 pszJ_0 (by decide) (by decide)
    have ppaI_0 := paI.fr hfk ppaI_0 (by decide) (by decide) (by decide) (by decide)
    have hfr := hfr.tr hfk (by decide)
    have hq444 := hlk
    have hq445 := hsk
    have hd_ := hNd_
    change ab_W _ _ _ G424 294 [some (vR d_), some (vz pl), none] [vz 1] _
    refine zz_if_eq (tgt := 310) d_RD_part_294 (by decide) (by decide) (fun c454 => absurd c454 (by decide)) (fun c454 => ?_)
    refine ab_aload_n d_RD_part_297 rfl ?_
    refine ab_getf (fs := [vR x, inn, vz dp, vz flg, vz grp, vR na, vR nl, vz l2431, vz m2432, vz bh2433]) f_RD_12 d_RD_part_298 hd_.2.2 rfl ?_
    refine zz_bipush d_RD_part_301 (by decide) ?_
    refine ab_iload_n d_RD_part_303 rfl ?_
    refine ab_callV (d' := d - 1) (as := [vz 8, vz pl]) (st := []) (r := _) (z_TX_fail (o := o) (x := x) (lx := 24) (se := se) (by_ := by_) (n := n) (pl := pl) (fa := fa) (fp := fp) (kd := kd) (kn := kn) (w := 8) (p := pl) hx (by omega) (by omega) (by omega)) (fun oc G2 h => by rcases h with ⟨h, _⟩ | ⟨h, _⟩ <;> exact ⟨_, h⟩) (by omega) m_TX_fail ml_RD_69 im_TX_fail se_TX_fail c_TX hx.2.2 (Nat.le_of_ble_eq_true rfl) d_RD_part_304 rfl ?_
    intro v G455 hq
    rcases hq with ⟨hv, hfk, hlk, hsk, hNx, hq456⟩ | ⟨hv, hGe, hq457⟩
    · cases hv
      have hd_ := hfk.get hd_ (by decide)
      have hna := hfk.get hna (by decide)
      have hnl := hfk.get hnl (by decide)
      have hby_ := hfk.get hby_ (by decide)
      have h15 := hfk.get h15 (by decide)
      have h16 := hfk.get h16 (by decide)
      have popI_0 := opI.fr hfk ppaI_0 popI_0 (by decide) (by decide)
      have pcsI_se := csI.fr hfk pcsI_se (by decide) (by decide)
      have ptbI_0 := tbI.fr hfk ptbI_0  (by decide)
      have pszJ_0 := szJ.fr hfk ppaI_0 pszJ_0 (by decide) (by decide)
      have ppaI_0 := paI.fr hfk ppaI_0 (by decide) (by decide) (by decide) (by decide)
      have hfr := hfr.tr hfk (by decide)
      have hq458 := hlk
      have hq459 := hsk
      have hx := hNx
      change ab_W _ _ _ G455 307 [some (vR d_), some (vz pl), none] [vz (-1)] _
      refine ab_pop d_RD_part_307 rfl ?_
      refine ab_null d_RD_part_308 ?_
      refine ab_aret (rt := _) rfl (Or.inl ⟨_, rfl⟩) (Or.inl rfl) d_RD_part_309 ?_
      rw [hQ]; exact (Or.inl ⟨_, _, _, _, _, _, _, _, _, _, _, _, _, _, _, _, _, _, _, _, _, _, _, pl, fr, rfl, hfr, hd_, hx, hna, hnl, ppaI_0, popI_0, pcsI_se, pszJ_0, (by omega), (by omega), (by omega), (by exact hnm), (by omega), (by exact psx.rf), (by omega), (by omega), (by omega), (by omega), (by omega), (by omega), (by omega), (by omega), (by first | exact hkf | (simp only [List.length_cons]; omega) | omega), (by omega), (by exact Or.inr ⟨⟨fun z => by have t := tpk_at (f := f) (n := n) (i := pl) (by omega); have u := hb pl (by omega) (by omega); omega, fun z => c266 (hq3.trans z), fun z => c202 (hq3.trans z), fun z => c30 (hq3.trans z), fun z => c114 (hq3.trans z), fun z => c159 (hq3.trans z), fun z => c368 (hq3.trans z), fun z => c5 (hq3.trans z), fun z => c393 (hq3.trans z)⟩, ⟨_, _, _, _, hq436⟩, by omega, by omega⟩)⟩)
    · cases hv
      rw [hGe]
      change ab_W _ _ _ G424 307 [some (vR d_), some (vz pl), none] [vz (-1)] _
      exfalso; omega
  · cases hv
    have hx := hfk.get hx (by decide)
    have hna := hfk.get hna (by decide)
    have hnl := hfk.get hnl (by decide)
    have hby_ := hfk.get hby_ (by decide)
    have h15 := hfk.get h15 (by decide)
    have h16 := hfk.get h16 (by decide)
    have popI_0 := opI.fr hfk ppaI_0 popI_0 (by decide) (by decide)
    have pcsI_se := csI.fr hfk pcsI_se (by decide) (by decide)
    have ptbI_0 := tbI.fr hfk ptbI_0  (by decide)
    have pszJ_0 := szJ.fr hfk ppaI_0 pszJ_0 (by decide) (by decide)
    have ppaI_0 := paI.fr hfk ppaI_0 (by decide) (by decide) (by decide) (by decide)
    have hfr := hfr.tr hfk (by decide)
    have hq446 := hlk
    have hq447 := hsk
    have hd_ := hNd_
    change ab_W _ _ _ G424 294 [some (vR d_), some (vz pl), none] [vz 0] _
    refine zz_if_eq (tgt := 310) d_RD_part_294 (by decide) (by decide) (fun c460 => ?_) (fun c460 => absurd c460 (by decide))
    refine ab_aload_n d_RD_part_310 rfl ?_
    refine ab_aload_n d_RD_part_311 rfl ?_
    refine ab_getf (fs := [vR x, inn, vz dp, vz flg, vz grp, vR na, vR nl, vz l2437, vz m2438, vz bh2439]) f_RD_12 d_RD_part_312 hd_.2.2 rfl ?_
    refine ab_callV (d' := d - 1) (as := []) (st := [vR d_]) (r := _) (z_TX_character (o := o) (x := x) (lx := 24) (se := se) (by_ := by_) (lby := 23) (m := m) (f := f) (n := n) (pl := pl) (fa := fa) (fp := fp) (kd := kd) (kn := kn) hx hby_ (by omega) hb (by omega) (by omega) (by omega) (by omega)) (fun oc G2 h => by rcases h with ⟨h, _⟩ | ⟨_, _, h, _⟩ <;> exact ⟨_, h⟩) (by omega) m_TX_character ml_RD_123 im_TX_character se_TX_character c_TX hx.2.2 (Nat.le_of_ble_eq_true rfl) d_RD_part_315 rfl ?_
    intro v G461 hq
    rcases hq with ⟨hv, hfk, hlk, hsk, hNx, hq462⟩ | ⟨v463, p2464, hv, hfk, hlk, hsk, hNx, hq465, hq466, hq467, hq468⟩
    · cases hv
      have hd_ := hfk.get hd_ (by decide)
      have hna := hfk.get hna (by decide)
      have hnl := hfk.get hnl (by decide)
      have hby_ := hfk.get hby_ (by decide)
      have h15 := hfk.get h15 (by decide)
      have h16 := hfk.get h16 (by decide)
      have popI_0 := opI.fr hfk ppaI_0 popI_0 (by decide) (by decide)
      have pcsI_se := csI.fr hfk pcsI_se (by decide) (by decide)
      have ptbI_0 := tbI.fr hfk ptbI_0  (by decide)
      have pszJ_0 := szJ.fr hfk ppaI_0 pszJ_0 (by decide) (by decide)
      have ppaI_0 := paI.fr hfk ppaI_0 (by decide) (by decide) (by decide) (by decide)
      have hfr := hfr.tr hfk (by decide)
      have hq469 := hlk
      have hq470 := hsk
      have hx := hNx
      change ab_W _ _ _ G461 318 [some (vR d_), some (vz pl), none] [vz (-1), vR d_] _
      refine ab_callV (d' := d - 1) (as := [vz (-1)]) (st := []) (r := _) (zN_RD_literal (o := o) (d_ := d_) ) (fun oc G2 h => by rcases h with ⟨h, _⟩ <;> exact ⟨_, h⟩) (by omega) m_RD_literal ml_RD_87 im_RD_literal se_RD_literal c_RD hd_.2.2 (Nat.le_of_ble_eq_true rfl) d_RD_part_318 rfl ?_
      intro v G473 hq
      rcases hq with ⟨hv, hGe⟩
      cases hv
      rw [hGe]
      change ab_W _ _ _ G461 321 [some (vR d_), some (vz pl), none] [vN] _
      refine ab_aret (rt := _) rfl (Or.inl ⟨_, rfl⟩) (Or.inl rfl) d_RD_part_321 ?_
      rw [hQ]; exact (Or.inl ⟨_, _, _, _, _, _, _, _, _, _, _, _, _, _, _, _, _, _, _, _, _, _, _, pl, fr, rfl, hfr, hd_, hx, hna, hnl, ppaI_0, popI_0, pcsI_se, pszJ_0, (by omega), (by omega), (by omega), (by exact hnm), (by omega), (by exact psx.rf), (by omega), (by omega), (by omega), (by omega), (by omega), (by omega), (by omega), (by omega), (by first | exact hkf | (simp only [List.length_cons]; omega) | omega), (by omega), (by exact Or.inl (Or.inl (Or.inr (Or.inr ⟨⟨fun z => by have t := tpk_at (f := f) (n := n) (i := pl) (by omega); have u := hb pl (by omega) (by omega); omega, fun z => c266 (hq3.trans z), fun z => c202 (hq3.trans z), fun z => c30 (hq3.trans z), fun z => c114 (hq3.trans z), fun z => c159 (hq3.trans z), fun z => c368 (hq3.trans z), fun z => c5 (hq3.trans z), fun z => c393 (hq3.trans z)⟩, hq441, hq462, by omega, by omega⟩))))⟩)
    · cases hv
      have hd_ := hfk.get hd_ (by decide)
      have hna := hfk.get hna (by decide)
      have hnl := hfk.get hnl (by decide)
      have hby_ := hfk.get hby_ (by decide)
      have h15 := hfk.get h15 (by decide)
      have h16 := hfk.get h16 (by decide)
      have popI_0 := opI.fr hfk ppaI_0 popI_0 (by decide) (by decide)
      have pcsI_se := csI.fr hfk pcsI_se (by decide) (by decide)
      have ptbI_0 := tbI.fr hfk ptbI_0  (by decide)
      have pszJ_0 := szJ.fr hfk ppaI_0 pszJ_0 (by decide) (by decide)
      have ppaI_0 := paI.fr hfk ppaI_0 (by decide) (by decide) (by decide) (by decide)
      have hfr := hfr.tr hfk (by decide)
      have hq471 := hlk
      have hq472 := hsk
      have hx := hNx
      change ab_W _ _ _ G461 318 [some (vR d_), some (vz pl), none] [vz v463, vR d_] _
      have hgp : ¬ cs_gap v463 := by rw [hq465]; exact u8_gap hb (by rw [← hq465]; omega)
      have hew : p2464 ≤ n := by have t := u8_w (p := pl) hb (by rw [← hq465]; omega); rw [← hq465] at t; omega
      refine ab_callV (d' := d - 1) (as := [vz v463]) (st := []) (r := _) (z_RD_literal (o := o) (d_ := d_) (inn := inn) (dp := dp) (flg := flg) (grp := grp) (na := na) (nl := nl) (lst := l2437) (mst := m2438) (bh := bh2439) (x := x) (se := se) (by_ := by_) (n := n) (pl := p2464) (fa := fa) (fp := fp) (kd := kd) (kn := kn) (nb := nb) (cnt := cnt) (P := P) (ps := ps) (wt := wt) (bs := bs) (gr := grp) (ph := ph) (c := v463) hd_ hx h15 h16 ppaI_0 pcsI_se (by omega) (by omega) (by omega) hgp (by omega) (by omega) (by omega) (by omega) (by omega)) (fun oc G2 h => by rcases h with ⟨_, _, _, _, _, _, _, _, h, _⟩ <;> exact ⟨_, h⟩) (by omega) m_RD_literal ml_RD_87 im_RD_literal se_RD_literal c_RD hd_.2.2 (Nat.le_of_ble_eq_true rfl) d_RD_part_318 rfl ?_
      intro v G474 hq
      rcases hq with ⟨o475, p476, ps2477, wt2478, ph2479, nb2480, c2481, P2482, hv, hfk, pNpaI_0, pNcsI_se, hq483, hq484, hq485, hq486, hq487, hq488, hq489, hq490, hq491, hq492⟩
      cases hv
      have hd_ := hfk.get hd_ (by decide)
      have hx := hfk.get hx (by decide)
      have hna := hfk.get hna (by decide)
      have hnl := hfk.get hnl (by decide)
      have hby_ := hfk.get hby_ (by decide)
      have h15 := hfk.get h15 (by decide)
      have h16 := hfk.get h16 (by decide)
      have popI_0 := popI_0.fz (o2 := o475) hq486 (by simp)
      have ptbI_0 := tbI.fr hfk ptbI_0  (by decide)
      have pszJ_0 := pszJ_0.fzk (o2 := o475) hq486
      have ppaI_0 := pNpaI_0
      have pcsI_se := pNcsI_se
      have hfr := hfr.tr hfk (by decide)
      have hq493 := hfk.1
      change ab_W _ _ _ G474 321 [some (vR d_), some (vz pl), none] [vR p476] _
      have popI_0 : opI o475 G474 0 ps2477 k hi inn := opn_ps _ _ _ popI_0 (psx.lt hq483 (by omega))
      have pszJ_0 := (pszJ_0.leaf hq491 (s := (fi G474 p476 8)) ceq.rf (by have t := hq491.2.2.2.2.1.2.1; omega)).up (hi2 := p476) (by omega)
      have popI_0 := opn_up (hi2 := p476) popI_0 (by omega)
      have popI_0 : opI o475 G474 0 ps2477 k p476 inn := popI_0
      refine ab_aret (rt := _) rfl (Or.inl ⟨_, rfl⟩) (Or.inr ⟨_, rfl⟩) d_RD_part_321 ?_
      rw [hQ]; exact (Or.inr (Or.inr ⟨_, _, _, _, _, _, _, _, _, _, _, _, _, _, _, _, _, _, _, _, _, _, _, p2464, fr, (fi G474 p476 8), rfl, hfr, hd_, hx, hna, hnl, ppaI_0, popI_0, pcsI_se, pszJ_0, (by omega), (by omega), (by omega), (by exact hnm), (by omega), (by exact hq483.lt (by omega)), (by omega), (by omega), (by omega), (by omega), (by omega), (by omega), (by omega), (by omega), (by exact hq484), (by first | exact hkf | (simp only [List.length_cons]; omega) | omega), (by omega), (by exact Or.inl ⟨Or.inr (Or.inr (Or.inr (Or.inr (Or.inr ⟨⟨fun z => by have t := tpk_at (f := f) (n := n) (i := pl) (by omega); have u := hb pl (by omega) (by omega); omega, fun z => c266 (hq3.trans z), fun z => c202 (hq3.trans z), fun z => c30 (hq3.trans z), fun z => c114 (hq3.trans z), fun z => c159 (hq3.trans z), fun z => c368 (hq3.trans z), fun z => c5 (hq3.trans z), fun z => c393 (hq3.trans z)⟩, hq441, by rw [← hq465]; omega, by rw [← hq465]; omega, by rw [← hq465]; exact hq492⟩)))), rfl, rfl⟩), (by exact ⟨rfl, rfl, rfl⟩), (by omega)⟩))
