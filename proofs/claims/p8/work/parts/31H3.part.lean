set_option maxRecDepth 100000 in
set_option maxHeartbeats 4000000 in
theorem z_RD_part {X : ab_X} {d : Nat} {o : Nat → Nat} {G : ab_G} {d_ : Nat} {inn : Value} {dp : Int} {flg : Int} {grp : Int} {na : Nat} {nl : Nat} {lst : Int} {mst : Int} {bh : Int} {NA : Int → Int} {NL : Int → Int} {x : Nat} {se : Nat} {by_ : Nat} {m : Nat} {f : Int → Int} {n : Int} {pl : Int} {fa : Int} {fp : Int} {kd : Nat} {kn : Int} {ps : Nat → Nat} {wt : Nat → Nat} {bs : Nat} {ph : Int} {k : Nat} {hi : Nat} {wh : Nat} {fr : List Fr} {nb : Nat} {cnt : Int} {P : Int → Prop} (hd_ : cc o G d_ 25 (ab_ob 6 [vR x, inn, vz dp, vz flg, vz grp, vR na, vR nl, vz lst, vz mst, vz bh])) (hx : cc o G x 24 (ab_ob 10 [vR se, vR by_, vz n, vz pl, vz fa, vz fp, vR kd, vz kn])) (hna : cc o G na 86 (za 10 NA)) (hnl : cc o G nl 87 (za 10 NL)) (hby_ : cc o G by_ 23 (za m f)) (h15 : cc o G 15 15 (za 18 zAR)) (h16 : cc o G 16 16 (za 20 zAF)) (ppaI_0 : paI o G 0 ps wt bs grp pr0 ph) (popI_0 : opI o G 0 ps k hi inn) (pcsI_se : csI o G se 88 89 nb cnt P) (ptbI_0 : tbI o G 0) (pszJ_0 : szJ o G 0 ps fr hi inn wh 0 0) (hkf : k = fr.length) (n18 : ab_n0 = 18) (cn_ : 0 ≤ n ∧ n ≤ ↑m ∧ m ≤ 2000) (hb : bytes f n) (cf : 0 ≤ flg ∧ flg ≤ 31) (cg : 0 ≤ grp ∧ grp ≤ 9) (ck : 0 ≤ dp ∧ dp ≤ 30 ∧ ↑k = dp + 1 ∧ hi ≤ G.length) (hnm : nmok NA NL grp n) (cbs : bs ≤ G.length ∧ 18 ≤ G.length) (ckd : 1 ≤ kd ∧ kd ≤ 12 ∧ 0 ≤ kn ∧ kn ≤ 1) (cfa : fa = 0) (cp : 0 ≤ pl ∧ pl < n) (hnb : nb ≤ 104000) (rc : G.length + 9000 ≤ ab_n0 + room_1.cells) (rs : ab_slots G + 430000 ≤ room_1.slots + 2 * nb) (hd : 11 ≤ d) : ab_F X d y_RD_part (.code y_RD_part b_RD_part 3 (some (.object "PatternWorks$Part"))) [vR d_] G (fun oc G2 => (∃ o2 : Nat → Nat, ∃ inn2 : Value, ∃ dp2 : Int, ∃ flg2 : Int, ∃ grp2 : Int, ∃ NA2 : Int → Int, ∃ NL2 : Int → Int, ∃ lst2 : Int, ∃ mst2 : Int, ∃ bh2 : Int, ∃ p2 : Int, ∃ fa2 : Int, ∃ fp2 : Int, ∃ kd2 : Nat, ∃ kn2 : Int, ∃ k2 : Nat, ∃ hi2 : Nat, ∃ ps2 : Nat → Nat, ∃ wt2 : Nat → Nat, ∃ ph2 : Int, ∃ nb2 : Nat, ∃ c2 : Int, ∃ P2 : Int → Prop, ∃ q2 : Int, ∃ fr2 : List Fr, oc = .returned (some (vN)) ∧ fx o o2 [24, 25, 86, 87, 88, 89, 90, 92, 94] G G2 ∧ cc o2 G2 d_ 25 (ab_ob 6 [vR x, inn2, vz dp2, vz flg2, vz grp2, vR na, vR nl, vz lst2, vz mst2, vz bh2]) ∧ cc o2 G2 x 24 (ab_ob 10 [vR se, vR by_, vz n, vz p2, vz fa2, vz fp2, vR kd2, vz kn2]) ∧ cc o2 G2 na 86 (za 10 NA2) ∧ cc o2 G2 nl 87 (za 10 NL2) ∧ paI o2 G2 0 ps2 wt2 bs grp2 pr0 ph2 ∧ opI o2 G2 0 ps2 k2 hi2 inn2 ∧ csI o2 G2 se 88 89 nb2 c2 P2 ∧ szJ o2 G2 0 ps2 fr2 hi2 inn2 wh 0 0 ∧ (0 ≤ flg2 ∧ flg2 ≤ 31) ∧ (0 ≤ grp2 ∧ grp2 ≤ 9) ∧ (0 ≤ dp2 ∧ dp2 ≤ 30 ∧ ↑k2 = dp2 + 1) ∧ (nmok NA2 NL2 grp2 n) ∧ (hi2 ≤ G2.length) ∧ (psx ps ps2 G.length) ∧ (0 ≤ fa2 ∧ fa2 ≤ 14) ∧ (1 ≤ kd2 ∧ kd2 ≤ 12 ∧ 0 ≤ kn2 ∧ kn2 ≤ 1) ∧ (0 ≤ p2 ∧ p2 ≤ 8000) ∧ (pl ≤ q2 ∧ q2 ≤ n ∧ q2 ≤ p2) ∧ (nb2 ≤ 104000) ∧ (ph2 ≤ ph + 25 * (q2 - pl)) ∧ (64 * G2.length + nb ≤ 64 * G.length + nb2 + 400) ∧ ((↑(ab_slots G2) : Int) + 2 * ↑nb ≤ ↑(ab_slots G) + 2 * ↑nb2 + 100 * (q2 - pl)) ∧ (k2 = fr2.length) ∧ (1 ≤ fa2) ∧ (ptF f n pl flg grp NA NL fr fa2 fp2 ∨ strF f n pl fa2 fp2)) ∨ (∃ o2 : Nat → Nat, ∃ inn2 : Value, ∃ dp2 : Int, ∃ flg2 : Int, ∃ grp2 : Int, ∃ NA2 : Int → Int, ∃ NL2 : Int → Int, ∃ lst2 : Int, ∃ mst2 : Int, ∃ bh2 : Int, ∃ p2 : Int, ∃ fa2 : Int, ∃ fp2 : Int, ∃ kd2 : Nat, ∃ kn2 : Int, ∃ k2 : Nat, ∃ hi2 : Nat, ∃ ps2 : Nat → Nat, ∃ wt2 : Nat → Nat, ∃ ph2 : Int, ∃ nb2 : Nat, ∃ c2 : Int, ∃ P2 : Int → Prop, ∃ q2 : Int, ∃ fr2 : List Fr, oc = .returned (some (vN)) ∧ fx o o2 [24, 25, 86, 87, 88, 89, 90, 92, 94] G G2 ∧ cc o2 G2 d_ 25 (ab_ob 6 [vR x, inn2, vz dp2, vz flg2, vz grp2, vR na, vR nl, vz lst2, vz mst2, vz bh2]) ∧ cc o2 G2 x 24 (ab_ob 10 [vR se, vR by_, vz n, vz p2, vz fa2, vz fp2, vR kd2, vz kn2]) ∧ cc o2 G2 na 86 (za 10 NA2) ∧ cc o2 G2 nl 87 (za 10 NL2) ∧ paI o2 G2 0 ps2 wt2 bs grp2 pr0 ph2 ∧ opI o2 G2 0 ps2 k2 hi2 inn2 ∧ csI o2 G2 se 88 89 nb2 c2 P2 ∧ szJ o2 G2 0 ps2 fr2 hi2 inn2 wh 0 0 ∧ (0 ≤ flg2 ∧ flg2 ≤ 31) ∧ (0 ≤ grp2 ∧ grp2 ≤ 9) ∧ (0 ≤ dp2 ∧ dp2 ≤ 30 ∧ ↑k2 = dp2 + 1) ∧ (nmok NA2 NL2 grp2 n) ∧ (hi2 ≤ G2.length) ∧ (psx ps ps2 G.length) ∧ (0 ≤ fa2 ∧ fa2 ≤ 14) ∧ (1 ≤ kd2 ∧ kd2 ≤ 12 ∧ 0 ≤ kn2 ∧ kn2 ≤ 1) ∧ (0 ≤ p2 ∧ p2 ≤ 8000) ∧ (pl ≤ q2 ∧ q2 ≤ n ∧ q2 ≤ p2) ∧ (nb2 ≤ 104000) ∧ (ph2 ≤ ph + 25 * (q2 - pl)) ∧ (64 * G2.length + nb ≤ 64 * G.length + nb2 + 400) ∧ ((↑(ab_slots G2) : Int) + 2 * ↑nb ≤ ↑(ab_slots G) + 2 * ↑nb2 + 100 * (q2 - pl)) ∧ (k2 = fr2.length) ∧ (fa2 = 0) ∧ (ptN f n pl flg grp NA NL fr p2 flg2 grp2 NA2 NL2 fr2) ∧ (pl < p2 ∧ p2 ≤ n)) ∨ (∃ o2 : Nat → Nat, ∃ p : Nat, ∃ inn2 : Value, ∃ dp2 : Int, ∃ flg2 : Int, ∃ grp2 : Int, ∃ NA2 : Int → Int, ∃ NL2 : Int → Int, ∃ lst2 : Int, ∃ mst2 : Int, ∃ bh2 : Int, ∃ p2 : Int, ∃ fa2 : Int, ∃ fp2 : Int, ∃ kd2 : Nat, ∃ kn2 : Int, ∃ k2 : Nat, ∃ ps2 : Nat → Nat, ∃ wt2 : Nat → Nat, ∃ ph2 : Int, ∃ nb2 : Nat, ∃ c2 : Int, ∃ P2 : Int → Prop, ∃ q2 : Int, ∃ fr2 : List Fr, ∃ psz2 : Int, oc = .returned (some (vR p)) ∧ fx o o2 [24, 25, 86, 87, 88, 89, 90, 92, 94] G G2 ∧ cc o2 G2 d_ 25 (ab_ob 6 [vR x, inn2, vz dp2, vz flg2, vz grp2, vR na, vR nl, vz lst2, vz mst2, vz bh2]) ∧ cc o2 G2 x 24 (ab_ob 10 [vR se, vR by_, vz n, vz p2, vz fa2, vz fp2, vR kd2, vz kn2]) ∧ cc o2 G2 na 86 (za 10 NA2) ∧ cc o2 G2 nl 87 (za 10 NL2) ∧ paI o2 G2 0 ps2 wt2 bs grp2 pr0 ph2 ∧ opI o2 G2 0 ps2 k2 p inn2 ∧ csI o2 G2 se 88 89 nb2 c2 P2 ∧ szJ o2 G2 0 ps2 fr2 p inn2 wh p psz2 ∧ (0 ≤ flg2 ∧ flg2 ≤ 31) ∧ (0 ≤ grp2 ∧ grp2 ≤ 9) ∧ (0 ≤ dp2 ∧ dp2 ≤ 30 ∧ ↑k2 = dp2 + 1) ∧ (nmok NA2 NL2 grp2 n) ∧ (p < G2.length) ∧ (psx ps ps2 G.length) ∧ (0 ≤ fa2 ∧ fa2 ≤ 14) ∧ (1 ≤ kd2 ∧ kd2 ≤ 12 ∧ 0 ≤ kn2 ∧ kn2 ≤ 1) ∧ (0 ≤ p2 ∧ p2 ≤ 8000) ∧ (pl ≤ q2 ∧ q2 ≤ n ∧ q2 ≤ p2) ∧ (nb2 ≤ 104000) ∧ (ph2 ≤ ph + 25 * (q2 - pl)) ∧ (64 * G2.length + nb ≤ 64 * G.length + nb2 + 400) ∧ ((↑(ab_slots G2) : Int) + 2 * ↑nb ≤ ↑(ab_slots G) + 2 * ↑nb2 + 100 * (q2 - pl)) ∧ (ps2 p = 90) ∧ (k2 = fr2.length) ∧ (fa2 = 0) ∧ (ptP f n pl flg fr p2 flg2 fr2 psz2) ∧ (grp2 = grp ∧ NA2 = NA ∧ NL2 = NL) ∧ (pl < p2 ∧ p2 ≤ n))) := by
  refine ab_F_of (by decide +kernel) (Nat.le_of_ble_eq_true rfl) ?_
  obtain ⟨Q, hQ⟩ : ∃ z : Outcome → ab_G → Prop, z = (fun oc G2 => (∃ o2 : Nat → Nat, ∃ inn2 : Value, ∃ dp2 : Int, ∃ flg2 : Int, ∃ grp2 : Int, ∃ NA2 : Int → Int, ∃ NL2 : Int → Int, ∃ lst2 : Int, ∃ mst2 : Int, ∃ bh2 : Int, ∃ p2 : Int, ∃ fa2 : Int, ∃ fp2 : Int, ∃ kd2 : Nat, ∃ kn2 : Int, ∃ k2 : Nat, ∃ hi2 : Nat, ∃ ps2 : Nat → Nat, ∃ wt2 : Nat → Nat, ∃ ph2 : Int, ∃ nb2 : Nat, ∃ c2 : Int, ∃ P2 : Int → Prop, ∃ q2 : Int, ∃ fr2 : List Fr, oc = .returned (some (vN)) ∧ fx o o2 [24, 25, 86, 87, 88, 89, 90, 92, 94] G G2 ∧ cc o2 G2 d_ 25 (ab_ob 6 [vR x, inn2, vz dp2, vz flg2, vz grp2, vR na, vR nl, vz lst2, vz mst2, vz bh2]) ∧ cc o2 G2 x 24 (ab_ob 10 [vR se, vR by_, vz n, vz p2, vz fa2, vz fp2, vR kd2, vz kn2]) ∧ cc o2 G2 na 86 (za 10 NA2) ∧ cc o2 G2 nl 87 (za 10 NL2) ∧ paI o2 G2 0 ps2 wt2 bs grp2 pr0 ph2 ∧ opI o2 G2 0 ps2 k2 hi2 inn2 ∧ csI o2 G2 se 88 89 nb2 c2 P2 ∧ szJ o2 G2 0 ps2 fr2 hi2 inn2 wh 0 0 ∧ (0 ≤ flg2 ∧ flg2 ≤ 31) ∧ (0 ≤ grp2 ∧ grp2 ≤ 9) ∧ (0 ≤ dp2 ∧ dp2 ≤ 30 ∧ ↑k2 = dp2 + 1) ∧ (nmok NA2 NL2 grp2 n) ∧ (hi2 ≤ G2.length) ∧ (psx ps ps2 G.length) ∧ (0 ≤ fa2 ∧ fa2 ≤ 14) ∧ (1 ≤ kd2 ∧ kd2 ≤ 12 ∧ 0 ≤ kn2 ∧ kn2 ≤ 1) ∧ (0 ≤ p2 ∧ p2 ≤ 8000) ∧ (pl ≤ q2 ∧ q2 ≤ n ∧ q2 ≤ p2) ∧ (nb2 ≤ 104000) ∧ (ph2 ≤ ph + 25 * (q2 - pl)) ∧ (64 * G2.length + nb ≤ 64 * G.length + nb2 + 400) ∧ ((↑(ab_slots G2) : Int) + 2 * ↑nb ≤ ↑(ab_slots G) + 2 * ↑nb2 + 100 * (q2 - pl)) ∧ (k2 = fr2.length) ∧ (1 ≤ fa2) ∧ (ptF f n pl flg grp NA NL fr fa2 fp2 ∨ strF f n pl fa2 fp2)) ∨ (∃ o2 : Nat → Nat, ∃ inn2 : Value, ∃ dp2 : Int, ∃ flg2 : Int, ∃ grp2 : Int, ∃ NA2 : Int → Int, ∃ NL2 : Int → Int, ∃ lst2 : Int, ∃ mst2 : Int, ∃ bh2 : Int, ∃ p2 : Int, ∃ fa2 : Int, ∃ fp2 : Int, ∃ kd2 : Nat, ∃ kn2 : Int, ∃ k2 : Nat, ∃ hi2 : Nat, ∃ ps2 : Nat → Nat, ∃ wt2 : Nat → Nat, ∃ ph2 : Int, ∃ nb2 : Nat, ∃ c2 : Int, ∃ P2 : Int → Prop, ∃ q2 : Int, ∃ fr2 : List Fr, oc = .returned (some (vN)) ∧ fx o o2 [24, 25, 86, 87, 88, 89, 90, 92, 94] G G2 ∧ cc o2 G2 d_ 25 (ab_ob 6 [vR x, inn2, vz dp2, vz flg2, vz grp2, vR na, vR nl, vz lst2, vz mst2, vz bh2]) ∧ cc o2 G2 x 24 (ab_ob 10 [vR se, vR by_, vz n, vz p2, vz fa2, vz fp2, vR kd2, vz kn2]) ∧ cc o2 G2 na 86 (za 10 NA2) ∧ cc o2 G2 nl 87 (za 10 NL2) ∧ paI o2 G2 0 ps2 wt2 bs grp2 pr0 ph2 ∧ opI o2 G2 0 ps2 k2 hi2 inn2 ∧ csI o2 G2 se 88 89 nb2 c2 P2 ∧ szJ o2 G2 0 ps2 fr2 hi2 inn2 wh 0 0 ∧ (0 ≤ flg2 ∧ flg2 ≤ 31) ∧ (0 ≤ grp2 ∧ grp2 ≤ 9) ∧ (0 ≤ dp2 ∧ dp2 ≤ 30 ∧ ↑k2 = dp2 + 1) ∧ (nmok NA2 NL2 grp2 n) ∧ (hi2 ≤ G2.length) ∧ (psx ps ps2 G.length) ∧ (0 ≤ fa2 ∧ fa2 ≤ 14) ∧ (1 ≤ kd2 ∧ kd2 ≤ 12 ∧ 0 ≤ kn2 ∧ kn2 ≤ 1) ∧ (0 ≤ p2 ∧ p2 ≤ 8000) ∧ (pl ≤ q2 ∧ q2 ≤ n ∧ q2 ≤ p2) ∧ (nb2 ≤ 104000) ∧ (ph2 ≤ ph + 25 * (q2 - pl)) ∧ (64 * G2.length + nb ≤ 64 * G.length + nb2 + 400) ∧ ((↑(ab_slots G2) : Int) + 2 * ↑nb ≤ ↑(ab_slots G) + 2 * ↑nb2 + 100 * (q2 - pl)) ∧ (k2 = fr2.length) ∧ (fa2 = 0) ∧ (ptN f n pl flg grp NA NL fr p2 flg2 grp2 NA2 NL2 fr2) ∧ (pl < p2 ∧ p2 ≤ n)) ∨ (∃ o2 : Nat → Nat, ∃ p : Nat, ∃ inn2 : Value, ∃ dp2 : Int, ∃ flg2 : Int, ∃ grp2 : Int, ∃ NA2 : Int → Int, ∃ NL2 : Int → Int, ∃ lst2 : Int, ∃ mst2 : Int, ∃ bh2 : Int, ∃ p2 : Int, ∃ fa2 : Int, ∃ fp2 : Int, ∃ kd2 : Nat, ∃ kn2 : Int, ∃ k2 : Nat, ∃ ps2 : Nat → Nat, ∃ wt2 : Nat → Nat, ∃ ph2 : Int, ∃ nb2 : Nat, ∃ c2 : Int, ∃ P2 : Int → Prop, ∃ q2 : Int, ∃ fr2 : List Fr, ∃ psz2 : Int, oc = .returned (some (vR p)) ∧ fx o o2 [24, 25, 86, 87, 88, 89, 90, 92, 94] G G2 ∧ cc o2 G2 d_ 25 (ab_ob 6 [vR x, inn2, vz dp2, vz flg2, vz grp2, vR na, vR nl, vz lst2, vz mst2, vz bh2]) ∧ cc o2 G2 x 24 (ab_ob 10 [vR se, vR by_, vz n, vz p2, vz fa2, vz fp2, vR kd2, vz kn2]) ∧ cc o2 G2 na 86 (za 10 NA2) ∧ cc o2 G2 nl 87 (za 10 NL2) ∧ paI o2 G2 0 ps2 wt2 bs grp2 pr0 ph2 ∧ opI o2 G2 0 ps2 k2 p inn2 ∧ csI o2 G2 se 88 89 nb2 c2 P2 ∧ szJ o2 G2 0 ps2 fr2 p inn2 wh p psz2 ∧ (0 ≤ flg2 ∧ flg2 ≤ 31) ∧ (0 ≤ grp2 ∧ grp2 ≤ 9) ∧ (0 ≤ dp2 ∧ dp2 ≤ 30 ∧ ↑k2 = dp2 + 1) ∧ (nmok NA2 NL2 grp2 n) ∧ (p < G2.length) ∧ (psx ps ps2 G.length) ∧ (0 ≤ fa2 ∧ fa2 ≤ 14) ∧ (1 ≤ kd2 ∧ kd2 ≤ 12 ∧ 0 ≤ kn2 ∧ kn2 ≤ 1) ∧ (0 ≤ p2 ∧ p2 ≤ 8000) ∧ (pl ≤ q2 ∧ q2 ≤ n ∧ q2 ≤ p2) ∧ (nb2 ≤ 104000) ∧ (ph2 ≤ ph + 25 * (q2 - pl)) ∧ (64 * G2.length + nb ≤ 64 * G.length + nb2 + 400) ∧ ((↑(ab_slots G2) : Int) + 2 * ↑nb ≤ ↑(ab_slots G) + 2 * ↑nb2 + 100 * (q2 - pl)) ∧ (ps2 p = 90) ∧ (k2 = fr2.length) ∧ (fa2 = 0) ∧ (ptP f n pl flg fr p2 flg2 fr2 psz2) ∧ (grp2 = grp ∧ NA2 = NA ∧ NL2 = NL) ∧ (pl < p2 ∧ p2 ≤ n))) := ⟨_, rfl⟩
  rw [← hQ]
  change ab_W X (ab_pl y_RD_part b_RD_part 3 (some (.object "PatternWorks$Part"))) d G 0 [some (vR d_), none, none] [] Q
  have hfr : fx o o [24, 25, 86, 87, 88, 89, 90, 92, 94] G G := fx.rf
  refine ab_aload_n d_RD_part_0 rfl ?_
  refine ab_getf (fs := [vR x, inn, vz dp, vz flg, vz grp, vR na, vR nl, vz lst, vz mst, vz bh]) f_RD_12 d_RD_part_1 hd_.2.2 rfl ?_
  refine ab_getf (fs := [vR se, vR by_, vz n, vz pl, vz fa, vz fp, vR kd, vz kn]) f_RD_55 d_RD_part_4 hx.2.2 rfl ?_
  refine ab_istore_n d_RD_part_7 (Nat.le_of_ble_eq_true rfl) (Nat.le_of_ble_eq_true rfl) rfl ?_
  change ab_W _ _ _ G 8 [some (vR d_), some (vz pl), none] [] _
  refine ab_aload_n d_RD_part_8 rfl ?_
  refine ab_getf (fs := [vR x, inn, vz dp, vz flg, vz grp, vR na, vR nl, vz lst, vz mst, vz bh]) f_RD_12 d_RD_part_9 hd_.2.2 rfl ?_
  refine zz_iconst d_RD_part_12 ?_
  refine ab_callV (d' := d - 1) (as := [vz 0]) (st := []) (r := _) (z_TX_peek0 (o := o) (x := x) (lx := 24) (se := se) (by_ := by_) (lby := 23) (m := m) (f := f) (n := n) (pl := pl) (fa := fa) (fp := fp) (kd := kd) (kn := kn) hx hby_ (by omega) hb) (fun oc G2 h => by rcases h with ⟨_, h, _⟩ <;> exact ⟨_, h⟩) (by omega) m_TX_peek ml_RD_79 im_TX_peek se_TX_peek c_TX hx.2.2 (Nat.le_of_ble_eq_true rfl) d_RD_part_13 rfl ?_
  intro v G1 hq
  rcases hq with ⟨v2, hv, hGe, hq3, hq4⟩
  cases hv
  rw [hGe]
  change ab_W _ _ _ G 16 [some (vR d_), some (vz pl), none] [vz v2] _
  by_cases c5 : v2 = 36
  · refine zz_lookup (off := 204) (tgt := 220) d_RD_part_16 (by decide) (by omega) (by rw [c5]; decide) (by decide) ?_
    refine ab_aload_n d_RD_part_220 rfl ?_
    refine ab_getf (fs := [vR x, inn, vz dp, vz flg, vz grp, vR na, vR nl, vz lst, vz mst, vz bh]) f_RD_12 d_RD_part_221 hd_.2.2 rfl ?_
    refine ab_dup d_RD_part_224 rfl ?_
    refine ab_getf (fs := [vR se, vR by_, vz n, vz pl, vz fa, vz fp, vR kd, vz kn]) f_RD_55 d_RD_part_225 hx.2.2 rfl ?_
    refine zz_iconst d_RD_part_228 ?_
    refine zz_iadd d_RD_part_229 ?_
    refine ab_putf (fs := [vR se, vR by_, vz n, vz pl, vz fa, vz fp, vR kd, vz kn]) f_RD_55 (Or.inl rfl) d_RD_part_230 hx.2.2 (Nat.le_of_ble_eq_true rfl) (fun _ => ⟨rfl, rfl⟩) (hx.2.1 (by decide)) ?_
    obtain ⟨G6, eG6⟩ : ∃ z : ab_G, z = List.set G x (ab_ob 10 [vR se, vR by_, vz n, vz (pl + 1), vz fa, vz fp, vR kd, vz kn]) := ⟨_, rfl⟩
    have hd_ := hd_.keep hx eG6 (by decide)
    have hna := hna.keep hx eG6 (by decide)
    have hnl := hnl.keep hx eG6 (by decide)
    have hby_ := hby_.keep hx eG6 (by decide)
    have h15 := h15.keep hx eG6 (by decide)
    have h16 := h16.keep hx eG6 (by decide)
    have hst := (fx.rf (o := o) (S := [24]) (G := G)).wr hx eG6 (List.mem_singleton.mpr rfl)
    have popI_0 := opI.fr hst ppaI_0 popI_0 (by decide) (by decide)
    have pcsI_se := csI.fr hst pcsI_se (by decide) (by decide)
    have ptbI_0 := tbI.fr hst ptbI_0  (by decide)
    have pszJ_0 := szJ.fr hst ppaI_0 pszJ_0 (by decide) (by decide)
    have ppaI_0 := paI.fr hst ppaI_0 (by decide) (by decide) (by decide) (by decide)
    have hq7 := z_len eG6
    have hq8 := z_sl hx eG6 rfl
    have hfr := hfr.wr hx eG6 (by decide)
    have hx := hx.kept eG6
    change ab_W _ _ _ (List.set G x (ab_ob 10 [vR se, vR by_, vz n, vz (pl + 1), vz fa, vz fp, vR kd, vz kn])) 233 [some (vR d_), some (vz pl), none] [] _
    rw [← eG6]
    refine ab_new (fs := [vz 0, vz 0, vN, vz 0, vz 0, vN, vN, vN, vz 0, vz 0, vz 0, vz 0, vz 0, vz 0, vz 0]) k_PA rfl cl_RD_18 inst_PA ini_PA d_RD_part_233 (by decide) (fun _ => rfl) (by omega) (by omega) ?_
    obtain ⟨G9, eG9⟩ : ∃ z : ab_G, z = G6 ++ [ab_ob 4 [vz 0, vz 0, vN, vz 0, vz 0, vN, vN, vN, vz 0, vz 0, vz 0, vz 0, vz 0, vz 0, vz 0]] := ⟨_, rfl⟩
    obtain ⟨o10, eo10⟩ : ∃ z : Nat → Nat, z = ol o G6.length 90 := ⟨_, rfl⟩
    obtain ⟨a11, ea11⟩ : ∃ z : Nat, z = G6.length := ⟨_, rfl⟩
    have hq12 := hby_.n0 (by first | decide | omega)
    have ne_a11_d_ : nq a11 d_ := by have hlt := hd_.lt; unfold nq; omega
    have ne_a11_x : nq a11 x := by have hlt := hx.lt; unfold nq; omega
    have ne_a11_na : nq a11 na := by have hlt := hna.lt; unfold nq; omega
    have ne_a11_nl : nq a11 nl := by have hlt := hnl.lt; unfold nq; omega
    have ne_a11_by_ : nq a11 by_ := by have hlt := hby_.lt; unfold nq; omega
    have ne_a11_15 : nq a11 15 := by have hlt := h15.lt; unfold nq; omega
    have ne_a11_16 : nq a11 16 := by have hlt := h16.lt; unfold nq; omega
    have hd_ := hd_.akeep (k := 90) eG9
    rw [← eo10] at hd_
    have hx := hx.akeep (k := 90) eG9
    rw [← eo10] at hx
    have hna := hna.akeep (k := 90) eG9
    rw [← eo10] at hna
    have hnl := hnl.akeep (k := 90) eG9
    rw [← eo10] at hnl
    have hby_ := hby_.akeep (k := 90) eG9
    rw [← eo10] at hby_
    have h15 := h15.akeep (k := 90) eG9
    rw [← eo10] at h15
    have h16 := h16.akeep (k := 90) eG9
    rw [← eo10] at h16
    have hst := (fx.rf (o := o) (S := []) (G := G6)).ap (k := 90) eG9
    rw [← eo10] at hst
    have hnpa11 := ppaI_0.new (a := a11) (by omega)
    have popI_0 := opI.fr hst ppaI_0 popI_0 (by decide) (by decide)
    have pcsI_se := csI.fr hst pcsI_se (by decide) (by decide)
    have ptbI_0 := tbI.fr hst ptbI_0  (by simp)
    have pszJ_0 := szJ.fr hst ppaI_0 pszJ_0 (by decide) (by decide)
    have ppaI_0 := paI.fr hst ppaI_0 (by decide) (by decide) (by decide) (by simp)
    have ha11 := cc.anew (o := o) 90 eG9 hq12
    rw [← eo10, ← ea11] at ha11
    have hfr := hfr.ap (k := 90) eG9
    rw [← eo10] at hfr
    have hq13 := z_alen eG9
    have hq14 : ab_slots G9 = ab_slots G6 + 15 := z_asl eG9 hq12
    change ab_W _ _ _ (G6 ++ [ab_ob 4 [vz 0, vz 0, vN, vz 0, vz 0, vN, vN, vN, vz 0, vz 0, vz 0, vz 0, vz 0, vz 0, vz 0]]) 236 [some (vR d_), some (vz pl), none] [.ref G6.length] _
    rw [← eG9, ← ea11]
    change ab_W _ _ _ G9 236 [some (vR d_), some (vz pl), none] [vR a11] _
    refine ab_dup d_RD_part_236 rfl ?_
    refine zz_iconst d_RD_part_237 ?_
    refine ab_aload_n d_RD_part_238 rfl ?_
    refine zz_iconst d_RD_part_239 ?_
    refine ab_callV (d' := d - 1) (as := [vz 2]) (st := [vz 3, vR a11, vR a11]) (r := _) (z2_RD_isOn (o := o10) (d_ := d_) (inn := inn) (dp := dp) (flg := flg) (grp := grp) (na := na) (nl := nl) (lst := lst) (mst := mst) (bh := bh) (x := x) hd_ (by omega)) (fun oc G2 h => by rcases h with ⟨_, h, _⟩ <;> exact ⟨_, h⟩) (by omega) m_RD_isOn ml_RD_94 im_RD_isOn se_RD_isOn c_RD hd_.2.2 (Nat.le_of_ble_eq_true rfl) d_RD_part_240 rfl ?_
    intro v G15 hq
    rcases hq with ⟨v16, hv, hGe, hq17, hq18⟩
    cases hv
    rw [hGe]
    change ab_W _ _ _ G9 243 [some (vR d_), some (vz pl), none] [vz v16, vz 3, vR a11, vR a11] _
    refine zz_if_eq (tgt := 250) d_RD_part_243 (by decide) (by omega) (fun c19 => ?_) (fun c19 => ?_)
    · refine zz_iconst d_RD_part_250 ?_
      refine zz_iconst d_RD_part_251 ?_
      refine zz_iconst d_RD_part_252 ?_
      refine ab_callI (d' := d - 1) (as := [vz 3, vz 1, vz 1, vz 1]) (st := [vR a11]) (z90_PA_init (o := o10) (a := a11) (k0 := 3) (v0 := 1) (s0 := 1) (m0 := 1) (ps := ps) (wt := wt) (bs := bs) (gr := grp) (Pr := pr0) (ph := ph) ha11 ppaI_0 (by omega) (by omega) (by omega) (by omega)) (fun oc G2 h => by rcases h with ⟨h, _⟩ <;> exact ⟨_, h⟩) (by omega) m_PA_init ml_RD_20 im_PA_init rfl (Nat.le_of_ble_eq_true rfl) d_RD_part_253 rfl ?_
      intro v G20 hq
      rcases hq with ⟨hv, hfk, hlk, hsk, hNa11, pNpaI_0, hq21⟩
      cases hv
      have hd_ := hfk.get hd_ (by decide)
      have hx := hfk.get hx (by decide)
      have hna := hfk.get hna (by decide)
      have hnl := hfk.get hnl (by decide)
      have hby_ := hfk.get hby_ (by decide)
      have h15 := hfk.get h15 (by decide)
      have h16 := hfk.get h16 (by decide)
      have popI_0 := popI_0.fz (o2 := o10) hq21 (by simp)
      have pcsI_se := csI.fr hfk pcsI_se (by decide) (by decide)
      have ptbI_0 := tbI.fr hfk ptbI_0  (by decide)
      have pszJ_0 := pszJ_0.fzk (o2 := o10) hq21
      have ppaI_0 := pNpaI_0
      have hfr := hfr.tr hfk (by decide)
      have hq22 := hlk
      have hq23 := hsk
      have ha11 := hNa11
      change ab_W _ _ _ G20 256 [some (vR d_), some (vz pl), none] [vR a11] _
      have hnf_ := ppaI_0.nref hnpa11
      have hnp9_ := hnpa11
      have hlt24 := ha11.lt
      have hn24 : paN grp pr0 3 1 (-1) := ⟨by omega, by intro _; omega, by intro _; omega, by intro _; omega, pr0_⟩
      obtain ⟨ps24, wt24, hx24, hxo24, hpa24, ppaI_0⟩ : ∃ pz wz : Nat → Nat, psx ps pz a11 ∧ (∀ x, ¬ x = a11 → pz x = ps x) ∧ pz a11 = 90 ∧ paI o10 G20 0 pz wz bs grp pr0 (ph + 0) := ⟨_, _, psx.ol (Nat.le_refl _), fun x hx => if_neg hx, ol_self, ppaI_0.ad90 0 hnpa11 (by omega) ha11 hn24 (by unfold pnB; omega) (Or.inl ⟨by omega, rfl⟩) (Or.inl rfl) (Or.inl rfl) (Or.inl rfl)⟩
      have popI_0 : opI o10 G20 0 ps24 k hi inn := opn_ps _ _ _ popI_0 (psx.lt hx24 (by omega))
      have hlf_ : leafp ps ps24 G20 a11 := leafp.mk hnf_ hnp9_ hxo24 hpa24 ha11 (by omega)
      have pszJ_0 := (pszJ_0.leaf hlf_ (s := (fi G20 a11 8)) ceq.rf (by have t := hlf_.2.2.2.2.1.2.1; omega)).up (hi2 := a11) (by omega)
      have popI_0 := opn_up (hi2 := a11) popI_0 (by omega)
      have popI_0 : opI o10 G20 0 ps24 k a11 inn := popI_0
      refine ab_aret (rt := _) rfl (Or.inl ⟨_, rfl⟩) (Or.inr ⟨_, rfl⟩) d_RD_part_256 ?_
      rw [hQ]; exact (Or.inr (Or.inr ⟨_, _, _, _, _, _, _, _, _, _, _, _, _, _, _, _, _, _, _, _, _, _, _, (pl + 1), fr, (fi G20 a11 8), rfl, hfr, hd_, hx, hna, hnl, ppaI_0, popI_0, pcsI_se, pszJ_0, (by omega), (by omega), (by omega), (by exact hnm), (by have hlt := ha11.lt; omega), (by exact hx24.lt (by omega)), (by omega), (by omega), (by omega), (by omega), (by omega), (by omega), (by omega), (by omega), (by exact hpa24), (by first | exact hkf | (simp only [List.length_cons]; omega) | omega), (by omega), (by exact Or.inl ⟨Or.inr (Or.inr (Or.inr (Or.inr (Or.inl ⟨by omega, by omega, (fi_pa ha11 (by omega) (by omega)).2.2.1⟩)))), rfl, rfl⟩), (by exact ⟨rfl, rfl, rfl⟩), (by omega)⟩))
    · refine zz_iconst d_RD_part_246 ?_
      refine ab_goto (tgt := 251) d_RD_part_247 (by decide) ?_
      refine zz_iconst d_RD_part_251 ?_
      refine zz_iconst d_RD_part_252 ?_
      refine ab_callI (d' := d - 1) (as := [vz 3, vz 3, vz 1, vz 1]) (st := [vR a11]) (z90_PA_init (o := o10) (a := a11) (k0 := 3) (v0 := 3) (s0 := 1) (m0 := 1) (ps := ps) (wt := wt) (bs := bs) (gr := grp) (Pr := pr0) (ph := ph) ha11 ppaI_0 (by omega) (by omega) (by omega) (by omega)) (fun oc G2 h => by rcases h with ⟨h, _⟩ <;> exact ⟨_, h⟩) (by omega) m_PA_init ml_RD_20 im_PA_init rfl (Nat.le_of_ble_eq_true rfl) d_RD_part_253 rfl ?_
      intro v G25 hq
      rcases hq with ⟨hv, hfk, hlk, hsk, hNa11, pNpaI_0, hq26⟩
      cases hv
      have hd_ := hfk.get hd_ (by decide)
      have hx := hfk.get hx (by decide)
      have hna := hfk.get hna (by decide)
      have hnl := hfk.get hnl (by decide)
      have hby_ := hfk.get hby_ (by decide)
      have h15 := hfk.get h15 (by decide)
      have h16 := hfk.get h16 (by decide)
      have popI_0 := popI_0.fz (o2 := o10) hq26 (by simp)
      have pcsI_se := csI.fr hfk pcsI_se (by decide) (by decide)
      have ptbI_0 := tbI.fr hfk ptbI_0  (by decide)
      have pszJ_0 := pszJ_0.fzk (o2 := o10) hq26
      have ppaI_0 := pNpaI_0
      have hfr := hfr.tr hfk (by decide)
      have hq27 := hlk
      have hq28 := hsk
      have ha11 := hNa11
      change ab_W _ _ _ G25 256 [some (vR d_), some (vz pl), none] [vR a11] _
      have hnf_ := ppaI_0.nref hnpa11
      have hnp9_ := hnpa11
      have hlt29 := ha11.lt
      have hn29 : paN grp pr0 3 3 (-1) := ⟨by omega, by intro _; omega, by intro _; omega, by intro _; omega, pr0_⟩
      obtain ⟨ps29, wt29, hx29, hxo29, hpa29, ppaI_0⟩ : ∃ pz wz : Nat → Nat, psx ps pz a11 ∧ (∀ x, ¬ x = a11 → pz x = ps x) ∧ pz a11 = 90 ∧ paI o10 G25 0 pz wz bs grp pr0 (ph + 0) := ⟨_, _, psx.ol (Nat.le_refl _), fun x hx => if_neg hx, ol_self, ppaI_0.ad90 0 hnpa11 (by omega) ha11 hn29 (by unfold pnB; omega) (Or.inl ⟨by omega, rfl⟩) (Or.inl rfl) (Or.inl rfl) (Or.inl rfl)⟩
      have popI_0 : opI o10 G25 0 ps29 k hi inn := opn_ps _ _ _ popI_0 (psx.lt hx29 (by omega))
      have hlf_ : leafp ps ps29 G25 a11 := leafp.mk hnf_ hnp9_ hxo29 hpa29 ha11 (by omega)
      have pszJ_0 := (pszJ_0.leaf hlf_ (s := (fi G25 a11 8)) ceq.rf (by have t := hlf_.2.2.2.2.1.2.1; omega)).up (hi2 := a11) (by omega)
      have popI_0 := opn_up (hi2 := a11) popI_0 (by omega)
      have popI_0 : opI o10 G25 0 ps29 k a11 inn := popI_0
      refine ab_aret (rt := _) rfl (Or.inl ⟨_, rfl⟩) (Or.inr ⟨_, rfl⟩) d_RD_part_256 ?_
      rw [hQ]; exact (Or.inr (Or.inr ⟨_, _, _, _, _, _, _, _, _, _, _, _, _, _, _, _, _, _, _, _, _, _, _, (pl + 1), fr, (fi G25 a11 8), rfl, hfr, hd_, hx, hna, hnl, ppaI_0, popI_0, pcsI_se, pszJ_0, (by omega), (by omega), (by omega), (by exact hnm), (by have hlt := ha11.lt; omega), (by exact hx29.lt (by omega)), (by omega), (by omega), (by omega), (by omega), (by omega), (by omega), (by omega), (by omega), (by exact hpa29), (by first | exact hkf | (simp only [List.length_cons]; omega) | omega), (by omega), (by exact Or.inl ⟨Or.inr (Or.inr (Or.inr (Or.inr (Or.inl ⟨by omega, by omega, (fi_pa ha11 (by omega) (by omega)).2.2.1⟩)))), rfl, rfl⟩), (by exact ⟨rfl, rfl, rfl⟩), (by omega)⟩))
  replace c5 : nzq v2 36 := c5
  by_cases c30 : v2 = 40
  · refine zz_lookup (off := 120) (tgt := 136) d_RD_part_16 (by decide) (by omega) (by rw [c30]; decide) (by decide) ?_
    refine ab_aload_n d_RD_part_136 rfl ?_
    refine ab_iload_n d_RD_part_137 rfl ?_
    refine ab_callV (d' := d - 1) (as := [vz pl]) (st := []) (r := _) (z_RD_open (o := o) (d_ := d_) (inn := inn) (dp := dp) (flg := flg) (grp := grp) (na := na) (nl := nl) (lst := lst) (mst := mst) (bh := bh) (NA := NA) (NL := NL) (x := x) (se := se) (by_ := by_) (m := m) (f := f) (n := n) (pl := pl) (fa := fa) (fp := fp) (kd := kd) (kn := kn) (ps := ps) (wt := wt) (bs := bs) (ph := ph) (k := k) (hi := hi) (wh := wh) (fr := fr) hd_ hx hna hnl hby_ ppaI_0 popI_0 pszJ_0 (by omega) (by omega) hb (by omega) (by omega) (by omega) hnm (by omega) (by omega) (by omega) (by omega) (by omega) (by omega) (by omega)) (fun oc G2 h => by rcases h with ⟨_, _, _, _, _, _, _, h, _⟩ | ⟨_, _, _, _, _, _, _, _, h, _⟩ | ⟨_, _, _, _, _, _, _, _, _, h, _⟩ | ⟨_, _, _, h, _⟩ | ⟨_, _, _, _, h, _⟩ <;> exact ⟨_, h⟩) (by omega) m_RD_open ml_RD_106 im_RD_open se_RD_open c_RD hd_.2.2 (Nat.le_of_ble_eq_true rfl) d_RD_part_138 rfl ?_
    intro v G31 hq
    rcases hq with ⟨o32, inn233, k234, hi235, ps236, wt237, ph238, hv, hfk, hNd_, hNx, hNna, hNnl, pNpaI_0, pNopI_0, pNszJ_0, hq39, hq40, hq41, hq42, hq43, hq44, hq45, hq46, hq47⟩ | ⟨o48, nm249, inn250, k251, hi252, ps253, wt254, ph255, hv, hfk, hNd_, hNx, hNna, hNnl, pNpaI_0, pNopI_0, pNszJ_0, hq56, hq57, hq58, hq59, hq60, hq61, hq62, hq63, hq64, hq65, hq66, hq67, hq68⟩ | ⟨o69, v270, e271, inn272, k273, hi274, ps275, wt276, ph277, hv, hfk, hNd_, hNx, hNna, hNnl, pNpaI_0, pNopI_0, pNszJ_0, hq78, hq79, hq80, hq81, hq82, hq83, hq84, hq85, hq86, hq87, hq88, hq89⟩ | ⟨o90, v291, e292, hv, hfk, hNd_, hNx, hNna, hNnl, pNpaI_0, pNopI_0, pNszJ_0, hq93, hq94, hq95, hq96, hq97, hq98, hq99⟩ | ⟨o100, p2101, fa2102, fp2103, hv, hfk, hNd_, hNx, hNna, hNnl, pNpaI_0, pNopI_0, pNszJ_0, hq104, hq105, hq106, hq107, hq108⟩
    · cases hv
      have hby_ := hfk.get hby_ (by decide)
      have h15 := hfk.get h15 (by decide)
      have h16 := hfk.get h16 (by decide)
      have pcsI_se := csI.fr hfk pcsI_se (by decide) (by decide)
      have ptbI_0 := tbI.fr hfk ptbI_0  (by decide)
      have ppaI_0 := pNpaI_0
      have popI_0 := pNopI_0
      have pszJ_0 := pNszJ_0
      have hfr := hfr.tr hfk (by decide)
      have hq109 := hfk.1
      have hd_ := hNd_
      have hx := hNx
      have hna := hNna
      have hnl := hNnl
      change ab_W _ _ _ G31 141 [some (vR d_), some (vz pl), none] [] _
      refine ab_null d_RD_part_141 ?_
      refine ab_aret (rt := _) rfl (Or.inl ⟨_, rfl⟩) (Or.inl rfl) d_RD_part_142 ?_
      rw [hQ]; exact (Or.inr (Or.inl ⟨_, _, _, _, _, _, _, _, _, _, _, _, _, _, _, _, _, _, _, _, _, _, _, (pl + 1), ((pl, flg, (grp + 1), 0, 0) :: fr), rfl, hfr, hd_, hx, hna, hnl, ppaI_0, popI_0, pcsI_se, pszJ_0, (by omega), (by omega), (by omega), (by exact nmok_s hnm (by omega) (by omega)), (by omega), (by exact hq44.lt (by omega)), (by omega), (by omega), (by omega), (by omega), (by omega), (by omega), (by omega), (by omega), (by first | exact hkf | (simp only [List.length_cons]; omega) | omega), (by omega), (by exact Or.inr (Or.inl ⟨by omega, by omega, ⟨by omega, by omega⟩, ⟨by omega, rfl, rfl, rfl, rfl⟩, rfl⟩)), (by omega)⟩))
    · cases hv
      have hby_ := hfk.get hby_ (by decide)
      have h15 := hfk.get h15 (by decide)
      have h16 := hfk.get h16 (by decide)
      have pcsI_se := csI.fr hfk pcsI_se (by decide) (by decide)
      have ptbI_0 := tbI.fr hfk ptbI_0  (by decide)
      have ppaI_0 := pNpaI_0
      have popI_0 := pNopI_0
      have pszJ_0 := pNszJ_0
      have hfr := hfr.tr hfk (by decide)
      have hq110 := hfk.1
      have hd_ := hNd_
      have hx := hNx
      have hna := hNna
      have hnl := hNnl
      change ab_W _ _ _ G31 141 [some (vR d_), some (vz pl), none] [] _
      have hnw_ : 1 ≤ nm249 ∧ nm249 ≤ 12 ∧ pl + 4 + nm249 < n := by have t := nmR_w hq58; omega
      refine ab_null d_RD_part_141 ?_
      refine ab_aret (rt := _) rfl (Or.inl ⟨_, rfl⟩) (Or.inl rfl) d_RD_part_142 ?_
      rw [hQ]; exact (Or.inr (Or.inl ⟨_, _, _, _, _, _, _, _, _, _, _, _, _, _, _, _, _, _, _, _, _, _, _, (pl + 1), ((pl, flg, (grp + 1), 0, 0) :: fr), rfl, hfr, hd_, hx, hna, hnl, ppaI_0, popI_0, pcsI_se, pszJ_0, (by omega), (by omega), (by omega), (by exact nmok_s hnm (by omega) (by omega)), (by omega), (by exact hq65.lt (by omega)), (by omega), (by omega), (by omega), (by omega), (by omega), (by omega), (by omega), (by omega), (by first | exact hkf | (simp only [List.length_cons]; omega) | omega), (by omega), (by exact Or.inr (Or.inr (Or.inl ⟨by omega, by omega, ⟨by omega, by omega⟩, _, ⟨hq58, by omega, hq60⟩, ⟨by omega, by omega⟩, ⟨by omega, rfl, rfl, rfl, rfl⟩, rfl⟩))), (by first | omega | (have t := nmR_w hq58; omega))⟩))
    · cases hv
      have hby_ := hfk.get hby_ (by decide)
      have h15 := hfk.get h15 (by decide)
      have h16 := hfk.get h16 (by decide)
      have pcsI_se := csI.fr hfk pcsI_se (by decide) (by decide)
      have ptbI_0 := tbI.fr hfk ptbI_0  (by decide)
      have ppaI_0 := pNpaI_0
      have popI_0 := pNopI_0
      have pszJ_0 := pNszJ_0
      have hfr := hfr.tr hfk (by decide)
      have hq111 := hfk.1
      have hd_ := hNd_
      have hx := hNx
      have hna := hNna
      have hnl := hNnl
      change ab_W _ _ _ G31 141 [some (vR d_), some (vz pl), none] [] _
      have hfw_ := (flgR_w hq80).1
      have hfv_ := flgR_v hq80 (by omega)
      refine ab_null d_RD_part_141 ?_
      refine ab_aret (rt := _) rfl (Or.inl ⟨_, rfl⟩) (Or.inl rfl) d_RD_part_142 ?_
      rw [hQ]; exact (Or.inr (Or.inl ⟨_, _, _, _, _, _, _, _, _, _, _, _, _, _, _, _, _, _, _, _, _, _, _, (pl + 1), ((pl, flg, 0, 0, 0) :: fr), rfl, hfr, hd_, hx, hna, hnl, ppaI_0, popI_0, pcsI_se, pszJ_0, (by omega), (by omega), (by omega), (by exact hnm), (by omega), (by exact hq86.lt (by omega)), (by omega), (by omega), (by omega), (by omega), (by omega), (by omega), (by omega), (by omega), (by first | exact hkf | (simp only [List.length_cons]; omega) | omega), (by omega), (by exact Or.inr (Or.inr (Or.inr ⟨by omega, by omega, by omega, _, hq80, ⟨by omega, rfl, rfl, rfl⟩, Or.inl ⟨by omega, by omega, rfl⟩⟩))), (by first | omega | (have t := flgR_w hq80; omega))⟩))
    · cases hv
      have hby_ := hfk.get hby_ (by decide)
      have h15 := hfk.get h15 (by decide)
      have h16 := hfk.get h16 (by decide)
      have pcsI_se := csI.fr hfk pcsI_se (by decide) (by decide)
      have ptbI_0 := tbI.fr hfk ptbI_0  (by decide)
      have ppaI_0 := pNpaI_0
      have popI_0 := pNopI_0
      have pszJ_0 := pNszJ_0
      have hfr := hfr.tr hfk (by decide)
      have hq112 := hfk.1
      have hd_ := hNd_
      have hx := hNx
      have hna := hNna
      have hnl := hNnl
      change ab_W _ _ _ G31 141 [some (vR d_), some (vz pl), none] [] _
      have hfw_ := (flgR_w hq95).1
      have hfv_ := flgR_v hq95 (by omega)
      refine ab_null d_RD_part_141 ?_
      refine ab_aret (rt := _) rfl (Or.inl ⟨_, rfl⟩) (Or.inl rfl) d_RD_part_142 ?_
      rw [hQ]; exact (Or.inr (Or.inl ⟨_, _, _, _, _, _, _, _, _, _, _, _, _, _, _, _, _, _, _, _, _, _, _, (pl + 1), fr, rfl, hfr, hd_, hx, hna, hnl, ppaI_0, popI_0, pcsI_se, pszJ_0, (by omega), (by omega), (by omega), (by exact hnm), (by omega), (by exact psx.rf), (by omega), (by omega), (by omega), (by omega), (by omega), (by omega), (by omega), (by omega), (by first | exact hkf | (simp only [List.length_cons]; omega) | omega), (by omega), (by exact Or.inr (Or.inr (Or.inr ⟨by omega, by omega, by omega, _, hq95, ⟨by omega, rfl, rfl, rfl⟩, Or.inr ⟨by omega, rfl⟩⟩))), (by first | omega | (have t := flgR_w hq95; omega))⟩))
    · cases hv
      have hby_ := hfk.get hby_ (by decide)
      have h15 := hfk.get h15 (by decide)
      have h16 := hfk.get h16 (by decide)
      have pcsI_se := csI.fr hfk pcsI_se (by decide) (by decide)
      have ptbI_0 := tbI.fr hfk ptbI_0  (by decide)
      have ppaI_0 := pNpaI_0
      have popI_0 := pNopI_0
      have pszJ_0 := pNszJ_0
      have hfr := hfr.tr hfk (by decide)
      have hq113 := hfk.1
      have hd_ := hNd_
      have hx := hNx
      have hna := hNna
      have hnl := hNnl
      change ab_W _ _ _ G31 141 [some (vR d_), some (vz pl), none] [] _
      refine ab_null d_RD_part_141 ?_
      refine ab_aret (rt := _) rfl (Or.inl ⟨_, rfl⟩) (Or.inl rfl) d_RD_part_142 ?_
      rw [hQ]; exact (Or.inl ⟨_, _, _, _, _, _, _, _, _, _, _, _, _, _, _, _, _, _, _, _, _, _, _, (pl + 1), fr, rfl, hfr, hd_, hx, hna, hnl, ppaI_0, popI_0, pcsI_se, pszJ_0, (by omega), (by omega), (by omega), (by exact hnm), (by omega), (by exact psx.rf), (by omega), (by omega), (by omega), (by omega), (by omega), (by omega), (by omega), (by omega), (by first | exact hkf | (simp only [List.length_cons]; omega) | omega), (by omega), (by exact Or.inl (Or.inr (Or.inl ⟨by omega, by have t := hq104; rw [show dp = ↑fr.length - 1 by omega] at t; exact t, by omega⟩)))⟩)
  replace c30 : nzq v2 40 := c30
  by_cases c114 : v2 = 41
  · refine zz_lookup (off := 127) (tgt := 143) d_RD_part_16 (by decide) (by omega) (by rw [c114]; decide) (by decide) ?_
    refine ab_aload_n d_RD_part_143 rfl ?_
    refine ab_callV (d' := d - 1) (as := []) (st := []) (r := _) (z_RD_close (o := o) (d_ := d_) (inn := inn) (dp := dp) (flg := flg) (grp := grp) (na := na) (nl := nl) (lst := lst) (mst := mst) (bh := bh) (x := x) (se := se) (by_ := by_) (n := n) (pl := pl) (fa := fa) (fp := fp) (kd := kd) (kn := kn) (ps := ps) (wt := wt) (bs := bs) (ph := ph) (k := k) (hi := hi) (wh := wh) (fr := fr) hd_ hx ppaI_0 popI_0 pszJ_0 (by omega) (by omega) (by omega) (by omega) (by omega) (by omega) (by omega) (by omega)) (fun oc G2 h => by rcases h with ⟨_, _, _, _, _, _, _, _, h, _⟩ | ⟨_, _, _, _, _, _, _, _, _, _, _, _, _, _, h, _⟩ <;> exact ⟨_, h⟩) (by omega) m_RD_close ml_RD_110 im_RD_close se_RD_close c_RD hd_.2.2 (Nat.le_of_ble_eq_true rfl) d_RD_part_144 rfl ?_
    intro v G115 hq
    rcases hq with ⟨inn2116, dp2117, flg2118, p2119, fa2120, fp2121, k2122, hi2123, hv, hfk, hlk, hsk, hNd_, hNx, pNpaI_0, pNopI_0, pNszJ_0, hq124, hq125, hq126, hq127, hq128, hq129, hq130, hq131⟩ | ⟨p132, a1_133, b1_134, c1_135, d1_136, e1_137, t_138, inn2139, dp2140, flg2141, p2142, fa2143, fp2144, k2145, hv, hfk, hlk, hsk, hNd_, hNx, pNpaI_0, pNopI_0, pNszJ_0, hq146, hq147, hq148, hq149, hq150, hq151, hq152, hq153, hq154, hq155, hq156⟩
    · cases hv
      have hna := hfk.get hna (by decide)
      have hnl := hfk.get hnl (by decide)
      have hby_ := hfk.get hby_ (by decide)
      have h15 := hfk.get h15 (by decide)
      have h16 := hfk.get h16 (by decide)
      have pcsI_se := csI.fr hfk pcsI_se (by decide) (by decide)
      have ptbI_0 := tbI.fr hfk ptbI_0  (by decide)
      have ppaI_0 := pNpaI_0
      have popI_0 := pNopI_0
      have pszJ_0 := pNszJ_0
      have hfr := hfr.tr hfk (by decide)
      have hq157 := hlk
      have hq158 := hsk
      have hd_ := hNd_
      have hx := hNx
      change ab_W _ _ _ G115 147 [some (vR d_), some (vz pl), none] [vN] _
      refine ab_aret (rt := _) rfl (Or.inl ⟨_, rfl⟩) (Or.inl rfl) d_RD_part_147 ?_
      rw [hQ]; exact (Or.inl ⟨_, _, _, _, _, _, _, _, _, _, _, _, _, _, _, _, _, _, _, _, _, _, _, pl, fr, rfl, hfr, hd_, hx, hna, hnl, ppaI_0, popI_0, pcsI_se, pszJ_0, (by omega), (by omega), (by omega), (by exact hnm), (by omega), (by exact psx.rf), (by omega), (by omega), (by omega), (by omega), (by omega), (by omega), (by omega), (by omega), (by first | exact hkf | (simp only [List.length_cons]; omega) | omega), (by omega), (by exact Or.inl (Or.inr (Or.inr ⟨by omega, by omega, by omega, by omega⟩)))⟩)
    · cases hv
      have hna := hfk.get hna (by decide)
      have hnl := hfk.get hnl (by decide)
      have hby_ := hfk.get hby_ (by decide)
      have h15 := hfk.get h15 (by decide)
      have h16 := hfk.get h16 (by decide)
      have pcsI_se := csI.fr hfk pcsI_se (by decide) (by decide)
      have ptbI_0 := tbI.fr hfk ptbI_0  (by decide)
      have ppaI_0 := pNpaI_0
      have popI_0 := pNopI_0
      have pszJ_0 := pNszJ_0
      have hfr := hfr.tr hfk (by decide)
      have hq159 := hlk
      have hq160 := hsk
      have hd_ := hNd_
      have hx := hNx
      change ab_W _ _ _ G115 147 [some (vR d_), some (vz pl), none] [vR p132] _
      refine ab_aret (rt := _) rfl (Or.inl ⟨_, rfl⟩) (Or.inr ⟨_, rfl⟩) d_RD_part_147 ?_
      rw [hQ]; exact (Or.inr (Or.inr ⟨_, _, _, _, _, _, _, _, _, _, _, _, _, _, _, _, _, _, _, _, _, _, _, pl, t_138, (pin 4 c1_135 + e1_137 + d1_136), rfl, hfr, hd_, hx, hna, hnl, ppaI_0, popI_0, pcsI_se, pszJ_0, (by omega), (by omega), (by omega), (by exact hnm), (by omega), (by exact psx.rf), (by omega), (by omega), (by omega), (by omega), (by omega), (by omega), (by omega), (by omega), (by exact hq155), (by first | exact hkf | (simp only [List.length_cons]; omega) | omega | (have t := congrArg List.length hq146; simp only [List.length_cons] at t ⊢; omega) | (have t := congrArg List.length hq146; simp only [List.length_cons] at t; omega)), (by omega), (by exact Or.inr ⟨by omega, by omega, _, _, _, _, _, hq146, by have t := congrArg List.length hq146; simp only [List.length_cons] at t; omega, by omega, rfl⟩), (by exact ⟨rfl, rfl, rfl⟩), (by omega)⟩))
  replace c114 : nzq v2 41 := c114
  by_cases c161 : v2 = 46
  · refine zz_lookup (off := 132) (tgt := 148) d_RD_part_16 (by decide) (by omega) (by rw [c161]; decide) (by decide) ?_
    refine ab_aload_n d_RD_part_148 rfl ?_
    refine ab_getf (fs := [vR x, inn, vz dp, vz flg, vz grp, vR na, vR nl, vz lst, vz mst, vz bh]) f_RD_12 d_RD_part_149 hd_.2.2 rfl ?_
    refine ab_dup d_RD_part_152 rfl ?_
    refine ab_getf (fs := [vR se, vR by_, vz n, vz pl, vz fa, vz fp, vR kd, vz kn]) f_RD_55 d_RD_part_153 hx.2.2 rfl ?_
    refine zz_iconst d_RD_part_156 ?_
    refine zz_iadd d_RD_part_157 ?_
    refine ab_putf (fs := [vR se, vR by_, vz n, vz pl, vz fa, vz fp, vR kd, vz kn]) f_RD_55 (Or.inl rfl) d_RD_part_158 hx.2.2 (Nat.le_of_ble_eq_true rfl) (fun _ => ⟨rfl, rfl⟩) (hx.2.1 (by decide)) ?_
    obtain ⟨G162, eG162⟩ : ∃ z : ab_G, z = List.set G x (ab_ob 10 [vR se, vR by_, vz n, vz (pl + 1), vz fa, vz fp, vR kd, vz kn]) := ⟨_, rfl⟩
    have hd_ := hd_.keep hx eG162 (by decide)
    have hna := hna.keep hx eG162 (by decide)
    have hnl := hnl.keep hx eG162 (by decide)
    have hby_ := hby_.keep hx eG162 (by decide)
    have h15 := h15.keep hx eG162 (by decide)
    have h16 := h16.keep hx eG162 (by decide)
    have hst := (fx.rf (o := o) (S := [24]) (G := G)).wr hx eG162 (List.mem_singleton.mpr rfl)
    have popI_0 := opI.fr hst ppaI_0 popI_0 (by decide) (by decide)
    have pcsI_se := csI.fr hst pcsI_se (by decide) (by decide)
    have ptbI_0 := tbI.fr hst ptbI_0  (by decide)
    have pszJ_0 := szJ.fr hst ppaI_0 pszJ_0 (by decide) (by decide)
    have ppaI_0 := paI.fr hst ppaI_0 (by decide) (by decide) (by decide) (by decide)
    have hq163 := z_len eG162
    have hq164 := z_sl hx eG162 rfl
    have hfr := hfr.wr hx eG162 (by decide)
    have hx := hx.kept eG162
    change ab_W _ _ _ (List.set G x (ab_ob 10 [vR se, vR by_, vz n, vz (pl + 1), vz fa, vz fp, vR kd, vz kn])) 161 [some (vR d_), some (vz pl), none] [] _
    rw [← eG162]
    refine ab_aload_n d_RD_part_161 rfl ?_
    refine ab_aload_n d_RD_part_162 rfl ?_
    refine zz_iconst d_RD_part_163 ?_
    refine ab_callV (d' := d - 1) (as := [vz 4]) (st := [vR d_]) (r := _) (z4_RD_isOn (o := o) (d_ := d_) (inn := inn) (dp := dp) (flg := flg) (grp := grp) (na := na) (nl := nl) (lst := lst) (mst := mst) (bh := bh) (x := x) hd_ (by omega)) (fun oc G2 h => by rcases h with ⟨_, h, _⟩ <;> exact ⟨_, h⟩) (by omega) m_RD_isOn ml_RD_94 im_RD_isOn se_RD_isOn c_RD hd_.2.2 (Nat.le_of_ble_eq_true rfl) d_RD_part_164 rfl ?_
    intro v G165 hq
    rcases hq with ⟨v166, hv, hGe, hq167, hq168⟩
    cases hv
    rw [hGe]
    change ab_W _ _ _ G162 167 [some (vR d_), some (vz pl), none] [vz v166, vR d_] _
    refine zz_if_eq (tgt := 176) d_RD_part_167 (by decide) (by omega) (fun c169 => ?_) (fun c169 => ?_)
    · refine ab_gets (i := 14) (by decide) s_RD_116 d_RD_part_176 ?_
      obtain ⟨w170, q170, mm170, hk170, hw170, hc170, hL170⟩ := ptbI_0.atL 14 (by decide) (by decide)
      have hL170 : w170 = 6 := hL170.trans (by decide)
      refine ab_callV (d' := d - 1) (as := [vR 14]) (st := []) (r := _) (zs_RD_classPart (o := o) (d_ := d_) (w := 14) (lw := 14) (w2 := w170) (q2 := q170) (m2 := mm170) (ps := ps) (wt := wt) (bs := bs) (gr := grp) (ph := ph) hk170 ppaI_0 (by omega) (by omega) (by omega) (by omega) hc170 (by omega) (by omega) (by omega) (by omega)) (fun oc G2 h => by rcases h with ⟨_, _, _, _, _, h, _⟩ <;> exact ⟨_, h⟩) (by omega) m_RD_classPart ml_RD_102 im_RD_classPart se_RD_classPart c_RD hd_.2.2 (Nat.le_of_ble_eq_true rfl) d_RD_part_179 rfl ?_
      intro v G171 hq
      rcases hq with ⟨o172, p173, ps2174, wt2175, ph2176, hv, hfk, pNpaI_0, hq177, hq178, hq179, hq180, hq181, hq182, hq183, hq184, hq185⟩
      cases hv
      have hd_ := hfk.get hd_ (by decide)
      have hx := hfk.get hx (by decide)
      have hna := hfk.get hna (by decide)
      have hnl := hfk.get hnl (by decide)
      have hby_ := hfk.get hby_ (by decide)
      have h15 := hfk.get h15 (by decide)
      have h16 := hfk.get h16 (by decide)
      have hk170 := hfk.get hk170 (by decide)
      have popI_0 := popI_0.fz (o2 := o172) hq180 (by simp)
      have pcsI_se := csI.fr hfk pcsI_se (by decide) (by decide)
      have ptbI_0 := tbI.fr hfk ptbI_0  (by decide)
      have pszJ_0 := pszJ_0.fzk (o2 := o172) hq180
      have ppaI_0 := pNpaI_0
      have hfr := hfr.tr hfk (by decide)
      have hq186 := hfk.1
      change ab_W _ _ _ G171 182 [some (vR d_), some (vz pl), none] [vR p173] _
      have popI_0 : opI o172 G171 0 ps2174 k hi inn := opn_ps _ _ _ popI_0 (psx.lt hq177 (by omega))
      have pszJ_0 := (pszJ_0.leaf hq184 (s := (fi G171 p173 8)) ceq.rf (by have t := hq184.2.2.2.2.1.2.1; omega)).up (hi2 := p173) (by omega)
      have popI_0 := opn_up (hi2 := p173) popI_0 (by omega)
      have popI_0 : opI o172 G171 0 ps2174 k p173 inn := popI_0
      refine ab_aret (rt := _) rfl (Or.inl ⟨_, rfl⟩) (Or.inr ⟨_, rfl⟩) d_RD_part_182 ?_
      rw [hQ]; exact (Or.inr (Or.inr ⟨_, _, _, _, _, _, _, _, _, _, _, _, _, _, _, _, _, _, _, _, _, _, _, (pl + 1), fr, (fi G171 p173 8), rfl, hfr, hd_, hx, hna, hnl, ppaI_0, popI_0, pcsI_se, pszJ_0, (by omega), (by omega), (by omega), (by exact hnm), (by omega), (by exact hq177.lt (by omega)), (by omega), (by omega), (by omega), (by omega), (by omega), (by omega), (by omega), (by omega), (by exact hq178), (by first | exact hkf | (simp only [List.length_cons]; omega) | omega), (by omega), (by exact Or.inl ⟨Or.inr (Or.inr (Or.inr (Or.inl ⟨by omega, by omega, by omega⟩))), rfl, rfl⟩), (by exact ⟨rfl, rfl, rfl⟩), (by omega)⟩))
    · refine ab_gets (i := 13) (by decide) s_RD_113 d_RD_part_170 ?_
      refine ab_goto (tgt := 179) d_RD_part_173 (by decide) ?_
      obtain ⟨w187, q187, mm187, hk187, hw187, hc187, hL187⟩ := ptbI_0.atL 13 (by decide) (by decide)
      have hL187 : w187 = 4 := hL187.trans (by decide)
      refine ab_callV (d' := d - 1) (as := [vR 13]) (st := []) (r := _) (zs_RD_classPart (o := o) (d_ := d_) (w := 13) (lw := 13) (w2 := w187) (q2 := q187) (m2 := mm187) (ps := ps) (wt := wt) (bs := bs) (gr := grp) (ph := ph) hk187 ppaI_0 (by omega) (by omega) (by omega) (by omega) hc187 (by omega) (by omega) (by omega) (by omega)) (fun oc G2 h => by rcases h with ⟨_, _, _, _, _, h, _⟩ <;> exact ⟨_, h⟩) (by omega) m_RD_classPart ml_RD_102 im_RD_classPart se_RD_classPart c_RD hd_.2.2 (Nat.le_of_ble_eq_true rfl) d_RD_part_179 rfl ?_
      intro v G188 hq
      rcases hq with ⟨o189, p190, ps2191, wt2192, ph2193, hv, hfk, pNpaI_0, hq194, hq195, hq196, hq197, hq198, hq199, hq200, hq201, hq202⟩
      cases hv
      have hd_ := hfk.get hd_ (by decide)
      have hx := hfk.get hx (by decide)
      have hna := hfk.get hna (by decide)
      have hnl := hfk.get hnl (by decide)
      have hby_ := hfk.get hby_ (by decide)
      have h15 := hfk.get h15 (by decide)
      have h16 := hfk.get h16 (by decide)
      have hk187 := hfk.get hk187 (by decide)
      have popI_0 := popI_0.fz (o2 := o189) hq197 (by simp)
      have pcsI_se := csI.fr hfk pcsI_se (by decide) (by decide)
      have ptbI_0 := tbI.fr hfk ptbI_0  (by decide)
      have pszJ_0 := pszJ_0.fzk (o2 := o189) hq197
      have ppaI_0 := pNpaI_0
      have hfr := hfr.tr hfk (by decide)
      have hq203 := hfk.1
      change ab_W _ _ _ G188 182 [some (vR d_), some (vz pl), none] [vR p190] _
      have popI_0 : opI o189 G188 0 ps2191 k hi inn := opn_ps _ _ _ popI_0 (psx.lt hq194 (by omega))
      have pszJ_0 := (pszJ_0.leaf hq201 (s := (fi G188 p190 8)) ceq.rf (by have t := hq201.2.2.2.2.1.2.1; omega)).up (hi2 := p190) (by omega)
      have popI_0 := opn_up (hi2 := p190) popI_0 (by omega)
      have popI_0 : opI o189 G188 0 ps2191 k p190 inn := popI_0
      refine ab_aret (rt := _) rfl (Or.inl ⟨_, rfl⟩) (Or.inr ⟨_, rfl⟩) d_RD_part_182 ?_
      rw [hQ]; exact (Or.inr (Or.inr ⟨_, _, _, _, _, _, _, _, _, _, _, _, _, _, _, _, _, _, _, _, _, _, _, (pl + 1), fr, (fi G188 p190 8), rfl, hfr, hd_, hx, hna, hnl, ppaI_0, popI_0, pcsI_se, pszJ_0, (by omega), (by omega), (by omega), (by exact hnm), (by omega), (by exact hq194.lt (by omega)), (by omega), (by omega), (by omega), (by omega), (by omega), (by omega), (by omega), (by omega), (by exact hq195), (by first | exact hkf | (simp only [List.length_cons]; omega) | omega), (by omega), (by exact Or.inl ⟨Or.inr (Or.inr (Or.inr (Or.inl ⟨by omega, by omega, by omega⟩))), rfl, rfl⟩), (by exact ⟨rfl, rfl, rfl⟩), (by omega)⟩))
  replace c161 : nzq v2 46 := c161
  by_cases c204 : v2 = 91
  · refine zz_lookup (off := 103) (tgt := 119) d_RD_part_16 (by decide) (by omega) (by rw [c204]; decide) (by decide) ?_
    refine ab_aload_n d_RD_part_119 rfl ?_
    refine ab_aload_n d_RD_part_120 rfl ?_
    refine ab_getf (fs := [vR x, inn, vz dp, vz flg, vz grp, vR na, vR nl, vz lst, vz mst, vz bh]) f_RD_12 d_RD_part_121 hd_.2.2 rfl ?_
    refine ab_aload_n d_RD_part_124 rfl ?_
    refine zz_iconst d_RD_part_125 ?_
    refine ab_callV (d' := d - 1) (as := [vz 1]) (st := [vR x, vR d_]) (r := _) (z1_RD_isOn (o := o) (d_ := d_) (inn := inn) (dp := dp) (flg := flg) (grp := grp) (na := na) (nl := nl) (lst := lst) (mst := mst) (bh := bh) (x := x) hd_ (by omega)) (fun oc G2 h => by rcases h with ⟨_, h, _⟩ <;> exact ⟨_, h⟩) (by omega) m_RD_isOn ml_RD_94 im_RD_isOn se_RD_isOn c_RD hd_.2.2 (Nat.le_of_ble_eq_true rfl) d_RD_part_126 rfl ?_
    intro v G205 hq
    rcases hq with ⟨v206, hv, hGe, hq207, hq208⟩
    cases hv
    rw [hGe]
    change ab_W _ _ _ G 129 [some (vR d_), some (vz pl), none] [vz v206, vR x, vR d_] _
    refine ab_callV (d' := d - 1) (as := [vz v206]) (st := [vR d_]) (r := _) (z_TX_charClass (o := o) (x := x) (se := se) (by_ := by_) (m := m) (f := f) (n := n) (pl := pl) (fa := fa) (fp := fp) (kd := kd) (kn := kn) (nb := nb) (cnt := cnt) (P := P) (al := v206) hx hby_ h15 h16 pcsI_se ptbI_0 (by omega) hb (by omega) (by omega) (by omega) (by omega) (by omega) (by omega) (by omega) (by omega)) (fun oc G2 h => by rcases h with ⟨_, _, _, _, _, _, _, _, _, h, _⟩ | ⟨_, _, _, _, _, _, _, _, _, _, _, _, _, h, _⟩ <;> exact ⟨_, h⟩) (by omega) m_TX_charClass ml_RD_98 im_TX_charClass se_TX_charClass c_TX hx.2.2 (Nat.le_of_ble_eq_true rfl) d_RD_part_129 rfl ?_
    intro v G209 hq
    rcases hq with ⟨o210, p2211, fa2212, fp2213, kd2214, kn2215, nb2216, c2217, P2218, hv, hfk, hNx, hNby_, pNcsI_se, hq219, hq220, hq221, hq222, hq223, hq224, hq225, hq226⟩ | ⟨o227, w228, p2229, fa2230, fp2231, kd2232, kn2233, nb2234, c2235, P2236, q2237, m2238, w2239, hv, hfk, hNx, hNby_, hNw228, pNcsI_se, hq240, hq241, hq242, hq243, hq244, hq245, hq246, hq247, hq248, hq249⟩
    · cases hv
      have hd_ := hfk.get hd_ (by decide)
      have hna := hfk.get hna (by decide)
      have hnl := hfk.get hnl (by decide)
      have h15 := hfk.get h15 (by decide)
      have h16 := hfk.get h16 (by decide)
      have popI_0 := opI.fr hfk ppaI_0 popI_0 (by decide) (by decide)
      have ptbI_0 := tbI.fr hfk ptbI_0  (by decide)
      have pszJ_0 := szJ.fr hfk ppaI_0 pszJ_0 (by decide) (by decide)
      have ppaI_0 := paI.fr hfk ppaI_0 (by decide) (by decide) (by decide) (by decide)
      have pcsI_se := pNcsI_se
      have hfr := hfr.tr hfk (by decide)
      have hq250 := hfk.1
      have hx := hNx
      have hby_ := hNby_
      change ab_W _ _ _ G209 132 [some (vR d_), some (vz pl), none] [vN, vR d_] _
      refine ab_callV (d' := d - 1) (as := [vN]) (st := []) (r := _) (zN_RD_classPart (o := o210) (d_ := d_) ) (fun oc G2 h => by rcases h with ⟨h, _⟩ <;> exact ⟨_, h⟩) (by omega) m_RD_classPart ml_RD_102 im_RD_classPart se_RD_classPart c_RD hd_.2.2 (Nat.le_of_ble_eq_true rfl) d_RD_part_132 rfl ?_
      intro v G252 hq
      rcases hq with ⟨hv, hGe⟩
      cases hv
      rw [hGe]
      change ab_W _ _ _ G209 135 [some (vR d_), some (vz pl), none] [vN] _
      refine ab_aret (rt := _) rfl (Or.inl ⟨_, rfl⟩) (Or.inl rfl) d_RD_part_135 ?_
      rw [hQ]; exact (Or.inl ⟨_, _, _, _, _, _, _, _, _, _, _, _, _, _, _, _, _, _, _, _, _, _, _, pl, fr, rfl, hfr, hd_, hx, hna, hnl, ppaI_0, popI_0, pcsI_se, pszJ_0, (by omega), (by omega), (by omega), (by exact hnm), (by omega), (by exact psx.rf), (by omega), (by omega), (by omega), (by omega), (by omega), (by omega), (by omega), (by omega), (by first | exact hkf | (simp only [List.length_cons]; omega) | omega), (by omega), (by exact Or.inl (Or.inl (Or.inr (Or.inl ⟨by omega, by rw [show flg % 2 = v206 by omega]; exact hq220⟩))))⟩)
    · cases hv
      have hd_ := hfk.get hd_ (by decide)
      have hna := hfk.get hna (by decide)
      have hnl := hfk.get hnl (by decide)
      have h15 := hfk.get h15 (by decide)
      have h16 := hfk.get h16 (by decide)
      have popI_0 := opI.fr hfk ppaI_0 popI_0 (by decide) (by decide)
      have ptbI_0 := tbI.fr hfk ptbI_0  (by decide)
      have pszJ_0 := szJ.fr hfk ppaI_0 pszJ_0 (by decide) (by decide)
      have ppaI_0 := paI.fr hfk ppaI_0 (by decide) (by decide) (by decide) (by decide)
      have pcsI_se := pNcsI_se
      have hfr := hfr.tr hfk (by decide)
      have hq251 := hfk.1
      have hx := hNx
      have hby_ := hNby_
      have hw228 := hNw228
      change ab_W _ _ _ G209 132 [some (vR d_), some (vz pl), none] [vR w228, vR d_] _
      refine ab_callV (d' := d - 1) (as := [vR w228]) (st := []) (r := _) (z93_RD_classPart (o := o227) (d_ := d_) (w := w228) (w2 := w2239) (q2 := q2237) (m2 := m2238) (ps := ps) (wt := wt) (bs := bs) (gr := grp) (ph := ph) hw228 ppaI_0 (by omega) (by omega) hq246 (by omega) (by omega) (by omega) (by omega)) (fun oc G2 h => by rcases h with ⟨_, _, _, _, _, h, _⟩ <;> exact ⟨_, h⟩) (by omega) m_RD_classPart ml_RD_102 im_RD_classPart se_RD_classPart c_RD hd_.2.2 (Nat.le_of_ble_eq_true rfl) d_RD_part_132 rfl ?_
      intro v G253 hq
      rcases hq with ⟨o254, p255, ps2256, wt2257, ph2258, hv, hfk, pNpaI_0, hq259, hq260, hq261, hq262, hq263, hq264, hq265, hq266, hq267⟩
      cases hv
      have hd_ := hfk.get hd_ (by decide)
      have hx := hfk.get hx (by decide)
      have hna := hfk.get hna (by decide)
      have hnl := hfk.get hnl (by decide)
      have hby_ := hfk.get hby_ (by decide)
      have h15 := hfk.get h15 (by decide)
      have h16 := hfk.get h16 (by decide)
      have hw228 := hfk.get hw228 (by decide)
      have popI_0 := popI_0.fz (o2 := o254) hq262 (by simp)
      have pcsI_se := csI.fr hfk pcsI_se (by decide) (by decide)
      have ptbI_0 := tbI.fr hfk ptbI_0  (by decide)
      have pszJ_0 := pszJ_0.fzk (o2 := o254) hq262
      have ppaI_0 := pNpaI_0
      have hfr := hfr.tr hfk (by decide)
      have hq268 := hfk.1
      change ab_W _ _ _ G253 135 [some (vR d_), some (vz pl), none] [vR p255] _
      have popI_0 : opI o254 G253 0 ps2256 k hi inn := opn_ps _ _ _ popI_0 (psx.lt hq259 (by omega))
      have pszJ_0 := (pszJ_0.leaf hq266 (s := (fi G253 p255 8)) ceq.rf (by have t := hq266.2.2.2.2.1.2.1; omega)).up (hi2 := p255) (by omega)
      have popI_0 := opn_up (hi2 := p255) popI_0 (by omega)
      have popI_0 : opI o254 G253 0 ps2256 k p255 inn := popI_0
      refine ab_aret (rt := _) rfl (Or.inl ⟨_, rfl⟩) (Or.inr ⟨_, rfl⟩) d_RD_part_135 ?_
      rw [hQ]; exact (Or.inr (Or.inr ⟨_, _, _, _, _, _, _, _, _, _, _, _, _, _, _, _, _, _, _, _, _, _, _, p2229, fr, (fi G253 p255 8), rfl, hfr, hd_, hx, hna, hnl, ppaI_0, popI_0, pcsI_se, pszJ_0, (by omega), (by omega), (by omega), (by exact hnm), (by omega), (by exact hq259.lt (by omega)), (by omega), (by omega), (by omega), (by omega), (by omega), (by omega), (by omega), (by omega), (by exact hq260), (by first | exact hkf | (simp only [List.length_cons]; omega) | omega), (by omega), (by obtain ⟨no9, fi9, P9, y1, y2, y3, y4⟩ := hq240; exact Or.inl ⟨Or.inr (Or.inr (Or.inl ⟨by omega, no9, fi9, P9, y1, by rw [show flg % 2 = v206 by omega]; exact y2, y3, _, _, ⟨hq246, by omega⟩, y4, by omega⟩)), rfl, rfl⟩), (by exact ⟨rfl, rfl, rfl⟩), (by omega)⟩))
  replace c204 : nzq v2 91 := c204
  by_cases c269 : v2 = 92
  · refine zz_lookup (off := 76) (tgt := 92) d_RD_part_16 (by decide) (by omega) (by rw [c269]; decide) (by decide) ?_
    refine ab_aload_n d_RD_part_92 rfl ?_
    refine ab_getf (fs := [vR x, inn, vz dp, vz flg, vz grp, vR na, vR nl, vz lst, vz mst, vz bh]) f_RD_12 d_RD_part_93 hd_.2.2 rfl ?_
    refine ab_callV (d' := d - 1) (as := []) (st := []) (r := _) (z_TX_escape (o := o) (x := x) (lx := 24) (se := se) (by_ := by_) (lby := 23) (m := m) (f := f) (n := n) (pl := pl) (fa := fa) (fp := fp) (kd := kd) (kn := kn) hx hby_ (by omega) hb (by omega) (by omega) (by omega) (by omega)) (fun oc G2 h => by rcases h with ⟨_, _, h, _⟩ | ⟨_, _, _, h, _⟩ | ⟨_, _, h, _⟩ <;> exact ⟨_, h⟩) (by omega) m_TX_escape ml_RD_83 im_TX_escape se_TX_escape c_TX hx.2.2 (Nat.le_of_ble_eq_true rfl) d_RD_part_96 rfl ?_
    intro v G270 hq
    rcases hq with ⟨v271, p2272, hv, hfk, hlk, hsk, hNx, hNby_, hq273, hq274, hq275⟩ | ⟨p2276, k2277, b2278, hv, hfk, hlk, hsk, hNx, hNby_, hq279, hq280, hq281, hq282⟩ | ⟨p2283, w284, hv, hfk, hlk, hsk, hNx, hNby_, hq285, hq286, hq287⟩
    · cases hv
      have hd_ := hfk.get hd_ (by decide)
      have hna := hfk.get hna (by decide)
      have hnl := hfk.get hnl (by decide)
      have h15 := hfk.get h15 (by decide)
      have h16 := hfk.get h16 (by decide)
      have popI_0 := opI.fr hfk ppaI_0 popI_0 (by decide) (by decide)
      have pcsI_se := csI.fr hfk pcsI_se (by decide) (by decide)
      have ptbI_0 := tbI.fr hfk ptbI_0  (by decide)
      have pszJ_0 := szJ.fr hfk ppaI_0 pszJ_0 (by decide) (by decide)
      have ppaI_0 := paI.fr hfk ppaI_0 (by decide) (by decide) (by decide) (by decide)
      have hfr := hfr.tr hfk (by decide)
      have hq288 := hlk
      have hq289 := hsk
      have hx := hNx
      have hby_ := hNby_
      change ab_W _ _ _ G270 99 [some (vR d_), some (vz pl), none] [vz v271] _
      refine ab_istore_n d_RD_part_99 (Nat.le_of_ble_eq_true rfl) (Nat.le_of_ble_eq_true rfl) rfl ?_
      change ab_W _ _ _ G270 100 [some (vR d_), some (vz pl), some (vz v271)] [] _
      have hew := esc1_w hq275
      have hgp := esc1_gap hq275
      refine ab_iload_n d_RD_part_100 rfl ?_
      refine zz_iconst d_RD_part_101 ?_
      refine zz_icmp_lt (tgt := 113) d_RD_part_102 (by decide) (by omega) (by decide) (fun c294 => ?_) (fun c294 => ?_)
      · refine ab_aload_n d_RD_part_113 rfl ?_
        refine ab_iload_n d_RD_part_114 rfl ?_
        by_cases hv295 : v271 = -3
        · subst hv295
          change ab_W _ _ _ G270 115 [some (vR d_), some (vz pl), some (vz (-3))] [vz (-3), vR d_] _
          refine ab_callV (d' := d - 1) (as := [vz (-3)]) (st := []) (r := _) (z3_RD_escaped (o := o) (d_ := d_) (ps := ps) (wt := wt) (bs := bs) (gr := grp) (ph := ph) ppaI_0 (by omega) (by omega) (by omega) (by omega) (by omega)) (fun oc G2 h => by rcases h with ⟨_, _, _, _, _, h, _⟩ <;> exact ⟨_, h⟩) (by omega) m_RD_escaped ml_RD_91 im_RD_escaped se_RD_escaped c_RD hd_.2.2 (Nat.le_of_ble_eq_true rfl) d_RD_part_115 rfl ?_
          intro v G296 hq
          rcases hq with ⟨o297, p298, ps2299, wt2300, ph2301, hv, hfk, pNpaI_0, hq302, hq303, hq304, hq305, hq306, hq307, hq308, hq309, hq310⟩
          cases hv
          have hd_ := hfk.get hd_ (by decide)
          have hx := hfk.get hx (by decide)
          have hna := hfk.get hna (by decide)
          have hnl := hfk.get hnl (by decide)
          have hby_ := hfk.get hby_ (by decide)
          have h15 := hfk.get h15 (by decide)
          have h16 := hfk.get h16 (by decide)
          have popI_0 := popI_0.fz (o2 := o297) hq305 (by simp)
          have pcsI_se := csI.fr hfk pcsI_se (by decide) (by decide)
          have ptbI_0 := tbI.fr hfk ptbI_0  (by decide)
          have pszJ_0 := pszJ_0.fzk (o2 := o297) hq305
          have ppaI_0 := pNpaI_0
          have hfr := hfr.tr hfk (by decide)
          have hq311 := hfk.1
          change ab_W _ _ _ G296 118 [some (vR d_), some (vz pl), some (vz (-3))] [vR p298] _
          have popI_0 : opI o297 G296 0 ps2299 k hi inn := opn_ps _ _ _ popI_0 (psx.lt hq302 (by omega))
          have pszJ_0 := (pszJ_0.leaf hq309 (s := (fi G296 p298 8)) ceq.rf (by have t := hq309.2.2.2.2.1.2.1; omega)).up (hi2 := p298) (by omega)
          have popI_0 := opn_up (hi2 := p298) popI_0 (by omega)
          have popI_0 : opI o297 G296 0 ps2299 k p298 inn := popI_0
          refine ab_aret (rt := _) rfl (Or.inl ⟨_, rfl⟩) (Or.inr ⟨_, rfl⟩) d_RD_part_118 ?_
          rw [hQ]; exact (Or.inr (Or.inr ⟨_, _, _, _, _, _, _, _, _, _, _, _, _, _, _, _, _, _, _, _, _, _, _, p2272, fr, (fi G296 p298 8), rfl, hfr, hd_, hx, hna, hnl, ppaI_0, popI_0, pcsI_se, pszJ_0, (by omega), (by omega), (by omega), (by exact hnm), (by omega), (by exact hq302.lt (by omega)), (by omega), (by omega), (by omega), (by omega), (by omega), (by omega), (by omega), (by omega), (by exact hq303), (by first | exact hkf | (simp only [List.length_cons]; omega) | omega), (by omega), (by exact Or.inl ⟨Or.inl ⟨by omega, _, hq275, Or.inr ⟨by omega, hq310⟩⟩, rfl, rfl⟩), (by exact ⟨rfl, rfl, rfl⟩), (by omega)⟩))
        · have hv4 : v271 ≤ -4 := by omega
          refine ab_callV (d' := d - 1) (as := [vz v271]) (st := []) (r := _) (z4_RD_escaped (o := o) (d_ := d_) (ps := ps) (wt := wt) (bs := bs) (gr := grp) (ph := ph) (c := v271) ppaI_0 (by omega) (by omega) (by omega) (by omega) (by omega) (by omega)) (fun oc G2 h => by rcases h with ⟨_, _, _, _, _, h, _⟩ <;> exact ⟨_, h⟩) (by omega) m_RD_escaped ml_RD_91 im_RD_escaped se_RD_escaped c_RD hd_.2.2 (Nat.le_of_ble_eq_true rfl) d_RD_part_115 rfl ?_
          intro v G312 hq
          rcases hq with ⟨o313, p314, ps2315, wt2316, ph2317, hv, hfk, pNpaI_0, hq318, hq319, hq320, hq321, hq322, hq323, hq324, hq325, hq326⟩
          cases hv
          have hd_ := hfk.get hd_ (by decide)
          have hx := hfk.get hx (by decide)
          have hna := hfk.get hna (by decide)
          have hnl := hfk.get hnl (by decide)
          have hby_ := hfk.get hby_ (by decide)
          have h15 := hfk.get h15 (by decide)
          have h16 := hfk.get h16 (by decide)
          have popI_0 := popI_0.fz (o2 := o313) hq321 (by simp)
          have pcsI_se := csI.fr hfk pcsI_se (by decide) (by decide)
          have ptbI_0 := tbI.fr hfk ptbI_0  (by decide)
          have pszJ_0 := pszJ_0.fzk (o2 := o313) hq321
          have ppaI_0 := pNpaI_0
          have hfr := hfr.tr hfk (by decide)
          have hq327 := hfk.1
          change ab_W _ _ _ G312 118 [some (vR d_), some (vz pl), some (vz v271)] [vR p314] _
          have popI_0 : opI o313 G312 0 ps2315 k hi inn := opn_ps _ _ _ popI_0 (psx.lt hq318 (by omega))
          have pszJ_0 := (pszJ_0.leaf hq325 (s := (fi G312 p314 8)) ceq.rf (by have t := hq325.2.2.2.2.1.2.1; omega)).up (hi2 := p314) (by omega)
          have popI_0 := opn_up (hi2 := p314) popI_0 (by omega)
          have popI_0 : opI o313 G312 0 ps2315 k p314 inn := popI_0
          refine ab_aret (rt := _) rfl (Or.inl ⟨_, rfl⟩) (Or.inr ⟨_, rfl⟩) d_RD_part_118 ?_
          rw [hQ]; exact (Or.inr (Or.inr ⟨_, _, _, _, _, _, _, _, _, _, _, _, _, _, _, _, _, _, _, _, _, _, _, p2272, fr, (fi G312 p314 8), rfl, hfr, hd_, hx, hna, hnl, ppaI_0, popI_0, pcsI_se, pszJ_0, (by omega), (by omega), (by omega), (by exact hnm), (by omega), (by exact hq318.lt (by omega)), (by omega), (by omega), (by omega), (by omega), (by omega), (by omega), (by omega), (by omega), (by exact hq319), (by first | exact hkf | (simp only [List.length_cons]; omega) | omega), (by omega), (by exact Or.inl ⟨Or.inl ⟨by omega, _, hq275, Or.inr ⟨by omega, hq326⟩⟩, rfl, rfl⟩), (by exact ⟨rfl, rfl, rfl⟩), (by omega)⟩))
      · refine ab_aload_n d_RD_part_105 rfl ?_
        refine ab_iload_n d_RD_part_106 rfl ?_
        refine ab_callV (d' := d - 1) (as := [vz v271]) (st := []) (r := _) (z_RD_literal (o := o) (d_ := d_) (inn := inn) (dp := dp) (flg := flg) (grp := grp) (na := na) (nl := nl) (lst := lst) (mst := mst) (bh := bh) (x := x) (se := se) (by_ := by_) (n := n) (pl := p2272) (fa := fa) (fp := fp) (kd := kd) (kn := kn) (nb := nb) (cnt := cnt) (P := P) (ps := ps) (wt := wt) (bs := bs) (gr := grp) (ph := ph) (c := v271) hd_ hx h15 h16 ppaI_0 pcsI_se (by omega) (by omega) (by omega) hgp (by omega) (by omega) (by omega) (by omega) (by omega)) (fun oc G2 h => by rcases h with ⟨_, _, _, _, _, _, _, _, h, _⟩ <;> exact ⟨_, h⟩) (by omega) m_RD_literal ml_RD_87 im_RD_literal se_RD_literal c_RD hd_.2.2 (Nat.le_of_ble_eq_true rfl) d_RD_part_107 rfl ?_
        intro v G328 hq
        rcases hq with ⟨o329, p330, ps2331, wt2332, ph2333, nb2334, c2335, P2336, hv, hfk, pNpaI_0, pNcsI_se, hq337, hq338, hq339, hq340, hq341, hq342, hq343, hq344, hq345, hq346⟩
        cases hv
        have hd_ := hfk.get hd_ (by decide)
        have hx := hfk.get hx (by decide)
        have hna := hfk.get hna (by decide)
        have hnl := hfk.get hnl (by decide)
        have hby_ := hfk.get hby_ (by decide)
        have h15 := hfk.get h15 (by decide)
        have h16 := hfk.get h16 (by decide)
        have popI_0 := popI_0.fz (o2 := o329) hq340 (by simp)
        have ptbI_0 := tbI.fr hfk ptbI_0  (by decide)
        have pszJ_0 := pszJ_0.fzk (o2 := o329) hq340
        have ppaI_0 := pNpaI_0
        have pcsI_se := pNcsI_se
        have hfr := hfr.tr hfk (by decide)
        have hq347 := hfk.1
        change ab_W _ _ _ G328 110 [some (vR d_), some (vz pl), some (vz v271)] [vR p330] _
        refine ab_goto (tgt := 118) d_RD_part_110 (by decide) ?_
        have popI_0 : opI o329 G328 0 ps2331 k hi inn := opn_ps _ _ _ popI_0 (psx.lt hq337 (by omega))
        have pszJ_0 := (pszJ_0.leaf hq345 (s := (fi G328 p330 8)) ceq.rf (by have t := hq345.2.2.2.2.1.2.1; omega)).up (hi2 := p330) (by omega)
        have popI_0 := opn_up (hi2 := p330) popI_0 (by omega)
        have popI_0 : opI o329 G328 0 ps2331 k p330 inn := popI_0
        refine ab_aret (rt := _) rfl (Or.inl ⟨_, rfl⟩) (Or.inr ⟨_, rfl⟩) d_RD_part_118 ?_
        rw [hQ]; exact (Or.inr (Or.inr ⟨_, _, _, _, _, _, _, _, _, _, _, _, _, _, _, _, _, _, _, _, _, _, _, p2272, fr, (fi G328 p330 8), rfl, hfr, hd_, hx, hna, hnl, ppaI_0, popI_0, pcsI_se, pszJ_0, (by omega), (by omega), (by omega), (by exact hnm), (by omega), (by exact hq337.lt (by omega)), (by omega), (by omega), (by omega), (by omega), (by omega), (by omega), (by omega), (by omega), (by exact hq338), (by first | exact hkf | (simp only [List.length_cons]; omega) | omega), (by omega), (by exact Or.inl ⟨Or.inl ⟨by omega, _, hq275, Or.inl ⟨by omega, hq346⟩⟩, rfl, rfl⟩), (by exact ⟨rfl, rfl, rfl⟩), (by omega)⟩))
    · cases hv
      have hd_ := hfk.get hd_ (by decide)
      have hna := hfk.get hna (by decide)
      have hnl := hfk.get hnl (by decide)
      have h15 := hfk.get h15 (by decide)
      have h16 := hfk.get h16 (by decide)
      have popI_0 := opI.fr hfk ppaI_0 popI_0 (by decide) (by decide)
      have pcsI_se := csI.fr hfk pcsI_se (by decide) (by decide)
      have ptbI_0 := tbI.fr hfk ptbI_0  (by decide)
      have pszJ_0 := szJ.fr hfk ppaI_0 pszJ_0 (by decide) (by decide)
      have ppaI_0 := paI.fr hfk ppaI_0 (by decide) (by decide) (by decide) (by decide)
      have hfr := hfr.tr hfk (by decide)
      have hq290 := hlk
      have hq291 := hsk
      have hx := hNx
      have hby_ := hNby_
      change ab_W _ _ _ G270 99 [some (vR d_), some (vz pl), none] [vz (-2)] _
      refine ab_istore_n d_RD_part_99 (Nat.le_of_ble_eq_true rfl) (Nat.le_of_ble_eq_true rfl) rfl ?_
      change ab_W _ _ _ G270 100 [some (vR d_), some (vz pl), some (vz (-2))] [] _
      have hew := esc2_w hq282
      refine ab_iload_n d_RD_part_100 rfl ?_
      refine zz_iconst d_RD_part_101 ?_
      refine zz_icmp_lt (tgt := 113) d_RD_part_102 (by decide) (by decide) (by decide) (fun c348 => ?_) (fun c348 => absurd c348 (by decide))
      refine ab_aload_n d_RD_part_113 rfl ?_
      refine ab_iload_n d_RD_part_114 rfl ?_
      refine ab_callV (d' := d - 1) (as := [vz (-2)]) (st := []) (r := _) (z2_RD_escaped (o := o) (d_ := d_) (inn := inn) (dp := dp) (flg := flg) (grp := grp) (na := na) (nl := nl) (lst := lst) (mst := mst) (bh := bh) (x := x) (se := se) (by_ := by_) (n := n) (pl := p2276) (fa := fa) (fp := fp) (kd := k2277) (kn := b2278) (nb := nb) (cnt := cnt) (P := P) (ps := ps) (wt := wt) (bs := bs) (gr := grp) (ph := ph) hd_ hx ppaI_0 pcsI_se ptbI_0 (by omega) (by omega) (by omega) (by omega) (by omega) (by omega) (by omega)) (fun oc G2 h => by rcases h with ⟨_, _, _, _, _, _, _, _, h, _⟩ <;> exact ⟨_, h⟩) (by omega) m_RD_escaped ml_RD_91 im_RD_escaped se_RD_escaped c_RD hd_.2.2 (Nat.le_of_ble_eq_true rfl) d_RD_part_115 rfl ?_
      intro v G349 hq
      rcases hq with ⟨o350, p351, ps2352, wt2353, ph2354, nb2355, c2356, P2357, hv, hfk, pNpaI_0, pNcsI_se, hq358, hq359, hq360, hq361, hq362, hq363, hq364, hq365, hq366, hq367⟩
      cases hv
      have hd_ := hfk.get hd_ (by decide)
      have hx := hfk.get hx (by decide)
      have hna := hfk.get hna (by decide)
      have hnl := hfk.get hnl (by decide)
      have hby_ := hfk.get hby_ (by decide)
      have h15 := hfk.get h15 (by decide)
      have h16 := hfk.get h16 (by decide)
      have popI_0 := popI_0.fz (o2 := o350) hq361 (by simp)
      have ptbI_0 := tbI.fr hfk ptbI_0  (by decide)
      have pszJ_0 := pszJ_0.fzk (o2 := o350) hq361
      have ppaI_0 := pNpaI_0
      have pcsI_se := pNcsI_se
      have hfr := hfr.tr hfk (by decide)
      have hq368 := hfk.1
      change ab_W _ _ _ G349 118 [some (vR d_), some (vz pl), some (vz (-2))] [vR p351] _
      have popI_0 : opI o350 G349 0 ps2352 k hi inn := opn_ps _ _ _ popI_0 (psx.lt hq358 (by omega))
      have pszJ_0 := (pszJ_0.leaf hq366 (s := (fi G349 p351 8)) ceq.rf (by have t := hq366.2.2.2.2.1.2.1; omega)).up (hi2 := p351) (by omega)
      have popI_0 := opn_up (hi2 := p351) popI_0 (by omega)
      have popI_0 : opI o350 G349 0 ps2352 k p351 inn := popI_0
      refine ab_aret (rt := _) rfl (Or.inl ⟨_, rfl⟩) (Or.inr ⟨_, rfl⟩) d_RD_part_118 ?_
      rw [hQ]; exact (Or.inr (Or.inr ⟨_, _, _, _, _, _, _, _, _, _, _, _, _, _, _, _, _, _, _, _, _, _, _, p2276, fr, (fi G349 p351 8), rfl, hfr, hd_, hx, hna, hnl, ppaI_0, popI_0, pcsI_se, pszJ_0, (by omega), (by omega), (by omega), (by exact hnm), (by omega), (by exact hq358.lt (by omega)), (by omega), (by omega), (by omega), (by omega), (by omega), (by omega), (by omega), (by omega), (by exact hq359), (by first | exact hkf | (simp only [List.length_cons]; omega) | omega), (by omega), (by exact Or.inl ⟨Or.inr (Or.inl ⟨by omega, _, _, hq282, hq367⟩), rfl, rfl⟩), (by exact ⟨rfl, rfl, rfl⟩), (by omega)⟩))
    · cases hv
      have hd_ := hfk.get hd_ (by decide)
      have hna := hfk.get hna (by decide)
      have hnl := hfk.get hnl (by decide)
      have h15 := hfk.get h15 (by decide)
      have h16 := hfk.get h16 (by decide)
      have popI_0 := opI.fr hfk ppaI_0 popI_0 (by decide) (by decide)
      have pcsI_se := csI.fr hfk pcsI_se (by decide) (by decide)
      have ptbI_0 := tbI.fr hfk ptbI_0  (by decide)
      have pszJ_0 := szJ.fr hfk ppaI_0 pszJ_0 (by decide) (by decide)
      have ppaI_0 := paI.fr hfk ppaI_0 (by decide) (by decide) (by decide) (by decide)
      have hfr := hfr.tr hfk (by decide)
      have hq292 := hlk
      have hq293 := hsk
      have hx := hNx
      have hby_ := hNby_
      change ab_W _ _ _ G270 99 [some (vR d_), some (vz pl), none] [vz (-1)] _
      refine ab_istore_n d_RD_part_99 (Nat.le_of_ble_eq_true rfl) (Nat.le_of_ble_eq_true rfl) rfl ?_
      change ab_W _ _ _ G270 100 [some (vR d_), some (vz pl), some (vz (-1))] [] _
      refine ab_iload_n d_RD_part_100 rfl ?_
      refine zz_iconst d_RD_part_101 ?_
      refine zz_icmp_lt (tgt := 113) d_RD_part_102 (by decide) (by decide) (by decide) (fun c369 => absurd c369 (by decide)) (fun c369 => ?_)
      refine ab_aload_n d_RD_part_105 rfl ?_
      refine ab_iload_n d_RD_part_106 rfl ?_
      refine ab_callV (d' := d - 1) (as := [vz (-1)]) (st := []) (r := _) (zN_RD_literal (o := o) (d_ := d_) ) (fun oc G2 h => by rcases h with ⟨h, _⟩ <;> exact ⟨_, h⟩) (by omega) m_RD_literal ml_RD_87 im_RD_literal se_RD_literal c_RD hd_.2.2 (Nat.le_of_ble_eq_true rfl) d_RD_part_107 rfl ?_
      intro v G370 hq
      rcases hq with ⟨hv, hGe⟩
      cases hv
      rw [hGe]
      change ab_W _ _ _ G270 110 [some (vR d_), some (vz pl), some (vz (-1))] [vN] _
      refine ab_goto (tgt := 118) d_RD_part_110 (by decide) ?_
      refine ab_aret (rt := _) rfl (Or.inl ⟨_, rfl⟩) (Or.inl rfl) d_RD_part_118 ?_
      rw [hQ]; exact (Or.inl ⟨_, _, _, _, _, _, _, _, _, _, _, _, _, _, _, _, _, _, _, _, _, _, _, pl, fr, rfl, hfr, hd_, hx, hna, hnl, ppaI_0, popI_0, pcsI_se, pszJ_0, (by omega), (by omega), (by omega), (by exact hnm), (by omega), (by exact psx.rf), (by omega), (by omega), (by omega), (by omega), (by omega), (by omega), (by omega), (by omega), (by first | exact hkf | (simp only [List.length_cons]; omega) | omega), (by omega), (by exact Or.inl (Or.inl (Or.inl ⟨by omega, hq287, by omega⟩)))⟩)
  replace c269 : nzq v2 92 := c269
  by_cases c371 : v2 = 94
  · refine zz_lookup (off := 167) (tgt := 183) d_RD_part_16 (by decide) (by omega) (by rw [c371]; decide) (by decide) ?_
    refine ab_aload_n d_RD_part_183 rfl ?_
    refine ab_getf (fs := [vR x, inn, vz dp, vz flg, vz grp, vR na, vR nl, vz lst, vz mst, vz bh]) f_RD_12 d_RD_part_184 hd_.2.2 rfl ?_
    refine ab_dup d_RD_part_187 rfl ?_
    refine ab_getf (fs := [vR se, vR by_, vz n, vz pl, vz fa, vz fp, vR kd, vz kn]) f_RD_55 d_RD_part_188 hx.2.2 rfl ?_
    refine zz_iconst d_RD_part_191 ?_
    refine zz_iadd d_RD_part_192 ?_
    refine ab_putf (fs := [vR se, vR by_, vz n, vz pl, vz fa, vz fp, vR kd, vz kn]) f_RD_55 (Or.inl rfl) d_RD_part_193 hx.2.2 (Nat.le_of_ble_eq_true rfl) (fun _ => ⟨rfl, rfl⟩) (hx.2.1 (by decide)) ?_
    obtain ⟨G372, eG372⟩ : ∃ z : ab_G, z = List.set G x (ab_ob 10 [vR se, vR by_, vz n, vz (pl + 1), vz fa, vz fp, vR kd, vz kn]) := ⟨_, rfl⟩
    have hd_ := hd_.keep hx eG372 (by decide)
    have hna := hna.keep hx eG372 (by decide)
    have hnl := hnl.keep hx eG372 (by decide)
    have hby_ := hby_.keep hx eG372 (by decide)
    have h15 := h15.keep hx eG372 (by decide)
    have h16 := h16.keep hx eG372 (by decide)
    have hst := (fx.rf (o := o) (S := [24]) (G := G)).wr hx eG372 (List.mem_singleton.mpr rfl)
    have popI_0 := opI.fr hst ppaI_0 popI_0 (by decide) (by decide)
    have pcsI_se := csI.fr hst pcsI_se (by decide) (by decide)
    have ptbI_0 := tbI.fr hst ptbI_0  (by decide)
    have pszJ_0 := szJ.fr hst ppaI_0 pszJ_0 (by decide) (by decide)
    have ppaI_0 := paI.fr hst ppaI_0 (by decide) (by decide) (by decide) (by decide)
    have hq373 := z_len eG372
    have hq374 := z_sl hx eG372 rfl
    have hfr := hfr.wr hx eG372 (by decide)
    have hx := hx.kept eG372
    change ab_W _ _ _ (List.set G x (ab_ob 10 [vR se, vR by_, vz n, vz (pl + 1), vz fa, vz fp, vR kd, vz kn])) 196 [some (vR d_), some (vz pl), none] [] _
    rw [← eG372]
    refine ab_new (fs := [vz 0, vz 0, vN, vz 0, vz 0, vN, vN, vN, vz 0, vz 0, vz 0, vz 0, vz 0, vz 0, vz 0]) k_PA rfl cl_RD_18 inst_PA ini_PA d_RD_part_196 (by decide) (fun _ => rfl) (by omega) (by omega) ?_
    obtain ⟨G375, eG375⟩ : ∃ z : ab_G, z = G372 ++ [ab_ob 4 [vz 0, vz 0, vN, vz 0, vz 0, vN, vN, vN, vz 0, vz 0, vz 0, vz 0, vz 0, vz 0, vz 0]] := ⟨_, rfl⟩
    obtain ⟨o376, eo376⟩ : ∃ z : Nat → Nat, z = ol o G372.length 90 := ⟨_, rfl⟩
    obtain ⟨a377, ea377⟩ : ∃ z : Nat, z = G372.length := ⟨_, rfl⟩
    have hq378 := hby_.n0 (by first | decide | omega)
    have ne_a377_d_ : nq a377 d_ := by have hlt := hd_.lt; unfold nq; omega
    have ne_a377_x : nq a377 x := by have hlt := hx.lt; unfold nq; omega
    have ne_a377_na : nq a377 na := by have hlt := hna.lt; unfold nq; omega
    have ne_a377_nl : nq a377 nl := by have hlt := hnl.lt; unfold nq; omega
    have ne_a377_by_ : nq a377 by_ := by have hlt := hby_.lt; unfold nq; omega
    have ne_a377_15 : nq a377 15 := by have hlt := h15.lt; unfold nq; omega
    have ne_a377_16 : nq a377 16 := by have hlt := h16.lt; unfold nq; omega
    have hd_ := hd_.akeep (k := 90) eG375
    rw [← eo376] at hd_
    have hx := hx.akeep (k := 90) eG375
    rw [← eo376] at hx
    have hna := hna.akeep (k := 90) eG375
    rw [← eo376] at hna
    have hnl := hnl.akeep (k := 90) eG375
    rw [← eo376] at hnl
    have hby_ := hby_.akeep (k := 90) eG375
    rw [← eo376] at hby_
    have h15 := h15.akeep (k := 90) eG375
    rw [← eo376] at h15
    have h16 := h16.akeep (k := 90) eG375
    rw [← eo376] at h16
    have hst := (fx.rf (o := o) (S := []) (G := G372)).ap (k := 90) eG375
    rw [← eo376] at hst
    have hnpa377 := ppaI_0.new (a := a377) (by omega)
    have popI_0 := opI.fr hst ppaI_0 popI_0 (by decide) (by decide)
    have pcsI_se := csI.fr hst pcsI_se (by decide) (by decide)
    have ptbI_0 := tbI.fr hst ptbI_0  (by simp)
    have pszJ_0 := szJ.fr hst ppaI_0 pszJ_0 (by decide) (by decide)
    have ppaI_0 := paI.fr hst ppaI_0 (by decide) (by decide) (by decide) (by simp)
    have ha377 := cc.anew (o := o) 90 eG375 hq378
    rw [← eo376, ← ea377] at ha377
    have hfr := hfr.ap (k := 90) eG375
    rw [← eo376] at hfr
    have hq379 := z_alen eG375
    have hq380 : ab_slots G375 = ab_slots G372 + 15 := z_asl eG375 hq378
    change ab_W _ _ _ (G372 ++ [ab_ob 4 [vz 0, vz 0, vN, vz 0, vz 0, vN, vN, vN, vz 0, vz 0, vz 0, vz 0, vz 0, vz 0, vz 0]]) 199 [some (vR d_), some (vz pl), none] [.ref G372.length] _
    rw [← eG375, ← ea377]
    change ab_W _ _ _ G375 199 [some (vR d_), some (vz pl), none] [vR a377] _
    refine ab_dup d_RD_part_199 rfl ?_
    refine zz_iconst d_RD_part_200 ?_
    refine ab_aload_n d_RD_part_201 rfl ?_
    refine zz_iconst d_RD_part_202 ?_
    refine ab_callV (d' := d - 1) (as := [vz 2]) (st := [vz 3, vR a377, vR a377]) (r := _) (z2_RD_isOn (o := o376) (d_ := d_) (inn := inn) (dp := dp) (flg := flg) (grp := grp) (na := na) (nl := nl) (lst := lst) (mst := mst) (bh := bh) (x := x) hd_ (by omega)) (fun oc G2 h => by rcases h with ⟨_, h, _⟩ <;> exact ⟨_, h⟩) (by omega) m_RD_isOn ml_RD_94 im_RD_isOn se_RD_isOn c_RD hd_.2.2 (Nat.le_of_ble_eq_true rfl) d_RD_part_203 rfl ?_
    intro v G381 hq
    rcases hq with ⟨v382, hv, hGe, hq383, hq384⟩
    cases hv
    rw [hGe]
    change ab_W _ _ _ G375 206 [some (vR d_), some (vz pl), none] [vz v382, vz 3, vR a377, vR a377] _
    refine zz_if_eq (tgt := 213) d_RD_part_206 (by decide) (by omega) (fun c385 => ?_) (fun c385 => ?_)
    · refine zz_iconst d_RD_part_213 ?_
      refine zz_iconst d_RD_part_214 ?_
      refine zz_iconst d_RD_part_215 ?_
      refine ab_callI (d' := d - 1) (as := [vz 3, vz 0, vz 1, vz 1]) (st := [vR a377]) (z90_PA_init (o := o376) (a := a377) (k0 := 3) (v0 := 0) (s0 := 1) (m0 := 1) (ps := ps) (wt := wt) (bs := bs) (gr := grp) (Pr := pr0) (ph := ph) ha377 ppaI_0 (by omega) (by omega) (by omega) (by omega)) (fun oc G2 h => by rcases h with ⟨h, _⟩ <;> exact ⟨_, h⟩) (by omega) m_PA_init ml_RD_20 im_PA_init rfl (Nat.le_of_ble_eq_true rfl) d_RD_part_216 rfl ?_
      intro v G386 hq
      rcases hq with ⟨hv, hfk, hlk, hsk, hNa377, pNpaI_0, hq387⟩
      cases hv
      have hd_ := hfk.get hd_ (by decide)
      have hx := hfk.get hx (by decide)
      have hna := hfk.get hna (by decide)
      have hnl := hfk.get hnl (by decide)
      have hby_ := hfk.get hby_ (by decide)
      have h15 := hfk.get h15 (by decide)
      have h16 := hfk.get h16 (by decide)
      have popI_0 := popI_0.fz (o2 := o376) hq387 (by simp)
      have pcsI_se := csI.fr hfk pcsI_se (by decide) (by decide)
      have ptbI_0 := tbI.fr hfk ptbI_0  (by decide)
      have pszJ_0 := pszJ_0.fzk (o2 := o376) hq387
      have ppaI_0 := pNpaI_0
      have hfr := hfr.tr hfk (by decide)
      have hq388 := hlk
      have hq389 := hsk
      have ha377 := hNa377
      change ab_W _ _ _ G386 219 [some (vR d_), some (vz pl), none] [vR a377] _
      have hnf_ := ppaI_0.nref hnpa377
      have hnp9_ := hnpa377
      have hlt390 := ha377.lt
      have hn390 : paN grp pr0 3 0 (-1) := ⟨by omega, by intro _; omega, by intro _; omega, by intro _; omega, pr0_⟩
      obtain ⟨ps390, wt390, hx390, hxo390, hpa390, ppaI_0⟩ : ∃ pz wz : Nat → Nat, psx ps pz a377 ∧ (∀ x, ¬ x = a377 → pz x = ps x) ∧ pz a377 = 90 ∧ paI o376 G386 0 pz wz bs grp pr0 (ph + 0) := ⟨_, _, psx.ol (Nat.le_refl _), fun x hx => if_neg hx, ol_self, ppaI_0.ad90 0 hnpa377 (by omega) ha377 hn390 (by unfold pnB; omega) (Or.inl ⟨by omega, rfl⟩) (Or.inl rfl) (Or.inl rfl) (Or.inl rfl)⟩
      have popI_0 : opI o376 G386 0 ps390 k hi inn := opn_ps _ _ _ popI_0 (psx.lt hx390 (by omega))
      have hlf_ : leafp ps ps390 G386 a377 := leafp.mk hnf_ hnp9_ hxo390 hpa390 ha377 (by omega)
      have pszJ_0 := (pszJ_0.leaf hlf_ (s := (fi G386 a377 8)) ceq.rf (by have t := hlf_.2.2.2.2.1.2.1; omega)).up (hi2 := a377) (by omega)
      have popI_0 := opn_up (hi2 := a377) popI_0 (by omega)
      have popI_0 : opI o376 G386 0 ps390 k a377 inn := popI_0
      refine ab_aret (rt := _) rfl (Or.inl ⟨_, rfl⟩) (Or.inr ⟨_, rfl⟩) d_RD_part_219 ?_
      rw [hQ]; exact (Or.inr (Or.inr ⟨_, _, _, _, _, _, _, _, _, _, _, _, _, _, _, _, _, _, _, _, _, _, _, (pl + 1), fr, (fi G386 a377 8), rfl, hfr, hd_, hx, hna, hnl, ppaI_0, popI_0, pcsI_se, pszJ_0, (by omega), (by omega), (by omega), (by exact hnm), (by have hlt := ha377.lt; omega), (by exact hx390.lt (by omega)), (by omega), (by omega), (by omega), (by omega), (by omega), (by omega), (by omega), (by omega), (by exact hpa390), (by first | exact hkf | (simp only [List.length_cons]; omega) | omega), (by omega), (by exact Or.inl ⟨Or.inr (Or.inr (Or.inr (Or.inr (Or.inl ⟨by omega, by omega, (fi_pa ha377 (by omega) (by omega)).2.2.1⟩)))), rfl, rfl⟩), (by exact ⟨rfl, rfl, rfl⟩), (by omega)⟩))
    · refine zz_iconst d_RD_part_209 ?_
      refine ab_goto (tgt := 214) d_RD_part_210 (by decide) ?_
      refine zz_iconst d_RD_part_214 ?_
      refine zz_iconst d_RD_part_215 ?_
      refine ab_callI (d' := d - 1) (as := [vz 3, vz 2, vz 1, vz 1]) (st := [vR a377]) (z90_PA_init (o := o376) (a := a377) (k0 := 3) (v0 := 2) (s0 := 1) (m0 := 1) (ps := ps) (wt := wt) (bs := bs) (gr := grp) (Pr := pr0) (ph := ph) ha377 ppaI_0 (by omega) (by omega) (by omega) (by omega)) (fun oc G2 h => by rcases h with ⟨h, _⟩ <;> exact ⟨_, h⟩) (by omega) m_PA_init ml_RD_20 im_PA_init rfl (Nat.le_of_ble_eq_true rfl) d_RD_part_216 rfl ?_
      intro v G391 hq
      rcases hq with ⟨hv, hfk, hlk, hsk, hNa377, pNpaI_0, hq392⟩
      cases hv
      have hd_ := hfk.get hd_ (by decide)
      have hx := hfk.get hx (by decide)
      have hna := hfk.get hna (by decide)
      have hnl := hfk.get hnl (by decide)
      have hby_ := hfk.get hby_ (by decide)
      have h15 := hfk.get h15 (by decide)
      have h16 := hfk.get h16 (by decide)
      have popI_0 := popI_0.fz (o2 := o376) hq392 (by simp)
      have pcsI_se := csI.fr hfk pcsI_se (by decide) (by decide)
      have ptbI_0 := tbI.fr hfk ptbI_0  (by decide)
      have pszJ_0 := pszJ_0.fzk (o2 := o376) hq392
      have ppaI_0 := pNpaI_0
      have hfr := hfr.tr hfk (by decide)
      have hq393 := hlk
      have hq394 := hsk
      have ha377 := hNa377
      change ab_W _ _ _ G391 219 [some (vR d_), some (vz pl), none] [vR a377] _
      have hnf_ := ppaI_0.nref hnpa377
      have hnp9_ := hnpa377
      have hlt395 := ha377.lt
      have hn395 : paN grp pr0 3 2 (-1) := ⟨by omega, by intro _; omega, by intro _; omega, by intro _; omega, pr0_⟩
      obtain ⟨ps395, wt395, hx395, hxo395, hpa395, ppaI_0⟩ : ∃ pz wz : Nat → Nat, psx ps pz a377 ∧ (∀ x, ¬ x = a377 → pz x = ps x) ∧ pz a377 = 90 ∧ paI o376 G391 0 pz wz bs grp pr0 (ph + 0) := ⟨_, _, psx.ol (Nat.le_refl _), fun x hx => if_neg hx, ol_self, ppaI_0.ad90 0 hnpa377 (by omega) ha377 hn395 (by unfold pnB; omega) (Or.inl ⟨by omega, rfl⟩) (Or.inl rfl) (Or.inl rfl) (Or.inl rfl)⟩
      have popI_0 : opI o376 G391 0 ps395 k hi inn := opn_ps _ _ _ popI_0 (psx.lt hx395 (by omega))
      have hlf_ : leafp ps ps395 G391 a377 := leafp.mk hnf_ hnp9_ hxo395 hpa395 ha377 (by omega)
      have pszJ_0 := (pszJ_0.leaf hlf_ (s := (fi G391 a377 8)) ceq.rf (by have t := hlf_.2.2.2.2.1.2.1; omega)).up (hi2 := a377) (by omega)
      have popI_0 := opn_up (hi2 := a377) popI_0 (by omega)
      have popI_0 : opI o376 G391 0 ps395 k a377 inn := popI_0
      refine ab_aret (rt := _) rfl (Or.inl ⟨_, rfl⟩) (Or.inr ⟨_, rfl⟩) d_RD_part_219 ?_
      rw [hQ]; exact (Or.inr (Or.inr ⟨_, _, _, _, _, _, _, _, _, _, _, _, _, _, _, _, _, _, _, _, _, _, _, (pl + 1), fr, (fi G391 a377 8), rfl, hfr, hd_, hx, hna, hnl, ppaI_0, popI_0, pcsI_se, pszJ_0, (by omega), (by omega), (by omega), (by exact hnm), (by have hlt := ha377.lt; omega), (by exact hx395.lt (by omega)), (by omega), (by omega), (by omega), (by omega), (by omega), (by omega), (by omega), (by omega), (by exact hpa395), (by first | exact hkf | (simp only [List.length_cons]; omega) | omega), (by omega), (by exact Or.inl ⟨Or.inr (Or.inr (Or.inr (Or.inr (Or.inl ⟨by omega, by omega, (fi_pa ha377 (by omega) (by omega)).2.2.1⟩)))), rfl, rfl⟩), (by exact ⟨rfl, rfl, rfl⟩), (by omega)⟩))
  replace c371 : nzq v2 94 := c371
  by_cases c396 : v2 = 124
  · refine zz_lookup (off := 241) (tgt := 257) d_RD_part_16 (by decide) (by omega) (by rw [c396]; decide) (by decide) ?_
    refine ab_aload_n d_RD_part_257 rfl ?_
    refine ab_getf (fs := [vR x, inn, vz dp, vz flg, vz grp, vR na, vR nl, vz lst, vz mst, vz bh]) f_RD_12 d_RD_part_258 hd_.2.2 rfl ?_
    refine ab_dup d_RD_part_261 rfl ?_
    refine ab_getf (fs := [vR se, vR by_, vz n, vz pl, vz fa, vz fp, vR kd, vz kn]) f_RD_55 d_RD_part_262 hx.2.2 rfl ?_
    refine zz_iconst d_RD_part_265 ?_
    refine zz_iadd d_RD_part_266 ?_
    refine ab_putf (fs := [vR se, vR by_, vz n, vz pl, vz fa, vz fp, vR kd, vz kn]) f_RD_55 (Or.inl rfl) d_RD_part_267 hx.2.2 (Nat.le_of_ble_eq_true rfl) (fun _ => ⟨rfl, rfl⟩) (hx.2.1 (by decide)) ?_
    obtain ⟨G397, eG397⟩ : ∃ z : ab_G, z = List.set G x (ab_ob 10 [vR se, vR by_, vz n, vz (pl + 1), vz fa, vz fp, vR kd, vz kn]) := ⟨_, rfl⟩
    have hd_ := hd_.keep hx eG397 (by decide)
    have hna := hna.keep hx eG397 (by decide)
    have hnl := hnl.keep hx eG397 (by decide)
    have hby_ := hby_.keep hx eG397 (by decide)
    have h15 := h15.keep hx eG397 (by decide)
    have h16 := h16.keep hx eG397 (by decide)
    have hst := (fx.rf (o := o) (S := [24]) (G := G)).wr hx eG397 (List.mem_singleton.mpr rfl)
    have popI_0 := opI.fr hst ppaI_0 popI_0 (by decide) (by decide)
    have pcsI_se := csI.fr hst pcsI_se (by decide) (by decide)
    have ptbI_0 := tbI.fr hst ptbI_0  (by decide)
    have pszJ_0 := szJ.fr hst ppaI_0 pszJ_0 (by decide) (by decide)
    have ppaI_0 := paI.fr hst ppaI_0 (by decide) (by decide) (by decide) (by decide)
    have hq398 := z_len eG397
    have hq399 := z_sl hx eG397 rfl
    have hfr := hfr.wr hx eG397 (by decide)
    have hx := hx.kept eG397
    change ab_W _ _ _ (List.set G x (ab_ob 10 [vR se, vR by_, vz n, vz (pl + 1), vz fa, vz fp, vR kd, vz kn])) 270 [some (vR d_), some (vz pl), none] [] _
    rw [← eG397]
    obtain ⟨j400, hj400⟩ : ∃ j, k = j + 1 := ⟨k - 1, by omega⟩
    rw [hj400] at popI_0
    obtain ⟨g400, r400, w400, lv400, hv400, ⟨hpg400, hpr400⟩, ⟨hgl400, hrl400⟩, hf6400, hf5400, hr6400, hlv400, hop400⟩ := popI_0
    subst hv400
    obtain ⟨k_401, v_401, rg_401, pl_401, fl_401, ou_401, ls_401, bf_401, sz_401, mb_401, oe_401, le_401, mo_401, la_401, rc_401, hg400, hn401, hb401, hg401, ho401, hl401, hf401⟩ := ppaI_0.1 g400 hpg400
    have hB401 := hb401
    unfold pnB at hB401
    have hK401 := hn401.1
    obtain ⟨ls402, bf402, sz402, mb402, hr400, hB402, hl402, hf402⟩ := ppaI_0.2.1 r400 hpr400
    have e6400 : some ls_401 = some (vR r400) := by have t := hf6400; unfold pf at t; rw [hg400.2.2] at t; exact t
    have e6400 := Option.some.inj e6400
    subst e6400
    have e5400 : some ou_401 = some w400 := by have t := hf5400; unfold pf at t; rw [hg400.2.2] at t; exact t
    have e5400 := Option.some.inj e5400
    subst e5400
    have e7400 : some ls402 = some lv400 := by have t := hr6400; unfold pf at t; rw [hr400.2.2] at t; exact t
    have e7400 := Option.some.inj e7400
    subst e7400
    have popI_0 : opI o G397 0 ps j400 g400 ou_401 := hop400
    have hnq400 : nq g400 r400 := hg400.ne hr400 (by decide)
    change ab_W _ _ _ G397 270 [some (vR d_), some (vz pl), none] [] _
    refine ab_aload_n d_RD_part_270 rfl ?_
    refine ab_getf (fs := [vR x, vR g400, vz dp, vz flg, vz grp, vR na, vR nl, vz lst, vz mst, vz bh]) f_RD_23 d_RD_part_271 hd_.2.2 rfl ?_
    refine ab_new (fs := [vz 0, vz 0, vN, vz 0, vz 0, vN, vN, vN, vz 0, vz 0, vz 0, vz 0, vz 0, vz 0, vz 0]) k_PA rfl cl_RD_18 inst_PA ini_PA d_RD_part_274 (by decide) (fun _ => rfl) (by omega) (by omega) ?_
    obtain ⟨G403, eG403⟩ : ∃ z : ab_G, z = G397 ++ [ab_ob 4 [vz 0, vz 0, vN, vz 0, vz 0, vN, vN, vN, vz 0, vz 0, vz 0, vz 0, vz 0, vz 0, vz 0]] := ⟨_, rfl⟩
    obtain ⟨o404, eo404⟩ : ∃ z : Nat → Nat, z = ol o G397.length 94 := ⟨_, rfl⟩
    obtain ⟨a405, ea405⟩ : ∃ z : Nat, z = G397.length := ⟨_, rfl⟩
    have hq406 := hr400.n0 (by first | decide | omega)
    have ne_a405_d_ : nq a405 d_ := by have hlt := hd_.lt; unfold nq; omega
    have ne_a405_x : nq a405 x := by have hlt := hx.lt; unfold nq; omega
    have ne_a405_na : nq a405 na := by have hlt := hna.lt; unfold nq; omega
    have ne_a405_nl : nq a405 nl := by have hlt := hnl.lt; unfold nq; omega
    have ne_a405_by_ : nq a405 by_ := by have hlt := hby_.lt; unfold nq; omega
    have ne_a405_15 : nq a405 15 := by have hlt := h15.lt; unfold nq; omega
    have ne_a405_16 : nq a405 16 := by have hlt := h16.lt; unfold nq; omega
    have ne_a405_g400 : nq a405 g400 := by have hlt := hg400.lt; unfold nq; omega
    have ne_a405_r400 : nq a405 r400 := by have hlt := hr400.lt; unfold nq; omega
    have hd_ := hd_.akeep (k := 94) eG403
    rw [← eo404] at hd_
    have hx := hx.akeep (k := 94) eG403
    rw [← eo404] at hx
    have hna := hna.akeep (k := 94) eG403
    rw [← eo404] at hna
    have hnl := hnl.akeep (k := 94) eG403
    rw [← eo404] at hnl
    have hby_ := hby_.akeep (k := 94) eG403
    rw [← eo404] at hby_
    have h15 := h15.akeep (k := 94) eG403
    rw [← eo404] at h15
    have h16 := h16.akeep (k := 94) eG403
    rw [← eo404] at h16
    have hg400 := hg400.akeep (k := 94) eG403
    rw [← eo404] at hg400
    have hr400 := hr400.akeep (k := 94) eG403
    rw [← eo404] at hr400
    have hst := (fx.rf (o := o) (S := []) (G := G397)).ap (k := 94) eG403
    rw [← eo404] at hst
    have hnpa405 := ppaI_0.new (a := a405) (by omega)
    have pcsI_se := csI.fr hst pcsI_se (by decide) (by decide)
    have ptbI_0 := tbI.fr hst ptbI_0  (by simp)
    have pszJ_0 := szJ.fr hst ppaI_0 pszJ_0 (by decide) (by decide)
    have popI_0 := opI.fr hst ppaI_0 popI_0 (by decide) (by decide)
    have ppaI_0 := paI.fr hst ppaI_0 (by decide) (by decide) (by decide) (by simp)
    have ha405 := cc.anew (o := o) 94 eG403 hq406
    rw [← eo404, ← ea405] at ha405
    have hfr := hfr.ap (k := 94) eG403
    rw [← eo404] at hfr
    have hq407 := z_alen eG403
    have hq408 : ab_slots G403 = ab_slots G397 + 15 := z_asl eG403 hq406
    change ab_W _ _ _ (G397 ++ [ab_ob 4 [vz 0, vz 0, vN, vz 0, vz 0, vN, vN, vN, vz 0, vz 0, vz 0, vz 0, vz 0, vz 0, vz 0]]) 277 [some (vR d_), some (vz pl), none] [.ref G397.length, vR g400] _
    rw [← eG403, ← ea405]
    change ab_W _ _ _ G403 277 [some (vR d_), some (vz pl), none] [vR a405, vR g400] _
    refine ab_dup d_RD_part_277 rfl ?_
    refine zz_iconst d_RD_part_278 ?_
    refine zz_iconst d_RD_part_279 ?_
    refine zz_iconst d_RD_part_280 ?_
    refine zz_iconst d_RD_part_281 ?_
    refine ab_callI (d' := d - 1) (as := [vz 5, vz 0, vz 0, vz 1]) (st := [vR a405, vR g400]) (z94_PA_init (o := o404) (a := a405) (k0 := 5) (v0 := 0) (s0 := 0) (m0 := 1) (ps := ps) (wt := wt) (bs := bs) (gr := grp) (Pr := pr0) (ph := ph) ha405 ppaI_0 (by omega) (by omega) (by omega) (by omega)) (fun oc G2 h => by rcases h with ⟨h, _⟩ <;> exact ⟨_, h⟩) (by omega) m_PA_init ml_RD_20 im_PA_init rfl (Nat.le_of_ble_eq_true rfl) d_RD_part_282 rfl ?_
    intro v G409 hq
    rcases hq with ⟨hv, hfk, hlk, hsk, hNa405, pNpaI_0, hq410⟩
    cases hv
    have hd_ := hfk.get hd_ (by decide)
    have hx := hfk.get hx (by decide)
    have hna := hfk.get hna (by decide)
    have hnl := hfk.get hnl (by decide)
    have hby_ := hfk.get hby_ (by decide)
    have h15 := hfk.get h15 (by decide)
    have h16 := hfk.get h16 (by decide)
    have hg400 := hfk.get hg400 (by decide)
    have hKr400 := hq410.get hfk hr400 (Or.inr hpr400) (by simp only [List.mem_cons, List.not_mem_nil, or_false, not_or]; exact not_false)
    have hr400 := hKr400
    have pcsI_se := csI.fr hfk pcsI_se (by decide) (by decide)
    have ptbI_0 := tbI.fr hfk ptbI_0  (by decide)
    have pszJ_0 := pszJ_0.fzk (o2 := o404) hq410
    have popI_0 := popI_0.fz (o2 := o404) hq410 (by simp)
    have ppaI_0 := pNpaI_0
    have hfr := hfr.tr hfk (by decide)
    have hq411 := hlk
    have hq412 := hsk
    have ha405 := hNa405
    change ab_W _ _ _ G409 285 [some (vR d_), some (vz pl), none] [vR a405, vR g400] _
    have hnf_ := ppaI_0.nref hnpa405
    have hnp9_ := hnpa405
    obtain ⟨a1_, b1_, c1_, d1_, e1_, t_, hft_⟩ := pszJ_0.hd (by omega)
    rw [hft_] at pszJ_0
    have hsz9 := pszJ_0
    have hg9 := hg400
    have hlt413 := ha405.lt
    obtain ⟨ps413, hx413, hxo413, hpa413, ppaI_0⟩ : ∃ pz : Nat → Nat, psx ps pz a405 ∧ (∀ x, ¬ x = a405 → pz x = ps x) ∧ pz a405 = 94 ∧ paI o404 G409 0 pz wt bs grp pr0 ph := ⟨_, psx.ol (Nat.le_refl _), fun x hx => if_neg hx, ol_self, ppaI_0.ad94 hnpa405 ha405 (by omega) (Or.inl rfl) (Or.inl rfl)⟩
    have hp414 : ps413 g400 = 90 := hx413.at (by have hlt := hg400.lt; omega) hpg400
    have hp415 : ps413 r400 = 94 := hx413.at (by have hlt := hr400.lt; omega) hpr400
    have hl416 := ho401.ps (by have hlt := hg400.lt; omega) hx413
    have hl417 := hl401.ps (by omega) hx413
    have hl418 := hf401.ps (by have hlt := hg400.lt; omega) hx413
    have hl419 := hl402.ps (by omega) hx413
    have hl420 := hf402.ps (by have hlt := hr400.lt; omega) hx413
    have hl421 := hlv400.ps (by omega) hx413
    have popI_0 : opI o404 G409 0 ps413 j400 g400 ou_401 := opn_ps _ _ _ popI_0 (psx.lt hx413 (by omega))
    have hfz : fz ps413 [g400, a405] G409 G409 := fz.rf
    refine ab_callV (d' := d - 1) (as := [vR a405]) (st := []) (r := _) (z90_PA_push (o := o404) (k := k_401) (v := v_401) (rg := rg_401) (pl := pl_401) (fl := fl_401) (ou := ou_401) (ls := vR r400) (bf := bf_401) (sz := sz_401) (mb := mb_401) (oe := oe_401) (le := le_401) (mo := mo_401) (la := la_401) (rc := rc_401) (lr := vN) (br := vN) (sr := 0) (mr := 1) (ps := ps413) (wt := wt) (bs := bs) (gr := grp) (Pr := pr0) (ph := ph) (r := a405) (p := g400) hg400 ha405 ppaI_0 (by omega) hp414 hpa413 hn401 (by omega) (by omega) (hl416.up (by omega)) (Or.inr ⟨_, rfl, hp415, by have hlt := hr400.lt; omega⟩) (hl418.up (by omega)) (Or.inl rfl) (Or.inl rfl) (Or.inr ⟨_, rfl, hp415, by have hlt := hr400.lt; omega⟩) (by omega)) (fun oc G2 h => by rcases h with ⟨h, _⟩ <;> exact ⟨_, h⟩) (by omega) m_PA_push ml_RD_48 im_PA_push se_PA_push c_PA hg400.2.2 (Nat.le_of_ble_eq_true rfl) d_RD_part_285 rfl ?_
    intro v G422 hq
    rcases hq with ⟨hv, hfk, hlk, hsk, hNg400, hNa405, pNpaI_0, hq423⟩
    cases hv
    have hd_ := hfk.get hd_ (by decide)
    have hx := hfk.get hx (by decide)
    have hna := hfk.get hna (by decide)
    have hnl := hfk.get hnl (by decide)
    have hby_ := hfk.get hby_ (by decide)
    have h15 := hfk.get h15 (by decide)
    have h16 := hfk.get h16 (by decide)
    have hKr400 := hq423.get hfk hr400 (Or.inr hp415) (by simp only [List.mem_cons, List.not_mem_nil, or_false, not_or]; exact ⟨(hr400.ne hg400 (by decide)), (nq.s ne_a405_r400)⟩)
    have hr400 := hKr400
    have hfz := hfz.tr hq423 (by simp)
    have pcsI_se := csI.fr hfk pcsI_se (by decide) (by decide)
    have ptbI_0 := tbI.fr hfk ptbI_0  (by decide)
    have popI_0 := popI_0.fz (o2 := o404) hq423 (by intro y hy; simp only [List.mem_cons, List.not_mem_nil, or_false] at hy; omega)
    have ppaI_0 := pNpaI_0
    have hfr := hfr.tr hfk (by decide)
    have hq424 := hlk
    have hq425 := hsk
    have hg400 := hNg400
    have ha405 := hNa405
    change ab_W _ _ _ G422 288 [some (vR d_), some (vz pl), none] [] _
    refine ab_null d_RD_part_288 ?_
    have popI_0 : opI o404 G422 0 ps413 (j400 + 1) G422.length (vR g400) := ⟨g400, a405, ou_401, (vN), rfl, ⟨hp414, hpa413⟩, ⟨by omega, by omega⟩, by unfold pf; rw [hg400.2.2]; rfl, by unfold pf; rw [hg400.2.2]; rfl, by unfold pf; rw [ha405.2.2]; rfl, (Or.inl rfl), popI_0⟩
    rw [← hj400] at popI_0
    have pszJ_0 : szJ o404 G422 0 ps413 ((a1_, b1_, c1_, (d1_ + e1_ + 1), 0) :: t_) G422.length (vR g400) wh 0 0 := (szJ.barC hsz9 hnf_ hnp9_ hxo413 hpa413 hfz hg9 hg400 ha405 (by omega) (by omega)).up (by omega)
    refine ab_aret (rt := _) rfl (Or.inl ⟨_, rfl⟩) (Or.inl rfl) d_RD_part_289 ?_
    rw [hQ]; exact (Or.inr (Or.inl ⟨_, _, _, _, _, _, _, _, _, _, _, _, _, _, _, _, _, _, _, _, _, _, _, (pl + 1), ((a1_, b1_, c1_, (d1_ + e1_ + 1), 0) :: t_), rfl, hfr, hd_, hx, hna, hnl, ppaI_0, popI_0, pcsI_se, pszJ_0, (by omega), (by omega), (by omega), (by exact hnm), (by omega), (by exact hx413.lt (by omega)), (by omega), (by omega), (by omega), (by omega), (by omega), (by omega), (by omega), (by omega), (by first | exact hkf | (simp only [List.length_cons]; omega) | omega | (have t := congrArg List.length hft_; simp only [List.length_cons] at t ⊢; omega) | (have t := congrArg List.length hft_; simp only [List.length_cons] at t; omega)), (by omega), (by exact Or.inl ⟨by omega, ⟨by omega, rfl, rfl, rfl, rfl⟩, _, _, _, _, _, _, hft_, rfl⟩), (by omega)⟩))
  replace c396 : nzq v2 124 := c396
  refine zz_lookup (off := 274) (tgt := 290) d_RD_part_16 (by decide) (by omega) (by simp only [Op.lookupswitch.offset]; rw [if_neg (fun h => c5 h.symm)]; rw [if_neg (fun h => c30 h.symm)]; rw [if_neg (fun h => c114 h.symm)]; rw [if_neg (fun h => c161 h.symm)]; rw [if_neg (fun h => c204 h.symm)]; rw [if_neg (fun h => c269 h.symm)]; rw [if_neg (fun h => c371 h.symm)]; rw [if_neg (fun h => c396 h.symm)]) (by decide) ?_
  refine ab_aload_n d_RD_part_290 rfl ?_
  refine ab_callV (d' := d - 1) (as := []) (st := []) (r := _) (z_RD_isRepeat (o := o) (d_ := d_) (inn := inn) (dp := dp) (flg := flg) (grp := grp) (na := na) (nl := nl) (lst := lst) (mst := mst) (bh := bh) (x := x) (se := se) (by_ := by_) (m := m) (f := f) (n := n) (pl := pl) (fa := fa) (fp := fp) (kd := kd) (kn := kn) hd_ hx hby_ (by omega) hb (by omega) (by omega) (by omega)) (fun oc G2 h => by rcases h with ⟨_, _, _, h, _⟩ | ⟨_, _, _, h, _⟩ | ⟨_, _, _, h, _⟩ <;> exact ⟨_, h⟩) (by omega) m_RD_isRepeat ml_RD_119 im_RD_isRepeat se_RD_isRepeat c_RD hd_.2.2 (Nat.le_of_ble_eq_true rfl) d_RD_part_291 rfl ?_
  intro v G427 hq
  rcases hq with ⟨l2428, m2429, bh2430, hv, hfk, hlk, hsk, hNd_, hq431, hq432, hq433⟩ | ⟨l2434, m2435, bh2436, hv, hfk, hlk, hsk, hNd_, hq437, hq438, hq439⟩ | ⟨l2440, m2441, bh2442, hv, hfk, hlk, hsk, hNd_, hq443, hq444⟩
  · cases hv
    have hx := hfk.get hx (by decide)
    have hna := hfk.get hna (by decide)
    have hnl := hfk.get hnl (by decide)
    have hby_ := hfk.get hby_ (by decide)
    have h15 := hfk.get h15 (by decide)
    have h16 := hfk.get h16 (by decide)
    have popI_0 := opI.fr hfk ppaI_0 popI_0 (by decide) (by decide)
    have pcsI_se := csI.fr hfk pcsI_se (by decide) (by decide)
    have ptbI_0 := tbI.fr hfk ptbI_0  (by decide)
    have pszJ_0 := szJ.fr hfk ppaI_0 pszJ_0 (by decide) (by decide)
    have ppaI_0 := paI.fr hfk ppaI_0 (by decide) (by decide) (by decide) (by decide)
    have hfr := hfr.tr hfk (by decide)
    have hq445 := hlk
    have hq446 := hsk
    have hd_ := hNd_
    change ab_W _ _ _ G427 294 [some (vR d_), some (vz pl), none] [vz 1] _
    refine zz_if_eq (tgt := 310) d_RD_part_294 (by decide) (by decide) (fun c451 => absurd c451 (by decide)) (fun c451 => ?_)
    refine ab_aload_n d_RD_part_297 rfl ?_
    refine ab_getf (fs := [vR x, inn, vz dp, vz flg, vz grp, vR na, vR nl, vz l2428, vz m2429, vz bh2430]) f_RD_12 d_RD_part_298 hd_.2.2 rfl ?_
    refine zz_bipush d_RD_part_301 (by decide) ?_
    refine ab_iload_n d_RD_part_303 rfl ?_
    refine ab_callV (d' := d - 1) (as := [vz 8, vz pl]) (st := []) (r := _) (z_TX_fail (o := o) (x := x) (lx := 24) (se := se) (by_ := by_) (n := n) (pl := pl) (fa := fa) (fp := fp) (kd := kd) (kn := kn) (w := 8) (p := pl) hx (by omega) (by omega) (by omega)) (fun oc G2 h => by rcases h with ⟨h, _⟩ | ⟨h, _⟩ <;> exact ⟨_, h⟩) (by omega) m_TX_fail ml_RD_69 im_TX_fail se_TX_fail c_TX hx.2.2 (Nat.le_of_ble_eq_true rfl) d_RD_part_304 rfl ?_
    intro v G452 hq
    rcases hq with ⟨hv, hfk, hlk, hsk, hNx, hq453⟩ | ⟨hv, hGe, hq454⟩
    · cases hv
      have hd_ := hfk.get hd_ (by decide)
      have hna := hfk.get hna (by decide)
      have hnl := hfk.get hnl (by decide)
      have hby_ := hfk.get hby_ (by decide)
      have h15 := hfk.get h15 (by decide)
      have h16 := hfk.get h16 (by decide)
      have popI_0 := opI.fr hfk ppaI_0 popI_0 (by decide) (by decide)
      have pcsI_se := csI.fr hfk pcsI_se (by decide) (by decide)
      have ptbI_0 := tbI.fr hfk ptbI_0  (by decide)
      have pszJ_0 := szJ.fr hfk ppaI_0 pszJ_0 (by decide) (by decide)
      have ppaI_0 := paI.fr hfk ppaI_0 (by decide) (by decide) (by decide) (by decide)
      have hfr := hfr.tr hfk (by decide)
      have hq455 := hlk
      have hq456 := hsk
      have hx := hNx
      change ab_W _ _ _ G452 307 [some (vR d_), some (vz pl), none] [vz (-1)] _
      refine ab_pop d_RD_part_307 rfl ?_
      refine ab_null d_RD_part_308 ?_
      refine ab_aret (rt := _) rfl (Or.inl ⟨_, rfl⟩) (Or.inl rfl) d_RD_part_309 ?_
      rw [hQ]; exact (Or.inl ⟨_, _, _, _, _, _, _, _, _, _, _, _, _, _, _, _, _, _, _, _, _, _, _, pl, fr, rfl, hfr, hd_, hx, hna, hnl, ppaI_0, popI_0, pcsI_se, pszJ_0, (by omega), (by omega), (by omega), (by exact hnm), (by omega), (by exact psx.rf), (by omega), (by omega), (by omega), (by omega), (by omega), (by omega), (by omega), (by omega), (by first | exact hkf | (simp only [List.length_cons]; omega) | omega), (by omega), (by exact Or.inr ⟨⟨fun z => by have t := tpk_at (f := f) (n := n) (i := pl) (by omega); have u := hb pl (by omega) (by omega); omega, fun z => c269 (hq3.trans z), fun z => c204 (hq3.trans z), fun z => c30 (hq3.trans z), fun z => c114 (hq3.trans z), fun z => c161 (hq3.trans z), fun z => c371 (hq3.trans z), fun z => c5 (hq3.trans z), fun z => c396 (hq3.trans z)⟩, ⟨_, _, _, _, hq433⟩, by omega, by omega⟩)⟩)
    · cases hv
      rw [hGe]
      change ab_W _ _ _ G427 307 [some (vR d_), some (vz pl), none] [vz (-1)] _
      exfalso; omega
  · cases hv
    have hx := hfk.get hx (by decide)
    have hna := hfk.get hna (by decide)
    have hnl := hfk.get hnl (by decide)
    have hby_ := hfk.get hby_ (by decide)
    have h15 := hfk.get h15 (by decide)
    have h16 := hfk.get h16 (by decide)
    have popI_0 := opI.fr hfk ppaI_0 popI_0 (by decide) (by decide)
    have pcsI_se := csI.fr hfk pcsI_se (by decide) (by decide)
    have ptbI_0 := tbI.fr hfk ptbI_0  (by decide)
    have pszJ_0 := szJ.fr hfk ppaI_0 pszJ_0 (by decide) (by decide)
    have ppaI_0 := paI.fr hfk ppaI_0 (by decide) (by decide) (by decide) (by decide)
    have hfr := hfr.tr hfk (by decide)
    have hq447 := hlk
    have hq448 := hsk
    have hd_ := hNd_
    change ab_W _ _ _ G427 294 [some (vR d_), some (vz pl), none] [vz 1] _
    refine zz_if_eq (tgt := 310) d_RD_part_294 (by decide) (by decide) (fun c457 => absurd c457 (by decide)) (fun c457 => ?_)
    refine ab_aload_n d_RD_part_297 rfl ?_
    refine ab_getf (fs := [vR x, inn, vz dp, vz flg, vz grp, vR na, vR nl, vz l2434, vz m2435, vz bh2436]) f_RD_12 d_RD_part_298 hd_.2.2 rfl ?_
    refine zz_bipush d_RD_part_301 (by decide) ?_
    refine ab_iload_n d_RD_part_303 rfl ?_
    refine ab_callV (d' := d - 1) (as := [vz 8, vz pl]) (st := []) (r := _) (z_TX_fail (o := o) (x := x) (lx := 24) (se := se) (by_ := by_) (n := n) (pl := pl) (fa := fa) (fp := fp) (kd := kd) (kn := kn) (w := 8) (p := pl) hx (by omega) (by omega) (by omega)) (fun oc G2 h => by rcases h with ⟨h, _⟩ | ⟨h, _⟩ <;> exact ⟨_, h⟩) (by omega) m_TX_fail ml_RD_69 im_TX_fail se_TX_fail c_TX hx.2.2 (Nat.le_of_ble_eq_true rfl) d_RD_part_304 rfl ?_
    intro v G458 hq
    rcases hq with ⟨hv, hfk, hlk, hsk, hNx, hq459⟩ | ⟨hv, hGe, hq460⟩
    · cases hv
      have hd_ := hfk.get hd_ (by decide)
      have hna := hfk.get hna (by decide)
      have hnl := hfk.get hnl (by decide)
      have hby_ := hfk.get hby_ (by decide)
      have h15 := hfk.get h15 (by decide)
      have h16 := hfk.get h16 (by decide)
      have popI_0 := opI.fr hfk ppaI_0 popI_0 (by decide) (by decide)
      have pcsI_se := csI.fr hfk pcsI_se (by decide) (by decide)
      have ptbI_0 := tbI.fr hfk ptbI_0  (by decide)
      have pszJ_0 := szJ.fr hfk ppaI_0 pszJ_0 (by decide) (by decide)
      have ppaI_0 := paI.fr hfk ppaI_0 (by decide) (by decide) (by decide) (by decide)
      have hfr := hfr.tr hfk (by decide)
      have hq461 := hlk
      have hq462 := hsk
      have hx := hNx
      change ab_W _ _ _ G458 307 [some (vR d_), some (vz pl), none] [vz (-1)] _
      refine ab_pop d_RD_part_307 rfl ?_
      refine ab_null d_RD_part_308 ?_
      refine ab_aret (rt := _) rfl (Or.inl ⟨_, rfl⟩) (Or.inl rfl) d_RD_part_309 ?_
      rw [hQ]; exact (Or.inl ⟨_, _, _, _, _, _, _, _, _, _, _, _, _, _, _, _, _, _, _, _, _, _, _, pl, fr, rfl, hfr, hd_, hx, hna, hnl, ppaI_0, popI_0, pcsI_se, pszJ_0, (by omega), (by omega), (by omega), (by exact hnm), (by omega), (by exact psx.rf), (by omega), (by omega), (by omega), (by omega), (by omega), (by omega), (by omega), (by omega), (by first | exact hkf | (simp only [List.length_cons]; omega) | omega), (by omega), (by exact Or.inr ⟨⟨fun z => by have t := tpk_at (f := f) (n := n) (i := pl) (by omega); have u := hb pl (by omega) (by omega); omega, fun z => c269 (hq3.trans z), fun z => c204 (hq3.trans z), fun z => c30 (hq3.trans z), fun z => c114 (hq3.trans z), fun z => c161 (hq3.trans z), fun z => c371 (hq3.trans z), fun z => c5 (hq3.trans z), fun z => c396 (hq3.trans z)⟩, ⟨_, _, _, _, hq439⟩, by omega, by omega⟩)⟩)
    · cases hv
      rw [hGe]
      change ab_W _ _ _ G427 307 [some (vR d_), some (vz pl), none] [vz (-1)] _
      exfalso; omega
  · cases hv
    have hx := hfk.get hx (by decide)
    have hna := hfk.get hna (by decide)
    have hnl := hfk.get hnl (by decide)
    have hby_ := hfk.get hby_ (by decide)
    have h15 := hfk.get h15 (by decide)
    have h16 := hfk.get h16 (by decide)
    have popI_0 := opI.fr hfk ppaI_0 popI_0 (by decide) (by decide)
    have pcsI_se := csI.fr hfk pcsI_se (by decide) (by decide)
    have ptbI_0 := tbI.fr hfk ptbI_0  (by decide)
    have pszJ_0 := szJ.fr hfk ppaI_0 pszJ_0 (by decide) (by decide)
    have ppaI_0 := paI.fr hfk ppaI_0 (by decide) (by decide) (by decide) (by decide)
    have hfr := hfr.tr hfk (by decide)
    have hq449 := hlk
    have hq450 := hsk
    have hd_ := hNd_
    change ab_W _ _ _ G427 294 [some (vR d_), some (vz pl), none] [vz 0] _
    refine zz_if_eq (tgt := 310) d_RD_part_294 (by decide) (by decide) (fun c463 => ?_) (fun c463 => absurd c463 (by decide))
    refine ab_aload_n d_RD_part_310 rfl ?_
    refine ab_aload_n d_RD_part_311 rfl ?_
    refine ab_getf (fs := [vR x, inn, vz dp, vz flg, vz grp, vR na, vR nl, vz l2440, vz m2441, vz bh2442]) f_RD_12 d_RD_part_312 hd_.2.2 rfl ?_
    refine ab_callV (d' := d - 1) (as := []) (st := [vR d_]) (r := _) (z_TX_character (o := o) (x := x) (lx := 24) (se := se) (by_ := by_) (lby := 23) (m := m) (f := f) (n := n) (pl := pl) (fa := fa) (fp := fp) (kd := kd) (kn := kn) hx hby_ (by omega) hb (by omega) (by omega) (by omega) (by omega)) (fun oc G2 h => by rcases h with ⟨h, _⟩ | ⟨_, _, h, _⟩ <;> exact ⟨_, h⟩) (by omega) m_TX_character ml_RD_123 im_TX_character se_TX_character c_TX hx.2.2 (Nat.le_of_ble_eq_true rfl) d_RD_part_315 rfl ?_
    intro v G464 hq
    rcases hq with ⟨hv, hfk, hlk, hsk, hNx, hq465⟩ | ⟨v466, p2467, hv, hfk, hlk, hsk, hNx, hq468, hq469, hq470, hq471⟩
    · cases hv
      have hd_ := hfk.get hd_ (by decide)
      have hna := hfk.get hna (by decide)
      have hnl := hfk.get hnl (by decide)
      have hby_ := hfk.get hby_ (by decide)
      have h15 := hfk.get h15 (by decide)
      have h16 := hfk.get h16 (by decide)
      have popI_0 := opI.fr hfk ppaI_0 popI_0 (by decide) (by decide)
      have pcsI_se := csI.fr hfk pcsI_se (by decide) (by decide)
      have ptbI_0 := tbI.fr hfk ptbI_0  (by decide)
      have pszJ_0 := szJ.fr hfk ppaI_0 pszJ_0 (by decide) (by decide)
      have ppaI_0 := paI.fr hfk ppaI_0 (by decide) (by decide) (by decide) (by decide)
      have hfr := hfr.tr hfk (by decide)
      have hq472 := hlk
      have hq473 := hsk
      have hx := hNx
      change ab_W _ _ _ G464 318 [some (vR d_), some (vz pl), none] [vz (-1), vR d_] _
      refine ab_callV (d' := d - 1) (as := [vz (-1)]) (st := []) (r := _) (zN_RD_literal (o := o) (d_ := d_) ) (fun oc G2 h => by rcases h with ⟨h, _⟩ <;> exact ⟨_, h⟩) (by omega) m_RD_literal ml_RD_87 im_RD_literal se_RD_literal c_RD hd_.2.2 (Nat.le_of_ble_eq_true rfl) d_RD_part_318 rfl ?_
      intro v G476 hq
      rcases hq with ⟨hv, hGe⟩
      cases hv
      rw [hGe]
      change ab_W _ _ _ G464 321 [some (vR d_), some (vz pl), none] [vN] _
      refine ab_aret (rt := _) rfl (Or.inl ⟨_, rfl⟩) (Or.inl rfl) d_RD_part_321 ?_
      rw [hQ]; exact (Or.inl ⟨_, _, _, _, _, _, _, _, _, _, _, _, _, _, _, _, _, _, _, _, _, _, _, pl, fr, rfl, hfr, hd_, hx, hna, hnl, ppaI_0, popI_0, pcsI_se, pszJ_0, (by omega), (by omega), (by omega), (by exact hnm), (by omega), (by exact psx.rf), (by omega), (by omega), (by omega), (by omega), (by omega), (by omega), (by omega), (by omega), (by first | exact hkf | (simp only [List.length_cons]; omega) | omega), (by omega), (by exact Or.inl (Or.inl (Or.inr (Or.inr ⟨⟨fun z => by have t := tpk_at (f := f) (n := n) (i := pl) (by omega); have u := hb pl (by omega) (by omega); omega, fun z => c269 (hq3.trans z), fun z => c204 (hq3.trans z), fun z => c30 (hq3.trans z), fun z => c114 (hq3.trans z), fun z => c161 (hq3.trans z), fun z => c371 (hq3.trans z), fun z => c5 (hq3.trans z), fun z => c396 (hq3.trans z)⟩, hq444, hq465, by omega, by omega⟩))))⟩)
    · cases hv
      have hd_ := hfk.get hd_ (by decide)
      have hna := hfk.get hna (by decide)
      have hnl := hfk.get hnl (by decide)
      have hby_ := hfk.get hby_ (by decide)
      have h15 := hfk.get h15 (by decide)
      have h16 := hfk.get h16 (by decide)
      have popI_0 := opI.fr hfk ppaI_0 popI_0 (by decide) (by decide)
      have pcsI_se := csI.fr hfk pcsI_se (by decide) (by decide)
      have ptbI_0 := tbI.fr hfk ptbI_0  (by decide)
      have pszJ_0 := szJ.fr hfk ppaI_0 pszJ_0 (by decide) (by decide)
      have ppaI_0 := paI.fr hfk ppaI_0 (by decide) (by decide) (by decide) (by decide)
      have hfr := hfr.tr hfk (by decide)
      have hq474 := hlk
      have hq475 := hsk
      have hx := hNx
      change ab_W _ _ _ G464 318 [some (vR d_), some (vz pl), none] [vz v466, vR d_] _
      have hgp : ¬ cs_gap v466 := by rw [hq468]; exact u8_gap hb (by rw [← hq468]; omega)
      have hew : p2467 ≤ n := by have t := u8_w (p := pl) hb (by rw [← hq468]; omega); rw [← hq468] at t; omega
      refine ab_callV (d' := d - 1) (as := [vz v466]) (st := []) (r := _) (z_RD_literal (o := o) (d_ := d_) (inn := inn) (dp := dp) (flg := flg) (grp := grp) (na := na) (nl := nl) (lst := l2440) (mst := m2441) (bh := bh2442) (x := x) (se := se) (by_ := by_) (n := n) (pl := p2467) (fa := fa) (fp := fp) (kd := kd) (kn := kn) (nb := nb) (cnt := cnt) (P := P) (ps := ps) (wt := wt) (bs := bs) (gr := grp) (ph := ph) (c := v466) hd_ hx h15 h16 ppaI_0 pcsI_se (by omega) (by omega) (by omega) hgp (by omega) (by omega) (by omega) (by omega) (by omega)) (fun oc G2 h => by rcases h with ⟨_, _, _, _, _, _, _, _, h, _⟩ <;> exact ⟨_, h⟩) (by omega) m_RD_literal ml_RD_87 im_RD_literal se_RD_literal c_RD hd_.2.2 (Nat.le_of_ble_eq_true rfl) d_RD_part_318 rfl ?_
      intro v G477 hq
      rcases hq with ⟨o478, p479, ps2480, wt2481, ph2482, nb2483, c2484, P2485, hv, hfk, pNpaI_0, pNcsI_se, hq486, hq487, hq488, hq489, hq490, hq491, hq492, hq493, hq494, hq495⟩
      cases hv
      have hd_ := hfk.get hd_ (by decide)
      have hx := hfk.get hx (by decide)
      have hna := hfk.get hna (by decide)
      have hnl := hfk.get hnl (by decide)
      have hby_ := hfk.get hby_ (by decide)
      have h15 := hfk.get h15 (by decide)
      have h16 := hfk.get h16 (by decide)
      have popI_0 := popI_0.fz (o2 := o478) hq489 (by simp)
      have ptbI_0 := tbI.fr hfk ptbI_0  (by decide)
      have pszJ_0 := pszJ_0.fzk (o2 := o478) hq489
      have ppaI_0 := pNpaI_0
      have pcsI_se := pNcsI_se
      have hfr := hfr.tr hfk (by decide)
      have hq496 := hfk.1
      change ab_W _ _ _ G477 321 [some (vR d_), some (vz pl), none] [vR p479] _
      have popI_0 : opI o478 G477 0 ps2480 k hi inn := opn_ps _ _ _ popI_0 (psx.lt hq486 (by omega))
      have pszJ_0 := (pszJ_0.leaf hq494 (s := (fi G477 p479 8)) ceq.rf (by have t := hq494.2.2.2.2.1.2.1; omega)).up (hi2 := p479) (by omega)
      have popI_0 := opn_up (hi2 := p479) popI_0 (by omega)
      have popI_0 : opI o478 G477 0 ps2480 k p479 inn := popI_0
      refine ab_aret (rt := _) rfl (Or.inl ⟨_, rfl⟩) (Or.inr ⟨_, rfl⟩) d_RD_part_321 ?_
      rw [hQ]; exact (Or.inr (Or.inr ⟨_, _, _, _, _, _, _, _, _, _, _, _, _, _, _, _, _, _, _, _, _, _, _, p2467, fr, (fi G477 p479 8), rfl, hfr, hd_, hx, hna, hnl, ppaI_0, popI_0, pcsI_se, pszJ_0, (by omega), (by omega), (by omega), (by exact hnm), (by omega), (by exact hq486.lt (by omega)), (by omega), (by omega), (by omega), (by omega), (by omega), (by omega), (by omega), (by omega), (by exact hq487), (by first | exact hkf | (simp only [List.length_cons]; omega) | omega), (by omega), (by exact Or.inl ⟨Or.inr (Or.inr (Or.inr (Or.inr (Or.inr ⟨⟨fun z => by have t := tpk_at (f := f) (n := n) (i := pl) (by omega); have u := hb pl (by omega) (by omega); omega, fun z => c269 (hq3.trans z), fun z => c204 (hq3.trans z), fun z => c30 (hq3.trans z), fun z => c114 (hq3.trans z), fun z => c161 (hq3.trans z), fun z => c371 (hq3.trans z), fun z => c5 (hq3.trans z), fun z => c396 (hq3.trans z)⟩, hq444, by rw [← hq468]; omega, by rw [← hq468]; omega, by rw [← hq468]; exact hq495⟩)))), rfl, rfl⟩), (by exact ⟨rfl, rfl, rfl⟩), (by omega)⟩))
