set_option maxRecDepth 100000 in
set_option maxHeartbeats 4000000 in
theorem z_RD_part {X : ab_X} {d : Nat} {o : Nat → Nat} {G : ab_G} {d_ : Nat} {inn : Value} {dp : Int} {flg : Int} {grp : Int} {na : Nat} {nl : Nat} {lst : Int} {mst : Int} {bh : Int} {NA : Int → Int} {NL : Int → Int} {x : Nat} {se : Nat} {by_ : Nat} {m : Nat} {f : Int → Int} {n : Int} {pl : Int} {fa : Int} {fp : Int} {kd : Nat} {kn : Int} {ps : Nat → Nat} {wt : Nat → Nat} {bs : Nat} {ph : Int} {k : Nat} {hi : Nat} {wh : Nat} {fr : List Fr} {nb : Nat} {cnt : Int} {P : Int → Prop} (hd_ : cc o G d_ 25 (ab_ob 6 [vR x, inn, vz dp, vz flg, vz grp, vR na, vR nl, vz lst, vz mst, vz bh])) (hx : cc o G x 24 (ab_ob 10 [vR se, vR by_, vz n, vz pl, vz fa, vz fp, vR kd, vz kn])) (hna : cc o G na 86 (za 10 NA)) (hnl : cc o G nl 87 (za 10 NL)) (hby_ : cc o G by_ 23 (za m f)) (h15 : cc o G 15 15 (za 18 zAR)) (h16 : cc o G 16 16 (za 20 zAF)) (ppaI_0 : paI o G 0 ps wt bs grp pr0 ph) (popI_0 : opI o G 0 ps k hi inn) (pcsI_se : csI o G se 88 89 nb cnt P) (ptbI_0 : tbI o G 0) (pszJ_0 : szJ o G 0 ps fr hi inn wh 0 0) (hkf : k = fr.length) (n18 : ab_n0 = 18) (cn_ : 0 ≤ n ∧ n ≤ ↑m ∧ m ≤ 2000) (hb : bytes f n) (cf : 0 ≤ flg ∧ flg ≤ 31) (cg : 0 ≤ grp ∧ grp ≤ 9) (ck : 0 ≤ dp ∧ dp ≤ 30 ∧ ↑k = dp + 1 ∧ hi ≤ G.length) (hnm : nmok NA NL grp n) (cbs : bs ≤ G.length ∧ 18 ≤ G.length) (ckd : 1 ≤ kd ∧ kd ≤ 12 ∧ 0 ≤ kn ∧ kn ≤ 1) (cfa : fa = 0) (cfp : fp = -1) (cp : 0 ≤ pl ∧ pl < n) (hnb : nb ≤ 104000) (rc : G.length + 9000 ≤ ab_n0 + room_1.cells) (rs : ab_slots G + 430000 ≤ room_1.slots + 2 * nb) (hd : 11 ≤ d) : ab_F X d y_RD_part (.code y_RD_part b_RD_part 3 (some (.object "PatternWorks$Part"))) [vR d_] G (fun oc G2 => (∃ o2 : Nat → Nat, ∃ inn2 : Value, ∃ dp2 : Int, ∃ flg2 : Int, ∃ grp2 : Int, ∃ NA2 : Int → Int, ∃ NL2 : Int → Int, ∃ lst2 : Int, ∃ mst2 : Int, ∃ bh2 : Int, ∃ p2 : Int, ∃ fa2 : Int, ∃ fp2 : Int, ∃ kd2 : Nat, ∃ kn2 : Int, ∃ k2 : Nat, ∃ hi2 : Nat, ∃ ps2 : Nat → Nat, ∃ wt2 : Nat → Nat, ∃ ph2 : Int, ∃ nb2 : Nat, ∃ c2 : Int, ∃ P2 : Int → Prop, ∃ q2 : Int, ∃ fr2 : List Fr, oc = .returned (some (vN)) ∧ fx o o2 [24, 25, 86, 87, 88, 89, 90, 92, 94] G G2 ∧ cc o2 G2 d_ 25 (ab_ob 6 [vR x, inn2, vz dp2, vz flg2, vz grp2, vR na, vR nl, vz lst2, vz mst2, vz bh2]) ∧ cc o2 G2 x 24 (ab_ob 10 [vR se, vR by_, vz n, vz p2, vz fa2, vz fp2, vR kd2, vz kn2]) ∧ cc o2 G2 na 86 (za 10 NA2) ∧ cc o2 G2 nl 87 (za 10 NL2) ∧ paI o2 G2 0 ps2 wt2 bs grp2 pr0 ph2 ∧ opI o2 G2 0 ps2 k2 hi2 inn2 ∧ csI o2 G2 se 88 89 nb2 c2 P2 ∧ szJ o2 G2 0 ps2 fr2 hi2 inn2 wh 0 0 ∧ (0 ≤ flg2 ∧ flg2 ≤ 31) ∧ (0 ≤ grp2 ∧ grp2 ≤ 9) ∧ (0 ≤ dp2 ∧ dp2 ≤ 30 ∧ ↑k2 = dp2 + 1) ∧ (nmok NA2 NL2 grp2 n) ∧ (hi2 ≤ G2.length) ∧ (psx ps ps2 G.length) ∧ (0 ≤ fa2 ∧ fa2 ≤ 14) ∧ (1 ≤ kd2 ∧ kd2 ≤ 12 ∧ 0 ≤ kn2 ∧ kn2 ≤ 1) ∧ (0 ≤ p2 ∧ p2 ≤ 8000) ∧ (pl ≤ q2 ∧ q2 ≤ n ∧ q2 ≤ p2) ∧ (nb2 ≤ 104000) ∧ (ph2 ≤ ph + 25 * (q2 - pl)) ∧ (64 * G2.length + nb ≤ 64 * G.length + nb2 + 400) ∧ ((↑(ab_slots G2) : Int) + 2 * ↑nb ≤ ↑(ab_slots G) + 2 * ↑nb2 + 100 * (q2 - pl)) ∧ (k2 = fr2.length) ∧ (1 ≤ fa2) ∧ (ptF f n pl flg grp NA NL fr fa2 fp2 ∨ strF f n pl fa2 fp2)) ∨ (∃ o2 : Nat → Nat, ∃ inn2 : Value, ∃ dp2 : Int, ∃ flg2 : Int, ∃ grp2 : Int, ∃ NA2 : Int → Int, ∃ NL2 : Int → Int, ∃ lst2 : Int, ∃ mst2 : Int, ∃ bh2 : Int, ∃ p2 : Int, ∃ fa2 : Int, ∃ fp2 : Int, ∃ kd2 : Nat, ∃ kn2 : Int, ∃ k2 : Nat, ∃ hi2 : Nat, ∃ ps2 : Nat → Nat, ∃ wt2 : Nat → Nat, ∃ ph2 : Int, ∃ nb2 : Nat, ∃ c2 : Int, ∃ P2 : Int → Prop, ∃ q2 : Int, ∃ fr2 : List Fr, oc = .returned (some (vN)) ∧ fx o o2 [24, 25, 86, 87, 88, 89, 90, 92, 94] G G2 ∧ cc o2 G2 d_ 25 (ab_ob 6 [vR x, inn2, vz dp2, vz flg2, vz grp2, vR na, vR nl, vz lst2, vz mst2, vz bh2]) ∧ cc o2 G2 x 24 (ab_ob 10 [vR se, vR by_, vz n, vz p2, vz fa2, vz fp2, vR kd2, vz kn2]) ∧ cc o2 G2 na 86 (za 10 NA2) ∧ cc o2 G2 nl 87 (za 10 NL2) ∧ paI o2 G2 0 ps2 wt2 bs grp2 pr0 ph2 ∧ opI o2 G2 0 ps2 k2 hi2 inn2 ∧ csI o2 G2 se 88 89 nb2 c2 P2 ∧ szJ o2 G2 0 ps2 fr2 hi2 inn2 wh 0 0 ∧ (0 ≤ flg2 ∧ flg2 ≤ 31) ∧ (0 ≤ grp2 ∧ grp2 ≤ 9) ∧ (0 ≤ dp2 ∧ dp2 ≤ 30 ∧ ↑k2 = dp2 + 1) ∧ (nmok NA2 NL2 grp2 n) ∧ (hi2 ≤ G2.length) ∧ (psx ps ps2 G.length) ∧ (0 ≤ fa2 ∧ fa2 ≤ 14) ∧ (1 ≤ kd2 ∧ kd2 ≤ 12 ∧ 0 ≤ kn2 ∧ kn2 ≤ 1) ∧ (0 ≤ p2 ∧ p2 ≤ 8000) ∧ (pl ≤ q2 ∧ q2 ≤ n ∧ q2 ≤ p2) ∧ (nb2 ≤ 104000) ∧ (ph2 ≤ ph + 25 * (q2 - pl)) ∧ (64 * G2.length + nb ≤ 64 * G.length + nb2 + 400) ∧ ((↑(ab_slots G2) : Int) + 2 * ↑nb ≤ ↑(ab_slots G) + 2 * ↑nb2 + 100 * (q2 - pl)) ∧ (k2 = fr2.length) ∧ (fa2 = 0) ∧ (fp2 = -1) ∧ (ptN f n pl flg grp NA NL fr p2 flg2 grp2 NA2 NL2 fr2) ∧ (pl < p2 ∧ p2 ≤ n)) ∨ (∃ o2 : Nat → Nat, ∃ p : Nat, ∃ inn2 : Value, ∃ dp2 : Int, ∃ flg2 : Int, ∃ grp2 : Int, ∃ NA2 : Int → Int, ∃ NL2 : Int → Int, ∃ lst2 : Int, ∃ mst2 : Int, ∃ bh2 : Int, ∃ p2 : Int, ∃ fa2 : Int, ∃ fp2 : Int, ∃ kd2 : Nat, ∃ kn2 : Int, ∃ k2 : Nat, ∃ ps2 : Nat → Nat, ∃ wt2 : Nat → Nat, ∃ ph2 : Int, ∃ nb2 : Nat, ∃ c2 : Int, ∃ P2 : Int → Prop, ∃ q2 : Int, ∃ fr2 : List Fr, ∃ psz2 : Int, oc = .returned (some (vR p)) ∧ fx o o2 [24, 25, 86, 87, 88, 89, 90, 92, 94] G G2 ∧ cc o2 G2 d_ 25 (ab_ob 6 [vR x, inn2, vz dp2, vz flg2, vz grp2, vR na, vR nl, vz lst2, vz mst2, vz bh2]) ∧ cc o2 G2 x 24 (ab_ob 10 [vR se, vR by_, vz n, vz p2, vz fa2, vz fp2, vR kd2, vz kn2]) ∧ cc o2 G2 na 86 (za 10 NA2) ∧ cc o2 G2 nl 87 (za 10 NL2) ∧ paI o2 G2 0 ps2 wt2 bs grp2 pr0 ph2 ∧ opI o2 G2 0 ps2 k2 p inn2 ∧ csI o2 G2 se 88 89 nb2 c2 P2 ∧ szJ o2 G2 0 ps2 fr2 p inn2 wh p psz2 ∧ (0 ≤ flg2 ∧ flg2 ≤ 31) ∧ (0 ≤ grp2 ∧ grp2 ≤ 9) ∧ (0 ≤ dp2 ∧ dp2 ≤ 30 ∧ ↑k2 = dp2 + 1) ∧ (nmok NA2 NL2 grp2 n) ∧ (p < G2.length) ∧ (psx ps ps2 G.length) ∧ (0 ≤ fa2 ∧ fa2 ≤ 14) ∧ (1 ≤ kd2 ∧ kd2 ≤ 12 ∧ 0 ≤ kn2 ∧ kn2 ≤ 1) ∧ (0 ≤ p2 ∧ p2 ≤ 8000) ∧ (pl ≤ q2 ∧ q2 ≤ n ∧ q2 ≤ p2) ∧ (nb2 ≤ 104000) ∧ (ph2 ≤ ph + 25 * (q2 - pl)) ∧ (64 * G2.length + nb ≤ 64 * G.length + nb2 + 400) ∧ ((↑(ab_slots G2) : Int) + 2 * ↑nb ≤ ↑(ab_slots G) + 2 * ↑nb2 + 100 * (q2 - pl)) ∧ (ps2 p = 90) ∧ (k2 = fr2.length) ∧ (fa2 = 0) ∧ (fp2 = -1) ∧ (ptP f n pl flg fr p2 flg2 fr2 psz2) ∧ (grp2 = grp ∧ NA2 = NA ∧ NL2 = NL) ∧ (pl < p2 ∧ p2 ≤ n))) := by
  refine ab_F_of (by decide +kernel) (Nat.le_of_ble_eq_true rfl) ?_
  obtain ⟨Q, hQ⟩ : ∃ z : Outcome → ab_G → Prop, z = (fun oc G2 => (∃ o2 : Nat → Nat, ∃ inn2 : Value, ∃ dp2 : Int, ∃ flg2 : Int, ∃ grp2 : Int, ∃ NA2 : Int → Int, ∃ NL2 : Int → Int, ∃ lst2 : Int, ∃ mst2 : Int, ∃ bh2 : Int, ∃ p2 : Int, ∃ fa2 : Int, ∃ fp2 : Int, ∃ kd2 : Nat, ∃ kn2 : Int, ∃ k2 : Nat, ∃ hi2 : Nat, ∃ ps2 : Nat → Nat, ∃ wt2 : Nat → Nat, ∃ ph2 : Int, ∃ nb2 : Nat, ∃ c2 : Int, ∃ P2 : Int → Prop, ∃ q2 : Int, ∃ fr2 : List Fr, oc = .returned (some (vN)) ∧ fx o o2 [24, 25, 86, 87, 88, 89, 90, 92, 94] G G2 ∧ cc o2 G2 d_ 25 (ab_ob 6 [vR x, inn2, vz dp2, vz flg2, vz grp2, vR na, vR nl, vz lst2, vz mst2, vz bh2]) ∧ cc o2 G2 x 24 (ab_ob 10 [vR se, vR by_, vz n, vz p2, vz fa2, vz fp2, vR kd2, vz kn2]) ∧ cc o2 G2 na 86 (za 10 NA2) ∧ cc o2 G2 nl 87 (za 10 NL2) ∧ paI o2 G2 0 ps2 wt2 bs grp2 pr0 ph2 ∧ opI o2 G2 0 ps2 k2 hi2 inn2 ∧ csI o2 G2 se 88 89 nb2 c2 P2 ∧ szJ o2 G2 0 ps2 fr2 hi2 inn2 wh 0 0 ∧ (0 ≤ flg2 ∧ flg2 ≤ 31) ∧ (0 ≤ grp2 ∧ grp2 ≤ 9) ∧ (0 ≤ dp2 ∧ dp2 ≤ 30 ∧ ↑k2 = dp2 + 1) ∧ (nmok NA2 NL2 grp2 n) ∧ (hi2 ≤ G2.length) ∧ (psx ps ps2 G.length) ∧ (0 ≤ fa2 ∧ fa2 ≤ 14) ∧ (1 ≤ kd2 ∧ kd2 ≤ 12 ∧ 0 ≤ kn2 ∧ kn2 ≤ 1) ∧ (0 ≤ p2 ∧ p2 ≤ 8000) ∧ (pl ≤ q2 ∧ q2 ≤ n ∧ q2 ≤ p2) ∧ (nb2 ≤ 104000) ∧ (ph2 ≤ ph + 25 * (q2 - pl)) ∧ (64 * G2.length + nb ≤ 64 * G.length + nb2 + 400) ∧ ((↑(ab_slots G2) : Int) + 2 * ↑nb ≤ ↑(ab_slots G) + 2 * ↑nb2 + 100 * (q2 - pl)) ∧ (k2 = fr2.length) ∧ (1 ≤ fa2) ∧ (ptF f n pl flg grp NA NL fr fa2 fp2 ∨ strF f n pl fa2 fp2)) ∨ (∃ o2 : Nat → Nat, ∃ inn2 : Value, ∃ dp2 : Int, ∃ flg2 : Int, ∃ grp2 : Int, ∃ NA2 : Int → Int, ∃ NL2 : Int → Int, ∃ lst2 : Int, ∃ mst2 : Int, ∃ bh2 : Int, ∃ p2 : Int, ∃ fa2 : Int, ∃ fp2 : Int, ∃ kd2 : Nat, ∃ kn2 : Int, ∃ k2 : Nat, ∃ hi2 : Nat, ∃ ps2 : Nat → Nat, ∃ wt2 : Nat → Nat, ∃ ph2 : Int, ∃ nb2 : Nat, ∃ c2 : Int, ∃ P2 : Int → Prop, ∃ q2 : Int, ∃ fr2 : List Fr, oc = .returned (some (vN)) ∧ fx o o2 [24, 25, 86, 87, 88, 89, 90, 92, 94] G G2 ∧ cc o2 G2 d_ 25 (ab_ob 6 [vR x, inn2, vz dp2, vz flg2, vz grp2, vR na, vR nl, vz lst2, vz mst2, vz bh2]) ∧ cc o2 G2 x 24 (ab_ob 10 [vR se, vR by_, vz n, vz p2, vz fa2, vz fp2, vR kd2, vz kn2]) ∧ cc o2 G2 na 86 (za 10 NA2) ∧ cc o2 G2 nl 87 (za 10 NL2) ∧ paI o2 G2 0 ps2 wt2 bs grp2 pr0 ph2 ∧ opI o2 G2 0 ps2 k2 hi2 inn2 ∧ csI o2 G2 se 88 89 nb2 c2 P2 ∧ szJ o2 G2 0 ps2 fr2 hi2 inn2 wh 0 0 ∧ (0 ≤ flg2 ∧ flg2 ≤ 31) ∧ (0 ≤ grp2 ∧ grp2 ≤ 9) ∧ (0 ≤ dp2 ∧ dp2 ≤ 30 ∧ ↑k2 = dp2 + 1) ∧ (nmok NA2 NL2 grp2 n) ∧ (hi2 ≤ G2.length) ∧ (psx ps ps2 G.length) ∧ (0 ≤ fa2 ∧ fa2 ≤ 14) ∧ (1 ≤ kd2 ∧ kd2 ≤ 12 ∧ 0 ≤ kn2 ∧ kn2 ≤ 1) ∧ (0 ≤ p2 ∧ p2 ≤ 8000) ∧ (pl ≤ q2 ∧ q2 ≤ n ∧ q2 ≤ p2) ∧ (nb2 ≤ 104000) ∧ (ph2 ≤ ph + 25 * (q2 - pl)) ∧ (64 * G2.length + nb ≤ 64 * G.length + nb2 + 400) ∧ ((↑(ab_slots G2) : Int) + 2 * ↑nb ≤ ↑(ab_slots G) + 2 * ↑nb2 + 100 * (q2 - pl)) ∧ (k2 = fr2.length) ∧ (fa2 = 0) ∧ (fp2 = -1) ∧ (ptN f n pl flg grp NA NL fr p2 flg2 grp2 NA2 NL2 fr2) ∧ (pl < p2 ∧ p2 ≤ n)) ∨ (∃ o2 : Nat → Nat, ∃ p : Nat, ∃ inn2 : Value, ∃ dp2 : Int, ∃ flg2 : Int, ∃ grp2 : Int, ∃ NA2 : Int → Int, ∃ NL2 : Int → Int, ∃ lst2 : Int, ∃ mst2 : Int, ∃ bh2 : Int, ∃ p2 : Int, ∃ fa2 : Int, ∃ fp2 : Int, ∃ kd2 : Nat, ∃ kn2 : Int, ∃ k2 : Nat, ∃ ps2 : Nat → Nat, ∃ wt2 : Nat → Nat, ∃ ph2 : Int, ∃ nb2 : Nat, ∃ c2 : Int, ∃ P2 : Int → Prop, ∃ q2 : Int, ∃ fr2 : List Fr, ∃ psz2 : Int, oc = .returned (some (vR p)) ∧ fx o o2 [24, 25, 86, 87, 88, 89, 90, 92, 94] G G2 ∧ cc o2 G2 d_ 25 (ab_ob 6 [vR x, inn2, vz dp2, vz flg2, vz grp2, vR na, vR nl, vz lst2, vz mst2, vz bh2]) ∧ cc o2 G2 x 24 (ab_ob 10 [vR se, vR by_, vz n, vz p2, vz fa2, vz fp2, vR kd2, vz kn2]) ∧ cc o2 G2 na 86 (za 10 NA2) ∧ cc o2 G2 nl 87 (za 10 NL2) ∧ paI o2 G2 0 ps2 wt2 bs grp2 pr0 ph2 ∧ opI o2 G2 0 ps2 k2 p inn2 ∧ csI o2 G2 se 88 89 nb2 c2 P2 ∧ szJ o2 G2 0 ps2 fr2 p inn2 wh p psz2 ∧ (0 ≤ flg2 ∧ flg2 ≤ 31) ∧ (0 ≤ grp2 ∧ grp2 ≤ 9) ∧ (0 ≤ dp2 ∧ dp2 ≤ 30 ∧ ↑k2 = dp2 + 1) ∧ (nmok NA2 NL2 grp2 n) ∧ (p < G2.length) ∧ (psx ps ps2 G.length) ∧ (0 ≤ fa2 ∧ fa2 ≤ 14) ∧ (1 ≤ kd2 ∧ kd2 ≤ 12 ∧ 0 ≤ kn2 ∧ kn2 ≤ 1) ∧ (0 ≤ p2 ∧ p2 ≤ 8000) ∧ (pl ≤ q2 ∧ q2 ≤ n ∧ q2 ≤ p2) ∧ (nb2 ≤ 104000) ∧ (ph2 ≤ ph + 25 * (q2 - pl)) ∧ (64 * G2.length + nb ≤ 64 * G.length + nb2 + 400) ∧ ((↑(ab_slots G2) : Int) + 2 * ↑nb ≤ ↑(ab_slots G) + 2 * ↑nb2 + 100 * (q2 - pl)) ∧ (ps2 p = 90) ∧ (k2 = fr2.length) ∧ (fa2 = 0) ∧ (fp2 = -1) ∧ (ptP f n pl flg fr p2 flg2 fr2 psz2) ∧ (grp2 = grp ∧ NA2 = NA ∧ NL2 = NL) ∧ (pl < p2 ∧ p2 ≤ n))) := ⟨_, rfl⟩
  rw [← hQ]
  change ab_W X (ab_pl y_RD_part b_RD_part 3 (some (.object "PatternWorks$Part"))) d G 0 [some (vR d_), none, none] [] Q
  have hfr : fx o o [24, 25, 86, 87, 88, 89, 90, 92, 94] G G := fx.rf
  refine ab_aload_n d_RD_part_0 rfl ?_
  refine ab_getf (fs := [vR x, inn, vz dp, vz flg, vz grp, vR na, vR nl, vz lst, vz mst, vz bh]) f_RD_12 d_RD_part_1 hd_.2.2 rfl ?_
  refine ab_getf (fs := [vR se, vR by_, vz n, vz pl, vz fa, vz fp, vR kd, vz kn]) f_RD_55 d_RD_part_4 hx.2.2 rfl ?_
  refine ab_istore_n d_RD_part_7 (Nat.le_of_ble_eq_true rfl) (Nat.le_of_ble_eq_true rfl) rfl ?_
  change ab_W _ _ _ G 8 [some (vR d_), some (vz pl), none] [] _
  refine ab_aload_n d_RD_part_8 rfl ?_
  refine ab_getf (fs := [vR x, inn, vz dp, vz flg, vz grp, vR na, vR nl, vz lst, vz mst, vz bh]) f_RD_12 d_RD_part_9 hd_.2.2 rfl ?_
  refine zz_iconst d_RD_part_12 ?_
  refine ab_callV (d' := d - 1) (as := [vz 0]) (st := []) (r := _) (z_TX_peek0 (o := o) (x := x) (lx := 24) (se := se) (by_ := by_) (lby := 23) (m := m) (f := f) (n := n) (pl := pl) (fa := fa) (fp := fp) (kd := kd) (kn := kn) hx hby_ (by omega) hb) (fun oc G2 h => by rcases h with ⟨_, h, _⟩ <;> exact ⟨_, h⟩) (by omega) m_TX_peek ml_RD_79 im_TX_peek se_TX_peek c_TX hx.2.2 (Nat.le_of_ble_eq_true rfl) d_RD_part_13 rfl ?_
  intro v G1 hq
  rcases hq with ⟨v2, hv, hGe, hq3, hq4⟩
  cases hv
  rw [hGe]
  change ab_W _ _ _ G 16 [some (vR d_), some (vz pl), none] [vz v2] _
  by_cases c5 : v2 = 36
  · refine zz_lookup (off := 204) (tgt := 220) d_RD_part_16 (by decide) (by omega) (by rw [c5]; decide) (by decide) ?_
    refine ab_aload_n d_RD_part_220 rfl ?_
    refine ab_getf (fs := [vR x, inn, vz dp, vz flg, vz grp, vR na, vR nl, vz lst, vz mst, vz bh]) f_RD_12 d_RD_part_221 hd_.2.2 rfl ?_
    refine ab_dup d_RD_part_224 rfl ?_
    refine ab_getf (fs := [vR se, vR by_, vz n, vz pl, vz fa, vz fp, vR kd, vz kn]) f_RD_55 d_RD_part_225 hx.2.2 rfl ?_
    refine zz_iconst d_RD_part_228 ?_
    refine zz_iadd d_RD_part_229 ?_
    refine ab_putf (fs := [vR se, vR by_, vz n, vz pl, vz fa, vz fp, vR kd, vz kn]) f_RD_55 (Or.inl rfl) d_RD_part_230 hx.2.2 (Nat.le_of_ble_eq_true rfl) (fun _ => ⟨rfl, rfl⟩) (hx.2.1 (by decide)) ?_
    obtain ⟨G6, eG6⟩ : ∃ z : ab_G, z = List.set G x (ab_ob 10 [vR se, vR by_, vz n, vz (pl + 1), vz fa, vz fp, vR kd, vz kn]) := ⟨_, rfl⟩
    have hd_ := hd_.keep hx eG6 (by decide)
    have hna := hna.keep hx eG6 (by decide)
    have hnl := hnl.keep hx eG6 (by decide)
    have hby_ := hby_.keep hx eG6 (by decide)
    have h15 := h15.keep hx eG6 (by decide)
    have h16 := h16.keep hx eG6 (by decide)
    have hst := (fx.rf (o := o) (S := [24]) (G := G)).wr hx eG6 (List.mem_singleton.mpr rfl)
    have popI_0 := opI.fr hst ppaI_0 popI_0 (by decide) (by decide)
    have pcsI_se := csI.fr hst pcsI_se (by decide) (by decide)
    have ptbI_0 := tbI.fr hst ptbI_0  (by decide)
    have pszJ_0 := szJ.fr hst ppaI_0 pszJ_0 (by decide) (by decide)
    have ppaI_0 := paI.fr hst ppaI_0 (by decide) (by decide) (by decide) (by decide)
    have hq7 := z_len eG6
    have hq8 := z_sl hx eG6 rfl
    have hfr := hfr.wr hx eG6 (by decide)
    have hx := hx.kept eG6
    change ab_W _ _ _ (List.set G x (ab_ob 10 [vR se, vR by_, vz n, vz (pl + 1), vz fa, vz fp, vR kd, vz kn])) 233 [some (vR d_), some (vz pl), none] [] _
    rw [← eG6]
    refine ab_new (fs := [vz 0, vz 0, vN, vz 0, vz 0, vN, vN, vN, vz 0, vz 0, vz 0, vz 0, vz 0, vz 0, vz 0]) k_PA rfl cl_RD_18 inst_PA ini_PA d_RD_part_233 (by decide) (fun _ => rfl) (by omega) (by omega) ?_
    obtain ⟨G9, eG9⟩ : ∃ z : ab_G, z = G6 ++ [ab_ob 4 [vz 0, vz 0, vN, vz 0, vz 0, vN, vN, vN, vz 0, vz 0, vz 0, vz 0, vz 0, vz 0, vz 0]] := ⟨_, rfl⟩
    obtain ⟨o10, eo10⟩ : ∃ z : Nat → Nat, z = ol o G6.length 90 := ⟨_, rfl⟩
    obtain ⟨a11, ea11⟩ : ∃ z : Nat, z = G6.length := ⟨_, rfl⟩
    have hq12 := hby_.n0 (by first | decide | omega)
    have ne_a11_d_ : nq a11 d_ := by have hlt := hd_.lt; unfold nq; omega
    have ne_a11_x : nq a11 x := by have hlt := hx.lt; unfold nq; omega
    have ne_a11_na : nq a11 na := by have hlt := hna.lt; unfold nq; omega
    have ne_a11_nl : nq a11 nl := by have hlt := hnl.lt; unfold nq; omega
    have ne_a11_by_ : nq a11 by_ := by have hlt := hby_.lt; unfold nq; omega
    have ne_a11_15 : nq a11 15 := by have hlt := h15.lt; unfold nq; omega
    have ne_a11_16 : nq a11 16 := by have hlt := h16.lt; unfold nq; omega
    have hd_ := hd_.akeep (k := 90) eG9
    rw [← eo10] at hd_
    have hx := hx.akeep (k := 90) eG9
    rw [← eo10] at hx
    have hna := hna.akeep (k := 90) eG9
    rw [← eo10] at hna
    have hnl := hnl.akeep (k := 90) eG9
    rw [← eo10] at hnl
    have hby_ := hby_.akeep (k := 90) eG9
    rw [← eo10] at hby_
    have h15 := h15.akeep (k := 90) eG9
    rw [← eo10] at h15
    have h16 := h16.akeep (k := 90) eG9
    rw [← eo10] at h16
    have hst := (fx.rf (o := o) (S := []) (G := G6)).ap (k := 90) eG9
    rw [← eo10] at hst
    have hnpa11 := ppaI_0.new (a := a11) (by omega)
    have popI_0 := opI.fr hst ppaI_0 popI_0 (by decide) (by decide)
    have pcsI_se := csI.fr hst pcsI_se (by decide) (by decide)
    have ptbI_0 := tbI.fr hst ptbI_0  (by simp)
    have pszJ_0 := szJ.fr hst ppaI_0 pszJ_0 (by decide) (by decide)
    have ppaI_0 := paI.fr hst ppaI_0 (by decide) (by decide) (by decide) (by simp)
    have ha11 := cc.anew (o := o) 90 eG9 hq12
    rw [← eo10, ← ea11] at ha11
    have hfr := hfr.ap (k := 90) eG9
    rw [← eo10] at hfr
    have hq13 := z_alen eG9
    have hq14 : ab_slots G9 = ab_slots G6 + 15 := z_asl eG9 hq12
    change ab_W _ _ _ (G6 ++ [ab_ob 4 [vz 0, vz 0, vN, vz 0, vz 0, vN, vN, vN, vz 0, vz 0, vz 0, vz 0, vz 0, vz 0, vz 0]]) 236 [some (vR d_), some (vz pl), none] [.ref G6.length] _
    rw [← eG9, ← ea11]
    change ab_W _ _ _ G9 236 [some (vR d_), some (vz pl), none] [vR a11] _
    refine ab_dup d_RD_part_236 rfl ?_
    refine zz_iconst d_RD_part_237 ?_
    refine ab_aload_n d_RD_part_238 rfl ?_
    refine zz_iconst d_RD_part_239 ?_
    refine ab_callV (d' := d - 1) (as := [vz 2]) (st := [vz 3, vR a11, vR a11]) (r := _) (z2_RD_isOn (o := o10) (d_ := d_) (inn := inn) (dp := dp) (flg := flg) (grp := grp) (na := na) (nl := nl) (lst := lst) (mst := mst) (bh := bh) (x := x) hd_ (by omega)) (fun oc G2 h => by rcases h with ⟨_, h, _⟩ <;> exact ⟨_, h⟩) (by omega) m_RD_isOn ml_RD_94 im_RD_isOn se_RD_isOn c_RD hd_.2.2 (Nat.le_of_ble_eq_true rfl) d_RD_part_240 rfl ?_
    intro v G15 hq
    rcases hq with ⟨v16, hv, hGe, hq17, hq18⟩
    cases hv
    rw [hGe]
    change ab_W _ _ _ G9 243 [some (vR d_), some (vz pl), none] [vz v16, vz 3, vR a11, vR a11] _
    refine zz_if_eq (tgt := 250) d_RD_part_243 (by decide) (by omega) (fun c19 => ?_) (fun c19 => ?_)
    · refine zz_iconst d_RD_part_250 ?_
      refine zz_iconst d_RD_part_251 ?_
      refine zz_iconst d_RD_part_252 ?_
      refine ab_callI (d' := d - 1) (as := [vz 3, vz 1, vz 1, vz 1]) (st := [vR a11]) (z90_PA_init (o := o10) (a := a11) (k0 := 3) (v0 := 1) (s0 := 1) (m0 := 1) (ps := ps) (wt := wt) (bs := bs) (gr := grp) (Pr := pr0) (ph := ph) ha11 ppaI_0 (by omega) (by omega) (by omega) (by omega)) (fun oc G2 h => by rcases h with ⟨h, _⟩ <;> exact ⟨_, h⟩) (by omega) m_PA_init ml_RD_20 im_PA_init rfl (Nat.le_of_ble_eq_true rfl) d_RD_part_253 rfl ?_
      intro v G20 hq
      rcases hq with ⟨hv, hfk, hlk, hsk, hNa11, pNpaI_0, hq21⟩
      cases hv
      have hd_ := hfk.get hd_ (by decide)
      have hx := hfk.get hx (by decide)
      have hna := hfk.get hna (by decide)
      have hnl := hfk.get hnl (by decide)
      have hby_ := hfk.get hby_ (by decide)
      have h15 := hfk.get h15 (by decide)
      have h16 := hfk.get h16 (by decide)
      have popI_0 := popI_0.fz (o2 := o10) hq21 (by simp)
      have pcsI_se := csI.fr hfk pcsI_se (by decide) (by decide)
      have ptbI_0 := tbI.fr hfk ptbI_0  (by decide)
      have pszJ_0 := pszJ_0.fzk (o2 := o10) hq21
      have ppaI_0 := pNpaI_0
      have hfr := hfr.tr hfk (by decide)
      have hq22 := hlk
      have hq23 := hsk
      have ha11 := hNa11
      change ab_W _ _ _ G20 256 [some (vR d_), some (vz pl), none] [vR a11] _
      have hnf_ := ppaI_0.nref hnpa11
      have hnp9_ := hnpa11
      have hlt24 := ha11.lt
      have hn24 : paN grp pr0 3 1 (-1) := ⟨by omega, by intro _; omega, by intro _; omega, by intro _; omega, pr0_⟩
      obtain ⟨ps24, wt24, hx24, hxo24, hpa24, ppaI_0⟩ : ∃ pz wz : Nat → Nat, psx ps pz a11 ∧ (∀ x, ¬ x = a11 → pz x = ps x) ∧ pz a11 = 90 ∧ paI o10 G20 0 pz wz bs grp pr0 (ph + 0) := ⟨_, _, psx.ol (Nat.le_refl _), fun x hx => if_neg hx, ol_self, ppaI_0.ad90 0 hnpa11 (by omega) ha11 hn24 (by unfold pnB; omega) (Or.inl ⟨by omega, rfl⟩) (Or.inl rfl) (Or.inl rfl) (Or.inl rfl)⟩
      have popI_0 : opI o10 G20 0 ps24 k hi inn := opn_ps _ _ _ popI_0 (psx.lt hx24 (by omega))
      have hlf_ : leafp ps ps24 G20 a11 := leafp.mk hnf_ hnp9_ hxo24 hpa24 ha11 (by omega)
      have pszJ_0 := (pszJ_0.leaf hlf_ (s := (fi G20 a11 8)) ceq.rf (by have t := hlf_.2.2.2.2.1.2.1; omega)).up (hi2 := a11) (by omega)
      have popI_0 := opn_up (hi2 := a11) popI_0 (by omega)
      have popI_0 : opI o10 G20 0 ps24 k a11 inn := popI_0
      refine ab_aret (rt := _) rfl (Or.inl ⟨_, rfl⟩) (Or.inr ⟨_, rfl⟩) d_RD_part_256 ?_
      rw [hQ]; exact (Or.inr (Or.inr ⟨_, _, _, _, _, _, _, _, _, _, _, _, _, _, _, _, _, _, _, _, _, _, _, (pl + 1), fr, (fi G20 a11 8), rfl, hfr, hd_, hx, hna, hnl, ppaI_0, popI_0, pcsI_se, pszJ_0, (by omega), (by omega), (by omega), (by exact hnm), (by have hlt := ha11.lt; omega), (by exact hx24.lt (by omega)), (by omega), (by omega), (by omega), (by omega), (by omega), (by omega), (by omega), (by omega), (by exact hpa24), (by first | exact hkf | (simp only [List.length_cons]; omega) | omega), (by omega), (by omega), (by exact Or.inl ⟨Or.inr (Or.inr (Or.inr (Or.inr (Or.inl ⟨by omega, by omega, (fi_pa ha11 (by omega) (by omega)).2.2.1⟩)))), rfl, rfl⟩), (by exact ⟨rfl, rfl, rfl⟩), (by omega)⟩))
    · refine zz_iconst d_RD_part_246 ?_
      refine ab_goto (tgt := 251) d_RD_part_247 (by decide) ?_
      refine zz_iconst d_RD_part_251 ?_
      refine zz_iconst d_RD_part_252 ?_
      refine ab_callI (d' := d - 1) (as := [vz 3, vz 3, vz 1, vz 1]) (st := [vR a11]) (z90_PA_init (o := o10) (a := a11) (k0 := 3) (v0 := 3) (s0 := 1) (m0 := 1) (ps := ps) (wt := wt) (bs := bs) (gr := grp) (Pr := pr0) (ph := ph) ha11 ppaI_0 (by omega) (by omega) (by omega) (by omega)) (fun oc G2 h => by rcases h with ⟨h, _⟩ <;> exact ⟨_, h⟩) (by omega) m_PA_init ml_RD_20 im_PA_init rfl (Nat.le_of_ble_eq_true rfl) d_RD_part_253 rfl ?_
      intro v G25 hq
      rcases hq with ⟨hv, hfk, hlk, hsk, hNa11, pNpaI_0, hq26⟩
      cases hv
      have hd_ := hfk.get hd_ (by decide)
      have hx := hfk.get hx (by decide)
      have hna := hfk.get hna (by decide)
      have hnl := hfk.get hnl (by decide)
      have hby_ := hfk.get hby_ (by decide)
      have h15 := hfk.get h15 (by decide)
      have h16 := hfk.get h16 (by decide)
      have popI_0 := popI_0.fz (o2 := o10) hq26 (by simp)
      have pcsI_se := csI.fr hfk pcsI_se (by decide) (by decide)
      have ptbI_0 := tbI.fr hfk ptbI_0  (by decide)
      have pszJ_0 := pszJ_0.fzk (o2 := o10) hq26
      have ppaI_0 := pNpaI_0
      have hfr := hfr.tr hfk (by decide)
      have hq27 := hlk
      have hq28 := hsk
      have ha11 := hNa11
      change ab_W _ _ _ G25 256 [some (vR d_), some (vz pl), none] [vR a11] _
      have hnf_ := ppaI_0.nref hnpa11
      have hnp9_ := hnpa11
      have hlt29 := ha11.lt
      have hn29 : paN grp pr0 3 3 (-1) := ⟨by omega, by intro _; omega, by intro _; omega, by intro _; omega, pr0_⟩
      obtain ⟨ps29, wt29, hx29, hxo29, hpa29, ppaI_0⟩ : ∃ pz wz : Nat → Nat, psx ps pz a11 ∧ (∀ x, ¬ x = a11 → pz x = ps x) ∧ pz a11 = 90 ∧ paI o10 G25 0 pz wz bs grp pr0 (ph + 0) := ⟨_, _, psx.ol (Nat.le_refl _), fun x hx => if_neg hx, ol_self, ppaI_0.ad90 0 hnpa11 (by omega) ha11 hn29 (by unfold pnB; omega) (Or.inl ⟨by omega, rfl⟩) (Or.inl rfl) (Or.inl rfl) (Or.inl rfl)⟩
      have popI_0 : opI o10 G25 0 ps29 k hi inn := opn_ps _ _ _ popI_0 (psx.lt hx29 (by omega))
      have hlf_ : leafp ps ps29 G25 a11 := leafp.mk hnf_ hnp9_ hxo29 hpa29 ha11 (by omega)
      have pszJ_0 := (pszJ_0.leaf hlf_ (s := (fi G25 a11 8)) ceq.rf (by have t := hlf_.2.2.2.2.1.2.1; omega)).up (hi2 := a11) (by omega)
      have popI_0 := opn_up (hi2 := a11) popI_0 (by omega)
      have popI_0 : opI o10 G25 0 ps29 k a11 inn := popI_0
      refine ab_aret (rt := _) rfl (Or.inl ⟨_, rfl⟩) (Or.inr ⟨_, rfl⟩) d_RD_part_256 ?_
      rw [hQ]; exact (Or.inr (Or.inr ⟨_, _, _, _, _, _, _, _, _, _, _, _, _, _, _, _, _, _, _, _, _, _, _, (pl + 1), fr, (fi G25 a11 8), rfl, hfr, hd_, hx, hna, hnl, ppaI_0, popI_0, pcsI_se, pszJ_0, (by omega), (by omega), (by omega), (by exact hnm), (by have hlt := ha11.lt; omega), (by exact hx29.lt (by omega)), (by omega), (by omega), (by omega), (by omega), (by omega), (by omega), (by omega), (by omega), (by exact hpa29), (by first | exact hkf | (simp only [List.length_cons]; omega) | omega), (by omega), (by omega), (by exact Or.inl ⟨Or.inr (Or.inr (Or.inr (Or.inr (Or.inl ⟨by omega, by omega, (fi_pa ha11 (by omega) (by omega)).2.2.1⟩)))), rfl, rfl⟩), (by exact ⟨rfl, rfl, rfl⟩), (by omega)⟩))
  replace c5 : nzq v2 36 := c5
  by_cases c30 : v2 = 40
  · refine zz_lookup (off := 120) (tgt := 136) d_RD_part_16 (by decide) (by omega) (by rw [c30]; decide) (by decide) ?_
    refine ab_aload_n d_RD_part_136 rfl ?_
    refine ab_iload_n d_RD_part_137 rfl ?_
    refine ab_callV (d' := d - 1) (as := [vz pl]) (st := []) (r := _) (z_RD_open (o := o) (d_ := d_) (inn := inn) (dp := dp) (flg := flg) (grp := grp) (na := na) (nl := nl) (lst := lst) (mst := mst) (bh := bh) (NA := NA) (NL := NL) (x := x) (se := se) (by_ := by_) (m := m) (f := f) (n := n) (pl := pl) (fa := fa) (fp := fp) (kd := kd) (kn := kn) (ps := ps) (wt := wt) (bs := bs) (ph := ph) (k := k) (hi := hi) (wh := wh) (fr := fr) hd_ hx hna hnl hby_ ppaI_0 popI_0 pszJ_0 (by omega) (by omega) hb (by omega) (by omega) (by omega) hnm (by omega) (by omega) (by omega) (by omega) (by omega) (by omega) (by omega)) (fun oc G2 h => by rcases h with ⟨_, _, _, _, _, _, _, h, _⟩ | ⟨_, _, _, _, _, _, _, _, h, _⟩ | ⟨_, _, _, _, _, _, _, _, _, h, _⟩ | ⟨_, _, _, h, _⟩ | ⟨_, _, _, _, h, _⟩ <;> exact ⟨_, h⟩) (by omega) m_RD_open ml_RD_106 im_RD_open se_RD_open c_RD hd_.2.2 (Nat.le_of_ble_eq_true rfl) d_RD_part_138 rfl ?_
    intro v G31 hq
    rcases hq with ⟨o32, inn233, k234, hi235, ps236, wt237, ph238, hv, hfk, hNd_, hNx, hNna, hNnl, pNpaI_0, pNopI_0, pNszJ_0, hq39, hq40, hq41, hq42, hq43, hq44, hq45, hq46, hq47⟩ | ⟨o48, nm249, inn250, k251, hi252, ps253, wt254, ph255, hv, hfk, hNd_, hNx, hNna, hNnl, pNpaI_0, pNopI_0, pNszJ_0, hq56, hq57, hq58, hq59, hq60, hq61, hq62, hq63, hq64, hq65, hq66, hq67, hq68⟩ | ⟨o69, v270, e271, inn272, k273, hi274, ps275, wt276, ph277, hv, hfk, hNd_, hNx, hNna, hNnl, pNpaI_0, pNopI_0, pNszJ_0, hq78, hq79, hq80, hq81, hq82, hq83, hq84, hq85, hq86, hq87, hq88, hq89⟩ | ⟨o90, v291, e292, hv, hfk, hNd_, hNx, hNna, hNnl, pNpaI_0, pNopI_0, pNszJ_0, hq93, hq94, hq95, hq96, hq97, hq98, hq99⟩ | ⟨o100, p2101, fa2102, fp2103, hv, hfk, hNd_, hNx, hNna, hNnl, pNpaI_0, pNopI_0, pNszJ_0, hq104, hq105, hq106, hq107, hq108⟩
    · cases hv
      have hby_ := hfk.get hby_ (by decide)
      have h15 := hfk.get h15 (by decide)
      have h16 := hfk.get h16 (by decide)
      have pcsI_se := csI.fr hfk pcsI_se (by decide) (by decide)
      have ptbI_0 := tbI.fr hfk ptbI_0  (by decide)
      have ppaI_0 := pNpaI_0
      have popI_0 := pNopI_0
      have pszJ_0 := pNszJ_0
      have hfr := hfr.tr hfk (by decide)
      have hq109 := hfk.1
      have hd_ := hNd_
      have hx := hNx
      have hna := hNna
      have hnl := hNnl
      change ab_W _ _ _ G31 141 [some (vR d_), some (vz pl), none] [] _
      refine ab_null d_RD_part_141 ?_
      refine ab_aret (rt := _) rfl (Or.inl ⟨_, rfl⟩) (Or.inl rfl) d_RD_part_142 ?_
      rw [hQ]; exact (Or.inr (Or.inl ⟨_, _, _, _, _, _, _, _, _, _, _, _, _, _, _, _, _, _, _, _, _, _, _, (pl + 1), ((pl, flg, (grp + 1), 0, 0) :: fr), rfl, hfr, hd_, hx, hna, hnl, ppaI_0, popI_0, pcsI_se, pszJ_0, (by omega), (by omega), (by omega), (by exact nmok_s hnm (by omega) (by omega)), (by omega), (by exact hq44.lt (by omega)), (by omega), (by omega), (by omega), (by omega), (by omega), (by omega), (by omega), (by omega), (by first | exact hkf | (simp only [List.length_cons]; omega) | omega), (by omega), (by omega), (by exact Or.inr (Or.inl ⟨by omega, by omega, ⟨by omega, by omega⟩, ⟨by omega, rfl, rfl, rfl, rfl⟩, rfl⟩)), (by omega)⟩))
    · cases hv
      have hby_ := hfk.get hby_ (by decide)
      have h15 := hfk.get h15 (by decide)
      have h16 := hfk.get h16 (by decide)
      have pcsI_se := csI.fr hfk pcsI_se (by decide) (by decide)
      have ptbI_0 := tbI.fr hfk ptbI_0  (by decide)
      have ppaI_0 := pNpaI_0
      have popI_0 := pNopI_0
      have pszJ_0 := pNszJ_0
      have hfr := hfr.tr hfk (by decide)
      have hq110 := hfk.1
      have hd_ := hNd_
      have hx := hNx
      have hna := hNna
      have hnl := hNnl
      change ab_W _ _ _ G31 141 [some (vR d_), some (vz pl), none] [] _
      have hnw_ : 1 ≤ nm249 ∧ nm249 ≤ 12 ∧ pl + 4 + nm249 < n := by have t := nmR_w hq58; omega
      refine ab_null d_RD_part_141 ?_
      refine ab_aret (rt := _) rfl (Or.inl ⟨_, rfl⟩) (Or.inl rfl) d_RD_part_142 ?_
      rw [hQ]; exact (Or.inr (Or.inl ⟨_, _, _, _, _, _, _, _, _, _, _, _, _, _, _, _, _, _, _, _, _, _, _, (pl + 1), ((pl, flg, (grp + 1), 0, 0) :: fr), rfl, hfr, hd_, hx, hna, hnl, ppaI_0, popI_0, pcsI_se, pszJ_0, (by omega), (by omega), (by omega), (by exact nmok_s hnm (by omega) (by omega)), (by omega), (by exact hq65.lt (by omega)), (by omega), (by omega), (by omega), (by omega), (by omega), (by omega), (by omega), (by omega), (by first | exact hkf | (simp only [List.length_cons]; omega) | omega), (by omega), (by omega), (by exact Or.inr (Or.inr (Or.inl ⟨by omega, by omega, ⟨by omega, by omega⟩, _, ⟨hq58, by omega, hq60⟩, ⟨by omega, by omega⟩, ⟨by omega, rfl, rfl, rfl, rfl⟩, rfl⟩))), (by first | omega | (have t := nmR_w hq58; omega))⟩))
    · cases hv
      have hby_ := hfk.get hby_ (by decide)
      have h15 := hfk.get h15 (by decide)
      have h16 := hfk.get h16 (by decide)
      have pcsI_se := csI.fr hfk pcsI_se (by decide) (by decide)
      have ptbI_0 := tbI.fr hfk ptbI_0  (by decide)
      have ppaI_0 := pNpaI_0
      have popI_0 := pNopI_0
      have pszJ_0 := pNszJ_0
      have hfr := hfr.tr hfk (by decide)
      have hq111 := hfk.1
      have hd_ := hNd_
      have hx := hNx
      have hna := hNna
      have hnl := hNnl
      change ab_W _ _ _ G31 141 [some (vR d_), some (vz pl), none] [] _
      have hfw_ := (flgR_w hq80).1
      have hfv_ := flgR_v hq80 (by omega)
      refine ab_null d_RD_part_141 ?_
      refine ab_aret (rt := _) rfl (Or.inl ⟨_, rfl⟩) (Or.inl rfl) d_RD_part_142 ?_
      rw [hQ]; exact (Or.inr (Or.inl ⟨_, _, _, _, _, _, _, _, _, _, _, _, _, _, _, _, _, _, _, _, _, _, _, (pl + 1), ((pl, flg, 0, 0, 0) :: fr), rfl, hfr, hd_, hx, hna, hnl, ppaI_0, popI_0, pcsI_se, pszJ_0, (by omega), (by omega), (by omega), (by exact hnm), (by omega), (by exact hq86.lt (by omega)), (by omega), (by omega), (by omega), (by omega), (by omega), (by omega), (by omega), (by omega), (by first | exact hkf | (simp only [List.length_cons]; omega) | omega), (by omega), (by omega), (by exact Or.inr (Or.inr (Or.inr ⟨by omega, by omega, by omega, _, hq80, ⟨by omega, rfl, rfl, rfl⟩, Or.inl ⟨by omega, by omega, rfl⟩⟩))), (by first | omega | (have t := flgR_w hq80; omega))⟩))
    · cases hv
      have hby_ := hfk.get hby_ (by decide)
      have h15 := hfk.get h15 (by decide)
      have h16 := hfk.get h16 (by decide)
      have pcsI_se := csI.fr hfk pcsI_se (by decide) (by decide)
      have ptbI_0 := tbI.fr hfk ptbI_0  (by decide)
      have ppaI_0 := pNpaI_0
      have popI_0 := pNopI_0
      have pszJ_0 := pNszJ_0
      have hfr := hfr.tr hfk (by decide)
      have hq112 := hfk.1
      have hd_ := hNd_
      have hx := hNx
      have hna := hNna
      have hnl := hNnl
      change ab_W _ _ _ G31 141 [some (vR d_), some (vz pl), none] [] _
      have hfw_ := (flgR_w hq95).1
      have hfv_ := flgR_v hq95 (by omega)
      refine ab_null d_RD_part_141 ?_
      refine ab_aret (rt := _) rfl (Or.inl ⟨_, rfl⟩) (Or.inl rfl) d_RD_part_142 ?_
      rw [hQ]; exact (Or.inr (Or.inl ⟨_, _, _, _, _, _, _, _, _, _, _, _, _, _, _, _, _, _, _, _, _, _, _, (pl + 1), fr, rfl, hfr, hd_, hx, hna, hnl, ppaI_0, popI_0, pcsI_se, pszJ_0, (by omega), (by omega), (by omega), (by exact hnm), (by omega), (by exact psx.rf), (by omega), (by omega), (by omega), (by omega), (by omega), (by omega), (by omega), (by omega), (by first | exact hkf | (simp only [List.length_cons]; omega) | omega), (by omega), (by omega), (by exact Or.inr (Or.inr (Or.inr ⟨by omega, by omega, by omega, _, hq95, ⟨by omega, rfl, rfl, rfl⟩, Or.inr ⟨by omega, rfl⟩⟩))), (by first | omega | (have t := flgR_w hq95; omega))⟩))
    · cases hv
      have hby_ := hfk.get hby_ (by decide)
      have h15 := hfk.get h15 (by decide)
      have h16 := hfk.get h16 (by decide)
      have pcsI_se := csI.fr hfk pcsI_se (by decide) (by decide)
      have ptbI_0 := tbI.fr hfk ptbI_0  (by decide)
      have ppaI_0 := pNpaI_0
      have popI_0 := pNopI_0
      have pszJ_0 := pNszJ_0
      have hfr := hfr.tr hfk (by decide)
      have hq113 := hfk.1
      have hd_ := hNd_
      have hx := hNx
      have hna := hNna
      have hnl := hNnl
      change ab_W _ _ _ G31 141 [some (vR d_), some (vz pl), none] [] _
      refine ab_null d_RD_part_141 ?_
      refine ab_aret (rt := _) rfl (Or.inl ⟨_, rfl⟩) (Or.inl rfl) d_RD_part_142 ?_
      rw [hQ]; exact (Or.inl ⟨_, _, _, _, _, _, _, _, _, _, _, _, _, _, _, _, _, _, _, _, _, _, _, (pl + 1), fr, rfl, hfr, hd_, hx, hna, hnl, ppaI_0, popI_0, pcsI_se, pszJ_0, (by omega), (by omega), (by omega), (by exact hnm), (by omega), (by exact psx.rf), (by omega), (by omega), (by omega), (by omega), (by omega), (by omega), (by omega), (by omega), (by first | exact hkf | (simp only [List.length_cons]; omega) | omega), (by omega), (by exact Or.inl (Or.inr (Or.inl ⟨by omega, by have t := hq104; rw [show dp = ↑fr.length - 1 by omega] at t; exact t, by omega⟩)))⟩)
  replace c30 : nzq v2 40 := c30
  by_cases c114 : v2 = 41
  · refine zz_lookup (off := 127) (tgt := 143) d_RD_part_16 (by decide) (by omega) (by rw [c114]; decide) (by decide) ?_
    refine ab_aload_n d_RD_part_143 rfl ?_
    refine ab_callV (d' := d - 1) (as := []) (st := []) (r := _) (z_RD_close (o := o) (d_ := d_) (inn := inn) (dp := dp) (flg := flg) (grp := grp) (na := na) (nl := nl) (lst := lst) (mst := mst) (bh := bh) (x := x) (se := se) (by_ := by_) (n := n) (pl := pl) (fa := fa) (fp := fp) (kd := kd) (kn := kn) (ps := ps) (wt := wt) (bs := bs) (ph := ph) (k := k) (hi := hi) (wh := wh) (fr := fr) hd_ hx ppaI_0 popI_0 pszJ_0 (by omega) (by omega) (by omega) (by omega) (by omega) (by omega) (by omega) (by omega)) (fun oc G2 h => by rcases h with ⟨_, _, _, _, _, _, _, _, h, _⟩ | ⟨_, _, _, _, _, _, _, _, _, _, _, _, _, _, h, _⟩ <;> exact ⟨_, h⟩) (by omega) m_RD_close ml_RD_110 im_RD_close se_RD_close c_RD hd_.2.2 (Nat.le_of_ble_eq_true rfl) d_RD_part_144 rfl ?_
    intro v G115 hq
    rcases hq with ⟨inn2116, dp2117, flg2118, p2119, fa2120, fp2121, k2122, hi2123, hv, hfk, hlk, hsk, hNd_, hNx, pNpaI_0, pNopI_0, pNszJ_0, hq124, hq125, hq126, hq127, hq128, hq129, hq130, hq131⟩ | ⟨p132, a1_133, b1_134, c1_135, d1_136, e1_137, t_138, inn2139, dp2140, flg2141, p2142, fa2143, fp2144, k2145, hv, hfk, hlk, hsk, hNd_, hNx, pNpaI_0, pNopI_0, pNszJ_0, hq146, hq147, hq148, hq149, hq150, hq151, hq152, hq153, hq154, hq155, hq156, hq157⟩
    · cases hv
      have hna := hfk.get hna (by decide)
      have hnl := hfk.get hnl (by decide)
      have hby_ := hfk.get hby_ (by decide)
      have h15 := hfk.get h15 (by decide)
      have h16 := hfk.get h16 (by decide)
      have pcsI_se := csI.fr hfk pcsI_se (by decide) (by decide)
      have ptbI_0 := tbI.fr hfk ptbI_0  (by decide)
      have ppaI_0 := pNpaI_0
      have popI_0 := pNopI_0
      have pszJ_0 := pNszJ_0
      have hfr := hfr.tr hfk (by decide)
      have hq158 := hlk
      have hq159 := hsk
      have hd_ := hNd_
      have hx := hNx
      change ab_W _ _ _ G115 147 [some (vR d_), some (vz pl), none] [vN] _
      refine ab_aret (rt := _) rfl (Or.inl ⟨_, rfl⟩) (Or.inl rfl) d_RD_part_147 ?_
      rw [hQ]; exact (Or.inl ⟨_, _, _, _, _, _, _, _, _, _, _, _, _, _, _, _, _, _, _, _, _, _, _, pl, fr, rfl, hfr, hd_, hx, hna, hnl, ppaI_0, popI_0, pcsI_se, pszJ_0, (by omega), (by omega), (by omega), (by exact hnm), (by omega), (by exact psx.rf), (by omega), (by omega), (by omega), (by omega), (by omega), (by omega), (by omega), (by omega), (by first | exact hkf | (simp only [List.length_cons]; omega) | omega), (by omega), (by exact Or.inl (Or.inr (Or.inr ⟨by omega, by omega, by omega, by omega⟩)))⟩)
    · cases hv
      have hna := hfk.get hna (by decide)
      have hnl := hfk.get hnl (by decide)
      have hby_ := hfk.get hby_ (by decide)
      have h15 := hfk.get h15 (by decide)
      have h16 := hfk.get h16 (by decide)
      have pcsI_se := csI.fr hfk pcsI_se (by decide) (by decide)
      have ptbI_0 := tbI.fr hfk ptbI_0  (by decide)
      have ppaI_0 := pNpaI_0
      have popI_0 := pNopI_0
      have pszJ_0 := pNszJ_0
      have hfr := hfr.tr hfk (by decide)
      have hq160 := hlk
      have hq161 := hsk
      have hd_ := hNd_
      have hx := hNx
      change ab_W _ _ _ G115 147 [some (vR d_), some (vz pl), none] [vR p132] _
      refine ab_aret (rt := _) rfl (Or.inl ⟨_, rfl⟩) (Or.inr ⟨_, rfl⟩) d_RD_part_147 ?_
      rw [hQ]; exact (Or.inr (Or.inr ⟨_, _, _, _, _, _, _, _, _, _, _, _, _, _, _, _, _, _, _, _, _, _, _, pl, t_138, (pin 4 c1_135 + e1_137 + d1_136), rfl, hfr, hd_, hx, hna, hnl, ppaI_0, popI_0, pcsI_se, pszJ_0, (by omega), (by omega), (by omega), (by exact hnm), (by omega), (by exact psx.rf), (by omega), (by omega), (by omega), (by omega), (by omega), (by omega), (by omega), (by omega), (by exact hq156), (by first | exact hkf | (simp only [List.length_cons]; omega) | omega | (have t := congrArg List.length hq146; simp only [List.length_cons] at t ⊢; omega) | (have t := congrArg List.length hq146; simp only [List.length_cons] at t; omega)), (by omega), (by omega), (by exact Or.inr ⟨by omega, by omega, _, _, _, _, _, hq146, by have t := congrArg List.length hq146; simp only [List.length_cons] at t; omega, by omega, rfl⟩), (by exact ⟨rfl, rfl, rfl⟩), (by omega)⟩))
  replace c114 : nzq v2 41 := c114
  by_cases c162 : v2 = 46
  · refine zz_lookup (off := 132) (tgt := 148) d_RD_part_16 (by decide) (by omega) (by rw [c162]; decide) (by decide) ?_
    refine ab_aload_n d_RD_part_148 rfl ?_
    refine ab_getf (fs := [vR x, inn, vz dp, vz flg, vz grp, vR na, vR nl, vz lst, vz mst, vz bh]) f_RD_12 d_RD_part_149 hd_.2.2 rfl ?_
    refine ab_dup d_RD_part_152 rfl ?_
    refine ab_getf (fs := [vR se, vR by_, vz n, vz pl, vz fa, vz fp, vR kd, vz kn]) f_RD_55 d_RD_part_153 hx.2.2 rfl ?_
    refine zz_iconst d_RD_part_156 ?_
    refine zz_iadd d_RD_part_157 ?_
    refine ab_putf (fs := [vR se, vR by_, vz n, vz pl, vz fa, vz fp, vR kd, vz kn]) f_RD_55 (Or.inl rfl) d_RD_part_158 hx.2.2 (Nat.le_of_ble_eq_true rfl) (fun _ => ⟨rfl, rfl⟩) (hx.2.1 (by decide)) ?_
    obtain ⟨G163, eG163⟩ : ∃ z : ab_G, z = List.set G x (ab_ob 10 [vR se, vR by_, vz n, vz (pl + 1), vz fa, vz fp, vR kd, vz kn]) := ⟨_, rfl⟩
    have hd_ := hd_.keep hx eG163 (by decide)
    have hna := hna.keep hx eG163 (by decide)
    have hnl := hnl.keep hx eG163 (by decide)
    have hby_ := hby_.keep hx eG163 (by decide)
    have h15 := h15.keep hx eG163 (by decide)
    have h16 := h16.keep hx eG163 (by decide)
    have hst := (fx.rf (o := o) (S := [24]) (G := G)).wr hx eG163 (List.mem_singleton.mpr rfl)
    have popI_0 := opI.fr hst ppaI_0 popI_0 (by decide) (by decide)
    have pcsI_se := csI.fr hst pcsI_se (by decide) (by decide)
    have ptbI_0 := tbI.fr hst ptbI_0  (by decide)
    have pszJ_0 := szJ.fr hst ppaI_0 pszJ_0 (by decide) (by decide)
    have ppaI_0 := paI.fr hst ppaI_0 (by decide) (by decide) (by decide) (by decide)
    have hq164 := z_len eG163
    have hq165 := z_sl hx eG163 rfl
    have hfr := hfr.wr hx eG163 (by decide)
    have hx := hx.kept eG163
    change ab_W _ _ _ (List.set G x (ab_ob 10 [vR se, vR by_, vz n, vz (pl + 1), vz fa, vz fp, vR kd, vz kn])) 161 [some (vR d_), some (vz pl), none] [] _
    rw [← eG163]
    refine ab_aload_n d_RD_part_161 rfl ?_
    refine ab_aload_n d_RD_part_162 rfl ?_
    refine zz_iconst d_RD_part_163 ?_
    refine ab_callV (d' := d - 1) (as := [vz 4]) (st := [vR d_]) (r := _) (z4_RD_isOn (o := o) (d_ := d_) (inn := inn) (dp := dp) (flg := flg) (grp := grp) (na := na) (nl := nl) (lst := lst) (mst := mst) (bh := bh) (x := x) hd_ (by omega)) (fun oc G2 h => by rcases h with ⟨_, h, _⟩ <;> exact ⟨_, h⟩) (by omega) m_RD_isOn ml_RD_94 im_RD_isOn se_RD_isOn c_RD hd_.2.2 (Nat.le_of_ble_eq_true rfl) d_RD_part_164 rfl ?_
    intro v G166 hq
    rcases hq with ⟨v167, hv, hGe, hq168, hq169⟩
    cases hv
    rw [hGe]
    change ab_W _ _ _ G163 167 [some (vR d_), some (vz pl), none] [vz v167, vR d_] _
    refine zz_if_eq (tgt := 176) d_RD_part_167 (by decide) (by omega) (fun c170 => ?_) (fun c170 => ?_)
    · refine ab_gets (i := 14) (by decide) s_RD_116 d_RD_part_176 ?_
      obtain ⟨w171, q171, mm171, hk171, hw171, hc171, hL171⟩ := ptbI_0.atL 14 (by decide) (by decide)
      have hL171 : w171 = 6 := hL171.trans (by decide)
      refine ab_callV (d' := d - 1) (as := [vR 14]) (st := []) (r := _) (zs_RD_classPart (o := o) (d_ := d_) (w := 14) (lw := 14) (w2 := w171) (q2 := q171) (m2 := mm171) (ps := ps) (wt := wt) (bs := bs) (gr := grp) (ph := ph) hk171 ppaI_0 (by omega) (by omega) (by omega) (by omega) hc171 (by omega) (by omega) (by omega) (by omega)) (fun oc G2 h => by rcases h with ⟨_, _, _, _, _, h, _⟩ <;> exact ⟨_, h⟩) (by omega) m_RD_classPart ml_RD_102 im_RD_classPart se_RD_classPart c_RD hd_.2.2 (Nat.le_of_ble_eq_true rfl) d_RD_part_179 rfl ?_
      intro v G172 hq
      rcases hq with ⟨o173, p174, ps2175, wt2176, ph2177, hv, hfk, pNpaI_0, hq178, hq179, hq180, hq181, hq182, hq183, hq184, hq185, hq186⟩
      cases hv
      have hd_ := hfk.get hd_ (by decide)
      have hx := hfk.get hx (by decide)
      have hna := hfk.get hna (by decide)
      have hnl := hfk.get hnl (by decide)
      have hby_ := hfk.get hby_ (by decide)
      have h15 := hfk.get h15 (by decide)
      have h16 := hfk.get h16 (by decide)
      have hk171 := hfk.get hk171 (by decide)
      have popI_0 := popI_0.fz (o2 := o173) hq181 (by simp)
      have pcsI_se := csI.fr hfk pcsI_se (by decide) (by decide)
      have ptbI_0 := tbI.fr hfk ptbI_0  (by decide)
      have pszJ_0 := pszJ_0.fzk (o2 := o173) hq181
      have ppaI_0 := pNpaI_0
      have hfr := hfr.tr hfk (by decide)
      have hq187 := hfk.1
      change ab_W _ _ _ G172 182 [some (vR d_), some (vz pl), none] [vR p174] _
      have popI_0 : opI o173 G172 0 ps2175 k hi inn := opn_ps _ _ _ popI_0 (psx.lt hq178 (by omega))
      have pszJ_0 := (pszJ_0.leaf hq185 (s := (fi G172 p174 8)) ceq.rf (by have t := hq185.2.2.2.2.1.2.1; omega)).up (hi2 := p174) (by omega)
      have popI_0 := opn_up (hi2 := p174) popI_0 (by omega)
      have popI_0 : opI o173 G172 0 ps2175 k p174 inn := popI_0
      refine ab_aret (rt := _) rfl (Or.inl ⟨_, rfl⟩) (Or.inr ⟨_, rfl⟩) d_RD_part_182 ?_
      rw [hQ]; exact (Or.inr (Or.inr ⟨_, _, _, _, _, _, _, _, _, _, _, _, _, _, _, _, _, _, _, _, _, _, _, (pl + 1), fr, (fi G172 p174 8), rfl, hfr, hd_, hx, hna, hnl, ppaI_0, popI_0, pcsI_se, pszJ_0, (by omega), (by omega), (by omega), (by exact hnm), (by omega), (by exact hq178.lt (by omega)), (by omega), (by omega), (by omega), (by omega), (by omega), (by omega), (by omega), (by omega), (by exact hq179), (by first | exact hkf | (simp only [List.length_cons]; omega) | omega), (by omega), (by omega), (by exact Or.inl ⟨Or.inr (Or.inr (Or.inr (Or.inl ⟨by omega, by omega, by omega⟩))), rfl, rfl⟩), (by exact ⟨rfl, rfl, rfl⟩), (by omega)⟩))
    · refine ab_gets (i := 13) (by decide) s_RD_113 d_RD_part_170 ?_
      refine ab_goto (tgt := 179) d_RD_part_173 (by decide) ?_
      obtain ⟨w188, q188, mm188, hk188, hw188, hc188, hL188⟩ := ptbI_0.atL 13 (by decide) (by decide)
      have hL188 : w188 = 4 := hL188.trans (by decide)
      refine ab_callV (d' := d - 1) (as := [vR 13]) (st := []) (r := _) (zs_RD_classPart (o := o) (d_ := d_) (w := 13) (lw := 13) (w2 := w188) (q2 := q188) (m2 := mm188) (ps := ps) (wt := wt) (bs := bs) (gr := grp) (ph := ph) hk188 ppaI_0 (by omega) (by omega) (by omega) (by omega) hc188 (by omega) (by omega) (by omega) (by omega)) (fun oc G2 h => by rcases h with ⟨_, _, _, _, _, h, _⟩ <;> exact ⟨_, h⟩) (by omega) m_RD_classPart ml_RD_102 im_RD_classPart se_RD_classPart c_RD hd_.2.2 (Nat.le_of_ble_eq_true rfl) d_RD_part_179 rfl ?_
      intro v G189 hq
      rcases hq with ⟨o190, p191, ps2192, wt2193, ph2194, hv, hfk, pNpaI_0, hq195, hq196, hq197, hq198, hq199, hq200, hq201, hq202, hq203⟩
      cases hv
      have hd_ := hfk.get hd_ (by decide)
      have hx := hfk.get hx (by decide)
      have hna := hfk.get hna (by decide)
      have hnl := hfk.get hnl (by decide)
      have hby_ := hfk.get hby_ (by decide)
      have h15 := hfk.get h15 (by decide)
      have h16 := hfk.get h16 (by decide)
      have hk188 := hfk.get hk188 (by decide)
      have popI_0 := popI_0.fz (o2 := o190) hq198 (by simp)
      have pcsI_se := csI.fr hfk pcsI_se (by decide) (by decide)
      have ptbI_0 := tbI.fr hfk ptbI_0  (by decide)
      have pszJ_0 := pszJ_0.fzk (o2 := o190) hq198
      have ppaI_0 := pNpaI_0
      have hfr := hfr.tr hfk (by decide)
      have hq204 := hfk.1
      change ab_W _ _ _ G189 182 [some (vR d_), some (vz pl), none] [vR p191] _
      have popI_0 : opI o190 G189 0 ps2192 k hi inn := opn_ps _ _ _ popI_0 (psx.lt hq195 (by omega))
      have pszJ_0 := (pszJ_0.leaf hq202 (s := (fi G189 p191 8)) ceq.rf (by have t := hq202.2.2.2.2.1.2.1; omega)).up (hi2 := p191) (by omega)
      have popI_0 := opn_up (hi2 := p191) popI_0 (by omega)
      have popI_0 : opI o190 G189 0 ps2192 k p191 inn := popI_0
      refine ab_aret (rt := _) rfl (Or.inl ⟨_, rfl⟩) (Or.inr ⟨_, rfl⟩) d_RD_part_182 ?_
      rw [hQ]; exact (Or.inr (Or.inr ⟨_, _, _, _, _, _, _, _, _, _, _, _, _, _, _, _, _, _, _, _, _, _, _, (pl + 1), fr, (fi G189 p191 8), rfl, hfr, hd_, hx, hna, hnl, ppaI_0, popI_0, pcsI_se, pszJ_0, (by omega), (by omega), (by omega), (by exact hnm), (by omega), (by exact hq195.lt (by omega)), (by omega), (by omega), (by omega), (by omega), (by omega), (by omega), (by omega), (by omega), (by exact hq196), (by first | exact hkf | (simp only [List.length_cons]; omega) | omega), (by omega), (by omega), (by exact Or.inl ⟨Or.inr (Or.inr (Or.inr (Or.inl ⟨by omega, by omega, by omega⟩))), rfl, rfl⟩), (by exact ⟨rfl, rfl, rfl⟩), (by omega)⟩))
  replace c162 : nzq v2 46 := c162
  by_cases c205 : v2 = 91
  · refine zz_lookup (off := 103) (tgt := 119) d_RD_part_16 (by decide) (by omega) (by rw [c205]; decide) (by decide) ?_
    refine ab_aload_n d_RD_part_119 rfl ?_
    refine ab_aload_n d_RD_part_120 rfl ?_
    refine ab_getf (fs := [vR x, inn, vz dp, vz flg, vz grp, vR na, vR nl, vz lst, vz mst, vz bh]) f_RD_12 d_RD_part_121 hd_.2.2 rfl ?_
    refine ab_aload_n d_RD_part_124 rfl ?_
    refine zz_iconst d_RD_part_125 ?_
    refine ab_callV (d' := d - 1) (as := [vz 1]) (st := [vR x, vR d_]) (r := _) (z1_RD_isOn (o := o) (d_ := d_) (inn := inn) (dp := dp) (flg := flg) (grp := grp) (na := na) (nl := nl) (lst := lst) (mst := mst) (bh := bh) (x := x) hd_ (by omega)) (fun oc G2 h => by rcases h with ⟨_, h, _⟩ <;> exact ⟨_, h⟩) (by omega) m_RD_isOn ml_RD_94 im_RD_isOn se_RD_isOn c_RD hd_.2.2 (Nat.le_of_ble_eq_true rfl) d_RD_part_126 rfl ?_
    intro v G206 hq
    rcases hq with ⟨v207, hv, hGe, hq208, hq209⟩
    cases hv
    rw [hGe]
    change ab_W _ _ _ G 129 [some (vR d_), some (vz pl), none] [vz v207, vR x, vR d_] _
    refine ab_callV (d' := d - 1) (as := [vz v207]) (st := [vR d_]) (r := _) (z_TX_charClass (o := o) (x := x) (se := se) (by_ := by_) (m := m) (f := f) (n := n) (pl := pl) (fa := fa) (fp := fp) (kd := kd) (kn := kn) (nb := nb) (cnt := cnt) (P := P) (al := v207) hx hby_ h15 h16 pcsI_se ptbI_0 (by omega) hb (by omega) (by omega) (by omega) (by omega) (by omega) (by omega) (by omega) (by omega) (by omega)) (fun oc G2 h => by rcases h with ⟨_, _, _, _, _, _, _, _, _, h, _⟩ | ⟨_, _, _, _, _, _, _, _, _, _, _, _, _, h, _⟩ <;> exact ⟨_, h⟩) (by omega) m_TX_charClass ml_RD_98 im_TX_charClass se_TX_charClass c_TX hx.2.2 (Nat.le_of_ble_eq_true rfl) d_RD_part_129 rfl ?_
    intro v G210 hq
    rcases hq with ⟨o211, p2212, fa2213, fp2214, kd2215, kn2216, nb2217, c2218, P2219, hv, hfk, hNx, hNby_, pNcsI_se, hq220, hq221, hq222, hq223, hq224, hq225, hq226, hq227⟩ | ⟨o228, w229, p2230, fa2231, fp2232, kd2233, kn2234, nb2235, c2236, P2237, q2238, m2239, w2240, hv, hfk, hNx, hNby_, hNw229, pNcsI_se, hq241, hq242, hq243, hq244, hq245, hq246, hq247, hq248, hq249, hq250, hq251⟩
    · cases hv
      have hd_ := hfk.get hd_ (by decide)
      have hna := hfk.get hna (by decide)
      have hnl := hfk.get hnl (by decide)
      have h15 := hfk.get h15 (by decide)
      have h16 := hfk.get h16 (by decide)
      have popI_0 := opI.fr hfk ppaI_0 popI_0 (by decide) (by decide)
      have ptbI_0 := tbI.fr hfk ptbI_0  (by decide)
      have pszJ_0 := szJ.fr hfk ppaI_0 pszJ_0 (by decide) (by decide)
      have ppaI_0 := paI.fr hfk ppaI_0 (by decide) (by decide) (by decide) (by decide)
      have pcsI_se := pNcsI_se
      have hfr := hfr.tr hfk (by decide)
      have hq252 := hfk.1
      have hx := hNx
      have hby_ := hNby_
      change ab_W _ _ _ G210 132 [some (vR d_), some (vz pl), none] [vN, vR d_] _
      refine ab_callV (d' := d - 1) (as := [vN]) (st := []) (r := _) (zN_RD_classPart (o := o211) (d_ := d_) ) (fun oc G2 h => by rcases h with ⟨h, _⟩ <;> exact ⟨_, h⟩) (by omega) m_RD_classPart ml_RD_102 im_RD_classPart se_RD_classPart c_RD hd_.2.2 (Nat.le_of_ble_eq_true rfl) d_RD_part_132 rfl ?_
      intro v G254 hq
      rcases hq with ⟨hv, hGe⟩
      cases hv
      rw [hGe]
      change ab_W _ _ _ G210 135 [some (vR d_), some (vz pl), none] [vN] _
      refine ab_aret (rt := _) rfl (Or.inl ⟨_, rfl⟩) (Or.inl rfl) d_RD_part_135 ?_
      rw [hQ]; exact (Or.inl ⟨_, _, _, _, _, _, _, _, _, _, _, _, _, _, _, _, _, _, _, _, _, _, _, pl, fr, rfl, hfr, hd_, hx, hna, hnl, ppaI_0, popI_0, pcsI_se, pszJ_0, (by omega), (by omega), (by omega), (by exact hnm), (by omega), (by exact psx.rf), (by omega), (by omega), (by omega), (by omega), (by omega), (by omega), (by omega), (by omega), (by first | exact hkf | (simp only [List.length_cons]; omega) | omega), (by omega), (by exact Or.inl (Or.inl (Or.inr (Or.inl ⟨by omega, by rw [show flg % 2 = v207 by omega]; exact hq221⟩))))⟩)
    · cases hv
      have hd_ := hfk.get hd_ (by decide)
      have hna := hfk.get hna (by decide)
      have hnl := hfk.get hnl (by decide)
      have h15 := hfk.get h15 (by decide)
      have h16 := hfk.get h16 (by decide)
      have popI_0 := opI.fr hfk ppaI_0 popI_0 (by decide) (by decide)
      have ptbI_0 := tbI.fr hfk ptbI_0  (by decide)
      have pszJ_0 := szJ.fr hfk ppaI_0 pszJ_0 (by decide) (by decide)
      have ppaI_0 := paI.fr hfk ppaI_0 (by decide) (by decide) (by decide) (by decide)
      have pcsI_se := pNcsI_se
      have hfr := hfr.tr hfk (by decide)
      have hq253 := hfk.1
      have hx := hNx
      have hby_ := hNby_
      have hw229 := hNw229
      change ab_W _ _ _ G210 132 [some (vR d_), some (vz pl), none] [vR w229, vR d_] _
      refine ab_callV (d' := d - 1) (as := [vR w229]) (st := []) (r := _) (z93_RD_classPart (o := o228) (d_ := d_) (w := w229) (w2 := w2240) (q2 := q2238) (m2 := m2239) (ps := ps) (wt := wt) (bs := bs) (gr := grp) (ph := ph) hw229 ppaI_0 (by omega) (by omega) hq248 (by omega) (by omega) (by omega) (by omega)) (fun oc G2 h => by rcases h with ⟨_, _, _, _, _, h, _⟩ <;> exact ⟨_, h⟩) (by omega) m_RD_classPart ml_RD_102 im_RD_classPart se_RD_classPart c_RD hd_.2.2 (Nat.le_of_ble_eq_true rfl) d_RD_part_132 rfl ?_
      intro v G255 hq
      rcases hq with ⟨o256, p257, ps2258, wt2259, ph2260, hv, hfk, pNpaI_0, hq261, hq262, hq263, hq264, hq265, hq266, hq267, hq268, hq269⟩
      cases hv
      have hd_ := hfk.get hd_ (by decide)
      have hx := hfk.get hx (by decide)
      have hna := hfk.get hna (by decide)
      have hnl := hfk.get hnl (by decide)
      have hby_ := hfk.get hby_ (by decide)
      have h15 := hfk.get h15 (by decide)
      have h16 := hfk.get h16 (by decide)
      have hw229 := hfk.get hw229 (by decide)
      have popI_0 := popI_0.fz (o2 := o256) hq264 (by simp)
      have pcsI_se := csI.fr hfk pcsI_se (by decide) (by decide)
      have ptbI_0 := tbI.fr hfk ptbI_0  (by decide)
      have pszJ_0 := pszJ_0.fzk (o2 := o256) hq264
      have ppaI_0 := pNpaI_0
      have hfr := hfr.tr hfk (by decide)
      have hq270 := hfk.1
      change ab_W _ _ _ G255 135 [some (vR d_), some (vz pl), none] [vR p257] _
      have popI_0 : opI o256 G255 0 ps2258 k hi inn := opn_ps _ _ _ popI_0 (psx.lt hq261 (by omega))
      have pszJ_0 := (pszJ_0.leaf hq268 (s := (fi G255 p257 8)) ceq.rf (by have t := hq268.2.2.2.2.1.2.1; omega)).up (hi2 := p257) (by omega)
      have popI_0 := opn_up (hi2 := p257) popI_0 (by omega)
      have popI_0 : opI o256 G255 0 ps2258 k p257 inn := popI_0
      refine ab_aret (rt := _) rfl (Or.inl ⟨_, rfl⟩) (Or.inr ⟨_, rfl⟩) d_RD_part_135 ?_
      rw [hQ]; exact (Or.inr (Or.inr ⟨_, _, _, _, _, _, _, _, _, _, _, _, _, _, _, _, _, _, _, _, _, _, _, p2230, fr, (fi G255 p257 8), rfl, hfr, hd_, hx, hna, hnl, ppaI_0, popI_0, pcsI_se, pszJ_0, (by omega), (by omega), (by omega), (by exact hnm), (by omega), (by exact hq261.lt (by omega)), (by omega), (by omega), (by omega), (by omega), (by omega), (by omega), (by omega), (by omega), (by exact hq262), (by first | exact hkf | (simp only [List.length_cons]; omega) | omega), (by omega), (by omega), (by obtain ⟨no9, fi9, P9, y1, y2, y3, y4⟩ := hq241; exact Or.inl ⟨Or.inr (Or.inr (Or.inl ⟨by omega, no9, fi9, P9, y1, by rw [show flg % 2 = v207 by omega]; exact y2, y3, _, _, ⟨hq248, by omega⟩, y4, by omega⟩)), rfl, rfl⟩), (by exact ⟨rfl, rfl, rfl⟩), (by omega)⟩))
  replace c205 : nzq v2 91 := c205
  by_cases c271 : v2 = 92
  · refine zz_lookup (off := 76) (tgt := 92) d_RD_part_16 (by decide) (by omega) (by rw [c271]; decide) (by decide) ?_
    refine ab_aload_n d_RD_part_92 rfl ?_
    refine ab_getf (fs := [vR x, inn, vz dp, vz flg, vz grp, vR na, vR nl, vz lst, vz mst, vz bh]) f_RD_12 d_RD_part_93 hd_.2.2 rfl ?_
    refine ab_callV (d' := d - 1) (as := []) (st := []) (r := _) (z_TX_escape (o := o) (x := x) (lx := 24) (se := se) (by_ := by_) (lby := 23) (m := m) (f := f) (n := n) (pl := pl) (fa := fa) (fp := fp) (kd := kd) (kn := kn) hx hby_ (by omega) hb (by omega) (by omega) (by omega) (by omega)) (fun oc G2 h => by rcases h with ⟨_, _, h, _⟩ | ⟨_, _, _, h, _⟩ | ⟨_, _, h, _⟩ <;> exact ⟨_, h⟩) (by omega) m_TX_escape ml_RD_83 im_TX_escape se_TX_escape c_TX hx.2.2 (Nat.le_of_ble_eq_true rfl) d_RD_part_96 rfl ?_
    intro v G272 hq
    rcases hq with ⟨v273, p2274, hv, hfk, hlk, hsk, hNx, hNby_, hq275, hq276, hq277⟩ | ⟨p2278, k2279, b2280, hv, hfk, hlk, hsk, hNx, hNby_, hq281, hq282, hq283, hq284⟩ | ⟨p2285, w286, hv, hfk, hlk, hsk, hNx, hNby_, hq287, hq288, hq289⟩
    · cases hv
      have hd_ := hfk.get hd_ (by decide)
      have hna := hfk.get hna (by decide)
      have hnl := hfk.get hnl (by decide)
      have h15 := hfk.get h15 (by decide)
      have h16 := hfk.get h16 (by decide)
      have popI_0 := opI.fr hfk ppaI_0 popI_0 (by decide) (by decide)
      have pcsI_se := csI.fr hfk pcsI_se (by decide) (by decide)
      have ptbI_0 := tbI.fr hfk ptbI_0  (by decide)
      have pszJ_0 := szJ.fr hfk ppaI_0 pszJ_0 (by decide) (by decide)
      have ppaI_0 := paI.fr hfk ppaI_0 (by decide) (by decide) (by decide) (by decide)
      have hfr := hfr.tr hfk (by decide)
      have hq290 := hlk
      have hq291 := hsk
      have hx := hNx
      have hby_ := hNby_
      change ab_W _ _ _ G272 99 [some (vR d_), some (vz pl), none] [vz v273] _
      refine ab_istore_n d_RD_part_99 (Nat.le_of_ble_eq_true rfl) (Nat.le_of_ble_eq_true rfl) rfl ?_
      change ab_W _ _ _ G272 100 [some (vR d_), some (vz pl), some (vz v273)] [] _
      have hew := esc1_w hq277
      have hgp := esc1_gap hq277
      refine ab_iload_n d_RD_part_100 rfl ?_
      refine zz_iconst d_RD_part_101 ?_
      refine zz_icmp_lt (tgt := 113) d_RD_part_102 (by decide) (by omega) (by decide) (fun c296 => ?_) (fun c296 => ?_)
      · refine ab_aload_n d_RD_part_113 rfl ?_
        refine ab_iload_n d_RD_part_114 rfl ?_
        by_cases hv297 : v273 = -3
        · subst hv297
          change ab_W _ _ _ G272 115 [some (vR d_), some (vz pl), some (vz (-3))] [vz (-3), vR d_] _
          refine ab_callV (d' := d - 1) (as := [vz (-3)]) (st := []) (r := _) (z3_RD_escaped (o := o) (d_ := d_) (ps := ps) (wt := wt) (bs := bs) (gr := grp) (ph := ph) ppaI_0 (by omega) (by omega) (by omega) (by omega) (by omega)) (fun oc G2 h => by rcases h with ⟨_, _, _, _, _, h, _⟩ <;> exact ⟨_, h⟩) (by omega) m_RD_escaped ml_RD_91 im_RD_escaped se_RD_escaped c_RD hd_.2.2 (Nat.le_of_ble_eq_true rfl) d_RD_part_115 rfl ?_
          intro v G298 hq
          rcases hq with ⟨o299, p300, ps2301, wt2302, ph2303, hv, hfk, pNpaI_0, hq304, hq305, hq306, hq307, hq308, hq309, hq310, hq311, hq312⟩
          cases hv
          have hd_ := hfk.get hd_ (by decide)
          have hx := hfk.get hx (by decide)
          have hna := hfk.get hna (by decide)
          have hnl := hfk.get hnl (by decide)
          have hby_ := hfk.get hby_ (by decide)
          have h15 := hfk.get h15 (by decide)
          have h16 := hfk.get h16 (by decide)
          have popI_0 := popI_0.fz (o2 := o299) hq307 (by simp)
          have pcsI_se := csI.fr hfk pcsI_se (by decide) (by decide)
          have ptbI_0 := tbI.fr hfk ptbI_0  (by decide)
          have pszJ_0 := pszJ_0.fzk (o2 := o299) hq307
          have ppaI_0 := pNpaI_0
          have hfr := hfr.tr hfk (by decide)
          have hq313 := hfk.1
          change ab_W _ _ _ G298 118 [some (vR d_), some (vz pl), some (vz (-3))] [vR p300] _
          have popI_0 : opI o299 G298 0 ps2301 k hi inn := opn_ps _ _ _ popI_0 (psx.lt hq304 (by omega))
          have pszJ_0 := (pszJ_0.leaf hq311 (s := (fi G298 p300 8)) ceq.rf (by have t := hq311.2.2.2.2.1.2.1; omega)).up (hi2 := p300) (by omega)
          have popI_0 := opn_up (hi2 := p300) popI_0 (by omega)
          have popI_0 : opI o299 G298 0 ps2301 k p300 inn := popI_0
          refine ab_aret (rt := _) rfl (Or.inl ⟨_, rfl⟩) (Or.inr ⟨_, rfl⟩) d_RD_part_118 ?_
          rw [hQ]; exact (Or.inr (Or.inr ⟨_, _, _, _, _, _, _, _, _, _, _, _, _, _, _, _, _, _, _, _, _, _, _, p2274, fr, (fi G298 p300 8), rfl, hfr, hd_, hx, hna, hnl, ppaI_0, popI_0, pcsI_se, pszJ_0, (by omega), (by omega), (by omega), (by exact hnm), (by omega), (by exact hq304.lt (by omega)), (by omega), (by omega), (by omega), (by omega), (by omega), (by omega), (by omega), (by omega), (by exact hq305), (by first | exact hkf | (simp only [List.length_cons]; omega) | omega), (by omega), (by omega), (by exact Or.inl ⟨Or.inl ⟨by omega, _, hq277, Or.inr ⟨by omega, hq312⟩⟩, rfl, rfl⟩), (by exact ⟨rfl, rfl, rfl⟩), (by omega)⟩))
        · have hv4 : v273 ≤ -4 := by omega
          refine ab_callV (d' := d - 1) (as := [vz v273]) (st := []) (r := _) (z4_RD_escaped (o := o) (d_ := d_) (ps := ps) (wt := wt) (bs := bs) (gr := grp) (ph := ph) (c := v273) ppaI_0 (by omega) (by omega) (by omega) (by omega) (by omega) (by omega)) (fun oc G2 h => by rcases h with ⟨_, _, _, _, _, h, _⟩ <;> exact ⟨_, h⟩) (by omega) m_RD_escaped ml_RD_91 im_RD_escaped se_RD_escaped c_RD hd_.2.2 (Nat.le_of_ble_eq_true rfl) d_RD_part_115 rfl ?_
          intro v G314 hq
          rcases hq with ⟨o315, p316, ps2317, wt2318, ph2319, hv, hfk, pNpaI_0, hq320, hq321, hq322, hq323, hq324, hq325, hq326, hq327, hq328⟩
          cases hv
          have hd_ := hfk.get hd_ (by decide)
          have hx := hfk.get hx (by decide)
          have hna := hfk.get hna (by decide)
          have hnl := hfk.get hnl (by decide)
          have hby_ := hfk.get hby_ (by decide)
          have h15 := hfk.get h15 (by decide)
          have h16 := hfk.get h16 (by decide)
          have popI_0 := popI_0.fz (o2 := o315) hq323 (by simp)
          have pcsI_se := csI.fr hfk pcsI_se (by decide) (by decide)
          have ptbI_0 := tbI.fr hfk ptbI_0  (by decide)
          have pszJ_0 := pszJ_0.fzk (o2 := o315) hq323
          have ppaI_0 := pNpaI_0
          have hfr := hfr.tr hfk (by decide)
          have hq329 := hfk.1
          change ab_W _ _ _ G314 118 [some (vR d_), some (vz pl), some (vz v273)] [vR p316] _
          have popI_0 : opI o315 G314 0 ps2317 k hi inn := opn_ps _ _ _ popI_0 (psx.lt hq320 (by omega))
          have pszJ_0 := (pszJ_0.leaf hq327 (s := (fi G314 p316 8)) ceq.rf (by have t := hq327.2.2.2.2.1.2.1; omega)).up (hi2 := p316) (by omega)
          have popI_0 := opn_up (hi2 := p316) popI_0 (by omega)
          have popI_0 : opI o315 G314 0 ps2317 k p316 inn := popI_0
          refine ab_aret (rt := _) rfl (Or.inl ⟨_, rfl⟩) (Or.inr ⟨_, rfl⟩) d_RD_part_118 ?_
          rw [hQ]; exact (Or.inr (Or.inr ⟨_, _, _, _, _, _, _, _, _, _, _, _, _, _, _, _, _, _, _, _, _, _, _, p2274, fr, (fi G314 p316 8), rfl, hfr, hd_, hx, hna, hnl, ppaI_0, popI_0, pcsI_se, pszJ_0, (by omega), (by omega), (by omega), (by exact hnm), (by omega), (by exact hq320.lt (by omega)), (by omega), (by omega), (by omega), (by omega), (by omega), (by omega), (by omega), (by omega), (by exact hq321), (by first | exact hkf | (simp only [List.length_cons]; omega) | omega), (by omega), (by omega), (by exact Or.inl ⟨Or.inl ⟨by omega, _, hq277, Or.inr ⟨by omega, hq328⟩⟩, rfl, rfl⟩), (by exact ⟨rfl, rfl, rfl⟩), (by omega)⟩))
      · refine ab_aload_n d_RD_part_105 rfl ?_
        refine ab_iload_n d_RD_part_106 rfl ?_
        refine ab_callV (d' := d - 1) (as := [vz v273]) (st := []) (r := _) (z_RD_literal (o := o) (d_ := d_) (inn := inn) (dp := dp) (flg := flg) (grp := grp) (na := na) (nl := nl) (lst := lst) (mst := mst) (bh := bh) (x := x) (se := se) (by_ := by_) (n := n) (pl := p2274) (fa := fa) (fp := fp) (kd := kd) (kn := kn) (nb := nb) (cnt := cnt) (P := P) (ps := ps) (wt := wt) (bs := bs) (gr := grp) (ph := ph) (c := v273) hd_ hx h15 h16 ppaI_0 pcsI_se (by omega) (by omega) (by omega) hgp (by omega) (by omega) (by omega) (by omega) (by omega)) (fun oc G2 h => by rcases h with ⟨_, _, _, _, _, _, _, _, h, _⟩ <;> exact ⟨_, h⟩) (by omega) m_RD_literal ml_RD_87 im_RD_literal se_RD_literal c_RD hd_.2.2 (Nat.le_of_ble_eq_true rfl) d_RD_part_107 rfl ?_
        intro v G330 hq
        rcases hq with ⟨o331, p332, ps2333, wt2334, ph2335, nb2336, c2337, P2338, hv, hfk, pNpaI_0, pNcsI_se, hq339, hq340, hq341, hq342, hq343, hq344, hq345, hq346, hq347, hq348⟩
        cases hv
        have hd_ := hfk.get hd_ (by decide)
        have hx := hfk.get hx (by decide)
        have hna := hfk.get hna (by decide)
        have hnl := hfk.get hnl (by decide)
        have hby_ := hfk.get hby_ (by decide)
        have h15 := hfk.get h15 (by decide)
        have h16 := hfk.get h16 (by decide)
        have popI_0 := popI_0.fz (o2 := o331) hq342 (by simp)
        have ptbI_0 := tbI.fr hfk ptbI_0  (by decide)
        have pszJ_0 := pszJ_0.fzk (o2 := o331) hq342
        have ppaI_0 := pNpaI_0
        have pcsI_se := pNcsI_se
        have hfr := hfr.tr hfk (by decide)
        have hq349 := hfk.1
        change ab_W _ _ _ G330 110 [some (vR d_), some (vz pl), some (vz v273)] [vR p332] _
        refine ab_goto (tgt := 118) d_RD_part_110 (by decide) ?_
        have popI_0 : opI o331 G330 0 ps2333 k hi inn := opn_ps _ _ _ popI_0 (psx.lt hq339 (by omega))
        have pszJ_0 := (pszJ_0.leaf hq347 (s := (fi G330 p332 8)) ceq.rf (by have t := hq347.2.2.2.2.1.2.1; omega)).up (hi2 := p332) (by omega)
        have popI_0 := opn_up (hi2 := p332) popI_0 (by omega)
        have popI_0 : opI o331 G330 0 ps2333 k p332 inn := popI_0
        refine ab_aret (rt := _) rfl (Or.inl ⟨_, rfl⟩) (Or.inr ⟨_, rfl⟩) d_RD_part_118 ?_
        rw [hQ]; exact (Or.inr (Or.inr ⟨_, _, _, _, _, _, _, _, _, _, _, _, _, _, _, _, _, _, _, _, _, _, _, p2274, fr, (fi G330 p332 8), rfl, hfr, hd_, hx, hna, hnl, ppaI_0, popI_0, pcsI_se, pszJ_0, (by omega), (by omega), (by omega), (by exact hnm), (by omega), (by exact hq339.lt (by omega)), (by omega), (by omega), (by omega), (by omega), (by omega), (by omega), (by omega), (by omega), (by exact hq340), (by first | exact hkf | (simp only [List.length_cons]; omega) | omega), (by omega), (by omega), (by exact Or.inl ⟨Or.inl ⟨by omega, _, hq277, Or.inl ⟨by omega, hq348⟩⟩, rfl, rfl⟩), (by exact ⟨rfl, rfl, rfl⟩), (by omega)⟩))
    · cases hv
      have hd_ := hfk.get hd_ (by decide)
      have hna := hfk.get hna (by decide)
      have hnl := hfk.get hnl (by decide)
      have h15 := hfk.get h15 (by decide)
      have h16 := hfk.get h16 (by decide)
      have popI_0 := opI.fr hfk ppaI_0 popI_0 (by decide) (by decide)
      have pcsI_se := csI.fr hfk pcsI_se (by decide) (by decide)
      have ptbI_0 := tbI.fr hfk ptbI_0  (by decide)
      have pszJ_0 := szJ.fr hfk ppaI_0 pszJ_0 (by decide) (by decide)
      have ppaI_0 := paI.fr hfk ppaI_0 (by decide) (by decide) (by decide) (by decide)
      have hfr := hfr.tr hfk (by decide)
      have hq292 := hlk
      have hq293 := hsk
      have hx := hNx
      have hby_ := hNby_
      change ab_W _ _ _ G272 99 [some (vR d_), some (vz pl), none] [vz (-2)] _
      refine ab_istore_n d_RD_part_99 (Nat.le_of_ble_eq_true rfl) (Nat.le_of_ble_eq_true rfl) rfl ?_
      change ab_W _ _ _ G272 100 [some (vR d_), some (vz pl), some (vz (-2))] [] _
      have hew := esc2_w hq284
      refine ab_iload_n d_RD_part_100 rfl ?_
      refine zz_iconst d_RD_part_101 ?_
      refine zz_icmp_lt (tgt := 113) d_RD_part_102 (by decide) (by decide) (by decide) (fun c350 => ?_) (fun c350 => absurd c350 (by decide))
      refine ab_aload_n d_RD_part_113 rfl ?_
      refine ab_iload_n d_RD_part_114 rfl ?_
      refine ab_callV (d' := d - 1) (as := [vz (-2)]) (st := []) (r := _) (z2_RD_escaped (o := o) (d_ := d_) (inn := inn) (dp := dp) (flg := flg) (grp := grp) (na := na) (nl := nl) (lst := lst) (mst := mst) (bh := bh) (x := x) (se := se) (by_ := by_) (n := n) (pl := p2278) (fa := fa) (fp := fp) (kd := k2279) (kn := b2280) (nb := nb) (cnt := cnt) (P := P) (ps := ps) (wt := wt) (bs := bs) (gr := grp) (ph := ph) hd_ hx ppaI_0 pcsI_se ptbI_0 (by omega) (by omega) (by omega) (by omega) (by omega) (by omega) (by omega)) (fun oc G2 h => by rcases h with ⟨_, _, _, _, _, _, _, _, h, _⟩ <;> exact ⟨_, h⟩) (by omega) m_RD_escaped ml_RD_91 im_RD_escaped se_RD_escaped c_RD hd_.2.2 (Nat.le_of_ble_eq_true rfl) d_RD_part_115 rfl ?_
      intro v G351 hq
      rcases hq with ⟨o352, p353, ps2354, wt2355, ph2356, nb2357, c2358, P2359, hv, hfk, pNpaI_0, pNcsI_se, hq360, hq361, hq362, hq363, hq364, hq365, hq366, hq367, hq368, hq369⟩
      cases hv
      have hd_ := hfk.get hd_ (by decide)
      have hx := hfk.get hx (by decide)
      have hna := hfk.get hna (by decide)
      have hnl := hfk.get hnl (by decide)
      have hby_ := hfk.get hby_ (by decide)
      have h15 := hfk.get h15 (by decide)
      have h16 := hfk.get h16 (by decide)
      have popI_0 := popI_0.fz (o2 := o352) hq363 (by simp)
      have ptbI_0 := tbI.fr hfk ptbI_0  (by decide)
      have pszJ_0 := pszJ_0.fzk (o2 := o352) hq363
      have ppaI_0 := pNpaI_0
      have pcsI_se := pNcsI_se
      have hfr := hfr.tr hfk (by decide)
      have hq370 := hfk.1
      change ab_W _ _ _ G351 118 [some (vR d_), some (vz pl), some (vz (-2))] [vR p353] _
      have popI_0 : opI o352 G351 0 ps2354 k hi inn := opn_ps _ _ _ popI_0 (psx.lt hq360 (by omega))
      have pszJ_0 := (pszJ_0.leaf hq368 (s := (fi G351 p353 8)) ceq.rf (by have t := hq368.2.2.2.2.1.2.1; omega)).up (hi2 := p353) (by omega)
      have popI_0 := opn_up (hi2 := p353) popI_0 (by omega)
      have popI_0 : opI o352 G351 0 ps2354 k p353 inn := popI_0
      refine ab_aret (rt := _) rfl (Or.inl ⟨_, rfl⟩) (Or.inr ⟨_, rfl⟩) d_RD_part_118 ?_
      rw [hQ]; exact (Or.inr (Or.inr ⟨_, _, _, _, _, _, _, _, _, _, _, _, _, _, _, _, _, _, _, _, _, _, _, p2278, fr, (fi G351 p353 8), rfl, hfr, hd_, hx, hna, hnl, ppaI_0, popI_0, pcsI_se, pszJ_0, (by omega), (by omega), (by omega), (by exact hnm), (by omega), (by exact hq360.lt (by omega)), (by omega), (by omega), (by omega), (by omega), (by omega), (by omega), (by omega), (by omega), (by exact hq361), (by first | exact hkf | (simp only [List.length_cons]; omega) | omega), (by omega), (by omega), (by exact Or.inl ⟨Or.inr (Or.inl ⟨by omega, _, _, hq284, hq369⟩), rfl, rfl⟩), (by exact ⟨rfl, rfl, rfl⟩), (by omega)⟩))
    · cases hv
      have hd_ := hfk.get hd_ (by decide)
      have hna := hfk.get hna (by decide)
      have hnl := hfk.get hnl (by decide)
      have h15 := hfk.get h15 (by decide)
      have h16 := hfk.get h16 (by decide)
      have popI_0 := opI.fr hfk ppaI_0 popI_0 (by decide) (by decide)
      have pcsI_se := csI.fr hfk pcsI_se (by decide) (by decide)
      have ptbI_0 := tbI.fr hfk ptbI_0  (by decide)
      have pszJ_0 := szJ.fr hfk ppaI_0 pszJ_0 (by decide) (by decide)
      have ppaI_0 := paI.fr hfk ppaI_0 (by decide) (by decide) (by decide) (by decide)
      have hfr := hfr.tr hfk (by decide)
      have hq294 := hlk
      have hq295 := hsk
      have hx := hNx
      have hby_ := hNby_
      change ab_W _ _ _ G272 99 [some (vR d_), some (vz pl), none] [vz (-1)] _
      refine ab_istore_n d_RD_part_99 (Nat.le_of_ble_eq_true rfl) (Nat.le_of_ble_eq_true rfl) rfl ?_
      change ab_W _ _ _ G272 100 [some (vR d_), some (vz pl), some (vz (-1))] [] _
      refine ab_iload_n d_RD_part_100 rfl ?_
      refine zz_iconst d_RD_part_101 ?_
      refine zz_icmp_lt (tgt := 113) d_RD_part_102 (by decide) (by decide) (by decide) (fun c371 => absurd c371 (by decide)) (fun c371 => ?_)
      refine ab_aload_n d_RD_part_105 rfl ?_
      refine ab_iload_n d_RD_part_106 rfl ?_
      refine ab_callV (d' := d - 1) (as := [vz (-1)]) (st := []) (r := _) (zN_RD_literal (o := o) (d_ := d_) ) (fun oc G2 h => by rcases h with ⟨h, _⟩ <;> exact ⟨_, h⟩) (by omega) m_RD_literal ml_RD_87 im_RD_literal se_RD_literal c_RD hd_.2.2 (Nat.le_of_ble_eq_true rfl) d_RD_part_107 rfl ?_
      intro v G372 hq
      rcases hq with ⟨hv, hGe⟩
      cases hv
      rw [hGe]
      change ab_W _ _ _ G272 110 [some (vR d_), some (vz pl), some (vz (-1))] [vN] _
      refine ab_goto (tgt := 118) d_RD_part_110 (by decide) ?_
      refine ab_aret (rt := _) rfl (Or.inl ⟨_, rfl⟩) (Or.inl rfl) d_RD_part_118 ?_
      rw [hQ]; exact (Or.inl ⟨_, _, _, _, _, _, _, _, _, _, _, _, _, _, _, _, _, _, _, _, _, _, _, pl, fr, rfl, hfr, hd_, hx, hna, hnl, ppaI_0, popI_0, pcsI_se, pszJ_0, (by omega), (by omega), (by omega), (by exact hnm), (by omega), (by exact psx.rf), (by omega), (by omega), (by omega), (by omega), (by omega), (by omega), (by omega), (by omega), (by first | exact hkf | (simp only [List.length_cons]; omega) | omega), (by omega), (by exact Or.inl (Or.inl (Or.inl ⟨by omega, hq289, by omega⟩)))⟩)
  replace c271 : nzq v2 92 := c271
  by_cases c373 : v2 = 94
  · refine zz_lookup (off := 167) (tgt := 183) d_RD_part_16 (by decide) (by omega) (by rw [c373]; decide) (by decide) ?_
    refine ab_aload_n d_RD_part_183 rfl ?_
    refine ab_getf (fs := [vR x, inn, vz dp, vz flg, vz grp, vR na, vR nl, vz lst, vz mst, vz bh]) f_RD_12 d_RD_part_184 hd_.2.2 rfl ?_
    refine ab_dup d_RD_part_187 rfl ?_
    refine ab_getf (fs := [vR se, vR by_, vz n, vz pl, vz fa, vz fp, vR kd, vz kn]) f_RD_55 d_RD_part_188 hx.2.2 rfl ?_
    refine zz_iconst d_RD_part_191 ?_
    refine zz_iadd d_RD_part_192 ?_
    refine ab_putf (fs := [vR se, vR by_, vz n, vz pl, vz fa, vz fp, vR kd, vz kn]) f_RD_55 (Or.inl rfl) d_RD_part_193 hx.2.2 (Nat.le_of_ble_eq_true rfl) (fun _ => ⟨rfl, rfl⟩) (hx.2.1 (by decide)) ?_
    obtain ⟨G374, eG374⟩ : ∃ z : ab_G, z = List.set G x (ab_ob 10 [vR se, vR by_, vz n, vz (pl + 1), vz fa, vz fp, vR kd, vz kn]) := ⟨_, rfl⟩
    have hd_ := hd_.keep hx eG374 (by decide)
    have hna := hna.keep hx eG374 (by decide)
    have hnl := hnl.keep hx eG374 (by decide)
    have hby_ := hby_.keep hx eG374 (by decide)
    have h15 := h15.keep hx eG374 (by decide)
    have h16 := h16.keep hx eG374 (by decide)
    have hst := (fx.rf (o := o) (S := [24]) (G := G)).wr hx eG374 (List.mem_singleton.mpr rfl)
    have popI_0 := opI.fr hst ppaI_0 popI_0 (by decide) (by decide)
    have pcsI_se := csI.fr hst pcsI_se (by decide) (by decide)
    have ptbI_0 := tbI.fr hst ptbI_0  (by decide)
    have pszJ_0 := szJ.fr hst ppaI_0 pszJ_0 (by decide) (by decide)
    have ppaI_0 := paI.fr hst ppaI_0 (by decide) (by decide) (by decide) (by decide)
    have hq375 := z_len eG374
    have hq376 := z_sl hx eG374 rfl
    have hfr := hfr.wr hx eG374 (by decide)
    have hx := hx.kept eG374
    change ab_W _ _ _ (List.set G x (ab_ob 10 [vR se, vR by_, vz n, vz (pl + 1), vz fa, vz fp, vR kd, vz kn])) 196 [some (vR d_), some (vz pl), none] [] _
    rw [← eG374]
    refine ab_new (fs := [vz 0, vz 0, vN, vz 0, vz 0, vN, vN, vN, vz 0, vz 0, vz 0, vz 0, vz 0, vz 0, vz 0]) k_PA rfl cl_RD_18 inst_PA ini_PA d_RD_part_196 (by decide) (fun _ => rfl) (by omega) (by omega) ?_
    obtain ⟨G377, eG377⟩ : ∃ z : ab_G, z = G374 ++ [ab_ob 4 [vz 0, vz 0, vN, vz 0, vz 0, vN, vN, vN, vz 0, vz 0, vz 0, vz 0, vz 0, vz 0, vz 0]] := ⟨_, rfl⟩
    obtain ⟨o378, eo378⟩ : ∃ z : Nat → Nat, z = ol o G374.length 90 := ⟨_, rfl⟩
    obtain ⟨a379, ea379⟩ : ∃ z : Nat, z = G374.length := ⟨_, rfl⟩
    have hq380 := hby_.n0 (by first | decide | omega)
    have ne_a379_d_ : nq a379 d_ := by have hlt := hd_.lt; unfold nq; omega
    have ne_a379_x : nq a379 x := by have hlt := hx.lt; unfold nq; omega
    have ne_a379_na : nq a379 na := by have hlt := hna.lt; unfold nq; omega
    have ne_a379_nl : nq a379 nl := by have hlt := hnl.lt; unfold nq; omega
    have ne_a379_by_ : nq a379 by_ := by have hlt := hby_.lt; unfold nq; omega
    have ne_a379_15 : nq a379 15 := by have hlt := h15.lt; unfold nq; omega
    have ne_a379_16 : nq a379 16 := by have hlt := h16.lt; unfold nq; omega
    have hd_ := hd_.akeep (k := 90) eG377
    rw [← eo378] at hd_
    have hx := hx.akeep (k := 90) eG377
    rw [← eo378] at hx
    have hna := hna.akeep (k := 90) eG377
    rw [← eo378] at hna
    have hnl := hnl.akeep (k := 90) eG377
    rw [← eo378] at hnl
    have hby_ := hby_.akeep (k := 90) eG377
    rw [← eo378] at hby_
    have h15 := h15.akeep (k := 90) eG377
    rw [← eo378] at h15
    have h16 := h16.akeep (k := 90) eG377
    rw [← eo378] at h16
    have hst := (fx.rf (o := o) (S := []) (G := G374)).ap (k := 90) eG377
    rw [← eo378] at hst
    have hnpa379 := ppaI_0.new (a := a379) (by omega)
    have popI_0 := opI.fr hst ppaI_0 popI_0 (by decide) (by decide)
    have pcsI_se := csI.fr hst pcsI_se (by decide) (by decide)
    have ptbI_0 := tbI.fr hst ptbI_0  (by simp)
    have pszJ_0 := szJ.fr hst ppaI_0 pszJ_0 (by decide) (by decide)
    have ppaI_0 := paI.fr hst ppaI_0 (by decide) (by decide) (by decide) (by simp)
    have ha379 := cc.anew (o := o) 90 eG377 hq380
    rw [← eo378, ← ea379] at ha379
    have hfr := hfr.ap (k := 90) eG377
    rw [← eo378] at hfr
    have hq381 := z_alen eG377
    have hq382 : ab_slots G377 = ab_slots G374 + 15 := z_asl eG377 hq380
    change ab_W _ _ _ (G374 ++ [ab_ob 4 [vz 0, vz 0, vN, vz 0, vz 0, vN, vN, vN, vz 0, vz 0, vz 0, vz 0, vz 0, vz 0, vz 0]]) 199 [some (vR d_), some (vz pl), none] [.ref G374.length] _
    rw [← eG377, ← ea379]
    change ab_W _ _ _ G377 199 [some (vR d_), some (vz pl), none] [vR a379] _
    refine ab_dup d_RD_part_199 rfl ?_
    refine zz_iconst d_RD_part_200 ?_
    refine ab_aload_n d_RD_part_201 rfl ?_
    refine zz_iconst d_RD_part_202 ?_
    refine ab_callV (d' := d - 1) (as := [vz 2]) (st := [vz 3, vR a379, vR a379]) (r := _) (z2_RD_isOn (o := o378) (d_ := d_) (inn := inn) (dp := dp) (flg := flg) (grp := grp) (na := na) (nl := nl) (lst := lst) (mst := mst) (bh := bh) (x := x) hd_ (by omega)) (fun oc G2 h => by rcases h with ⟨_, h, _⟩ <;> exact ⟨_, h⟩) (by omega) m_RD_isOn ml_RD_94 im_RD_isOn se_RD_isOn c_RD hd_.2.2 (Nat.le_of_ble_eq_true rfl) d_RD_part_203 rfl ?_
    intro v G383 hq
    rcases hq with ⟨v384, hv, hGe, hq385, hq386⟩
    cases hv
    rw [hGe]
    change ab_W _ _ _ G377 206 [some (vR d_), some (vz pl), none] [vz v384, vz 3, vR a379, vR a379] _
    refine zz_if_eq (tgt := 213) d_RD_part_206 (by decide) (by omega) (fun c387 => ?_) (fun c387 => ?_)
    · refine zz_iconst d_RD_part_213 ?_
      refine zz_iconst d_RD_part_214 ?_
      refine zz_iconst d_RD_part_215 ?_
      refine ab_callI (d' := d - 1) (as := [vz 3, vz 0, vz 1, vz 1]) (st := [vR a379]) (z90_PA_init (o := o378) (a := a379) (k0 := 3) (v0 := 0) (s0 := 1) (m0 := 1) (ps := ps) (wt := wt) (bs := bs) (gr := grp) (Pr := pr0) (ph := ph) ha379 ppaI_0 (by omega) (by omega) (by omega) (by omega)) (fun oc G2 h => by rcases h with ⟨h, _⟩ <;> exact ⟨_, h⟩) (by omega) m_PA_init ml_RD_20 im_PA_init rfl (Nat.le_of_ble_eq_true rfl) d_RD_part_216 rfl ?_
      intro v G388 hq
      rcases hq with ⟨hv, hfk, hlk, hsk, hNa379, pNpaI_0, hq389⟩
      cases hv
      have hd_ := hfk.get hd_ (by decide)
      have hx := hfk.get hx (by decide)
      have hna := hfk.get hna (by decide)
      have hnl := hfk.get hnl (by decide)
      have hby_ := hfk.get hby_ (by decide)
      have h15 := hfk.get h15 (by decide)
      have h16 := hfk.get h16 (by decide)
      have popI_0 := popI_0.fz (o2 := o378) hq389 (by simp)
      have pcsI_se := csI.fr hfk pcsI_se (by decide) (by decide)
      have ptbI_0 := tbI.fr hfk ptbI_0  (by decide)
      have pszJ_0 := pszJ_0.fzk (o2 := o378) hq389
      have ppaI_0 := pNpaI_0
      have hfr := hfr.tr hfk (by decide)
      have hq390 := hlk
      have hq391 := hsk
      have ha379 := hNa379
      change ab_W _ _ _ G388 219 [some (vR d_), some (vz pl), none] [vR a379] _
      have hnf_ := ppaI_0.nref hnpa379
      have hnp9_ := hnpa379
      have hlt392 := ha379.lt
      have hn392 : paN grp pr0 3 0 (-1) := ⟨by omega, by intro _; omega, by intro _; omega, by intro _; omega, pr0_⟩
      obtain ⟨ps392, wt392, hx392, hxo392, hpa392, ppaI_0⟩ : ∃ pz wz : Nat → Nat, psx ps pz a379 ∧ (∀ x, ¬ x = a379 → pz x = ps x) ∧ pz a379 = 90 ∧ paI o378 G388 0 pz wz bs grp pr0 (ph + 0) := ⟨_, _, psx.ol (Nat.le_refl _), fun x hx => if_neg hx, ol_self, ppaI_0.ad90 0 hnpa379 (by omega) ha379 hn392 (by unfold pnB; omega) (Or.inl ⟨by omega, rfl⟩) (Or.inl rfl) (Or.inl rfl) (Or.inl rfl)⟩
      have popI_0 : opI o378 G388 0 ps392 k hi inn := opn_ps _ _ _ popI_0 (psx.lt hx392 (by omega))
      have hlf_ : leafp ps ps392 G388 a379 := leafp.mk hnf_ hnp9_ hxo392 hpa392 ha379 (by omega)
      have pszJ_0 := (pszJ_0.leaf hlf_ (s := (fi G388 a379 8)) ceq.rf (by have t := hlf_.2.2.2.2.1.2.1; omega)).up (hi2 := a379) (by omega)
      have popI_0 := opn_up (hi2 := a379) popI_0 (by omega)
      have popI_0 : opI o378 G388 0 ps392 k a379 inn := popI_0
      refine ab_aret (rt := _) rfl (Or.inl ⟨_, rfl⟩) (Or.inr ⟨_, rfl⟩) d_RD_part_219 ?_
      rw [hQ]; exact (Or.inr (Or.inr ⟨_, _, _, _, _, _, _, _, _, _, _, _, _, _, _, _, _, _, _, _, _, _, _, (pl + 1), fr, (fi G388 a379 8), rfl, hfr, hd_, hx, hna, hnl, ppaI_0, popI_0, pcsI_se, pszJ_0, (by omega), (by omega), (by omega), (by exact hnm), (by have hlt := ha379.lt; omega), (by exact hx392.lt (by omega)), (by omega), (by omega), (by omega), (by omega), (by omega), (by omega), (by omega), (by omega), (by exact hpa392), (by first | exact hkf | (simp only [List.length_cons]; omega) | omega), (by omega), (by omega), (by exact Or.inl ⟨Or.inr (Or.inr (Or.inr (Or.inr (Or.inl ⟨by omega, by omega, (fi_pa ha379 (by omega) (by omega)).2.2.1⟩)))), rfl, rfl⟩), (by exact ⟨rfl, rfl, rfl⟩), (by omega)⟩))
    · refine zz_iconst d_RD_part_209 ?_
      refine ab_goto (tgt := 214) d_RD_part_210 (by decide) ?_
      refine zz_iconst d_RD_part_214 ?_
      refine zz_iconst d_RD_part_215 ?_
      refine ab_callI (d' := d - 1) (as := [vz 3, vz 2, vz 1, vz 1]) (st := [vR a379]) (z90_PA_init (o := o378) (a := a379) (k0 := 3) (v0 := 2) (s0 := 1) (m0 := 1) (ps := ps) (wt := wt) (bs := bs) (gr := grp) (Pr := pr0) (ph := ph) ha379 ppaI_0 (by omega) (by omega) (by omega) (by omega)) (fun oc G2 h => by rcases h with ⟨h, _⟩ <;> exact ⟨_, h⟩) (by omega) m_PA_init ml_RD_20 im_PA_init rfl (Nat.le_of_ble_eq_true rfl) d_RD_part_216 rfl ?_
      intro v G393 hq
      rcases hq with ⟨hv, hfk, hlk, hsk, hNa379, pNpaI_0, hq394⟩
      cases hv
      have hd_ := hfk.get hd_ (by decide)
      have hx := hfk.get hx (by decide)
      have hna := hfk.get hna (by decide)
      have hnl := hfk.get hnl (by decide)
      have hby_ := hfk.get hby_ (by decide)
      have h15 := hfk.get h15 (by decide)
      have h16 := hfk.get h16 (by decide)
      have popI_0 := popI_0.fz (o2 := o378) hq394 (by simp)
      have pcsI_se := csI.fr hfk pcsI_se (by decide) (by decide)
      have ptbI_0 := tbI.fr hfk ptbI_0  (by decide)
      have pszJ_0 := pszJ_0.fzk (o2 := o378) hq394
      have ppaI_0 := pNpaI_0
      have hfr := hfr.tr hfk (by decide)
      have hq395 := hlk
      have hq396 := hsk
      have ha379 := hNa379
      change ab_W _ _ _ G393 219 [some (vR d_), some (vz pl), none] [vR a379] _
      have hnf_ := ppaI_0.nref hnpa379
      have hnp9_ := hnpa379
      have hlt397 := ha379.lt
      have hn397 : paN grp pr0 3 2 (-1) := ⟨by omega, by intro _; omega, by intro _; omega, by intro _; omega, pr0_⟩
      obtain ⟨ps397, wt397, hx397, hxo397, hpa397, ppaI_0⟩ : ∃ pz wz : Nat → Nat, psx ps pz a379 ∧ (∀ x, ¬ x = a379 → pz x = ps x) ∧ pz a379 = 90 ∧ paI o378 G393 0 pz wz bs grp pr0 (ph + 0) := ⟨_, _, psx.ol (Nat.le_refl _), fun x hx => if_neg hx, ol_self, ppaI_0.ad90 0 hnpa379 (by omega) ha379 hn397 (by unfold pnB; omega) (Or.inl ⟨by omega, rfl⟩) (Or.inl rfl) (Or.inl rfl) (Or.inl rfl)⟩
      have popI_0 : opI o378 G393 0 ps397 k hi inn := opn_ps _ _ _ popI_0 (psx.lt hx397 (by omega))
      have hlf_ : leafp ps ps397 G393 a379 := leafp.mk hnf_ hnp9_ hxo397 hpa397 ha379 (by omega)
      have pszJ_0 := (pszJ_0.leaf hlf_ (s := (fi G393 a379 8)) ceq.rf (by have t := hlf_.2.2.2.2.1.2.1; omega)).up (hi2 := a379) (by omega)
      have popI_0 := opn_up (hi2 := a379) popI_0 (by omega)
      have popI_0 : opI o378 G393 0 ps397 k a379 inn := popI_0
      refine ab_aret (rt := _) rfl (Or.inl ⟨_, rfl⟩) (Or.inr ⟨_, rfl⟩) d_RD_part_219 ?_
      rw [hQ]; exact (Or.inr (Or.inr ⟨_, _, _, _, _, _, _, _, _, _, _, _, _, _, _, _, _, _, _, _, _, _, _, (pl + 1), fr, (fi G393 a379 8), rfl, hfr, hd_, hx, hna, hnl, ppaI_0, popI_0, pcsI_se, pszJ_0, (by omega), (by omega), (by omega), (by exact hnm), (by have hlt := ha379.lt; omega), (by exact hx397.lt (by omega)), (by omega), (by omega), (by omega), (by omega), (by omega), (by omega), (by omega), (by omega), (by exact hpa397), (by first | exact hkf | (simp only [List.length_cons]; omega) | omega), (by omega), (by omega), (by exact Or.inl ⟨Or.inr (Or.inr (Or.inr (Or.inr (Or.inl ⟨by omega, by omega, (fi_pa ha379 (by omega) (by omega)).2.2.1⟩)))), rfl, rfl⟩), (by exact ⟨rfl, rfl, rfl⟩), (by omega)⟩))
  replace c373 : nzq v2 94 := c373
  by_cases c398 : v2 = 124
  · refine zz_lookup (off := 241) (tgt := 257) d_RD_part_16 (by decide) (by omega) (by rw [c398]; decide) (by decide) ?_
    refine ab_aload_n d_RD_part_257 rfl ?_
    refine ab_getf (fs := [vR x, inn, vz dp, vz flg, vz grp, vR na, vR nl, vz lst, vz mst, vz bh]) f_RD_12 d_RD_part_258 hd_.2.2 rfl ?_
    refine ab_dup d_RD_part_261 rfl ?_
    refine ab_getf (fs := [vR se, vR by_, vz n, vz pl, vz fa, vz fp, vR kd, vz kn]) f_RD_55 d_RD_part_262 hx.2.2 rfl ?_
    refine zz_iconst d_RD_part_265 ?_
    refine zz_iadd d_RD_part_266 ?_
    refine ab_putf (fs := [vR se, vR by_, vz n, vz pl, vz fa, vz fp, vR kd, vz kn]) f_RD_55 (Or.inl rfl) d_RD_part_267 hx.2.2 (Nat.le_of_ble_eq_true rfl) (fun _ => ⟨rfl, rfl⟩) (hx.2.1 (by decide)) ?_
    obtain ⟨G399, eG399⟩ : ∃ z : ab_G, z = List.set G x (ab_ob 10 [vR se, vR by_, vz n, vz (pl + 1), vz fa, vz fp, vR kd, vz kn]) := ⟨_, rfl⟩
    have hd_ := hd_.keep hx eG399 (by decide)
    have hna := hna.keep hx eG399 (by decide)
    have hnl := hnl.keep hx eG399 (by decide)
    have hby_ := hby_.keep hx eG399 (by decide)
    have h15 := h15.keep hx eG399 (by decide)
    have h16 := h16.keep hx eG399 (by decide)
    have hst := (fx.rf (o := o) (S := [24]) (G := G)).wr hx eG399 (List.mem_singleton.mpr rfl)
    have popI_0 := opI.fr hst ppaI_0 popI_0 (by decide) (by decide)
    have pcsI_se := csI.fr hst pcsI_se (by decide) (by decide)
    have ptbI_0 := tbI.fr hst ptbI_0  (by decide)
    have pszJ_0 := szJ.fr hst ppaI_0 pszJ_0 (by decide) (by decide)
    have ppaI_0 := paI.fr hst ppaI_0 (by decide) (by decide) (by decide) (by decide)
    have hq400 := z_len eG399
    have hq401 := z_sl hx eG399 rfl
    have hfr := hfr.wr hx eG399 (by decide)
    have hx := hx.kept eG399
    change ab_W _ _ _ (List.set G x (ab_ob 10 [vR se, vR by_, vz n, vz (pl + 1), vz fa, vz fp, vR kd, vz kn])) 270 [some (vR d_), some (vz pl), none] [] _
    rw [← eG399]
    obtain ⟨j402, hj402⟩ : ∃ j, k = j + 1 := ⟨k - 1, by omega⟩
    rw [hj402] at popI_0
    obtain ⟨g402, r402, w402, lv402, hv402, ⟨hpg402, hpr402⟩, ⟨hgl402, hrl402⟩, hf6402, hf5402, hr6402, hlv402, hop402⟩ := popI_0
    subst hv402
    obtain ⟨k_403, v_403, rg_403, pl_403, fl_403, ou_403, ls_403, bf_403, sz_403, mb_403, oe_403, le_403, mo_403, la_403, rc_403, hg402, hn403, hb403, hg403, ho403, hl403, hf403⟩ := ppaI_0.1 g402 hpg402
    have hB403 := hb403
    unfold pnB at hB403
    have hK403 := hn403.1
    obtain ⟨ls404, bf404, sz404, mb404, hr402, hB404, hl404, hf404⟩ := ppaI_0.2.1 r402 hpr402
    have e6402 : some ls_403 = some (vR r402) := by have t := hf6402; unfold pf at t; rw [hg402.2.2] at t; exact t
    have e6402 := Option.some.inj e6402
    subst e6402
    have e5402 : some ou_403 = some w402 := by have t := hf5402; unfold pf at t; rw [hg402.2.2] at t; exact t
    have e5402 := Option.some.inj e5402
    subst e5402
    have e7402 : some ls404 = some lv402 := by have t := hr6402; unfold pf at t; rw [hr402.2.2] at t; exact t
    have e7402 := Option.some.inj e7402
    subst e7402
    have popI_0 : opI o G399 0 ps j402 g402 ou_403 := hop402
    have hnq402 : nq g402 r402 := hg402.ne hr402 (by decide)
    change ab_W _ _ _ G399 270 [some (vR d_), some (vz pl), none] [] _
    refine ab_aload_n d_RD_part_270 rfl ?_
    refine ab_getf (fs := [vR x, vR g402, vz dp, vz flg, vz grp, vR na, vR nl, vz lst, vz mst, vz bh]) f_RD_23 d_RD_part_271 hd_.2.2 rfl ?_
    refine ab_new (fs := [vz 0, vz 0, vN, vz 0, vz 0, vN, vN, vN, vz 0, vz 0, vz 0, vz 0, vz 0, vz 0, vz 0]) k_PA rfl cl_RD_18 inst_PA ini_PA d_RD_part_274 (by decide) (fun _ => rfl) (by omega) (by omega) ?_
    obtain ⟨G405, eG405⟩ : ∃ z : ab_G, z = G399 ++ [ab_ob 4 [vz 0, vz 0, vN, vz 0, vz 0, vN, vN, vN, vz 0, vz 0, vz 0, vz 0, vz 0, vz 0, vz 0]] := ⟨_, rfl⟩
    obtain ⟨o406, eo406⟩ : ∃ z : Nat → Nat, z = ol o G399.length 94 := ⟨_, rfl⟩
    obtain ⟨a407, ea407⟩ : ∃ z : Nat, z = G399.length := ⟨_, rfl⟩
    have hq408 := hr402.n0 (by first | decide | omega)
    have ne_a407_d_ : nq a407 d_ := by have hlt := hd_.lt; unfold nq; omega
    have ne_a407_x : nq a407 x := by have hlt := hx.lt; unfold nq; omega
    have ne_a407_na : nq a407 na := by have hlt := hna.lt; unfold nq; omega
    have ne_a407_nl : nq a407 nl := by have hlt := hnl.lt; unfold nq; omega
    have ne_a407_by_ : nq a407 by_ := by have hlt := hby_.lt; unfold nq; omega
    have ne_a407_15 : nq a407 15 := by have hlt := h15.lt; unfold nq; omega
    have ne_a407_16 : nq a407 16 := by have hlt := h16.lt; unfold nq; omega
    have ne_a407_g402 : nq a407 g402 := by have hlt := hg402.lt; unfold nq; omega
    have ne_a407_r402 : nq a407 r402 := by have hlt := hr402.lt; unfold nq; omega
    have hd_ := hd_.akeep (k := 94) eG405
    rw [← eo406] at hd_
    have hx := hx.akeep (k := 94) eG405
    rw [← eo406] at hx
    have hna := hna.akeep (k := 94) eG405
    rw [← eo406] at hna
    have hnl := hnl.akeep (k := 94) eG405
    rw [← eo406] at hnl
    have hby_ := hby_.akeep (k := 94) eG405
    rw [← eo406] at hby_
    have h15 := h15.akeep (k := 94) eG405
    rw [← eo406] at h15
    have h16 := h16.akeep (k := 94) eG405
    rw [← eo406] at h16
    have hg402 := hg402.akeep (k := 94) eG405
    rw [← eo406] at hg402
    have hr402 := hr402.akeep (k := 94) eG405
    rw [← eo406] at hr402
    have hst := (fx.rf (o := o) (S := []) (G := G399)).ap (k := 94) eG405
    rw [← eo406] at hst
    have hnpa407 := ppaI_0.new (a := a407) (by omega)
    have pcsI_se := csI.fr hst pcsI_se (by decide) (by decide)
    have ptbI_0 := tbI.fr hst ptbI_0  (by simp)
    have pszJ_0 := szJ.fr hst ppaI_0 pszJ_0 (by decide) (by decide)
    have popI_0 := opI.fr hst ppaI_0 popI_0 (by decide) (by decide)
    have ppaI_0 := paI.fr hst ppaI_0 (by decide) (by decide) (by decide) (by simp)
    have ha407 := cc.anew (o := o) 94 eG405 hq408
    rw [← eo406, ← ea407] at ha407
    have hfr := hfr.ap (k := 94) eG405
    rw [← eo406] at hfr
    have hq409 := z_alen eG405
    have hq410 : ab_slots G405 = ab_slots G399 + 15 := z_asl eG405 hq408
    change ab_W _ _ _ (G399 ++ [ab_ob 4 [vz 0, vz 0, vN, vz 0, vz 0, vN, vN, vN, vz 0, vz 0, vz 0, vz 0, vz 0, vz 0, vz 0]]) 277 [some (vR d_), some (vz pl), none] [.ref G399.length, vR g402] _
    rw [← eG405, ← ea407]
    change ab_W _ _ _ G405 277 [some (vR d_), some (vz pl), none] [vR a407, vR g402] _
    refine ab_dup d_RD_part_277 rfl ?_
    refine zz_iconst d_RD_part_278 ?_
    refine zz_iconst d_RD_part_279 ?_
    refine zz_iconst d_RD_part_280 ?_
    refine zz_iconst d_RD_part_281 ?_
    refine ab_callI (d' := d - 1) (as := [vz 5, vz 0, vz 0, vz 1]) (st := [vR a407, vR g402]) (z94_PA_init (o := o406) (a := a407) (k0 := 5) (v0 := 0) (s0 := 0) (m0 := 1) (ps := ps) (wt := wt) (bs := bs) (gr := grp) (Pr := pr0) (ph := ph) ha407 ppaI_0 (by omega) (by omega) (by omega) (by omega)) (fun oc G2 h => by rcases h with ⟨h, _⟩ <;> exact ⟨_, h⟩) (by omega) m_PA_init ml_RD_20 im_PA_init rfl (Nat.le_of_ble_eq_true rfl) d_RD_part_282 rfl ?_
    intro v G411 hq
    rcases hq with ⟨hv, hfk, hlk, hsk, hNa407, pNpaI_0, hq412⟩
    cases hv
    have hd_ := hfk.get hd_ (by decide)
    have hx := hfk.get hx (by decide)
    have hna := hfk.get hna (by decide)
    have hnl := hfk.get hnl (by decide)
    have hby_ := hfk.get hby_ (by decide)
    have h15 := hfk.get h15 (by decide)
    have h16 := hfk.get h16 (by decide)
    have hg402 := hfk.get hg402 (by decide)
    have hKr402 := hq412.get hfk hr402 (Or.inr hpr402) (by simp only [List.mem_cons, List.not_mem_nil, or_false, not_or]; exact not_false)
    have hr402 := hKr402
    have pcsI_se := csI.fr hfk pcsI_se (by decide) (by decide)
    have ptbI_0 := tbI.fr hfk ptbI_0  (by decide)
    have pszJ_0 := pszJ_0.fzk (o2 := o406) hq412
    have popI_0 := popI_0.fz (o2 := o406) hq412 (by simp)
    have ppaI_0 := pNpaI_0
    have hfr := hfr.tr hfk (by decide)
    have hq413 := hlk
    have hq414 := hsk
    have ha407 := hNa407
    change ab_W _ _ _ G411 285 [some (vR d_), some (vz pl), none] [vR a407, vR g402] _
    have hnf_ := ppaI_0.nref hnpa407
    have hnp9_ := hnpa407
    obtain ⟨a1_, b1_, c1_, d1_, e1_, t_, hft_⟩ := pszJ_0.hd (by omega)
    rw [hft_] at pszJ_0
    have hsz9 := pszJ_0
    have hg9 := hg402
    have hlt415 := ha407.lt
    obtain ⟨ps415, hx415, hxo415, hpa415, ppaI_0⟩ : ∃ pz : Nat → Nat, psx ps pz a407 ∧ (∀ x, ¬ x = a407 → pz x = ps x) ∧ pz a407 = 94 ∧ paI o406 G411 0 pz wt bs grp pr0 ph := ⟨_, psx.ol (Nat.le_refl _), fun x hx => if_neg hx, ol_self, ppaI_0.ad94 hnpa407 ha407 (by omega) (Or.inl rfl) (Or.inl rfl)⟩
    have hp416 : ps415 g402 = 90 := hx415.at (by have hlt := hg402.lt; omega) hpg402
    have hp417 : ps415 r402 = 94 := hx415.at (by have hlt := hr402.lt; omega) hpr402
    have hl418 := ho403.ps (by have hlt := hg402.lt; omega) hx415
    have hl419 := hl403.ps (by omega) hx415
    have hl420 := hf403.ps (by have hlt := hg402.lt; omega) hx415
    have hl421 := hl404.ps (by omega) hx415
    have hl422 := hf404.ps (by have hlt := hr402.lt; omega) hx415
    have hl423 := hlv402.ps (by omega) hx415
    have popI_0 : opI o406 G411 0 ps415 j402 g402 ou_403 := opn_ps _ _ _ popI_0 (psx.lt hx415 (by omega))
    have hfz : fz ps415 [g402, a407] G411 G411 := fz.rf
    refine ab_callV (d' := d - 1) (as := [vR a407]) (st := []) (r := _) (z90_PA_push (o := o406) (k := k_403) (v := v_403) (rg := rg_403) (pl := pl_403) (fl := fl_403) (ou := ou_403) (ls := vR r402) (bf := bf_403) (sz := sz_403) (mb := mb_403) (oe := oe_403) (le := le_403) (mo := mo_403) (la := la_403) (rc := rc_403) (lr := vN) (br := vN) (sr := 0) (mr := 1) (ps := ps415) (wt := wt) (bs := bs) (gr := grp) (Pr := pr0) (ph := ph) (r := a407) (p := g402) hg402 ha407 ppaI_0 (by omega) hp416 hpa415 hn403 (by omega) (by omega) (hl418.up (by omega)) (Or.inr ⟨_, rfl, hp417, by have hlt := hr402.lt; omega⟩) (hl420.up (by omega)) (Or.inl rfl) (Or.inl rfl) (Or.inr ⟨_, rfl, hp417, by have hlt := hr402.lt; omega⟩) (by omega)) (fun oc G2 h => by rcases h with ⟨h, _⟩ <;> exact ⟨_, h⟩) (by omega) m_PA_push ml_RD_48 im_PA_push se_PA_push c_PA hg402.2.2 (Nat.le_of_ble_eq_true rfl) d_RD_part_285 rfl ?_
    intro v G424 hq
    rcases hq with ⟨hv, hfk, hlk, hsk, hNg402, hNa407, pNpaI_0, hq425⟩
    cases hv
    have hd_ := hfk.get hd_ (by decide)
    have hx := hfk.get hx (by decide)
    have hna := hfk.get hna (by decide)
    have hnl := hfk.get hnl (by decide)
    have hby_ := hfk.get hby_ (by decide)
    have h15 := hfk.get h15 (by decide)
    have h16 := hfk.get h16 (by decide)
    have hKr402 := hq425.get hfk hr402 (Or.inr hp417) (by simp only [List.mem_cons, List.not_mem_nil, or_false, not_or]; exact ⟨(hr402.ne hg402 (by decide)), (nq.s ne_a407_r402)⟩)
    have hr402 := hKr402
    have hfz := hfz.tr hq425 (by simp)
    have pcsI_se := csI.fr hfk pcsI_se (by decide) (by decide)
    have ptbI_0 := tbI.fr hfk ptbI_0  (by decide)
    have popI_0 := popI_0.fz (o2 := o406) hq425 (by intro y hy; simp only [List.mem_cons, List.not_mem_nil, or_false] at hy; omega)
    have ppaI_0 := pNpaI_0
    have hfr := hfr.tr hfk (by decide)
    have hq426 := hlk
    have hq427 := hsk
    have hg402 := hNg402
    have ha407 := hNa407
    change ab_W _ _ _ G424 288 [some (vR d_), some (vz pl), none] [] _
    refine ab_null d_RD_part_288 ?_
    have popI_0 : opI o406 G424 0 ps415 (j402 + 1) G424.length (vR g402) := ⟨g402, a407, ou_403, (vN), rfl, ⟨hp416, hpa415⟩, ⟨by omega, by omega⟩, by unfold pf; rw [hg402.2.2]; rfl, by unfold pf; rw [hg402.2.2]; rfl, by unfold pf; rw [ha407.2.2]; rfl, (Or.inl rfl), popI_0⟩
    rw [← hj402] at popI_0
    have pszJ_0 : szJ o406 G424 0 ps415 ((a1_, b1_, c1_, (d1_ + e1_ + 1), 0) :: t_) G424.length (vR g402) wh 0 0 := (szJ.barC hsz9 hnf_ hnp9_ hxo415 hpa415 hfz hg9 hg402 ha407 (by omega) (by omega)).up (by omega)
    refine ab_aret (rt := _) rfl (Or.inl ⟨_, rfl⟩) (Or.inl rfl) d_RD_part_289 ?_
    rw [hQ]; exact (Or.inr (Or.inl ⟨_, _, _, _, _, _, _, _, _, _, _, _, _, _, _, _, _, _, _, _, _, _, _, (pl + 1), ((a1_, b1_, c1_, (d1_ + e1_ + 1), 0) :: t_), rfl, hfr, hd_, hx, hna, hnl, ppaI_0, popI_0, pcsI_se, pszJ_0, (by omega), (by omega), (by omega), (by exact hnm), (by omega), (by exact hx415.lt (by omega)), (by omega), (by omega), (by omega), (by omega), (by omega), (by omega), (by omega), (by omega), (by first | exact hkf | (simp only [List.length_cons]; omega) | omega | (have t := congrArg List.length hft_; simp only [List.length_cons] at t ⊢; omega) | (have t := congrArg List.length hft_; simp only [List.length_cons] at t; omega)), (by omega), (by omega), (by exact Or.inl ⟨by omega, ⟨by omega, rfl, rfl, rfl, rfl⟩, _, _, _, _, _, _, hft_, rfl⟩), (by omega)⟩))
  replace c398 : nzq v2 124 := c398
  refine zz_lookup (off := 274) (tgt := 290) d_RD_part_16 (by decide) (by omega) (by simp only [Op.lookupswitch.offset]; rw [if_neg (fun h => c5 h.symm)]; rw [if_neg (fun h => c30 h.symm)]; rw [if_neg (fun h => c114 h.symm)]; rw [if_neg (fun h => c162 h.symm)]; rw [if_neg (fun h => c205 h.symm)]; rw [if_neg (fun h => c271 h.symm)]; rw [if_neg (fun h => c373 h.symm)]; rw [if_neg (fun h => c398 h.symm)]) (by decide) ?_
  refine ab_aload_n d_RD_part_290 rfl ?_
  refine ab_callV (d' := d - 1) (as := []) (st := []) (r := _) (z_RD_isRepeat (o := o) (d_ := d_) (inn := inn) (dp := dp) (flg := flg) (grp := grp) (na := na) (nl := nl) (lst := lst) (mst := mst) (bh := bh) (x := x) (se := se) (by_ := by_) (m := m) (f := f) (n := n) (pl := pl) (fa := fa) (fp := fp) (kd := kd) (kn := kn) hd_ hx hby_ (by omega) hb (by omega) (by omega) (by omega)) (fun oc G2 h => by rcases h with ⟨_, _, _, h, _⟩ | ⟨_, _, _, h, _⟩ | ⟨_, _, _, h, _⟩ <;> exact ⟨_, h⟩) (by omega) m_RD_isRepeat ml_RD_119 im_RD_isRepeat se_RD_isRepeat c_RD hd_.2.2 (Nat.le_of_ble_eq_true rfl) d_RD_part_291 rfl ?_
  intro v G429 hq
  rcases hq with ⟨l2430, m2431, bh2432, hv, hfk, hlk, hsk, hNd_, hq433, hq434, hq435⟩ | ⟨l2436, m2437, bh2438, hv, hfk, hlk, hsk, hNd_, hq439, hq440, hq441⟩ | ⟨l2442, m2443, bh2444, hv, hfk, hlk, hsk, hNd_, hq445, hq446⟩
  · cases hv
    have hx := hfk.get hx (by decide)
    have hna := hfk.get hna (by decide)
    have hnl := hfk.get hnl (by decide)
    have hby_ := hfk.get hby_ (by decide)
    have h15 := hfk.get h15 (by decide)
    have h16 := hfk.get h16 (by decide)
    have popI_0 := opI.fr hfk ppaI_0 popI_0 (by decide) (by decide)
    have pcsI_se := csI.fr hfk pcsI_se (by decide) (by decide)
    have ptbI_0 := tbI.fr hfk ptbI_0  (by decide)
    have pszJ_0 := szJ.fr hfk ppaI_0 pszJ_0 (by decide) (by decide)
    have ppaI_0 := paI.fr hfk ppaI_0 (by decide) (by decide) (by decide) (by decide)
    have hfr := hfr.tr hfk (by decide)
    have hq447 := hlk
    have hq448 := hsk
    have hd_ := hNd_
    change ab_W _ _ _ G429 294 [some (vR d_), some (vz pl), none] [vz 1] _
    refine zz_if_eq (tgt := 310) d_RD_part_294 (by decide) (by decide) (fun c453 => absurd c453 (by decide)) (fun c453 => ?_)
    refine ab_aload_n d_RD_part_297 rfl ?_
    refine ab_getf (fs := [vR x, inn, vz dp, vz flg, vz grp, vR na, vR nl, vz l2430, vz m2431, vz bh2432]) f_RD_12 d_RD_part_298 hd_.2.2 rfl ?_
    refine zz_bipush d_RD_part_301 (by decide) ?_
    refine ab_iload_n d_RD_part_303 rfl ?_
    refine ab_callV (d' := d - 1) (as := [vz 8, vz pl]) (st := []) (r := _) (z_TX_fail (o := o) (x := x) (lx := 24) (se := se) (by_ := by_) (n := n) (pl := pl) (fa := fa) (fp := fp) (kd := kd) (kn := kn) (w := 8) (p := pl) hx (by omega) (by omega) (by omega)) (fun oc G2 h => by rcases h with ⟨h, _⟩ | ⟨h, _⟩ <;> exact ⟨_, h⟩) (by omega) m_TX_fail ml_RD_69 im_TX_fail se_TX_fail c_TX hx.2.2 (Nat.le_of_ble_eq_true rfl) d_RD_part_304 rfl ?_
    intro v G454 hq
    rcases hq with ⟨hv, hfk, hlk, hsk, hNx, hq455⟩ | ⟨hv, hGe, hq456⟩
    · cases hv
      have hd_ := hfk.get hd_ (by decide)
      have hna := hfk.get hna (by decide)
      have hnl := hfk.get hnl (by decide)
      have hby_ := hfk.get hby_ (by decide)
      have h15 := hfk.get h15 (by decide)
      have h16 := hfk.get h16 (by decide)
      have popI_0 := opI.fr hfk ppaI_0 popI_0 (by decide) (by decide)
      have pcsI_se := csI.fr hfk pcsI_se (by decide) (by decide)
      have ptbI_0 := tbI.fr hfk ptbI_0  (by decide)
      have pszJ_0 := szJ.fr hfk ppaI_0 pszJ_0 (by decide) (by decide)
      have ppaI_0 := paI.fr hfk ppaI_0 (by decide) (by decide) (by decide) (by decide)
      have hfr := hfr.tr hfk (by decide)
      have hq457 := hlk
      have hq458 := hsk
      have hx := hNx
      change ab_W _ _ _ G454 307 [some (vR d_), some (vz pl), none] [vz (-1)] _
      refine ab_pop d_RD_part_307 rfl ?_
      refine ab_null d_RD_part_308 ?_
      refine ab_aret (rt := _) rfl (Or.inl ⟨_, rfl⟩) (Or.inl rfl) d_RD_part_309 ?_
      rw [hQ]; exact (Or.inl ⟨_, _, _, _, _, _, _, _, _, _, _, _, _, _, _, _, _, _, _, _, _, _, _, pl, fr, rfl, hfr, hd_, hx, hna, hnl, ppaI_0, popI_0, pcsI_se, pszJ_0, (by omega), (by omega), (by omega), (by exact hnm), (by omega), (by exact psx.rf), (by omega), (by omega), (by omega), (by omega), (by omega), (by omega), (by omega), (by omega), (by first | exact hkf | (simp only [List.length_cons]; omega) | omega), (by omega), (by exact Or.inr ⟨⟨fun z => by have t := tpk_at (f := f) (n := n) (i := pl) (by omega); have u := hb pl (by omega) (by omega); omega, fun z => c271 (hq3.trans z), fun z => c205 (hq3.trans z), fun z => c30 (hq3.trans z), fun z => c114 (hq3.trans z), fun z => c162 (hq3.trans z), fun z => c373 (hq3.trans z), fun z => c5 (hq3.trans z), fun z => c398 (hq3.trans z)⟩, ⟨_, _, _, _, hq435⟩, by omega, by omega⟩)⟩)
    · cases hv
      rw [hGe]
      change ab_W _ _ _ G429 307 [some (vR d_), some (vz pl), none] [vz (-1)] _
      exfalso; omega
  · cases hv
    have hx := hfk.get hx (by decide)
    have hna := hfk.get hna (by decide)
    have hnl := hfk.get hnl (by decide)
    have hby_ := hfk.get hby_ (by decide)
    have h15 := hfk.get h15 (by decide)
    have h16 := hfk.get h16 (by decide)
    have popI_0 := opI.fr hfk ppaI_0 popI_0 (by decide) (by decide)
    have pcsI_se := csI.fr hfk pcsI_se (by decide) (by decide)
    have ptbI_0 := tbI.fr hfk ptbI_0  (by decide)
    have pszJ_0 := szJ.fr hfk ppaI_0 pszJ_0 (by decide) (by decide)
    have ppaI_0 := paI.fr hfk ppaI_0 (by decide) (by decide) (by decide) (by decide)
    have hfr := hfr.tr hfk (by decide)
    have hq449 := hlk
    have hq450 := hsk
    have hd_ := hNd_
    change ab_W _ _ _ G429 294 [some (vR d_), some (vz pl), none] [vz 1] _
    refine zz_if_eq (tgt := 310) d_RD_part_294 (by decide) (by decide) (fun c459 => absurd c459 (by decide)) (fun c459 => ?_)
    refine ab_aload_n d_RD_part_297 rfl ?_
    refine ab_getf (fs := [vR x, inn, vz dp, vz flg, vz grp, vR na, vR nl, vz l2436, vz m2437, vz bh2438]) f_RD_12 d_RD_part_298 hd_.2.2 rfl ?_
    refine zz_bipush d_RD_part_301 (by decide) ?_
    refine ab_iload_n d_RD_part_303 rfl ?_
    refine ab_callV (d' := d - 1) (as := [vz 8, vz pl]) (st := []) (r := _) (z_TX_fail (o := o) (x := x) (lx := 24) (se := se) (by_ := by_) (n := n) (pl := pl) (fa := fa) (fp := fp) (kd := kd) (kn := kn) (w := 8) (p := pl) hx (by omega) (by omega) (by omega)) (fun oc G2 h => by rcases h with ⟨h, _⟩ | ⟨h, _⟩ <;> exact ⟨_, h⟩) (by omega) m_TX_fail ml_RD_69 im_TX_fail se_TX_fail c_TX hx.2.2 (Nat.le_of_ble_eq_true rfl) d_RD_part_304 rfl ?_
    intro v G460 hq
    rcases hq with ⟨hv, hfk, hlk, hsk, hNx, hq461⟩ | ⟨hv, hGe, hq462⟩
    · cases hv
      have hd_ := hfk.get hd_ (by decide)
      have hna := hfk.get hna (by decide)
      have hnl := hfk.get hnl (by decide)
      have hby_ := hfk.get hby_ (by decide)
      have h15 := hfk.get h15 (by decide)
      have h16 := hfk.get h16 (by decide)
      have popI_0 := opI.fr hfk ppaI_0 popI_0 (by decide) (by decide)
      have pcsI_se := csI.fr hfk pcsI_se (by decide) (by decide)
      have ptbI_0 := tbI.fr hfk ptbI_0  (by decide)
      have pszJ_0 := szJ.fr hfk ppaI_0 pszJ_0 (by decide) (by decide)
      have ppaI_0 := paI.fr hfk ppaI_0 (by decide) (by decide) (by decide) (by decide)
      have hfr := hfr.tr hfk (by decide)
      have hq463 := hlk
      have hq464 := hsk
      have hx := hNx
      change ab_W _ _ _ G460 307 [some (vR d_), some (vz pl), none] [vz (-1)] _
      refine ab_pop d_RD_part_307 rfl ?_
      refine ab_null d_RD_part_308 ?_
      refine ab_aret (rt := _) rfl (Or.inl ⟨_, rfl⟩) (Or.inl rfl) d_RD_part_309 ?_
      rw [hQ]; exact (Or.inl ⟨_, _, _, _, _, _, _, _, _, _, _, _, _, _, _, _, _, _, _, _, _, _, _, pl, fr, rfl, hfr, hd_, hx, hna, hnl, ppaI_0, popI_0, pcsI_se, pszJ_0, (by omega), (by omega), (by omega), (by exact hnm), (by omega), (by exact psx.rf), (by omega), (by omega), (by omega), (by omega), (by omega), (by omega), (by omega), (by omega), (by first | exact hkf | (simp only [List.length_cons]; omega) | omega), (by omega), (by exact Or.inr ⟨⟨fun z => by have t := tpk_at (f := f) (n := n) (i := pl) (by omega); have u := hb pl (by omega) (by omega); omega, fun z => c271 (hq3.trans z), fun z => c205 (hq3.trans z), fun z => c30 (hq3.trans z), fun z => c114 (hq3.trans z), fun z => c162 (hq3.trans z), fun z => c373 (hq3.trans z), fun z => c5 (hq3.trans z), fun z => c398 (hq3.trans z)⟩, ⟨_, _, _, _, hq441⟩, by omega, by omega⟩)⟩)
    · cases hv
      rw [hGe]
      change ab_W _ _ _ G429 307 [some (vR d_), some (vz pl), none] [vz (-1)] _
      exfalso; omega
  · cases hv
    have hx := hfk.get hx (by decide)
    have hna := hfk.get hna (by decide)
    have hnl := hfk.get hnl (by decide)
    have hby_ := hfk.get hby_ (by decide)
    have h15 := hfk.get h15 (by decide)
    have h16 := hfk.get h16 (by decide)
    have popI_0 := opI.fr hfk ppaI_0 popI_0 (by decide) (by decide)
    have pcsI_se := csI.fr hfk pcsI_se (by decide) (by decide)
    have ptbI_0 := tbI.fr hfk ptbI_0  (by decide)
    have pszJ_0 := szJ.fr hfk ppaI_0 pszJ_0 (by decide) (by decide)
    have ppaI_0 := paI.fr hfk ppaI_0 (by decide) (by decide) (by decide) (by decide)
    have hfr := hfr.tr hfk (by decide)
    have hq451 := hlk
    have hq452 := hsk
    have hd_ := hNd_
    change ab_W _ _ _ G429 294 [some (vR d_), some (vz pl), none] [vz 0] _
    refine zz_if_eq (tgt := 310) d_RD_part_294 (by decide) (by decide) (fun c465 => ?_) (fun c465 => absurd c465 (by decide))
    refine ab_aload_n d_RD_part_310 rfl ?_
    refine ab_aload_n d_RD_part_311 rfl ?_
    refine ab_getf (fs := [vR x, inn, vz dp, vz flg, vz grp, vR na, vR nl, vz l2442, vz m2443, vz bh2444]) f_RD_12 d_RD_part_312 hd_.2.2 rfl ?_
    refine ab_callV (d' := d - 1) (as := []) (st := [vR d_]) (r := _) (z_TX_character (o := o) (x := x) (lx := 24) (se := se) (by_ := by_) (lby := 23) (m := m) (f := f) (n := n) (pl := pl) (fa := fa) (fp := fp) (kd := kd) (kn := kn) hx hby_ (by omega) hb (by omega) (by omega) (by omega) (by omega)) (fun oc G2 h => by rcases h with ⟨h, _⟩ | ⟨_, _, h, _⟩ <;> exact ⟨_, h⟩) (by omega) m_TX_character ml_RD_123 im_TX_character se_TX_character c_TX hx.2.2 (Nat.le_of_ble_eq_true rfl) d_RD_part_315 rfl ?_
    intro v G466 hq
    rcases hq with ⟨hv, hfk, hlk, hsk, hNx, hq467⟩ | ⟨v468, p2469, hv, hfk, hlk, hsk, hNx, hq470, hq471, hq472, hq473⟩
    · cases hv
      have hd_ := hfk.get hd_ (by decide)
      have hna := hfk.get hna (by decide)
      have hnl := hfk.get hnl (by decide)
      have hby_ := hfk.get hby_ (by decide)
      have h15 := hfk.get h15 (by decide)
      have h16 := hfk.get h16 (by decide)
      have popI_0 := opI.fr hfk ppaI_0 popI_0 (by decide) (by decide)
      have pcsI_se := csI.fr hfk pcsI_se (by decide) (by decide)
      have ptbI_0 := tbI.fr hfk ptbI_0  (by decide)
      have pszJ_0 := szJ.fr hfk ppaI_0 pszJ_0 (by decide) (by decide)
      have ppaI_0 := paI.fr hfk ppaI_0 (by decide) (by decide) (by decide) (by decide)
      have hfr := hfr.tr hfk (by decide)
      have hq474 := hlk
      have hq475 := hsk
      have hx := hNx
      change ab_W _ _ _ G466 318 [some (vR d_), some (vz pl), none] [vz (-1), vR d_] _
      refine ab_callV (d' := d - 1) (as := [vz (-1)]) (st := []) (r := _) (zN_RD_literal (o := o) (d_ := d_) ) (fun oc G2 h => by rcases h with ⟨h, _⟩ <;> exact ⟨_, h⟩) (by omega) m_RD_literal ml_RD_87 im_RD_literal se_RD_literal c_RD hd_.2.2 (Nat.le_of_ble_eq_true rfl) d_RD_part_318 rfl ?_
      intro v G478 hq
      rcases hq with ⟨hv, hGe⟩
      cases hv
      rw [hGe]
      change ab_W _ _ _ G466 321 [some (vR d_), some (vz pl), none] [vN] _
      refine ab_aret (rt := _) rfl (Or.inl ⟨_, rfl⟩) (Or.inl rfl) d_RD_part_321 ?_
      rw [hQ]; exact (Or.inl ⟨_, _, _, _, _, _, _, _, _, _, _, _, _, _, _, _, _, _, _, _, _, _, _, pl, fr, rfl, hfr, hd_, hx, hna, hnl, ppaI_0, popI_0, pcsI_se, pszJ_0, (by omega), (by omega), (by omega), (by exact hnm), (by omega), (by exact psx.rf), (by omega), (by omega), (by omega), (by omega), (by omega), (by omega), (by omega), (by omega), (by first | exact hkf | (simp only [List.length_cons]; omega) | omega), (by omega), (by exact Or.inl (Or.inl (Or.inr (Or.inr ⟨⟨fun z => by have t := tpk_at (f := f) (n := n) (i := pl) (by omega); have u := hb pl (by omega) (by omega); omega, fun z => c271 (hq3.trans z), fun z => c205 (hq3.trans z), fun z => c30 (hq3.trans z), fun z => c114 (hq3.trans z), fun z => c162 (hq3.trans z), fun z => c373 (hq3.trans z), fun z => c5 (hq3.trans z), fun z => c398 (hq3.trans z)⟩, hq446, hq467, by omega, by omega⟩))))⟩)
    · cases hv
      have hd_ := hfk.get hd_ (by decide)
      have hna := hfk.get hna (by decide)
      have hnl := hfk.get hnl (by decide)
      have hby_ := hfk.get hby_ (by decide)
      have h15 := hfk.get h15 (by decide)
      have h16 := hfk.get h16 (by decide)
      have popI_0 := opI.fr hfk ppaI_0 popI_0 (by decide) (by decide)
      have pcsI_se := csI.fr hfk pcsI_se (by decide) (by decide)
      have ptbI_0 := tbI.fr hfk ptbI_0  (by decide)
      have pszJ_0 := szJ.fr hfk ppaI_0 pszJ_0 (by decide) (by decide)
      have ppaI_0 := paI.fr hfk ppaI_0 (by decide) (by decide) (by decide) (by decide)
      have hfr := hfr.tr hfk (by decide)
      have hq476 := hlk
      have hq477 := hsk
      have hx := hNx
      change ab_W _ _ _ G466 318 [some (vR d_), some (vz pl), none] [vz v468, vR d_] _
      have hgp : ¬ cs_gap v468 := by rw [hq470]; exact u8_gap hb (by rw [← hq470]; omega)
      have hew : p2469 ≤ n := by have t := u8_w (p := pl) hb (by rw [← hq470]; omega); rw [← hq470] at t; omega
      refine ab_callV (d' := d - 1) (as := [vz v468]) (st := []) (r := _) (z_RD_literal (o := o) (d_ := d_) (inn := inn) (dp := dp) (flg := flg) (grp := grp) (na := na) (nl := nl) (lst := l2442) (mst := m2443) (bh := bh2444) (x := x) (se := se) (by_ := by_) (n := n) (pl := p2469) (fa := fa) (fp := fp) (kd := kd) (kn := kn) (nb := nb) (cnt := cnt) (P := P) (ps := ps) (wt := wt) (bs := bs) (gr := grp) (ph := ph) (c := v468) hd_ hx h15 h16 ppaI_0 pcsI_se (by omega) (by omega) (by omega) hgp (by omega) (by omega) (by omega) (by omega) (by omega)) (fun oc G2 h => by rcases h with ⟨_, _, _, _, _, _, _, _, h, _⟩ <;> exact ⟨_, h⟩) (by omega) m_RD_literal ml_RD_87 im_RD_literal se_RD_literal c_RD hd_.2.2 (Nat.le_of_ble_eq_true rfl) d_RD_part_318 rfl ?_
      intro v G479 hq
      rcases hq with ⟨o480, p481, ps2482, wt2483, ph2484, nb2485, c2486, P2487, hv, hfk, pNpaI_0, pNcsI_se, hq488, hq489, hq490, hq491, hq492, hq493, hq494, hq495, hq496, hq497⟩
      cases hv
      have hd_ := hfk.get hd_ (by decide)
      have hx := hfk.get hx (by decide)
      have hna := hfk.get hna (by decide)
      have hnl := hfk.get hnl (by decide)
      have hby_ := hfk.get hby_ (by decide)
      have h15 := hfk.get h15 (by decide)
      have h16 := hfk.get h16 (by decide)
      have popI_0 := popI_0.fz (o2 := o480) hq491 (by simp)
      have ptbI_0 := tbI.fr hfk ptbI_0  (by decide)
      have pszJ_0 := pszJ_0.fzk (o2 := o480) hq491
      have ppaI_0 := pNpaI_0
      have pcsI_se := pNcsI_se
      have hfr := hfr.tr hfk (by decide)
      have hq498 := hfk.1
      change ab_W _ _ _ G479 321 [some (vR d_), some (vz pl), none] [vR p481] _
      have popI_0 : opI o480 G479 0 ps2482 k hi inn := opn_ps _ _ _ popI_0 (psx.lt hq488 (by omega))
      have pszJ_0 := (pszJ_0.leaf hq496 (s := (fi G479 p481 8)) ceq.rf (by have t := hq496.2.2.2.2.1.2.1; omega)).up (hi2 := p481) (by omega)
      have popI_0 := opn_up (hi2 := p481) popI_0 (by omega)
      have popI_0 : opI o480 G479 0 ps2482 k p481 inn := popI_0
      refine ab_aret (rt := _) rfl (Or.inl ⟨_, rfl⟩) (Or.inr ⟨_, rfl⟩) d_RD_part_321 ?_
      rw [hQ]; exact (Or.inr (Or.inr ⟨_, _, _, _, _, _, _, _, _, _, _, _, _, _, _, _, _, _, _, _, _, _, _, p2469, fr, (fi G479 p481 8), rfl, hfr, hd_, hx, hna, hnl, ppaI_0, popI_0, pcsI_se, pszJ_0, (by omega), (by omega), (by omega), (by exact hnm), (by omega), (by exact hq488.lt (by omega)), (by omega), (by omega), (by omega), (by omega), (by omega), (by omega), (by omega), (by omega), (by exact hq489), (by first | exact hkf | (simp only [List.length_cons]; omega) | omega), (by omega), (by omega), (by exact Or.inl ⟨Or.inr (Or.inr (Or.inr (Or.inr (Or.inr ⟨⟨fun z => by have t := tpk_at (f := f) (n := n) (i := pl) (by omega); have u := hb pl (by omega) (by omega); omega, fun z => c271 (hq3.trans z), fun z => c205 (hq3.trans z), fun z => c30 (hq3.trans z), fun z => c114 (hq3.trans z), fun z => c162 (hq3.trans z), fun z => c373 (hq3.trans z), fun z => c5 (hq3.trans z), fun z => c398 (hq3.trans z)⟩, hq446, by rw [← hq470]; omega, by rw [← hq470]; omega, by rw [← hq470]; exact hq497⟩)))), rfl, rfl⟩), (by exact ⟨rfl, rfl, rfl⟩), (by omega)⟩))
