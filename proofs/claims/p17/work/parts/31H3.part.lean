set_option maxRecDepth 100000 in
set_option maxHeartbeats 4000000 in
theorem z_RD_part {X : ab_X} {d : Nat} {o : Nat → Nat} {G : ab_G} {d_ : Nat} {inn : Value} {dp : Int} {flg : Int} {grp : Int} {na : Nat} {nl : Nat} {lst : Int} {mst : Int} {bh : Int} {NA : Int → Int} {NL : Int → Int} {x : Nat} {se : Nat} {by_ : Nat} {m : Nat} {f : Int → Int} {n : Int} {pl : Int} {fa : Int} {fp : Int} {kd : Nat} {kn : Int} {ps : Nat → Nat} {wt : Nat → Nat} {bs : Nat} {ph : Int} {k : Nat} {hi : Nat} {wh : Nat} {fr : List Fr} {nb : Nat} {cnt : Int} {P : Int → Prop} (hd_ : cc o G d_ 25 (ab_ob 6 [vR x, inn, vz dp, vz flg, vz grp, vR na, vR nl, vz lst, vz mst, vz bh])) (hx : cc o G x 24 (ab_ob 10 [vR se, vR by_, vz n, vz pl, vz fa, vz fp, vR kd, vz kn])) (hna : cc o G na 86 (za 10 NA)) (hnl : cc o G nl 87 (za 10 NL)) (hby_ : cc o G by_ 23 (za m f)) (h15 : cc o G 15 15 (za 18 zAR)) (h16 : cc o G 16 16 (za 20 zAF)) (ppaI_0 : paI o G 0 ps wt bs grp pr0 ph) (popI_0 : opI o G 0 ps k hi inn) (pcsI_se : csI o G se 88 89 nb cnt P) (ptbI_0 : tbI o G 0) (pszJ_0 : szJ o G 0 ps fr hi inn wh 0 0) (hkf : k = fr.length) (n18 : ab_n0 = 18) (cn_ : 0 ≤ n ∧ n ≤ ↑m ∧ m ≤ 2000) (hb : bytes f n) (cf : 0 ≤ flg ∧ flg ≤ 31) (cg : 0 ≤ grp ∧ grp ≤ 9) (ck : 0 ≤ dp ∧ dp ≤ 30 ∧ ↑k = dp + 1 ∧ hi ≤ G.length) (hnm : nmok NA NL grp n) (cbs : bs ≤ G.length ∧ 18 ≤ G.length) (ckd : 1 ≤ kd ∧ kd ≤ 12 ∧ 0 ≤ kn ∧ kn ≤ 1) (cfa : fa = 0) (cp : 0 ≤ pl ∧ pl < n) (hnb : nb ≤ 104000) (rc : G.length + 9000 ≤ ab_n0 + room_1.cells) (rs : ab_slots G + 430000 ≤ room_1.slots + 2 * nb) (hd : 11 ≤ d) : ab_F X d y_RD_part (.code y_RD_part b_RD_part 3 (some (.object "PatternWorks$Part"))) [vR d_] G (fun oc G2 => (∃ o2 : Nat → Nat, ∃ inn2 : Value, ∃ dp2 : Int, ∃ flg2 : Int, ∃ grp2 : Int, ∃ NA2 : Int → Int, ∃ NL2 : Int → Int, ∃ lst2 : Int, ∃ mst2 : Int, ∃ bh2 : Int, ∃ p2 : Int, ∃ fa2 : Int, ∃ fp2 : Int, ∃ kd2 : Nat, ∃ kn2 : Int, ∃ k2 : Nat, ∃ hi2 : Nat, ∃ ps2 : Nat → Nat, ∃ wt2 : Nat → Nat, ∃ ph2 : Int, ∃ nb2 : Nat, ∃ c2 : Int, ∃ P2 : Int → Prop, ∃ q2 : Int, ∃ fr2 : List Fr, oc = .returned (some (vN)) ∧ fx o o2 [24, 25, 86, 87, 88, 89, 90, 92, 94] G G2 ∧ cc o2 G2 d_ 25 (ab_ob 6 [vR x, inn2, vz dp2, vz flg2, vz grp2, vR na, vR nl, vz lst2, vz mst2, vz bh2]) ∧ cc o2 G2 x 24 (ab_ob 10 [vR se, vR by_, vz n, vz p2, vz fa2, vz fp2, vR kd2, vz kn2]) ∧ cc o2 G2 na 86 (za 10 NA2) ∧ cc o2 G2 nl 87 (za 10 NL2) ∧ paI o2 G2 0 ps2 wt2 bs grp2 pr0 ph2 ∧ opI o2 G2 0 ps2 k2 hi2 inn2 ∧ csI o2 G2 se 88 89 nb2 c2 P2 ∧ szJ o2 G2 0 ps2 fr2 hi2 inn2 wh 0 0 ∧ (0 ≤ flg2 ∧ flg2 ≤ 31) ∧ (0 ≤ grp2 ∧ grp2 ≤ 9) ∧ (0 ≤ dp2 ∧ dp2 ≤ 30 ∧ ↑k2 = dp2 + 1) ∧ (nmok NA2 NL2 grp2 n) ∧ (hi2 ≤ G2.length) ∧ (psx ps ps2 G.length) ∧ (0 ≤ fa2 ∧ fa2 ≤ 14) ∧ (1 ≤ kd2 ∧ kd2 ≤ 12 ∧ 0 ≤ kn2 ∧ kn2 ≤ 1) ∧ (0 ≤ p2 ∧ p2 ≤ 8000) ∧ (pl ≤ q2 ∧ q2 ≤ n ∧ q2 ≤ p2) ∧ (nb2 ≤ 104000) ∧ (ph2 ≤ ph + 25 * (q2 - pl)) ∧ (64 * G2.length + nb ≤ 64 * G.length + nb2 + 400) ∧ ((↑(ab_slots G2) : Int) + 2 * ↑nb ≤ ↑(ab_slots G) + 2 * ↑nb2 + 100 * (q2 - pl)) ∧ (k2 = fr2.length) ∧ (1 ≤ fa2) ∧ (ptF f n pl flg grp NA NL fr fa2 fp2 ∨ strF f n pl fa2 fp2)) ∨ (∃ o2 : Nat → Nat, ∃ inn2 : Value, ∃ dp2 : Int, ∃ flg2 : Int, ∃ grp2 : Int, ∃ NA2 : Int → Int, ∃ NL2 : Int → Int, ∃ lst2 : Int, ∃ mst2 : Int, ∃ bh2 : Int, ∃ p2 : Int, ∃ fa2 : Int, ∃ fp2 : Int, ∃ kd2 : Nat, ∃ kn2 : Int, ∃ k2 : Nat, ∃ hi2 : Nat, ∃ ps2 : Nat → Nat, ∃ wt2 : Nat → Nat, ∃ ph2 : Int, ∃ nb2 : Nat, ∃ c2 : Int, ∃ P2 : Int → Prop, ∃ q2 : Int, ∃ fr2 : List Fr, oc = .returned (some (vN)) ∧ fx o o2 [24, 25, 86, 87, 88, 89, 90, 92, 94] G G2 ∧ cc o2 G2 d_ 25 (ab_ob 6 [vR x, inn2, vz dp2, vz flg2, vz grp2, vR na, vR nl, vz lst2, vz mst2, vz bh2]) ∧ cc o2 G2 x 24 (ab_ob 10 [vR se, vR by_, vz n, vz p2, vz fa2, vz fp2, vR kd2, vz kn2]) ∧ cc o2 G2 na 86 (za 10 NA2) ∧ cc o2 G2 nl 87 (za 10 NL2) ∧ paI o2 G2 0 ps2 wt2 bs grp2 pr0 ph2 ∧ opI o2 G2 0 ps2 k2 hi2 inn2 ∧ csI o2 G2 se 88 89 nb2 c2 P2 ∧ szJ o2 G2 0 ps2 fr2 hi2 inn2 wh 0 0 ∧ (0 ≤ flg2 ∧ flg2 ≤ 31) ∧ (0 ≤ grp2 ∧ grp2 ≤ 9) ∧ (0 ≤ dp2 ∧ dp2 ≤ 30 ∧ ↑k2 = dp2 + 1) ∧ (nmok NA2 NL2 grp2 n) ∧ (hi2 ≤ G2.length) ∧ (psx ps ps2 G.length) ∧ (0 ≤ fa2 ∧ fa2 ≤ 14) ∧ (1 ≤ kd2 ∧ kd2 ≤ 12 ∧ 0 ≤ kn2 ∧ kn2 ≤ 1) ∧ (0 ≤ p2 ∧ p2 ≤ 8000) ∧ (pl ≤ q2 ∧ q2 ≤ n ∧ q2 ≤ p2) ∧ (nb2 ≤ 104000) ∧ (ph2 ≤ ph + 25 * (q2 - pl)) ∧ (64 * G2.length + nb ≤ 64 * G.length + nb2 + 400) ∧ ((↑(ab_slots G2) : Int) + 2 * ↑nb ≤ ↑(ab_slots G) + 2 * ↑nb2 + 100 * (q2 - pl)) ∧ (k2 = fr2.length) ∧ (fa2 = 0) ∧ (fp2 = fp) ∧ (ptN f n pl flg grp NA NL fr p2 flg2 grp2 NA2 NL2 fr2) ∧ (pl < p2 ∧ p2 ≤ n)) ∨ (∃ o2 : Nat → Nat, ∃ p : Nat, ∃ inn2 : Value, ∃ dp2 : Int, ∃ flg2 : Int, ∃ grp2 : Int, ∃ NA2 : Int → Int, ∃ NL2 : Int → Int, ∃ lst2 : Int, ∃ mst2 : Int, ∃ bh2 : Int, ∃ p2 : Int, ∃ fa2 : Int, ∃ fp2 : Int, ∃ kd2 : Nat, ∃ kn2 : Int, ∃ k2 : Nat, ∃ ps2 : Nat → Nat, ∃ wt2 : Nat → Nat, ∃ ph2 : Int, ∃ nb2 : Nat, ∃ c2 : Int, ∃ P2 : Int → Prop, ∃ q2 : Int, ∃ fr2 : List Fr, ∃ psz2 : Int, oc = .returned (some (vR p)) ∧ fx o o2 [24, 25, 86, 87, 88, 89, 90, 92, 94] G G2 ∧ cc o2 G2 d_ 25 (ab_ob 6 [vR x, inn2, vz dp2, vz flg2, vz grp2, vR na, vR nl, vz lst2, vz mst2, vz bh2]) ∧ cc o2 G2 x 24 (ab_ob 10 [vR se, vR by_, vz n, vz p2, vz fa2, vz fp2, vR kd2, vz kn2]) ∧ cc o2 G2 na 86 (za 10 NA2) ∧ cc o2 G2 nl 87 (za 10 NL2) ∧ paI o2 G2 0 ps2 wt2 bs grp2 pr0 ph2 ∧ opI o2 G2 0 ps2 k2 p inn2 ∧ csI o2 G2 se 88 89 nb2 c2 P2 ∧ szJ o2 G2 0 ps2 fr2 p inn2 wh p psz2 ∧ (0 ≤ flg2 ∧ flg2 ≤ 31) ∧ (0 ≤ grp2 ∧ grp2 ≤ 9) ∧ (0 ≤ dp2 ∧ dp2 ≤ 30 ∧ ↑k2 = dp2 + 1) ∧ (nmok NA2 NL2 grp2 n) ∧ (p < G2.length) ∧ (psx ps ps2 G.length) ∧ (0 ≤ fa2 ∧ fa2 ≤ 14) ∧ (1 ≤ kd2 ∧ kd2 ≤ 12 ∧ 0 ≤ kn2 ∧ kn2 ≤ 1) ∧ (0 ≤ p2 ∧ p2 ≤ 8000) ∧ (pl ≤ q2 ∧ q2 ≤ n ∧ q2 ≤ p2) ∧ (nb2 ≤ 104000) ∧ (ph2 ≤ ph + 25 * (q2 - pl)) ∧ (64 * G2.length + nb ≤ 64 * G.length + nb2 + 400) ∧ ((↑(ab_slots G2) : Int) + 2 * ↑nb ≤ ↑(ab_slots G) + 2 * ↑nb2 + 100 * (q2 - pl)) ∧ (ps2 p = 90) ∧ (k2 = fr2.length) ∧ (fa2 = 0) ∧ (fp2 = fp) ∧ (ptP f n pl flg fr p2 flg2 fr2 psz2) ∧ (grp2 = grp ∧ NA2 = NA ∧ NL2 = NL) ∧ (pl < p2 ∧ p2 ≤ n))) := by
  refine ab_F_of (by decide +kernel) (Nat.le_of_ble_eq_true rfl) ?_
  obtain ⟨Q, hQ⟩ : ∃ z : Outcome → ab_G → Prop, z = (fun oc G2 => (∃ o2 : Nat → Nat, ∃ inn2 : Value, ∃ dp2 : Int, ∃ flg2 : Int, ∃ grp2 : Int, ∃ NA2 : Int → Int, ∃ NL2 : Int → Int, ∃ lst2 : Int, ∃ mst2 : Int, ∃ bh2 : Int, ∃ p2 : Int, ∃ fa2 : Int, ∃ fp2 : Int, ∃ kd2 : Nat, ∃ kn2 : Int, ∃ k2 : Nat, ∃ hi2 : Nat, ∃ ps2 : Nat → Nat, ∃ wt2 : Nat → Nat, ∃ ph2 : Int, ∃ nb2 : Nat, ∃ c2 : Int, ∃ P2 : Int → Prop, ∃ q2 : Int, ∃ fr2 : List Fr, oc = .returned (some (vN)) ∧ fx o o2 [24, 25, 86, 87, 88, 89, 90, 92, 94] G G2 ∧ cc o2 G2 d_ 25 (ab_ob 6 [vR x, inn2, vz dp2, vz flg2, vz grp2, vR na, vR nl, vz lst2, vz mst2, vz bh2]) ∧ cc o2 G2 x 24 (ab_ob 10 [vR se, vR by_, vz n, vz p2, vz fa2, vz fp2, vR kd2, vz kn2]) ∧ cc o2 G2 na 86 (za 10 NA2) ∧ cc o2 G2 nl 87 (za 10 NL2) ∧ paI o2 G2 0 ps2 wt2 bs grp2 pr0 ph2 ∧ opI o2 G2 0 ps2 k2 hi2 inn2 ∧ csI o2 G2 se 88 89 nb2 c2 P2 ∧ szJ o2 G2 0 ps2 fr2 hi2 inn2 wh 0 0 ∧ (0 ≤ flg2 ∧ flg2 ≤ 31) ∧ (0 ≤ grp2 ∧ grp2 ≤ 9) ∧ (0 ≤ dp2 ∧ dp2 ≤ 30 ∧ ↑k2 = dp2 + 1) ∧ (nmok NA2 NL2 grp2 n) ∧ (hi2 ≤ G2.length) ∧ (psx ps ps2 G.length) ∧ (0 ≤ fa2 ∧ fa2 ≤ 14) ∧ (1 ≤ kd2 ∧ kd2 ≤ 12 ∧ 0 ≤ kn2 ∧ kn2 ≤ 1) ∧ (0 ≤ p2 ∧ p2 ≤ 8000) ∧ (pl ≤ q2 ∧ q2 ≤ n ∧ q2 ≤ p2) ∧ (nb2 ≤ 104000) ∧ (ph2 ≤ ph + 25 * (q2 - pl)) ∧ (64 * G2.length + nb ≤ 64 * G.length + nb2 + 400) ∧ ((↑(ab_slots G2) : Int) + 2 * ↑nb ≤ ↑(ab_slots G) + 2 * ↑nb2 + 100 * (q2 - pl)) ∧ (k2 = fr2.length) ∧ (1 ≤ fa2) ∧ (ptF f n pl flg grp NA NL fr fa2 fp2 ∨ strF f n pl fa2 fp2)) ∨ (∃ o2 : Nat → Nat, ∃ inn2 : Value, ∃ dp2 : Int, ∃ flg2 : Int, ∃ grp2 : Int, ∃ NA2 : Int → Int, ∃ NL2 : Int → Int, ∃ lst2 : Int, ∃ mst2 : Int, ∃ bh2 : Int, ∃ p2 : Int, ∃ fa2 : Int, ∃ fp2 : Int, ∃ kd2 : Nat, ∃ kn2 : Int, ∃ k2 : Nat, ∃ hi2 : Nat, ∃ ps2 : Nat → Nat, ∃ wt2 : Nat → Nat, ∃ ph2 : Int, ∃ nb2 : Nat, ∃ c2 : Int, ∃ P2 : Int → Prop, ∃ q2 : Int, ∃ fr2 : List Fr, oc = .returned (some (vN)) ∧ fx o o2 [24, 25, 86, 87, 88, 89, 90, 92, 94] G G2 ∧ cc o2 G2 d_ 25 (ab_ob 6 [vR x, inn2, vz dp2, vz flg2, vz grp2, vR na, vR nl, vz lst2, vz mst2, vz bh2]) ∧ cc o2 G2 x 24 (ab_ob 10 [vR se, vR by_, vz n, vz p2, vz fa2, vz fp2, vR kd2, vz kn2]) ∧ cc o2 G2 na 86 (za 10 NA2) ∧ cc o2 G2 nl 87 (za 10 NL2) ∧ paI o2 G2 0 ps2 wt2 bs grp2 pr0 ph2 ∧ opI o2 G2 0 ps2 k2 hi2 inn2 ∧ csI o2 G2 se 88 89 nb2 c2 P2 ∧ szJ o2 G2 0 ps2 fr2 hi2 inn2 wh 0 0 ∧ (0 ≤ flg2 ∧ flg2 ≤ 31) ∧ (0 ≤ grp2 ∧ grp2 ≤ 9) ∧ (0 ≤ dp2 ∧ dp2 ≤ 30 ∧ ↑k2 = dp2 + 1) ∧ (nmok NA2 NL2 grp2 n) ∧ (hi2 ≤ G2.length) ∧ (psx ps ps2 G.length) ∧ (0 ≤ fa2 ∧ fa2 ≤ 14) ∧ (1 ≤ kd2 ∧ kd2 ≤ 12 ∧ 0 ≤ kn2 ∧ kn2 ≤ 1) ∧ (0 ≤ p2 ∧ p2 ≤ 8000) ∧ (pl ≤ q2 ∧ q2 ≤ n ∧ q2 ≤ p2) ∧ (nb2 ≤ 104000) ∧ (ph2 ≤ ph + 25 * (q2 - pl)) ∧ (64 * G2.length + nb ≤ 64 * G.length + nb2 + 400) ∧ ((↑(ab_slots G2) : Int) + 2 * ↑nb ≤ ↑(ab_slots G) + 2 * ↑nb2 + 100 * (q2 - pl)) ∧ (k2 = fr2.length) ∧ (fa2 = 0) ∧ (fp2 = fp) ∧ (ptN f n pl flg grp NA NL fr p2 flg2 grp2 NA2 NL2 fr2) ∧ (pl < p2 ∧ p2 ≤ n)) ∨ (∃ o2 : Nat → Nat, ∃ p : Nat, ∃ inn2 : Value, ∃ dp2 : Int, ∃ flg2 : Int, ∃ grp2 : Int, ∃ NA2 : Int → Int, ∃ NL2 : Int → Int, ∃ lst2 : Int, ∃ mst2 : Int, ∃ bh2 : Int, ∃ p2 : Int, ∃ fa2 : Int, ∃ fp2 : Int, ∃ kd2 : Nat, ∃ kn2 : Int, ∃ k2 : Nat, ∃ ps2 : Nat → Nat, ∃ wt2 : Nat → Nat, ∃ ph2 : Int, ∃ nb2 : Nat, ∃ c2 : Int, ∃ P2 : Int → Prop, ∃ q2 : Int, ∃ fr2 : List Fr, ∃ psz2 : Int, oc = .returned (some (vR p)) ∧ fx o o2 [24, 25, 86, 87, 88, 89, 90, 92, 94] G G2 ∧ cc o2 G2 d_ 25 (ab_ob 6 [vR x, inn2, vz dp2, vz flg2, vz grp2, vR na, vR nl, vz lst2, vz mst2, vz bh2]) ∧ cc o2 G2 x 24 (ab_ob 10 [vR se, vR by_, vz n, vz p2, vz fa2, vz fp2, vR kd2, vz kn2]) ∧ cc o2 G2 na 86 (za 10 NA2) ∧ cc o2 G2 nl 87 (za 10 NL2) ∧ paI o2 G2 0 ps2 wt2 bs grp2 pr0 ph2 ∧ opI o2 G2 0 ps2 k2 p inn2 ∧ csI o2 G2 se 88 89 nb2 c2 P2 ∧ szJ o2 G2 0 ps2 fr2 p inn2 wh p psz2 ∧ (0 ≤ flg2 ∧ flg2 ≤ 31) ∧ (0 ≤ grp2 ∧ grp2 ≤ 9) ∧ (0 ≤ dp2 ∧ dp2 ≤ 30 ∧ ↑k2 = dp2 + 1) ∧ (nmok NA2 NL2 grp2 n) ∧ (p < G2.length) ∧ (psx ps ps2 G.length) ∧ (0 ≤ fa2 ∧ fa2 ≤ 14) ∧ (1 ≤ kd2 ∧ kd2 ≤ 12 ∧ 0 ≤ kn2 ∧ kn2 ≤ 1) ∧ (0 ≤ p2 ∧ p2 ≤ 8000) ∧ (pl ≤ q2 ∧ q2 ≤ n ∧ q2 ≤ p2) ∧ (nb2 ≤ 104000) ∧ (ph2 ≤ ph + 25 * (q2 - pl)) ∧ (64 * G2.length + nb ≤ 64 * G.length + nb2 + 400) ∧ ((↑(ab_slots G2) : Int) + 2 * ↑nb ≤ ↑(ab_slots G) + 2 * ↑nb2 + 100 * (q2 - pl)) ∧ (ps2 p = 90) ∧ (k2 = fr2.length) ∧ (fa2 = 0) ∧ (fp2 = fp) ∧ (ptP f n pl flg fr p2 flg2 fr2 psz2) ∧ (grp2 = grp ∧ NA2 = NA ∧ NL2 = NL) ∧ (pl < p2 ∧ p2 ≤ n))) := ⟨_, rfl⟩
  rw [← hQ]
  change ab_W X (ab_pl y_RD_part b_RD_part 3 (some (.object "PatternWorks$Part"))) d G 0 [some (vR d_), none, none] [] Q
  have hfr : fx o o [24, 25, 86, 87, 88, 89, 90, 92, 94] G G := fx.rf
  refine ab_aload_n d_RD_part_0 rfl ?_
  refine ab_getf (fs := [vR x, inn, vz dp, vz flg, vz grp, vR na, vR nl, vz lst, vz mst, vz bh]) f_RD_12 d_RD_part_1 hd_.2.2 rfl ?_
  refine ab_getf (fs := [vR se, vR by_, vz n, vz pl, vz fa, vz fp, vR kd, vz kn]) f_RD_55 d_RD_part_4 hx.2.2 rfl ?_
  refine ab_istore_n d_RD_part_7 (Nat.le_of_ble_eq_true rfl) (Nat.le_of_ble_eq_true rfl) rfl ?_
  change ab_W _ _ _ G 8 [some (vR d_), some (vz pl), none] [] _
  refine ab_aload_n d_RD_part_8 rfl ?_
  refine ab_getf (fs := [vR x, inn, vz dp, vz flg, vz grp, vR na, vR nl, vz lst, vz mst, vz bh]) f_RD_12 d_RD_part_9 hd_.2.2 rfl ?_
  refine zz_iconst d_RD_part_12 ?_
  refine ab_callV (d' := d - 1) (as := [vz 0]) (st := []) (r := _) (z_TX_peek0 (o := o) (x := x) (lx := 24) (se := se) (by_ := by_) (lby := 23) (m := m) (f := f) (n := n) (pl := pl) (fa := fa) (fp := fp) (kd := kd) (kn := kn) hx hby_ (by omega) hb) (fun oc G2 h => by rcases h with ⟨_, h, _⟩ <;> exact ⟨_, h⟩) (by omega) m_TX_peek ml_RD_79 im_TX_peek se_TX_peek c_TX hx.2.2 (Nat.le_of_ble_eq_true rfl) d_RD_part_13 rfl ?_
  intro v G1 hq
  rcases hq with ⟨v2, hv, hGe, hq3, hq4⟩
  cases hv
  rw [hGe]
  change ab_W _ _ _ G 16 [some (vR d_), some (vz pl), none] [vz v2] _
  by_cases c5 : v2 = 36
  · refine zz_lookup (off := 204) (tgt := 220) d_RD_part_16 (by decide) (by omega) (by rw [c5]; decide) (by decide) ?_
    refine ab_aload_n d_RD_part_220 rfl ?_
    refine ab_getf (fs := [vR x, inn, vz dp, vz flg, vz grp, vR na, vR nl, vz lst, vz mst, vz bh]) f_RD_12 d_RD_part_221 hd_.2.2 rfl ?_
    refine ab_dup d_RD_part_224 rfl ?_
    refine ab_getf (fs := [vR se, vR by_, vz n, vz pl, vz fa, vz fp, vR kd, vz kn]) f_RD_55 d_RD_part_225 hx.2.2 rfl ?_
    refine zz_iconst d_RD_part_228 ?_
    refine zz_iadd d_RD_part_229 ?_
    refine ab_putf (fs := [vR se, vR by_, vz n, vz pl, vz fa, vz fp, vR kd, vz kn]) f_RD_55 (Or.inl rfl) d_RD_part_230 hx.2.2 (Nat.le_of_ble_eq_true rfl) (fun _ => ⟨rfl, rfl⟩) (hx.2.1 (by decide)) ?_
    obtain ⟨G6, eG6⟩ : ∃ z : ab_G, z = List.set G x (ab_ob 10 [vR se, vR by_, vz n, vz (pl + 1), vz fa, vz fp, vR kd, vz kn]) := ⟨_, rfl⟩
    have hd_ := hd_.keep hx eG6 (by decide)
    have hna := hna.keep hx eG6 (by decide)
    have hnl := hnl.keep hx eG6 (by decide)
    have hby_ := hby_.keep hx eG6 (by decide)
    have h15 := h15.keep hx eG6 (by decide)
    have h16 := h16.keep hx eG6 (by decide)
    have hst := (fx.rf (o := o) (S := [24]) (G := G)).wr hx eG6 (List.mem_singleton.mpr rfl)
    have popI_0 := opI.fr hst ppaI_0 popI_0 (by decide) (by decide)
    have pcsI_se := csI.fr hst pcsI_se (by decide) (by decide)
    have ptbI_0 := tbI.fr hst ptbI_0  (by decide)
    have pszJ_0 := szJ.fr hst ppaI_0 pszJ_0 (by decide) (by decide)
    have ppaI_0 := paI.fr hst ppaI_0 (by decide) (by decide) (by decide) (by decide)
    have hq7 := z_len eG6
    have hq8 := z_sl hx eG6 rfl
    have hfr := hfr.wr hx eG6 (by decide)
    have hx := hx.kept eG6
    change ab_W _ _ _ (List.set G x (ab_ob 10 [vR se, vR by_, vz n, vz (pl + 1), vz fa, vz fp, vR kd, vz kn])) 233 [some (vR d_), some (vz pl), none] [] _
    rw [← eG6]
    refine ab_new (fs := [vz 0, vz 0, vN, vz 0, vz 0, vN, vN, vN, vz 0, vz 0, vz 0, vz 0, vz 0, vz 0, vz 0]) k_PA rfl cl_RD_18 inst_PA ini_PA d_RD_part_233 (by decide) (fun _ => rfl) (by omega) (by omega) ?_
    obtain ⟨G9, eG9⟩ : ∃ z : ab_G, z = G6 ++ [ab_ob 4 [vz 0, vz 0, vN, vz 0, vz 0, vN, vN, vN, vz 0, vz 0, vz 0, vz 0, vz 0, vz 0, vz 0]] := ⟨_, rfl⟩
    obtain ⟨o10, eo10⟩ : ∃ z : Nat → Nat, z = ol o G6.length 90 := ⟨_, rfl⟩
    obtain ⟨a11, ea11⟩ : ∃ z : Nat, z = G6.length := ⟨_, rfl⟩
    have hq12 := hby_.n0 (by first | decide | omega)
    have ne_a11_d_ : nq a11 d_ := by have hlt := hd_.lt; unfold nq; omega
    have ne_a11_x : nq a11 x := by have hlt := hx.lt; unfold nq; omega
    have ne_a11_na : nq a11 na := by have hlt := hna.lt; unfold nq; omega
    have ne_a11_nl : nq a11 nl := by have hlt := hnl.lt; unfold nq; omega
    have ne_a11_by_ : nq a11 by_ := by have hlt := hby_.lt; unfold nq; omega
    have ne_a11_15 : nq a11 15 := by have hlt := h15.lt; unfold nq; omega
    have ne_a11_16 : nq a11 16 := by have hlt := h16.lt; unfold nq; omega
    have hd_ := hd_.akeep (k := 90) eG9
    rw [← eo10] at hd_
    have hx := hx.akeep (k := 90) eG9
    rw [← eo10] at hx
    have hna := hna.akeep (k := 90) eG9
    rw [← eo10] at hna
    have hnl := hnl.akeep (k := 90) eG9
    rw [← eo10] at hnl
    have hby_ := hby_.akeep (k := 90) eG9
    rw [← eo10] at hby_
    have h15 := h15.akeep (k := 90) eG9
    rw [← eo10] at h15
    have h16 := h16.akeep (k := 90) eG9
    rw [← eo10] at h16
    have hst := (fx.rf (o := o) (S := []) (G := G6)).ap (k := 90) eG9
    rw [← eo10] at hst
    have hnpa11 := ppaI_0.new (a := a11) (by omega)
    have popI_0 := opI.fr hst ppaI_0 popI_0 (by decide) (by decide)
    have pcsI_se := csI.fr hst pcsI_se (by decide) (by decide)
    have ptbI_0 := tbI.fr hst ptbI_0  (by simp)
    have pszJ_0 := szJ.fr hst ppaI_0 pszJ_0 (by decide) (by decide)
    have ppaI_0 := paI.fr hst ppaI_0 (by decide) (by decide) (by decide) (by simp)
    have ha11 := cc.anew (o := o) 90 eG9 hq12
    rw [← eo10, ← ea11] at ha11
    have hfr := hfr.ap (k := 90) eG9
    rw [← eo10] at hfr
    have hq13 := z_alen eG9
    have hq14 : ab_slots G9 = ab_slots G6 + 15 := z_asl eG9 hq12
    change ab_W _ _ _ (G6 ++ [ab_ob 4 [vz 0, vz 0, vN, vz 0, vz 0, vN, vN, vN, vz 0, vz 0, vz 0, vz 0, vz 0, vz 0, vz 0]]) 236 [some (vR d_), some (vz pl), none] [.ref G6.length] _
    rw [← eG9, ← ea11]
    change ab_W _ _ _ G9 236 [some (vR d_), some (vz pl), none] [vR a11] _
    refine ab_dup d_RD_part_236 rfl ?_
    refine zz_iconst d_RD_part_237 ?_
    refine ab_aload_n d_RD_part_238 rfl ?_
    refine zz_iconst d_RD_part_239 ?_
    refine ab_callV (d' := d - 1) (as := [vz 2]) (st := [vz 3, vR a11, vR a11]) (r := _) (z2_RD_isOn (o := o10) (d_ := d_) (inn := inn) (dp := dp) (flg := flg) (grp := grp) (na := na) (nl := nl) (lst := lst) (mst := mst) (bh := bh) (x := x) hd_ (by omega)) (fun oc G2 h => by rcases h with ⟨_, h, _⟩ <;> exact ⟨_, h⟩) (by omega) m_RD_isOn ml_RD_94 im_RD_isOn se_RD_isOn c_RD hd_.2.2 (Nat.le_of_ble_eq_true rfl) d_RD_part_240 rfl ?_
    intro v G15 hq
    rcases hq with ⟨v16, hv, hGe, hq17, hq18⟩
    cases hv
    rw [hGe]
    change ab_W _ _ _ G9 243 [some (vR d_), some (vz pl), none] [vz v16, vz 3, vR a11, vR a11] _
    refine zz_if_eq (tgt := 250) d_RD_part_243 (by decide) (by omega) (fun c19 => ?_) (fun c19 => ?_)
    · refine zz_iconst d_RD_part_250 ?_
      refine zz_iconst d_RD_part_251 ?_
      refine zz_iconst d_RD_part_252 ?_
      refine ab_callI (d' := d - 1) (as := [vz 3, vz 1, vz 1, vz 1]) (st := [vR a11]) (z90_PA_init (o := o10) (a := a11) (k0 := 3) (v0 := 1) (s0 := 1) (m0 := 1) (ps := ps) (wt := wt) (bs := bs) (gr := grp) (Pr := pr0) (ph := ph) ha11 ppaI_0 (by omega) (by omega) (by omega) (by omega)) (fun oc G2 h => by rcases h with ⟨h, _⟩ <;> exact ⟨_, h⟩) (by omega) m_PA_init ml_RD_20 im_PA_init rfl (Nat.le_of_ble_eq_true rfl) d_RD_part_253 rfl ?_
      intro v G20 hq
      rcases hq with ⟨hv, hfk, hlk, hsk, hNa11, pNpaI_0, hq21⟩
      cases hv
      have hd_ := hfk.get hd_ (by decide)
      have hx := hfk.get hx (by decide)
      have hna := hfk.get hna (by decide)
      have hnl := hfk.get hnl (by decide)
      have hby_ := hfk.get hby_ (by decide)
      have h15 := hfk.get h15 (by decide)
      have h16 := hfk.get h16 (by decide)
      have popI_0 := popI_0.fz (o2 := o10) hq21 (by simp)
      have pcsI_se := csI.fr hfk pcsI_se (by decide) (by decide)
      have ptbI_0 := tbI.fr hfk ptbI_0  (by decide)
      have pszJ_0 := pszJ_0.fzk (o2 := o10) hq21
      have ppaI_0 := pNpaI_0
      have hfr := hfr.tr hfk (by decide)
      have hq22 := hlk
      have hq23 := hsk
      have ha11 := hNa11
      change ab_W _ _ _ G20 256 [some (vR d_), some (vz pl), none] [vR a11] _
      have hnf_ := ppaI_0.nref hnpa11
      have hnp9_ := hnpa11
      have hlt24 := ha11.lt
      have hn24 : paN grp pr0 3 1 (-1) := ⟨by omega, by intro _; omega, by intro _; omega, by intro _; omega, pr0_⟩
      obtain ⟨ps24, wt24, hx24, hxo24, hpa24, ppaI_0⟩ : ∃ pz wz : Nat → Nat, psx ps pz a11 ∧ (∀ x, ¬ x = a11 → pz x = ps x) ∧ pz a11 = 90 ∧ paI o10 G20 0 pz wz bs grp pr0 (ph + 0) := ⟨_, _, psx.ol (Nat.le_refl _), fun x hx => if_neg hx, ol_self, ppaI_0.ad90 0 hnpa11 (by omega) ha11 hn24 (by unfold pnB; omega) (Or.inl ⟨by omega, rfl⟩) (Or.inl rfl) (Or.inl rfl) (Or.inl rfl)⟩
      have popI_0 : opI o10 G20 0 ps24 k hi inn := opn_ps _ _ _ popI_0 (psx.lt hx24 (by omega))
      have hlf_ : leafp ps ps24 G20 a11 := leafp.mk hnf_ hnp9_ hxo24 hpa24 ha11 (by omega)
      have pszJ_0 := (pszJ_0.leaf hlf_ (s := (fi G20 a11 8)) ceq.rf (by have t := hlf_.2.2.2.2.1.2.1; omega)).up (hi2 := a11) (by omega)
      have popI_0 := opn_up (hi2 := a11) popI_0 (by omega)
      have popI_0 : opI o10 G20 0 ps24 k a11 inn := popI_0
      refine ab_aret (rt := _) rfl (Or.inl ⟨_, rfl⟩) (Or.inr ⟨_, rfl⟩) d_RD_part_256 ?_
      rw [hQ]; exact (Or.inr (Or.inr ⟨_, _, _, _, _, _, _, _, _, _, _, _, _, _, _, _, _, _, _, _, _, _, _, (pl + 1), fr, (fi G20 a11 8), rfl, hfr, hd_, hx, hna, hnl, ppaI_0, popI_0, pcsI_se, pszJ_0, (by omega), (by omega), (by omega), (by exact hnm), (by have hlt := ha11.lt; omega), (by exact hx24.lt (by omega)), (by omega), (by omega), (by omega), (by omega), (by omega), (by omega), (by omega), (by omega), (by exact hpa24), (by first | exact hkf | (simp only [List.length_cons]; omega) | omega), (by omega), (by omega), (by exact Or.inl ⟨Or.inr (Or.inr (Or.inr (Or.inr (Or.inl ⟨by omega, by omega, (fi_pa ha11 (by omega) (by omega)).2.2.1⟩)))), rfl, rfl⟩), (by exact ⟨rfl, rfl, rfl⟩), (by omega)⟩))
    · refine zz_iconst d_RD_part_246 ?_
      refine ab_goto (tgt := 251) d_RD_part_247 (by decide) ?_
      refine zz_iconst d_RD_part_251 ?_
      refine zz_iconst d_RD_part_252 ?_
      refine ab_callI (d' := d - 1) (as := [vz 3, vz 3, vz 1, vz 1]) (st := [vR a11]) (z90_PA_init (o := o10) (a := a11) (k0 := 3) (v0 := 3) (s0 := 1) (m0 := 1) (ps := ps) (wt := wt) (bs := bs) (gr := grp) (Pr := pr0) (ph := ph) ha11 ppaI_0 (by omega) (by omega) (by omega) (by omega)) (fun oc G2 h => by rcases h with ⟨h, _⟩ <;> exact ⟨_, h⟩) (by omega) m_PA_init ml_RD_20 im_PA_init rfl (Nat.le_of_ble_eq_true rfl) d_RD_part_253 rfl ?_
      intro v G25 hq
      rcases hq with ⟨hv, hfk, hlk, hsk, hNa11, pNpaI_0, hq26⟩
      cases hv
      have hd_ := hfk.get hd_ (by decide)
      have hx := hfk.get hx (by decide)
      have hna := hfk.get hna (by decide)
      have hnl := hfk.get hnl (by decide)
      have hby_ := hfk.get hby_ (by decide)
      have h15 := hfk.get h15 (by decide)
      have h16 := hfk.get h16 (by decide)
      have popI_0 := popI_0.fz (o2 := o10) hq26 (by simp)
      have pcsI_se := csI.fr hfk pcsI_se (by decide) (by decide)
      have ptbI_0 := tbI.fr hfk ptbI_0  (by decide)
      have pszJ_0 := pszJ_0.fzk (o2 := o10) hq26
      have ppaI_0 := pNpaI_0
      have hfr := hfr.tr hfk (by decide)
      have hq27 := hlk
      have hq28 := hsk
      have ha11 := hNa11
      change ab_W _ _ _ G25 256 [some (vR d_), some (vz pl), none] [vR a11] _
      have hnf_ := ppaI_0.nref hnpa11
      have hnp9_ := hnpa11
      have hlt29 := ha11.lt
      have hn29 : paN grp pr0 3 3 (-1) := ⟨by omega, by intro _; omega, by intro _; omega, by intro _; omega, pr0_⟩
      obtain ⟨ps29, wt29, hx29, hxo29, hpa29, ppaI_0⟩ : ∃ pz wz : Nat → Nat, psx ps pz a11 ∧ (∀ x, ¬ x = a11 → pz x = ps x) ∧ pz a11 = 90 ∧ paI o10 G25 0 pz wz bs grp pr0 (ph + 0) := ⟨_, _, psx.ol (Nat.le_refl _), fun x hx => if_neg hx, ol_self, ppaI_0.ad90 0 hnpa11 (by omega) ha11 hn29 (by unfold pnB; omega) (Or.inl ⟨by omega, rfl⟩) (Or.inl rfl) (Or.inl rfl) (Or.inl rfl)⟩
      have popI_0 : opI o10 G25 0 ps29 k hi inn := opn_ps _ _ _ popI_0 (psx.lt hx29 (by omega))
      have hlf_ : leafp ps ps29 G25 a11 := leafp.mk hnf_ hnp9_ hxo29 hpa29 ha11 (by omega)
      have pszJ_0 := (pszJ_0.leaf hlf_ (s := (fi G25 a11 8)) ceq.rf (by have t := hlf_.2.2.2.2.1.2.1; omega)).up (hi2 := a11) (by omega)
      have popI_0 := opn_up (hi2 := a11) popI_0 (by omega)
      have popI_0 : opI o10 G25 0 ps29 k a11 inn := popI_0
      refine ab_aret (rt := _) rfl (Or.inl ⟨_, rfl⟩) (Or.inr ⟨_, rfl⟩) d_RD_part_256 ?_
      rw [hQ]; exact (Or.inr (Or.inr ⟨_, _, _, _, _, _, _, _, _, _, _, _, _, _, _, _, _, _, _, _, _, _, _, (pl + 1), fr, (fi G25 a11 8), rfl, hfr, hd_, hx, hna, hnl, ppaI_0, popI_0, pcsI_se, pszJ_0, (by omega), (by omega), (by omega), (by exact hnm), (by have hlt := ha11.lt; omega), (by exact hx29.lt (by omega)), (by omega), (by omega), (by omega), (by omega), (by omega), (by omega), (by omega), (by omega), (by exact hpa29), (by first | exact hkf | (simp only [List.length_cons]; omega) | omega), (by omega), (by omega), (by exact Or.inl ⟨Or.inr (Or.inr (Or.inr (Or.inr (Or.inl ⟨by omega, by omega, (fi_pa ha11 (by omega) (by omega)).2.2.1⟩)))), rfl, rfl⟩), (by exact ⟨rfl, rfl, rfl⟩), (by omega)⟩))
  replace c5 : nzq v2 36 := c5
  by_cases c30 : v2 = 40
  · refine zz_lookup (off := 120) (tgt := 136) d_RD_part_16 (by decide) (by omega) (by rw [c30]; decide) (by decide) ?_
    refine ab_aload_n d_RD_part_136 rfl ?_
    refine ab_iload_n d_RD_part_137 rfl ?_
    refine ab_callV (d' := d - 1) (as := [vz pl]) (st := []) (r := _) (z_RD_open (o := o) (d_ := d_) (inn := inn) (dp := dp) (flg := flg) (grp := grp) (na := na) (nl := nl) (lst := lst) (mst := mst) (bh := bh) (NA := NA) (NL := NL) (x := x) (se := se) (by_ := by_) (m := m) (f := f) (n := n) (pl := pl) (fa := fa) (fp := fp) (kd := kd) (kn := kn) (ps := ps) (wt := wt) (bs := bs) (ph := ph) (k := k) (hi := hi) (wh := wh) (fr := fr) hd_ hx hna hnl hby_ ppaI_0 popI_0 pszJ_0 (by omega) (by omega) hb (by omega) (by omega) (by omega) hnm (by omega) (by omega) (by omega) (by omega) (by omega) (by omega) (by omega)) (fun oc G2 h => by rcases h with ⟨_, _, _, _, _, _, _, h, _⟩ | ⟨_, _, _, _, _, _, _, _, h, _⟩ | ⟨_, _, _, _, _, _, _, _, _, h, _⟩ | ⟨_, _, _, h, _⟩ | ⟨_, _, _, _, h, _⟩ <;> exact ⟨_, h⟩) (by omega) m_RD_open ml_RD_106 im_RD_open se_RD_open c_RD hd_.2.2 (Nat.le_of_ble_eq_true rfl) d_RD_part_138 rfl ?_
    intro v G31 hq
    rcases hq with ⟨o32, inn233, k234, hi235, ps236, wt237, ph238, hv, hfk, hNd_, hNx, hNna, hNnl, pNpaI_0, pNopI_0, pNszJ_0, hq39, hq40, hq41, hq42, hq43, hq44, hq45, hq46, hq47⟩ | ⟨o48, nm249, inn250, k251, hi252, ps253, wt254, ph255, hv, hfk, hNd_, hNx, hNna, hNnl, pNpaI_0, pNopI_0, pNszJ_0, hq56, hq57, hq58, hq59, hq60, hq61, hq62, hq63, hq64, hq65, hq66, hq67, hq68⟩ | ⟨o69, v270, e271, inn272, k273, hi274, ps275, wt276, ph277, hv, hfk, hNd_, hNx, hNna, hNnl, pNpaI_0, pNopI_0, pNszJ_0, hq78, hq79, hq80, hq81, hq82, hq83, hq84, hq85, hq86, hq87, hq88, hq89⟩ | ⟨o90, v291, e292, hv, hfk, hNd_, hNx, hNna, hNnl, pNpaI_0, pNopI_0, pNszJ_0, hq93, hq94, hq95, hq96, hq97, hq98, hq99⟩ | ⟨o100, p2101, fa2102, fp2103, hv, hfk, hNd_, hNx, hNna, hNnl, pNpaI_0, pNopI_0, pNszJ_0, hq104, hq105, hq106, hq107, hq108⟩
    · cases hv
      have hby_ := hfk.get hby_ (by decide)
      have h15 := hfk.get h15 (by decide)
      have h16 := hfk.get h16 (by decide)
      have pcsI_se := csI.fr hfk pcsI_se (by decide) (by decide)
      have ptbI_0 := tbI.fr hfk ptbI_0  (by decide)
      have ppaI_0 := pNpaI_0
      have popI_0 := pNopI_0
      have pszJ_0 := pNszJ_0
      have hfr := hfr.tr hfk (by decide)
      have hq109 := hfk.1
      have hd_ := hNd_
      have hx := hNx
      have hna := hNna
      have hnl := hNnl
      change ab_W _ _ _ G31 141 [some (vR d_), some (vz pl), none] [] _
      refine ab_null d_RD_part_141 ?_
      refine ab_aret (rt := _) rfl (Or.inl ⟨_, rfl⟩) (Or.inl rfl) d_RD_part_142 ?_
      rw [hQ]; exact (Or.inr (Or.inl ⟨_, _, _, _, _, _, _, _, _, _, _, _, _, _, _, _, _, _, _, _, _, _, _, (pl + 1), ((pl, flg, (grp + 1), 0, 0) :: fr), rfl, hfr, hd_, hx, hna, hnl, ppaI_0, popI_0, pcsI_se, pszJ_0, (by omega), (by omega), (by omega), (by exact nmok_s hnm (by omega) (by omega)), (by omega), (by exact hq44.lt (by omega)), (by omega), (by omega), (by omega), (by omega), (by omega), (by omega), (by omega), (by omega), (by first | exact hkf | (simp only [List.length_cons]; omega) | omega), (by omega), (by omega), (by exact Or.inr (Or.inl ⟨by omega, by omega, ⟨by omega, by omega⟩, ⟨by omega, rfl, rfl, rfl, rfl⟩, rfl⟩)), (by omega)⟩))
    · cases hv
      have hby_ := hfk.get hby_ (by decide)
      have h15 := hfk.get h15 (by decide)
      have h16 := hfk.get h16 (by decide)
      have pcsI_se := csI.fr hfk pcsI_se (by decide) (by decide)
      have ptbI_0 := tbI.fr hfk ptbI_0  (by decide)
      have ppaI_0 := pNpaI_0
      have popI_0 := pNopI_0
      have pszJ_0 := pNszJ_0
      have hfr := hfr.tr hfk (by decide)
      have hq110 := hfk.1
      have hd_ := hNd_
      have hx := hNx
      have hna := hNna
      have hnl := hNnl
      change ab_W _ _ _ G31 141 [some (vR d_), some (vz pl), none] [] _
      have hnw_ : 1 ≤ nm249 ∧ nm249 ≤ 12 ∧ pl + 4 + nm249 < n := by have t := nmR_w hq58; omega
      refine ab_null d_RD_part_141 ?_
      refine ab_aret (rt := _) rfl (Or.inl ⟨_, rfl⟩) (Or.inl rfl) d_RD_part_142 ?_
      rw [hQ]; exact (Or.inr (Or.inl ⟨_, _, _, _, _, _, _, _, _, _, _, _, _, _, _, _, _, _, _, _, _, _, _, (pl + 1), ((pl, flg, (grp + 1), 0, 0) :: fr), rfl, hfr, hd_, hx, hna, hnl, ppaI_0, popI_0, pcsI_se, pszJ_0, (by omega), (by omega), (by omega), (by exact nmok_s hnm (by omega) (by omega)), (by omega), (by exact hq65.lt (by omega)), (by omega), (by omega), (by omega), (by omega), (by omega), (by omega), (by omega), (by omega), (by first | exact hkf | (simp only [List.length_cons]; omega) | omega), (by omega), (by omega), (by exact Or.inr (Or.inr (Or.inl ⟨by omega, by omega, ⟨by omega, by omega⟩, _, ⟨hq58, by omega, hq60⟩, ⟨by omega, by omega⟩, ⟨by omega, rfl, rfl, rfl, rfl⟩, rfl⟩))), (by first | omega | (have t := nmR_w hq58; omega))⟩))
    · cases hv
      have hby_ := hfk.get hby_ (by decide)
      have h15 := hfk.get h15 (by decide)
      have h16 := hfk.get h16 (by decide)
      have pcsI_se := csI.fr hfk pcsI_se (by decide) (by decide)
      have ptbI_0 := tbI.fr hfk ptbI_0  (by decide)
      have ppaI_0 := pNpaI_0
      have popI_0 := pNopI_0
      have pszJ_0 := pNszJ_0
      have hfr := hfr.tr hfk (by decide)
      have hq111 := hfk.1
      have hd_ := hNd_
      have hx := hNx
      have hna := hNna
      have hnl := hNnl
      change ab_W _ _ _ G31 141 [some (vR d_), some (vz pl), none] [] _
      have hfw_ := (flgR_w hq80).1
      have hfv_ := flgR_v hq80 (by omega)
      refine ab_null d_RD_part_141 ?_
      refine ab_aret (rt := _) rfl (Or.inl ⟨_, rfl⟩) (Or.inl rfl) d_RD_part_142 ?_
      rw [hQ]; exact (Or.inr (Or.inl ⟨_, _, _, _, _, _, _, _, _, _, _, _, _, _, _, _, _, _, _, _, _, _, _, (pl + 1), ((pl, flg, 0, 0, 0) :: fr), rfl, hfr, hd_, hx, hna, hnl, ppaI_0, popI_0, pcsI_se, pszJ_0, (by omega), (by omega), (by omega), (by exact hnm), (by omega), (by exact hq86.lt (by omega)), (by omega), (by omega), (by omega), (by omega), (by omega), (by omega), (by omega), (by omega), (by first | exact hkf | (simp only [List.length_cons]; omega) | omega), (by omega), (by omega), (by exact Or.inr (Or.inr (Or.inr ⟨by omega, by omega, by omega, _, hq80, ⟨by omega, rfl, rfl, rfl⟩, Or.inl ⟨by omega, by omega, rfl⟩⟩))), (by first | omega | (have t := flgR_w hq80; omega))⟩))
    · cases hv
      have hby_ := hfk.get hby_ (by decide)
      have h15 := hfk.get h15 (by decide)
      have h16 := hfk.get h16 (by decide)
      have pcsI_se := csI.fr hfk pcsI_se (by decide) (by decide)
      have ptbI_0 := tbI.fr hfk ptbI_0  (by decide)
      have ppaI_0 := pNpaI_0
      have popI_0 := pNopI_0
      have pszJ_0 := pNszJ_0
      have hfr := hfr.tr hfk (by decide)
      have hq112 := hfk.1
      have hd_ := hNd_
      have hx := hNx
      have hna := hNna
      have hnl := hNnl
      change ab_W _ _ _ G31 141 [some (vR d_), some (vz pl), none] [] _
      have hfw_ := (flgR_w hq95).1
      have hfv_ := flgR_v hq95 (by omega)
      refine ab_null d_RD_part_141 ?_
      refine ab_aret (rt := _) rfl (Or.inl ⟨_, rfl⟩) (Or.inl rfl) d_RD_part_142 ?_
      rw [hQ]; exact (Or.inr (Or.inl ⟨_, _, _, _, _, _, _, _, _, _, _, _, _, _, _, _, _, _, _, _, _, _, _, (pl + 1), fr, rfl, hfr, hd_, hx, hna, hnl, ppaI_0, popI_0, pcsI_se, pszJ_0, (by omega), (by omega), (by omega), (by exact hnm), (by omega), (by exact psx.rf), (by omega), (by omega), (by omega), (by omega), (by omega), (by omega), (by omega), (by omega), (by first | exact hkf | (simp only [List.length_cons]; omega) | omega), (by omega), (by omega), (by exact Or.inr (Or.inr (Or.inr ⟨by omega, by omega, by omega, _, hq95, ⟨by omega, rfl, rfl, rfl⟩, Or.inr ⟨by omega, rfl⟩⟩))), (by first | omega | (have t := flgR_w hq95; omega))⟩))
    · cases hv
      have hby_ := hfk.get hby_ (by decide)
      have h15 := hfk.get h15 (by decide)
      have h16 := hfk.get h16 (by decide)
      have pcsI_se := csI.fr hfk pcsI_se (by decide) (by decide)
      have ptbI_0 := tbI.fr hfk ptbI_0  (by decide)
      have ppaI_0 := pNpaI_0
      have popI_0 := pNopI_0
      have pszJ_0 := pNszJ_0
      have hfr := hfr.tr hfk (by decide)
      have hq113 := hfk.1
      have hd_ := hNd_
      have hx := hNx
      have hna := hNna
      have hnl := hNnl
      change ab_W _ _ _ G31 141 [some (vR d_), some (vz pl), none] [] _
      refine ab_null d_RD_part_141 ?_
      refine ab_aret (rt := _) rfl (Or.inl ⟨_, rfl⟩) (Or.inl rfl) d_RD_part_142 ?_
      rw [hQ]; exact (Or.inl ⟨_, _, _, _, _, _, _, _, _, _, _, _, _, _, _, _, _, _, _, _, _, _, _, (pl + 1), fr, rfl, hfr, hd_, hx, hna, hnl, ppaI_0, popI_0, pcsI_se, pszJ_0, (by omega), (by omega), (by omega), (by exact hnm), (by omega), (by exact psx.rf), (by omega), (by omega), (by omega), (by omega), (by omega), (by omega), (by omega), (by omega), (by first | exact hkf | (simp only [List.length_cons]; omega) | omega), (by omega), (by exact Or.inl (Or.inr (Or.inl ⟨by omega, by have t := hq104; rw [show dp = ↑fr.length - 1 by omega] at t; exact t, by omega⟩)))⟩)
  replace c30 : nzq v2 40 := c30
  by_cases c114 : v2 = 41
  · refine zz_lookup (off := 127) (tgt := 143) d_RD_part_16 (by decide) (by omega) (by rw [c114]; decide) (by decide) ?_
    refine ab_aload_n d_RD_part_143 rfl ?_
    refine ab_callV (d' := d - 1) (as := []) (st := []) (r := _) (z_RD_close (o := o) (d_ := d_) (inn := inn) (dp := dp) (flg := flg) (grp := grp) (na := na) (nl := nl) (lst := lst) (mst := mst) (bh := bh) (x := x) (se := se) (by_ := by_) (n := n) (pl := pl) (fa := fa) (fp := fp) (kd := kd) (kn := kn) (ps := ps) (wt := wt) (bs := bs) (ph := ph) (k := k) (hi := hi) (wh := wh) (fr := fr) hd_ hx ppaI_0 popI_0 pszJ_0 (by omega) (by omega) (by omega) (by omega) (by omega) (by omega) (by omega) (by omega)) (fun oc G2 h => by rcases h with ⟨_, _, _, _, _, _, _, _, h, _⟩ | ⟨_, _, _, _, _, _, _, _, _, _, _, _, _, _, h, _⟩ <;> exact ⟨_, h⟩) (by omega) m_RD_close ml_RD_110 im_RD_close se_RD_close c_RD hd_.2.2 (Nat.le_of_ble_eq_true rfl) d_RD_part_144 rfl ?_
    intro v G115 hq
    rcases hq with ⟨inn2116, dp2117, flg2118, p2119, fa2120, fp2121, k2122, hi2123, hv, hfk, hlk, hsk, hNd_, hNx, pNpaI_0, pNopI_0, pNszJ_0, hq124, hq125, hq126, hq127, hq128, hq129, hq130, hq131⟩ | ⟨p132, a1_133, b1_134, c1_135, d1_136, e1_137, t_138, inn2139, dp2140, flg2141, p2142, fa2143, fp2144, k2145, hv, hfk, hlk, hsk, hNd_, hNx, pNpaI_0, pNopI_0, pNszJ_0, hq146, hq147, hq148, hq149, hq150, hq151, hq152, hq153, hq154, hq155, hq156, hq157⟩
    · cases hv
      have hna := hfk.get hna (by decide)
      have hnl := hfk.get hnl (by decide)
      have hby_ := hfk.get hby_ (by decide)
      have h15 := hfk.get h15 (by decide)
      have h16 := hfk.get h16 (by decide)
      have pcsI_se := csI.fr hfk pcsI_se (by decide) (by decide)
      have ptbI_0 := tbI.fr hfk ptbI_0  (by decide)
      have ppaI_0 := pNpaI_0
      have popI_0 := pNopI_0
      have pszJ_0 := pNszJ_0
      have hfr := hfr.tr hfk (by decide)
      have hq158 := hlk
      have hq159 := hsk
      have hd_ := hNd_
      have hx := hNx
      change ab_W _ _ _ G115 147 [some (vR d_), some (vz pl), none] [vN] _
      refine ab_aret (rt := _) rfl (Or.inl ⟨_, rfl⟩) (Or.inl rfl) d_RD_part_147 ?_
      rw [hQ]; exact (Or.inl ⟨_, _, _, _, _, _, _, _, _, _, _, _, _, _, _, _, _, _, _, _, _, _, _, pl, fr, rfl, hfr, hd_, hx, hna, hnl, ppaI_0, popI_0, pcsI_se, pszJ_0, (by omega), (by omega), (by omega), (by exact hnm), (by omega), (by exact psx.rf), (by omega), (by omega), (by omega), (by omega), (by omega), (by omega), (by omega), (by omega), (by first | exact hkf | (simp only [List.length_cons]; omega) | omega), (by omega), (by exact Or.inl (Or.inr (Or.inr ⟨by omega, by omega, by omega, by omega⟩)))⟩)
    · cases hv
      have hna := hfk.get hna (by decide)
      have hnl := hfk.get hnl (by decide)
      have hby_ := hfk.get hby_ (by decide)
      have h15 := hfk.get h15 (by decide)
      have h16 := hfk.get h16 (by decide)
      have pcsI_se := csI.fr hfk pcsI_se (by decide) (by decide)
      have ptbI_0 := tbI.fr hfk ptbI_0  (by decide)
      have ppaI_0 := pNpaI_0
      have popI_0 := pNopI_0
      have pszJ_0 := pNszJ_0
      have hfr := hfr.tr hfk (by decide)
      have hq160 := hlk
      have hq161 := hsk
      have hd_ := hNd_
      have hx := hNx
      change ab_W _ _ _ G115 147 [some (vR d_), some (vz pl), none] [vR p132] _
      refine ab_aret (rt := _) rfl (Or.inl ⟨_, rfl⟩) (Or.inr ⟨_, rfl⟩) d_RD_part_147 ?_
      rw [hQ]; exact (Or.inr (Or.inr ⟨_, _, _, _, _, _, _, _, _, _, _, _, _, _, _, _, _, _, _, _, _, _, _, pl, t_138, (pin 4 c1_135 + e1_137 + d1_136), rfl, hfr, hd_, hx, hna, hnl, ppaI_0, popI_0, pcsI_se, pszJ_0, (by omega), (by omega), (by omega), (by exact hnm), (by omega), (by exact psx.rf), (by omega), (by omega), (by omega), (by omega), (by omega), (by omega), (by omega), (by omega), (by exact hq156), (by first | exact hkf | (simp only [List.length_cons]; omega) | omega | (have t := congrArg List.length hq146; simp only [List.length_cons] at t ⊢; omega) | (have t := congrArg List.length hq146; simp only [List.length_cons] at t; omega)), (by omega), (by omega), (by exact Or.inr ⟨by omega, by omega, _, _, _, _, _, hq146, by have t := congrArg List.length hq146; simp only [List.length_cons] at t; omega, by omega, rfl⟩), (by exact ⟨rfl, rfl, rfl⟩), (by omega)⟩))
  replace c114 : nzq v2 41 := c114
  by_cases c162 : v2 = 46
  · refine zz_lookup (off := 132) (tgt := 148) d_RD_part_16 (by decide) (by omega) (by rw [c162]; decide) (by decide) ?_
    refine ab_aload_n d_RD_part_148 rfl ?_
    refine ab_getf (fs := [vR x, inn, vz dp, vz flg, vz grp, vR na, vR nl, vz lst, vz mst, vz bh]) f_RD_12 d_RD_part_149 hd_.2.2 rfl ?_
    refine ab_dup d_RD_part_152 rfl ?_
    refine ab_getf (fs := [vR se, vR by_, vz n, vz pl, vz fa, vz fp, vR kd, vz kn]) f_RD_55 d_RD_part_153 hx.2.2 rfl ?_
    refine zz_iconst d_RD_part_156 ?_
    refine zz_iadd d_RD_part_157 ?_
    refine ab_putf (fs := [vR se, vR by_, vz n, vz pl, vz fa, vz fp, vR kd, vz kn]) f_RD_55 (Or.inl rfl) d_RD_part_158 hx.2.2 (Nat.le_of_ble_eq_true rfl) (fun _ => ⟨rfl, rfl⟩) (hx.2.1 (by decide)) ?_
    obtain ⟨G163, eG163⟩ : ∃ z : ab_G, z = List.set G x (ab_ob 10 [vR se, vR by_, vz n, vz (pl + 1), vz fa, vz fp, vR kd, vz kn]) := ⟨_, rfl⟩
    have hd_ := hd_.keep hx eG163 (by decide)
    have hna := hna.keep hx eG163 (by decide)
    have hnl := hnl.keep hx eG163 (by decide)
    have hby_ := hby_.keep hx eG163 (by decide)
    have h15 := h15.keep hx eG163 (by decide)
    have h16 := h16.keep hx eG163 (by decide)
    have hst := (fx.rf (o := o) (S := [24]) (G := G)).wr hx eG163 (List.mem_singleton.mpr rfl)
    have popI_0 := opI.fr hst ppaI_0 popI_0 (by decide) (by decide)
    have pcsI_se := csI.fr hst pcsI_se (by decide) (by decide)
    have ptbI_0 := tbI.fr hst ptbI_0  (by decide)
    have pszJ_0 := szJ.fr hst ppaI_0 pszJ_0 (by decide) (by decide)
    have ppaI_0 := paI.fr hst ppaI_0 (by decide) (by decide) (by decide) (by decide)
    have hq164 := z_len eG163
    have hq165 := z_sl hx eG163 rfl
    have hfr := hfr.wr hx eG163 (by decide)
    have hx := hx.kept eG163
    change ab_W _ _ _ (List.set G x (ab_ob 10 [vR se, vR by_, vz n, vz (pl + 1), vz fa, vz fp, vR kd, vz kn])) 161 [some (vR d_), some (vz pl), none] [] _
    rw [← eG163]
    refine ab_aload_n d_RD_part_161 rfl ?_
    refine ab_aload_n d_RD_part_162 rfl ?_
    refine zz_iconst d_RD_part_163 ?_
    refine ab_callV (d' := d - 1) (as := [vz 4]) (st := [vR d_]) (r := _) (z4_RD_isOn (o := o) (d_ := d_) (inn := inn) (dp := dp) (flg := flg) (grp := grp) (na := na) (nl := nl) (lst := lst) (mst := mst) (bh := bh) (x := x) hd_ (by omega)) (fun oc G2 h => by rcases h with ⟨_, h, _⟩ <;> exact ⟨_, h⟩) (by omega) m_RD_isOn ml_RD_94 im_RD_isOn se_RD_isOn c_RD hd_.2.2 (Nat.le_of_ble_eq_true rfl) d_RD_part_164 rfl ?_
    intro v G166 hq
    rcases hq with ⟨v167, hv, hGe, hq168, hq169⟩
    cases hv
    rw [hGe]
    change ab_W _ _ _ G163 167 [some (vR d_), some (vz pl), none] [vz v167, vR d_] _
    refine zz_if_eq (tgt := 176) d_RD_part_167 (by decide) (by omega) (fun c170 => ?_) (fun c170 => ?_)
    · refine ab_gets (i := 14) (by decide) s_RD_116 d_RD_part_176 ?_
      obtain ⟨w171, q171, mm171, hk171, hw171, hc171, hL171⟩ := ptbI_0.atL 14 (by decide) (by decide)
      have hL171 : w171 = 6 := hL171.trans (by decide)
      refine ab_callV (d' := d - 1) (as := [vR 14]) (st := []) (r := _) (zs_RD_classPart (o := o) (d_ := d_) (w := 14) (lw := 14) (w2 := w171) (q2 := q171) (m2 := mm171) (ps := ps) (wt := wt) (bs := bs) (gr := grp) (ph := ph) hk171 ppaI_0 (by omega) (by omega) (by omega) (by omega) hc171 (by omega) (by omega) (by omega) (by omega)) (fun oc G2 h => by rcases h with ⟨_, _, _, _, _, h, _⟩ <;> exact ⟨_, h⟩) (by omega) m_RD_classPart ml_RD_102 im_RD_classPart se_RD_classPart c_RD hd_.2.2 (Nat.le_of_ble_eq_true rfl) d_RD_part_179 rfl ?_
      intro v G172 hq
      rcases hq with ⟨o173, p174, ps2175, wt2176, ph2177, hv, hfk, pNpaI_0, hq178, hq179, hq180, hq181, hq182, hq183, hq184, hq185, hq186⟩
      cases hv
      have hd_ := hfk.get hd_ (by decide)
      have hx := hfk.get hx (by decide)
      have hna := hfk.get hna (by decide)
      have hnl := hfk.get hnl (by decide)
      have hby_ := hfk.get hby_ (by decide)
      have h15 := hfk.get h15 (by decide)
      have h16 := hfk.get h16 (by decide)
      have hk171 := hfk.get hk171 (by decide)
      have popI_0 := popI_0.fz (o2 := o173) hq181 (by simp)
      have pcsI_se := csI.fr hfk pcsI_se (by decide) (by decide)
      have ptbI_0 := tbI.fr hfk ptbI_0  (by decide)
      have pszJ_0 := pszJ_0.fzk (o2 := o173) hq181
      have ppaI_0 := pNpaI_0
      have hfr := hfr.tr hfk (by decide)
      have hq187 := hfk.1
      change ab_W _ _ _ G172 182 [some (vR d_), some (vz pl), none] [vR p174] _
      have popI_0 : opI o173 G172 0 ps2175 k hi inn := opn_ps _ _ _ popI_0 (psx.lt hq178 (by omega))
      have pszJ_0 := (pszJ_0.leaf hq185 (s := (fi G172 p174 8)) ceq.rf (by have t := hq185.2.2.2.2.1.2.1; omega)).up (hi2 := p174) (by omega)
      have popI_0 := opn_up (hi2 := p174) popI_0 (by omega)
      have popI_0 : opI o173 G172 0 ps2175 k p174 inn := popI_0
      refine ab_aret (rt := _) rfl (Or.inl ⟨_, rfl⟩) (Or.inr ⟨_, rfl⟩) d_RD_part_182 ?_
      rw [hQ]; exact (Or.inr (Or.inr ⟨_, _, _, _, _, _, _, _, _, _, _, _, _, _, _, _, _, _, _, _, _, _, _, (pl + 1), fr, (fi G172 p174 8), rfl, hfr, hd_, hx, hna, hnl, ppaI_0, popI_0, pcsI_se, pszJ_0, (by omega), (by omega), (by omega), (by exact hnm), (by omega), (by exact hq178.lt (by omega)), (by omega), (by omega), (by omega), (by omega), (by omega), (by omega), (by omega), (by omega), (by exact hq179), (by first | exact hkf | (simp only [List.length_cons]; omega) | omega), (by omega), (by omega), (by exact Or.inl ⟨Or.inr (Or.inr (Or.inr (Or.inl ⟨by omega, by omega, by omega⟩))), rfl, rfl⟩), (by exact ⟨rfl, rfl, rfl⟩), (by omega)⟩))
    · refine ab_gets (i := 13) (by decide) s_RD_113 d_RD_part_170 ?_
      refine ab_goto (tgt := 179) d_RD_part_173 (by decide) ?_
      obtain ⟨w188, q188, mm188, hk188, hw188, hc188, hL188⟩ := ptbI_0.atL 13 (by decide) (by decide)
      have hL188 : w188 = 4 := hL188.trans (by decide)
      refine ab_callV (d' := d - 1) (as := [vR 13]) (st := []) (r := _) (zs_RD_classPart (o := o) (d_ := d_) (w := 13) (lw := 13) (w2 := w188) (q2 := q188) (m2 := mm188) (ps := ps) (wt := wt) (bs := bs) (gr := grp) (ph := ph) hk188 ppaI_0 (by omega) (by omega) (by omega) (by omega) hc188 (by omega) (by omega) (by omega) (by omega)) (fun oc G2 h => by rcases h with ⟨_, _, _, _, _, h, _⟩ <;> exact ⟨_, h⟩) (by omega) m_RD_classPart ml_RD_102 im_RD_classPart se_RD_classPart c_RD hd_.2.2 (Nat.le_of_ble_eq_true rfl) d_RD_part_179 rfl ?_
      intro v G189 hq
      rcases hq with ⟨o190, p191, ps2192, wt2193, ph2194, hv, hfk, pNpaI_0, hq195, hq196, hq197, hq198, hq199, hq200, hq201, hq202, hq203⟩
      cases hv
      have hd_ := hfk.get hd_ (by decide)
      have hx := hfk.get hx (by decide)
      have hna := hfk.get hna (by decide)
      have hnl := hfk.get hnl (by decide)
      have hby_ := hfk.get hby_ (by decide)
      have h15 := hfk.get h15 (by decide)
      have h16 := hfk.get h16 (by decide)
      have hk188 := hfk.get hk188 (by decide)
      have popI_0 := popI_0.fz (o2 := o190) hq198 (by simp)
      have pcsI_se := csI.fr hfk pcsI_se (by decide) (by decide)
      have ptbI_0 := tbI.fr hfk ptbI_0  (by decide)
      have pszJ_0 := pszJ_0.fzk (o2 := o190) hq198
      have ppaI_0 := pNpaI_0
      have hfr := hfr.tr hfk (by decide)
      have hq204 := hfk.1
      change ab_W _ _ _ G189 182 [some (vR d_), some (vz pl), none] [vR p191] _
      have popI_0 : opI o190 G189 0 ps2192 k hi inn := opn_ps _ _ _ popI_0 (psx.lt hq195 (by omega))
      have pszJ_0 := (pszJ_0.leaf hq202 (s := (fi G189 p191 8)) ceq.rf (by have t := hq202.2.2.2.2.1.2.1; omega)).up (hi2 := p191) (by omega)
      have popI_0 := opn_up (hi2 := p191) popI_0 (by omega)
      have popI_0 : opI o190 G189 0 ps2192 k p191 inn := popI_0
      refine ab_aret (rt := _) rfl (Or.inl ⟨_, rfl⟩) (Or.inr ⟨_, rfl⟩) d_RD_part_182 ?_
      rw [hQ]; exact (Or.inr (Or.inr ⟨_, _, _, _, _, _, _, _, _, _, _, _, _, _, _, _, _, _, _, _, _, _, _, (pl + 1), fr, (fi G189 p191 8), rfl, hfr, hd_, hx, hna, hnl, ppaI_0, popI_0, pcsI_se, pszJ_0, (by omega), (by omega), (by omega), (by exact hnm), (by omega), (by exact hq195.lt (by omega)), (by omega), (by omega), (by omega), (by omega), (by omega), (by omega), (by omega), (by omega), (by exact hq196), (by first | exact hkf | (simp only [List.length_cons]; omega) | omega), (by omega), (by omega), (by exact Or.inl ⟨Or.inr (Or.inr (Or.inr (Or.inl ⟨by omega, by omega, by omega⟩))), rfl, rfl⟩), (by exact ⟨rfl, rfl, rfl⟩), (by omega)⟩))
  replace c162 : nzq v2 46 := c162
  by_cases c205 : v2 = 91
  · refine zz_lookup (off := 103) (tgt := 119) d_RD_part_16 (by decide) (by omega) (by rw [c205]; decide) (by decide) ?_
    refine ab_aload_n d_RD_part_119 rfl ?_
    refine ab_aload_n d_RD_part_120 rfl ?_
    refine ab_getf (fs := [vR x, inn, vz dp, vz flg, vz grp, vR na, vR nl, vz lst, vz mst, vz bh]) f_RD_12 d_RD_part_121 hd_.2.2 rfl ?_
    refine ab_aload_n d_RD_part_124 rfl ?_
    refine zz_iconst d_RD_part_125 ?_
    refine ab_callV (d' := d - 1) (as := [vz 1]) (st := [vR x, vR d_]) (r := _) (z1_RD_isOn (o := o) (d_ := d_) (inn := inn) (dp := dp) (flg := flg) (grp := grp) (na := na) (nl := nl) (lst := lst) (mst := mst) (bh := bh) (x := x) hd_ (by omega)) (fun oc G2 h => by rcases h with ⟨_, h, _⟩ <;> exact ⟨_, h⟩) (by omega) m_RD_isOn ml_RD_94 im_RD_isOn se_RD_isOn c_RD hd_.2.2 (Nat.le_of_ble_eq_true rfl) d_RD_part_126 rfl ?_
    intro v G206 hq
    rcases hq with ⟨v207, hv, hGe, hq208, hq209⟩
    cases hv
    rw [hGe]
    change ab_W _ _ _ G 129 [some (vR d_), some (vz pl), none] [vz v207, vR x, vR d_] _
    refine ab_callV (d' := d - 1) (as := [vz v207]) (st := [vR d_]) (r := _) (z_TX_charClass (o := o) (x := x) (se := se) (by_ := by_) (m := m) (f := f) (n := n) (pl := pl) (fa := fa) (fp := fp) (kd := kd) (kn := kn) (nb := nb) (cnt := cnt) (P := P) (al := v207) hx hby_ h15 h16 pcsI_se ptbI_0 (by omega) hb (by omega) (by omega) (by omega) (by omega) (by omega) (by omega) (by omega) (by omega)) (fun oc G2 h => by rcases h with ⟨_, _, _, _, _, _, _, _, _, h, _⟩ | ⟨_, _, _, _, _, _, _, _, _, _, _, _, _, h, _⟩ <;> exact ⟨_, h⟩) (by omega) m_TX_charClass ml_RD_98 im_TX_charClass se_TX_charClass c_TX hx.2.2 (Nat.le_of_ble_eq_true rfl) d_RD_part_129 rfl ?_
    intro v G210 hq
    rcases hq with ⟨o211, p2212, fa2213, fp2214, kd2215, kn2216, nb2217, c2218, P2219, hv, hfk, hNx, hNby_, pNcsI_se, hq220, hq221, hq222, hq223, hq224, hq225, hq226, hq227⟩ | ⟨o228, w229, p2230, fa2231, fp2232, kd2233, kn2234, nb2235, c2236, P2237, q2238, m2239, w2240, hv, hfk, hNx, hNby_, hNw229, pNcsI_se, hq241, hq242, hq243, hq244, hq245, hq246, hq247, hq248, hq249, hq250⟩
    · cases hv
      have hd_ := hfk.get hd_ (by decide)
      have hna := hfk.get hna (by decide)
      have hnl := hfk.get hnl (by decide)
      have h15 := hfk.get h15 (by decide)
      have h16 := hfk.get h16 (by decide)
      have popI_0 := opI.fr hfk ppaI_0 popI_0 (by decide) (by decide)
      have ptbI_0 := tbI.fr hfk ptbI_0  (by decide)
      have pszJ_0 := szJ.fr hfk ppaI_0 pszJ_0 (by decide) (by decide)
      have ppaI_0 := paI.fr hfk ppaI_0 (by decide) (by decide) (by decide) (by decide)
      have pcsI_se := pNcsI_se
      have hfr := hfr.tr hfk (by decide)
      have hq251 := hfk.1
      have hx := hNx
      have hby_ := hNby_
      change ab_W _ _ _ G210 132 [some (vR d_), some (vz pl), none] [vN, vR d_] _
      refine ab_callV (d' := d - 1) (as := [vN]) (st := []) (r := _) (zN_RD_classPart (o := o211) (d_ := d_) ) (fun oc G2 h => by rcases h with ⟨h, _⟩ <;> exact ⟨_, h⟩) (by omega) m_RD_classPart ml_RD_102 im_RD_classPart se_RD_classPart c_RD hd_.2.2 (Nat.le_of_ble_eq_true rfl) d_RD_part_132 rfl ?_
      intro v G253 hq
      rcases hq with ⟨hv, hGe⟩
      cases hv
      rw [hGe]
      change ab_W _ _ _ G210 135 [some (vR d_), some (vz pl), none] [vN] _
      refine ab_aret (rt := _) rfl (Or.inl ⟨_, rfl⟩) (Or.inl rfl) d_RD_part_135 ?_
      rw [hQ]; exact (Or.inl ⟨_, _, _, _, _, _, _, _, _, _, _, _, _, _, _, _, _, _, _, _, _, _, _, pl, fr, rfl, hfr, hd_, hx, hna, hnl, ppaI_0, popI_0, pcsI_se, pszJ_0, (by omega), (by omega), (by omega), (by exact hnm), (by omega), (by exact psx.rf), (by omega), (by omega), (by omega), (by omega), (by omega), (by omega), (by omega), (by omega), (by first | exact hkf | (simp only [List.length_cons]; omega) | omega), (by omega), (by exact Or.inl (Or.inl (Or.inr (Or.inl ⟨by omega, by rw [show flg % 2 = v207 by omega]; exact hq221⟩))))⟩)
    · cases hv
      have hd_ := hfk.get hd_ (by decide)
      have hna := hfk.get hna (by decide)
      have hnl := hfk.get hnl (by decide)
      have h15 := hfk.get h15 (by decide)
      have h16 := hfk.get h16 (by decide)
      have popI_0 := opI.fr hfk ppaI_0 popI_0 (by decide) (by decide)
      have ptbI_0 := tbI.fr hfk ptbI_0  (by decide)
      have pszJ_0 := szJ.fr hfk ppaI_0 pszJ_0 (by decide) (by decide)
      have ppaI_0 := paI.fr hfk ppaI_0 (by decide) (by decide) (by decide) (by decide)
      have pcsI_se := pNcsI_se
      have hfr := hfr.tr hfk (by decide)
      have hq252 := hfk.1
      have hx := hNx
      have hby_ := hNby_
      have hw229 := hNw229
      change ab_W _ _ _ G210 132 [some (vR d_), some (vz pl), none] [vR w229, vR d_] _
      refine ab_callV (d' := d - 1) (as := [vR w229]) (st := []) (r := _) (z93_RD_classPart (o := o228) (d_ := d_) (w := w229) (w2 := w2240) (q2 := q2238) (m2 := m2239) (ps := ps) (wt := wt) (bs := bs) (gr := grp) (ph := ph) hw229 ppaI_0 (by omega) (by omega) hq247 (by omega) (by omega) (by omega) (by omega)) (fun oc G2 h => by rcases h with ⟨_, _, _, _, _, h, _⟩ <;> exact ⟨_, h⟩) (by omega) m_RD_classPart ml_RD_102 im_RD_classPart se_RD_classPart c_RD hd_.2.2 (Nat.le_of_ble_eq_true rfl) d_RD_part_132 rfl ?_
      intro v G254 hq
      rcases hq with ⟨o255, p256, ps2257, wt2258, ph2259, hv, hfk, pNpaI_0, hq260, hq261, hq262, hq263, hq264, hq265, hq266, hq267, hq268⟩
      cases hv
      have hd_ := hfk.get hd_ (by decide)
      have hx := hfk.get hx (by decide)
      have hna := hfk.get hna (by decide)
      have hnl := hfk.get hnl (by decide)
      have hby_ := hfk.get hby_ (by decide)
      have h15 := hfk.get h15 (by decide)
      have h16 := hfk.get h16 (by decide)
      have hw229 := hfk.get hw229 (by decide)
      have popI_0 := popI_0.fz (o2 := o255) hq263 (by simp)
      have pcsI_se := csI.fr hfk pcsI_se (by decide) (by decide)
      have ptbI_0 := tbI.fr hfk ptbI_0  (by decide)
      have pszJ_0 := pszJ_0.fzk (o2 := o255) hq263
      have ppaI_0 := pNpaI_0
      have hfr := hfr.tr hfk (by decide)
      have hq269 := hfk.1
      change ab_W _ _ _ G254 135 [some (vR d_), some (vz pl), none] [vR p256] _
      have popI_0 : opI o255 G254 0 ps2257 k hi inn := opn_ps _ _ _ popI_0 (psx.lt hq260 (by omega))
      have pszJ_0 := (pszJ_0.leaf hq267 (s := (fi G254 p256 8)) ceq.rf (by have t := hq267.2.2.2.2.1.2.1; omega)).up (hi2 := p256) (by omega)
      have popI_0 := opn_up (hi2 := p256) popI_0 (by omega)
      have popI_0 : opI o255 G254 0 ps2257 k p256 inn := popI_0
      refine ab_aret (rt := _) rfl (Or.inl ⟨_, rfl⟩) (Or.inr ⟨_, rfl⟩) d_RD_part_135 ?_
      rw [hQ]; exact (Or.inr (Or.inr ⟨_, _, _, _, _, _, _, _, _, _, _, _, _, _, _, _, _, _, _, _, _, _, _, p2230, fr, (fi G254 p256 8), rfl, hfr, hd_, hx, hna, hnl, ppaI_0, popI_0, pcsI_se, pszJ_0, (by omega), (by omega), (by omega), (by exact hnm), (by omega), (by exact hq260.lt (by omega)), (by omega), (by omega), (by omega), (by omega), (by omega), (by omega), (by omega), (by omega), (by exact hq261), (by first | exact hkf | (simp only [List.length_cons]; omega) | omega), (by omega), (by omega), (by obtain ⟨no9, fi9, P9, y1, y2, y3, y4⟩ := hq241; exact Or.inl ⟨Or.inr (Or.inr (Or.inl ⟨by omega, no9, fi9, P9, y1, by rw [show flg % 2 = v207 by omega]; exact y2, y3, _, _, ⟨hq247, by omega⟩, y4, by omega⟩)), rfl, rfl⟩), (by exact ⟨rfl, rfl, rfl⟩), (by omega)⟩))
  replace c205 : nzq v2 91 := c205
  by_cases c270 : v2 = 92
  · refine zz_lookup (off := 76) (tgt := 92) d_RD_part_16 (by decide) (by omega) (by rw [c270]; decide) (by decide) ?_
    refine ab_aload_n d_RD_part_92 rfl ?_
    refine ab_getf (fs := [vR x, inn, vz dp, vz flg, vz grp, vR na, vR nl, vz lst, vz mst, vz bh]) f_RD_12 d_RD_part_93 hd_.2.2 rfl ?_
    refine ab_callV (d' := d - 1) (as := []) (st := []) (r := _) (z_TX_escape (o := o) (x := x) (lx := 24) (se := se) (by_ := by_) (lby := 23) (m := m) (f := f) (n := n) (pl := pl) (fa := fa) (fp := fp) (kd := kd) (kn := kn) hx hby_ (by omega) hb (by omega) (by omega) (by omega) (by omega)) (fun oc G2 h => by rcases h with ⟨_, _, h, _⟩ | ⟨_, _, _, h, _⟩ | ⟨_, _, h, _⟩ <;> exact ⟨_, h⟩) (by omega) m_TX_escape ml_RD_83 im_TX_escape se_TX_escape c_TX hx.2.2 (Nat.le_of_ble_eq_true rfl) d_RD_part_96 rfl ?_
    intro v G271 hq
    rcases hq with ⟨v272, p2273, hv, hfk, hlk, hsk, hNx, hNby_, hq274, hq275, hq276⟩ | ⟨p2277, k2278, b2279, hv, hfk, hlk, hsk, hNx, hNby_, hq280, hq281, hq282, hq283⟩ | ⟨p2284, w285, hv, hfk, hlk, hsk, hNx, hNby_, hq286, hq287, hq288⟩
    · cases hv
      have hd_ := hfk.get hd_ (by decide)
      have hna := hfk.get hna (by decide)
      have hnl := hfk.get hnl (by decide)
      have h15 := hfk.get h15 (by decide)
      have h16 := hfk.get h16 (by decide)
      have popI_0 := opI.fr hfk ppaI_0 popI_0 (by decide) (by decide)
      have pcsI_se := csI.fr hfk pcsI_se (by decide) (by decide)
      have ptbI_0 := tbI.fr hfk ptbI_0  (by decide)
      have pszJ_0 := szJ.fr hfk ppaI_0 pszJ_0 (by decide) (by decide)
      have ppaI_0 := paI.fr hfk ppaI_0 (by decide) (by decide) (by decide) (by decide)
      have hfr := hfr.tr hfk (by decide)
      have hq289 := hlk
      have hq290 := hsk
      have hx := hNx
      have hby_ := hNby_
      change ab_W _ _ _ G271 99 [some (vR d_), some (vz pl), none] [vz v272] _
      refine ab_istore_n d_RD_part_99 (Nat.le_of_ble_eq_true rfl) (Nat.le_of_ble_eq_true rfl) rfl ?_
      change ab_W _ _ _ G271 100 [some (vR d_), some (vz pl), some (vz v272)] [] _
      have hew := esc1_w hq276
      have hgp := esc1_gap hq276
      refine ab_iload_n d_RD_part_100 rfl ?_
      refine zz_iconst d_RD_part_101 ?_
      refine zz_icmp_lt (tgt := 113) d_RD_part_102 (by decide) (by omega) (by decide) (fun c295 => ?_) (fun c295 => ?_)
      · refine ab_aload_n d_RD_part_113 rfl ?_
        refine ab_iload_n d_RD_part_114 rfl ?_
        by_cases hv296 : v272 = -3
        · subst hv296
          change ab_W _ _ _ G271 115 [some (vR d_), some (vz pl), some (vz (-3))] [vz (-3), vR d_] _
          refine ab_callV (d' := d - 1) (as := [vz (-3)]) (st := []) (r := _) (z3_RD_escaped (o := o) (d_ := d_) (ps := ps) (wt := wt) (bs := bs) (gr := grp) (ph := ph) ppaI_0 (by omega) (by omega) (by omega) (by omega) (by omega)) (fun oc G2 h => by rcases h with ⟨_, _, _, _, _, h, _⟩ <;> exact ⟨_, h⟩) (by omega) m_RD_escaped ml_RD_91 im_RD_escaped se_RD_escaped c_RD hd_.2.2 (Nat.le_of_ble_eq_true rfl) d_RD_part_115 rfl ?_
          intro v G297 hq
          rcases hq with ⟨o298, p299, ps2300, wt2301, ph2302, hv, hfk, pNpaI_0, hq303, hq304, hq305, hq306, hq307, hq308, hq309, hq310, hq311⟩
          cases hv
          have hd_ := hfk.get hd_ (by decide)
          have hx := hfk.get hx (by decide)
          have hna := hfk.get hna (by decide)
          have hnl := hfk.get hnl (by decide)
          have hby_ := hfk.get hby_ (by decide)
          have h15 := hfk.get h15 (by decide)
          have h16 := hfk.get h16 (by decide)
          have popI_0 := popI_0.fz (o2 := o298) hq306 (by simp)
          have pcsI_se := csI.fr hfk pcsI_se (by decide) (by decide)
          have ptbI_0 := tbI.fr hfk ptbI_0  (by decide)
          have pszJ_0 := pszJ_0.fzk (o2 := o298) hq306
          have ppaI_0 := pNpaI_0
          have hfr := hfr.tr hfk (by decide)
          have hq312 := hfk.1
          change ab_W _ _ _ G297 118 [some (vR d_), some (vz pl), some (vz (-3))] [vR p299] _
          have popI_0 : opI o298 G297 0 ps2300 k hi inn := opn_ps _ _ _ popI_0 (psx.lt hq303 (by omega))
          have pszJ_0 := (pszJ_0.leaf hq310 (s := (fi G297 p299 8)) ceq.rf (by have t := hq310.2.2.2.2.1.2.1; omega)).up (hi2 := p299) (by omega)
          have popI_0 := opn_up (hi2 := p299) popI_0 (by omega)
          have popI_0 : opI o298 G297 0 ps2300 k p299 inn := popI_0
          refine ab_aret (rt := _) rfl (Or.inl ⟨_, rfl⟩) (Or.inr ⟨_, rfl⟩) d_RD_part_118 ?_
          rw [hQ]; exact (Or.inr (Or.inr ⟨_, _, _, _, _, _, _, _, _, _, _, _, _, _, _, _, _, _, _, _, _, _, _, p2273, fr, (fi G297 p299 8), rfl, hfr, hd_, hx, hna, hnl, ppaI_0, popI_0, pcsI_se, pszJ_0, (by omega), (by omega), (by omega), (by exact hnm), (by omega), (by exact hq303.lt (by omega)), (by omega), (by omega), (by omega), (by omega), (by omega), (by omega), (by omega), (by omega), (by exact hq304), (by first | exact hkf | (simp only [List.length_cons]; omega) | omega), (by omega), (by omega), (by exact Or.inl ⟨Or.inl ⟨by omega, _, hq276, Or.inr ⟨by omega, hq311⟩⟩, rfl, rfl⟩), (by exact ⟨rfl, rfl, rfl⟩), (by omega)⟩))
        · have hv4 : v272 ≤ -4 := by omega
          refine ab_callV (d' := d - 1) (as := [vz v272]) (st := []) (r := _) (z4_RD_escaped (o := o) (d_ := d_) (ps := ps) (wt := wt) (bs := bs) (gr := grp) (ph := ph) (c := v272) ppaI_0 (by omega) (by omega) (by omega) (by omega) (by omega) (by omega)) (fun oc G2 h => by rcases h with ⟨_, _, _, _, _, h, _⟩ <;> exact ⟨_, h⟩) (by omega) m_RD_escaped ml_RD_91 im_RD_escaped se_RD_escaped c_RD hd_.2.2 (Nat.le_of_ble_eq_true rfl) d_RD_part_115 rfl ?_
          intro v G313 hq
          rcases hq with ⟨o314, p315, ps2316, wt2317, ph2318, hv, hfk, pNpaI_0, hq319, hq320, hq321, hq322, hq323, hq324, hq325, hq326, hq327⟩
          cases hv
          have hd_ := hfk.get hd_ (by decide)
          have hx := hfk.get hx (by decide)
          have hna := hfk.get hna (by decide)
          have hnl := hfk.get hnl (by decide)
          have hby_ := hfk.get hby_ (by decide)
          have h15 := hfk.get h15 (by decide)
          have h16 := hfk.get h16 (by decide)
          have popI_0 := popI_0.fz (o2 := o314) hq322 (by simp)
          have pcsI_se := csI.fr hfk pcsI_se (by decide) (by decide)
          have ptbI_0 := tbI.fr hfk ptbI_0  (by decide)
          have pszJ_0 := pszJ_0.fzk (o2 := o314) hq322
          have ppaI_0 := pNpaI_0
          have hfr := hfr.tr hfk (by decide)
          have hq328 := hfk.1
          change ab_W _ _ _ G313 118 [some (vR d_), some (vz pl), some (vz v272)] [vR p315] _
          have popI_0 : opI o314 G313 0 ps2316 k hi inn := opn_ps _ _ _ popI_0 (psx.lt hq319 (by omega))
          have pszJ_0 := (pszJ_0.leaf hq326 (s := (fi G313 p315 8)) ceq.rf (by have t := hq326.2.2.2.2.1.2.1; omega)).up (hi2 := p315) (by omega)
          have popI_0 := opn_up (hi2 := p315) popI_0 (by omega)
          have popI_0 : opI o314 G313 0 ps2316 k p315 inn := popI_0
          refine ab_aret (rt := _) rfl (Or.inl ⟨_, rfl⟩) (Or.inr ⟨_, rfl⟩) d_RD_part_118 ?_
          rw [hQ]; exact (Or.inr (Or.inr ⟨_, _, _, _, _, _, _, _, _, _, _, _, _, _, _, _, _, _, _, _, _, _, _, p2273, fr, (fi G313 p315 8), rfl, hfr, hd_, hx, hna, hnl, ppaI_0, popI_0, pcsI_se, pszJ_0, (by omega), (by omega), (by omega), (by exact hnm), (by omega), (by exact hq319.lt (by omega)), (by omega), (by omega), (by omega), (by omega), (by omega), (by omega), (by omega), (by omega), (by exact hq320), (by first | exact hkf | (simp only [List.length_cons]; omega) | omega), (by omega), (by omega), (by exact Or.inl ⟨Or.inl ⟨by omega, _, hq276, Or.inr ⟨by omega, hq327⟩⟩, rfl, rfl⟩), (by exact ⟨rfl, rfl, rfl⟩), (by omega)⟩))
      · refine ab_aload_n d_RD_part_105 rfl ?_
        refine ab_iload_n d_RD_part_106 rfl ?_
        refine ab_callV (d' := d - 1) (as := [vz v272]) (st := []) (r := _) (z_RD_literal (o := o) (d_ := d_) (inn := inn) (dp := dp) (flg := flg) (grp := grp) (na := na) (nl := nl) (lst := lst) (mst := mst) (bh := bh) (x := x) (se := se) (by_ := by_) (n := n) (pl := p2273) (fa := fa) (fp := fp) (kd := kd) (kn := kn) (nb := nb) (cnt := cnt) (P := P) (ps := ps) (wt := wt) (bs := bs) (gr := grp) (ph := ph) (c := v272) hd_ hx h15 h16 ppaI_0 pcsI_se (by omega) (by omega) (by omega) hgp (by omega) (by omega) (by omega) (by omega) (by omega)) (fun oc G2 h => by rcases h with ⟨_, _, _, _, _, _, _, _, h, _⟩ <;> exact ⟨_, h⟩) (by omega) m_RD_literal ml_RD_87 im_RD_literal se_RD_literal c_RD hd_.2.2 (Nat.le_of_ble_eq_true rfl) d_RD_part_107 rfl ?_
        intro v G329 hq
        rcases hq with ⟨o330, p331, ps2332, wt2333, ph2334, nb2335, c2336, P2337, hv, hfk, pNpaI_0, pNcsI_se, hq338, hq339, hq340, hq341, hq342, hq343, hq344, hq345, hq346, hq347⟩
        cases hv
        have hd_ := hfk.get hd_ (by decide)
        have hx := hfk.get hx (by decide)
        have hna := hfk.get hna (by decide)
        have hnl := hfk.get hnl (by decide)
        have hby_ := hfk.get hby_ (by decide)
        have h15 := hfk.get h15 (by decide)
        have h16 := hfk.get h16 (by decide)
        have popI_0 := popI_0.fz (o2 := o330) hq341 (by simp)
        have ptbI_0 := tbI.fr hfk ptbI_0  (by decide)
        have pszJ_0 := pszJ_0.fzk (o2 := o330) hq341
        have ppaI_0 := pNpaI_0
        have pcsI_se := pNcsI_se
        have hfr := hfr.tr hfk (by decide)
        have hq348 := hfk.1
        change ab_W _ _ _ G329 110 [some (vR d_), some (vz pl), some (vz v272)] [vR p331] _
        refine ab_goto (tgt := 118) d_RD_part_110 (by decide) ?_
        have popI_0 : opI o330 G329 0 ps2332 k hi inn := opn_ps _ _ _ popI_0 (psx.lt hq338 (by omega))
        have pszJ_0 := (pszJ_0.leaf hq346 (s := (fi G329 p331 8)) ceq.rf (by have t := hq346.2.2.2.2.1.2.1; omega)).up (hi2 := p331) (by omega)
        have popI_0 := opn_up (hi2 := p331) popI_0 (by omega)
        have popI_0 : opI o330 G329 0 ps2332 k p331 inn := popI_0
        refine ab_aret (rt := _) rfl (Or.inl ⟨_, rfl⟩) (Or.inr ⟨_, rfl⟩) d_RD_part_118 ?_
        rw [hQ]; exact (Or.inr (Or.inr ⟨_, _, _, _, _, _, _, _, _, _, _, _, _, _, _, _, _, _, _, _, _, _, _, p2273, fr, (fi G329 p331 8), rfl, hfr, hd_, hx, hna, hnl, ppaI_0, popI_0, pcsI_se, pszJ_0, (by omega), (by omega), (by omega), (by exact hnm), (by omega), (by exact hq338.lt (by omega)), (by omega), (by omega), (by omega), (by omega), (by omega), (by omega), (by omega), (by omega), (by exact hq339), (by first | exact hkf | (simp only [List.length_cons]; omega) | omega), (by omega), (by omega), (by exact Or.inl ⟨Or.inl ⟨by omega, _, hq276, Or.inl ⟨by omega, hq347⟩⟩, rfl, rfl⟩), (by exact ⟨rfl, rfl, rfl⟩), (by omega)⟩))
    · cases hv
      have hd_ := hfk.get hd_ (by decide)
      have hna := hfk.get hna (by decide)
      have hnl := hfk.get hnl (by decide)
      have h15 := hfk.get h15 (by decide)
      have h16 := hfk.get h16 (by decide)
      have popI_0 := opI.fr hfk ppaI_0 popI_0 (by decide) (by decide)
      have pcsI_se := csI.fr hfk pcsI_se (by decide) (by decide)
      have ptbI_0 := tbI.fr hfk ptbI_0  (by decide)
      have pszJ_0 := szJ.fr hfk ppaI_0 pszJ_0 (by decide) (by decide)
      have ppaI_0 := paI.fr hfk ppaI_0 (by decide) (by decide) (by decide) (by decide)
      have hfr := hfr.tr hfk (by decide)
      have hq291 := hlk
      have hq292 := hsk
      have hx := hNx
      have hby_ := hNby_
      change ab_W _ _ _ G271 99 [some (vR d_), some (vz pl), none] [vz (-2)] _
      refine ab_istore_n d_RD_part_99 (Nat.le_of_ble_eq_true rfl) (Nat.le_of_ble_eq_true rfl) rfl ?_
      change ab_W _ _ _ G271 100 [some (vR d_), some (vz pl), some (vz (-2))] [] _
      have hew := esc2_w hq283
      refine ab_iload_n d_RD_part_100 rfl ?_
      refine zz_iconst d_RD_part_101 ?_
      refine zz_icmp_lt (tgt := 113) d_RD_part_102 (by decide) (by decide) (by decide) (fun c349 => ?_) (fun c349 => absurd c349 (by decide))
      refine ab_aload_n d_RD_part_113 rfl ?_
      refine ab_iload_n d_RD_part_114 rfl ?_
      refine ab_callV (d' := d - 1) (as := [vz (-2)]) (st := []) (r := _) (z2_RD_escaped (o := o) (d_ := d_) (inn := inn) (dp := dp) (flg := flg) (grp := grp) (na := na) (nl := nl) (lst := lst) (mst := mst) (bh := bh) (x := x) (se := se) (by_ := by_) (n := n) (pl := p2277) (fa := fa) (fp := fp) (kd := k2278) (kn := b2279) (nb := nb) (cnt := cnt) (P := P) (ps := ps) (wt := wt) (bs := bs) (gr := grp) (ph := ph) hd_ hx ppaI_0 pcsI_se ptbI_0 (by omega) (by omega) (by omega) (by omega) (by omega) (by omega) (by omega)) (fun oc G2 h => by rcases h with ⟨_, _, _, _, _, _, _, _, h, _⟩ <;> exact ⟨_, h⟩) (by omega) m_RD_escaped ml_RD_91 im_RD_escaped se_RD_escaped c_RD hd_.2.2 (Nat.le_of_ble_eq_true rfl) d_RD_part_115 rfl ?_
      intro v G350 hq
      rcases hq with ⟨o351, p352, ps2353, wt2354, ph2355, nb2356, c2357, P2358, hv, hfk, pNpaI_0, pNcsI_se, hq359, hq360, hq361, hq362, hq363, hq364, hq365, hq366, hq367, hq368⟩
      cases hv
      have hd_ := hfk.get hd_ (by decide)
      have hx := hfk.get hx (by decide)
      have hna := hfk.get hna (by decide)
      have hnl := hfk.get hnl (by decide)
      have hby_ := hfk.get hby_ (by decide)
      have h15 := hfk.get h15 (by decide)
      have h16 := hfk.get h16 (by decide)
      have popI_0 := popI_0.fz (o2 := o351) hq362 (by simp)
      have ptbI_0 := tbI.fr hfk ptbI_0  (by decide)
      have pszJ_0 := pszJ_0.fzk (o2 := o351) hq362
      have ppaI_0 := pNpaI_0
      have pcsI_se := pNcsI_se
      have hfr := hfr.tr hfk (by decide)
      have hq369 := hfk.1
      change ab_W _ _ _ G350 118 [some (vR d_), some (vz pl), some (vz (-2))] [vR p352] _
      have popI_0 : opI o351 G350 0 ps2353 k hi inn := opn_ps _ _ _ popI_0 (psx.lt hq359 (by omega))
      have pszJ_0 := (pszJ_0.leaf hq367 (s := (fi G350 p352 8)) ceq.rf (by have t := hq367.2.2.2.2.1.2.1; omega)).up (hi2 := p352) (by omega)
      have popI_0 := opn_up (hi2 := p352) popI_0 (by omega)
      have popI_0 : opI o351 G350 0 ps2353 k p352 inn := popI_0
      refine ab_aret (rt := _) rfl (Or.inl ⟨_, rfl⟩) (Or.inr ⟨_, rfl⟩) d_RD_part_118 ?_
      rw [hQ]; exact (Or.inr (Or.inr ⟨_, _, _, _, _, _, _, _, _, _, _, _, _, _, _, _, _, _, _, _, _, _, _, p2277, fr, (fi G350 p352 8), rfl, hfr, hd_, hx, hna, hnl, ppaI_0, popI_0, pcsI_se, pszJ_0, (by omega), (by omega), (by omega), (by exact hnm), (by omega), (by exact hq359.lt (by omega)), (by omega), (by omega), (by omega), (by omega), (by omega), (by omega), (by omega), (by omega), (by exact hq360), (by first | exact hkf | (simp only [List.length_cons]; omega) | omega), (by omega), (by omega), (by exact Or.inl ⟨Or.inr (Or.inl ⟨by omega, _, _, hq283, hq368⟩), rfl, rfl⟩), (by exact ⟨rfl, rfl, rfl⟩), (by omega)⟩))
    · cases hv
      have hd_ := hfk.get hd_ (by decide)
      have hna := hfk.get hna (by decide)
      have hnl := hfk.get hnl (by decide)
      have h15 := hfk.get h15 (by decide)
      have h16 := hfk.get h16 (by decide)
      have popI_0 := opI.fr hfk ppaI_0 popI_0 (by decide) (by decide)
      have pcsI_se := csI.fr hfk pcsI_se (by decide) (by decide)
      have ptbI_0 := tbI.fr hfk ptbI_0  (by decide)
      have pszJ_0 := szJ.fr hfk ppaI_0 pszJ_0 (by decide) (by decide)
      have ppaI_0 := paI.fr hfk ppaI_0 (by decide) (by decide) (by decide) (by decide)
      have hfr := hfr.tr hfk (by decide)
      have hq293 := hlk
      have hq294 := hsk
      have hx := hNx
      have hby_ := hNby_
      change ab_W _ _ _ G271 99 [some (vR d_), some (vz pl), none] [vz (-1)] _
      refine ab_istore_n d_RD_part_99 (Nat.le_of_ble_eq_true rfl) (Nat.le_of_ble_eq_true rfl) rfl ?_
      change ab_W _ _ _ G271 100 [some (vR d_), some (vz pl), some (vz (-1))] [] _
      refine ab_iload_n d_RD_part_100 rfl ?_
      refine zz_iconst d_RD_part_101 ?_
      refine zz_icmp_lt (tgt := 113) d_RD_part_102 (by decide) (by decide) (by decide) (fun c370 => absurd c370 (by decide)) (fun c370 => ?_)
      refine ab_aload_n d_RD_part_105 rfl ?_
      refine ab_iload_n d_RD_part_106 rfl ?_
      refine ab_callV (d' := d - 1) (as := [vz (-1)]) (st := []) (r := _) (zN_RD_literal (o := o) (d_ := d_) ) (fun oc G2 h => by rcases h with ⟨h, _⟩ <;> exact ⟨_, h⟩) (by omega) m_RD_literal ml_RD_87 im_RD_literal se_RD_literal c_RD hd_.2.2 (Nat.le_of_ble_eq_true rfl) d_RD_part_107 rfl ?_
      intro v G371 hq
      rcases hq with ⟨hv, hGe⟩
      cases hv
      rw [hGe]
      change ab_W _ _ _ G271 110 [some (vR d_), some (vz pl), some (vz (-1))] [vN] _
      refine ab_goto (tgt := 118) d_RD_part_110 (by decide) ?_
      refine ab_aret (rt := _) rfl (Or.inl ⟨_, rfl⟩) (Or.inl rfl) d_RD_part_118 ?_
      rw [hQ]; exact (Or.inl ⟨_, _, _, _, _, _, _, _, _, _, _, _, _, _, _, _, _, _, _, _, _, _, _, pl, fr, rfl, hfr, hd_, hx, hna, hnl, ppaI_0, popI_0, pcsI_se, pszJ_0, (by omega), (by omega), (by omega), (by exact hnm), (by omega), (by exact psx.rf), (by omega), (by omega), (by omega), (by omega), (by omega), (by omega), (by omega), (by omega), (by first | exact hkf | (simp only [List.length_cons]; omega) | omega), (by omega), (by exact Or.inl (Or.inl (Or.inl ⟨by omega, hq288, by omega⟩)))⟩)
  replace c270 : nzq v2 92 := c270
  by_cases c372 : v2 = 94
  · refine zz_lookup (off := 167) (tgt := 183) d_RD_part_16 (by decide) (by omega) (by rw [c372]; decide) (by decide) ?_
    refine ab_aload_n d_RD_part_183 rfl ?_
    refine ab_getf (fs := [vR x, inn, vz dp, vz flg, vz grp, vR na, vR nl, vz lst, vz mst, vz bh]) f_RD_12 d_RD_part_184 hd_.2.2 rfl ?_
    refine ab_dup d_RD_part_187 rfl ?_
    refine ab_getf (fs := [vR se, vR by_, vz n, vz pl, vz fa, vz fp, vR kd, vz kn]) f_RD_55 d_RD_part_188 hx.2.2 rfl ?_
    refine zz_iconst d_RD_part_191 ?_
    refine zz_iadd d_RD_part_192 ?_
    refine ab_putf (fs := [vR se, vR by_, vz n, vz pl, vz fa, vz fp, vR kd, vz kn]) f_RD_55 (Or.inl rfl) d_RD_part_193 hx.2.2 (Nat.le_of_ble_eq_true rfl) (fun _ => ⟨rfl, rfl⟩) (hx.2.1 (by decide)) ?_
    obtain ⟨G373, eG373⟩ : ∃ z : ab_G, z = List.set G x (ab_ob 10 [vR se, vR by_, vz n, vz (pl + 1), vz fa, vz fp, vR kd, vz kn]) := ⟨_, rfl⟩
    have hd_ := hd_.keep hx eG373 (by decide)
    have hna := hna.keep hx eG373 (by decide)
    have hnl := hnl.keep hx eG373 (by decide)
    have hby_ := hby_.keep hx eG373 (by decide)
    have h15 := h15.keep hx eG373 (by decide)
    have h16 := h16.keep hx eG373 (by decide)
    have hst := (fx.rf (o := o) (S := [24]) (G := G)).wr hx eG373 (List.mem_singleton.mpr rfl)
    have popI_0 := opI.fr hst ppaI_0 popI_0 (by decide) (by decide)
    have pcsI_se := csI.fr hst pcsI_se (by decide) (by decide)
    have ptbI_0 := tbI.fr hst ptbI_0  (by decide)
    have pszJ_0 := szJ.fr hst ppaI_0 pszJ_0 (by decide) (by decide)
    have ppaI_0 := paI.fr hst ppaI_0 (by decide) (by decide) (by decide) (by decide)
    have hq374 := z_len eG373
    have hq375 := z_sl hx eG373 rfl
    have hfr := hfr.wr hx eG373 (by decide)
    have hx := hx.kept eG373
    change ab_W _ _ _ (List.set G x (ab_ob 10 [vR se, vR by_, vz n, vz (pl + 1), vz fa, vz fp, vR kd, vz kn])) 196 [some (vR d_), some (vz pl), none] [] _
    rw [← eG373]
    refine ab_new (fs := [vz 0, vz 0, vN, vz 0, vz 0, vN, vN, vN, vz 0, vz 0, vz 0, vz 0, vz 0, vz 0, vz 0]) k_PA rfl cl_RD_18 inst_PA ini_PA d_RD_part_196 (by decide) (fun _ => rfl) (by omega) (by omega) ?_
    obtain ⟨G376, eG376⟩ : ∃ z : ab_G, z = G373 ++ [ab_ob 4 [vz 0, vz 0, vN, vz 0, vz 0, vN, vN, vN, vz 0, vz 0, vz 0, vz 0, vz 0, vz 0, vz 0]] := ⟨_, rfl⟩
    obtain ⟨o377, eo377⟩ : ∃ z : Nat → Nat, z = ol o G373.length 90 := ⟨_, rfl⟩
    obtain ⟨a378, ea378⟩ : ∃ z : Nat, z = G373.length := ⟨_, rfl⟩
    have hq379 := hby_.n0 (by first | decide | omega)
    have ne_a378_d_ : nq a378 d_ := by have hlt := hd_.lt; unfold nq; omega
    have ne_a378_x : nq a378 x := by have hlt := hx.lt; unfold nq; omega
    have ne_a378_na : nq a378 na := by have hlt := hna.lt; unfold nq; omega
    have ne_a378_nl : nq a378 nl := by have hlt := hnl.lt; unfold nq; omega
    have ne_a378_by_ : nq a378 by_ := by have hlt := hby_.lt; unfold nq; omega
    have ne_a378_15 : nq a378 15 := by have hlt := h15.lt; unfold nq; omega
    have ne_a378_16 : nq a378 16 := by have hlt := h16.lt; unfold nq; omega
    have hd_ := hd_.akeep (k := 90) eG376
    rw [← eo377] at hd_
    have hx := hx.akeep (k := 90) eG376
    rw [← eo377] at hx
    have hna := hna.akeep (k := 90) eG376
    rw [← eo377] at hna
    have hnl := hnl.akeep (k := 90) eG376
    rw [← eo377] at hnl
    have hby_ := hby_.akeep (k := 90) eG376
    rw [← eo377] at hby_
    have h15 := h15.akeep (k := 90) eG376
    rw [← eo377] at h15
    have h16 := h16.akeep (k := 90) eG376
    rw [← eo377] at h16
    have hst := (fx.rf (o := o) (S := []) (G := G373)).ap (k := 90) eG376
    rw [← eo377] at hst
    have hnpa378 := ppaI_0.new (a := a378) (by omega)
    have popI_0 := opI.fr hst ppaI_0 popI_0 (by decide) (by decide)
    have pcsI_se := csI.fr hst pcsI_se (by decide) (by decide)
    have ptbI_0 := tbI.fr hst ptbI_0  (by simp)
    have pszJ_0 := szJ.fr hst ppaI_0 pszJ_0 (by decide) (by decide)
    have ppaI_0 := paI.fr hst ppaI_0 (by decide) (by decide) (by decide) (by simp)
    have ha378 := cc.anew (o := o) 90 eG376 hq379
    rw [← eo377, ← ea378] at ha378
    have hfr := hfr.ap (k := 90) eG376
    rw [← eo377] at hfr
    have hq380 := z_alen eG376
    have hq381 : ab_slots G376 = ab_slots G373 + 15 := z_asl eG376 hq379
    change ab_W _ _ _ (G373 ++ [ab_ob 4 [vz 0, vz 0, vN, vz 0, vz 0, vN, vN, vN, vz 0, vz 0, vz 0, vz 0, vz 0, vz 0, vz 0]]) 199 [some (vR d_), some (vz pl), none] [.ref G373.length] _
    rw [← eG376, ← ea378]
    change ab_W _ _ _ G376 199 [some (vR d_), some (vz pl), none] [vR a378] _
    refine ab_dup d_RD_part_199 rfl ?_
    refine zz_iconst d_RD_part_200 ?_
    refine ab_aload_n d_RD_part_201 rfl ?_
    refine zz_iconst d_RD_part_202 ?_
    refine ab_callV (d' := d - 1) (as := [vz 2]) (st := [vz 3, vR a378, vR a378]) (r := _) (z2_RD_isOn (o := o377) (d_ := d_) (inn := inn) (dp := dp) (flg := flg) (grp := grp) (na := na) (nl := nl) (lst := lst) (mst := mst) (bh := bh) (x := x) hd_ (by omega)) (fun oc G2 h => by rcases h with ⟨_, h, _⟩ <;> exact ⟨_, h⟩) (by omega) m_RD_isOn ml_RD_94 im_RD_isOn se_RD_isOn c_RD hd_.2.2 (Nat.le_of_ble_eq_true rfl) d_RD_part_203 rfl ?_
    intro v G382 hq
    rcases hq with ⟨v383, hv, hGe, hq384, hq385⟩
    cases hv
    rw [hGe]
    change ab_W _ _ _ G376 206 [some (vR d_), some (vz pl), none] [vz v383, vz 3, vR a378, vR a378] _
    refine zz_if_eq (tgt := 213) d_RD_part_206 (by decide) (by omega) (fun c386 => ?_) (fun c386 => ?_)
    · refine zz_iconst d_RD_part_213 ?_
      refine zz_iconst d_RD_part_214 ?_
      refine zz_iconst d_RD_part_215 ?_
      refine ab_callI (d' := d - 1) (as := [vz 3, vz 0, vz 1, vz 1]) (st := [vR a378]) (z90_PA_init (o := o377) (a := a378) (k0 := 3) (v0 := 0) (s0 := 1) (m0 := 1) (ps := ps) (wt := wt) (bs := bs) (gr := grp) (Pr := pr0) (ph := ph) ha378 ppaI_0 (by omega) (by omega) (by omega) (by omega)) (fun oc G2 h => by rcases h with ⟨h, _⟩ <;> exact ⟨_, h⟩) (by omega) m_PA_init ml_RD_20 im_PA_init rfl (Nat.le_of_ble_eq_true rfl) d_RD_part_216 rfl ?_
      intro v G387 hq
      rcases hq with ⟨hv, hfk, hlk, hsk, hNa378, pNpaI_0, hq388⟩
      cases hv
      have hd_ := hfk.get hd_ (by decide)
      have hx := hfk.get hx (by decide)
      have hna := hfk.get hna (by decide)
      have hnl := hfk.get hnl (by decide)
      have hby_ := hfk.get hby_ (by decide)
      have h15 := hfk.get h15 (by decide)
      have h16 := hfk.get h16 (by decide)
      have popI_0 := popI_0.fz (o2 := o377) hq388 (by simp)
      have pcsI_se := csI.fr hfk pcsI_se (by decide) (by decide)
      have ptbI_0 := tbI.fr hfk ptbI_0  (by decide)
      have pszJ_0 := pszJ_0.fzk (o2 := o377) hq388
      have ppaI_0 := pNpaI_0
      have hfr := hfr.tr hfk (by decide)
      have hq389 := hlk
      have hq390 := hsk
      have ha378 := hNa378
      change ab_W _ _ _ G387 219 [some (vR d_), some (vz pl), none] [vR a378] _
      have hnf_ := ppaI_0.nref hnpa378
      have hnp9_ := hnpa378
      have hlt391 := ha378.lt
      have hn391 : paN grp pr0 3 0 (-1) := ⟨by omega, by intro _; omega, by intro _; omega, by intro _; omega, pr0_⟩
      obtain ⟨ps391, wt391, hx391, hxo391, hpa391, ppaI_0⟩ : ∃ pz wz : Nat → Nat, psx ps pz a378 ∧ (∀ x, ¬ x = a378 → pz x = ps x) ∧ pz a378 = 90 ∧ paI o377 G387 0 pz wz bs grp pr0 (ph + 0) := ⟨_, _, psx.ol (Nat.le_refl _), fun x hx => if_neg hx, ol_self, ppaI_0.ad90 0 hnpa378 (by omega) ha378 hn391 (by unfold pnB; omega) (Or.inl ⟨by omega, rfl⟩) (Or.inl rfl) (Or.inl rfl) (Or.inl rfl)⟩
      have popI_0 : opI o377 G387 0 ps391 k hi inn := opn_ps _ _ _ popI_0 (psx.lt hx391 (by omega))
      have hlf_ : leafp ps ps391 G387 a378 := leafp.mk hnf_ hnp9_ hxo391 hpa391 ha378 (by omega)
      have pszJ_0 := (pszJ_0.leaf hlf_ (s := (fi G387 a378 8)) ceq.rf (by have t := hlf_.2.2.2.2.1.2.1; omega)).up (hi2 := a378) (by omega)
      have popI_0 := opn_up (hi2 := a378) popI_0 (by omega)
      have popI_0 : opI o377 G387 0 ps391 k a378 inn := popI_0
      refine ab_aret (rt := _) rfl (Or.inl ⟨_, rfl⟩) (Or.inr ⟨_, rfl⟩) d_RD_part_219 ?_
      rw [hQ]; exact (Or.inr (Or.inr ⟨_, _, _, _, _, _, _, _, _, _, _, _, _, _, _, _, _, _, _, _, _, _, _, (pl + 1), fr, (fi G387 a378 8), rfl, hfr, hd_, hx, hna, hnl, ppaI_0, popI_0, pcsI_se, pszJ_0, (by omega), (by omega), (by omega), (by exact hnm), (by have hlt := ha378.lt; omega), (by exact hx391.lt (by omega)), (by omega), (by omega), (by omega), (by omega), (by omega), (by omega), (by omega), (by omega), (by exact hpa391), (by first | exact hkf | (simp only [List.length_cons]; omega) | omega), (by omega), (by omega), (by exact Or.inl ⟨Or.inr (Or.inr (Or.inr (Or.inr (Or.inl ⟨by omega, by omega, (fi_pa ha378 (by omega) (by omega)).2.2.1⟩)))), rfl, rfl⟩), (by exact ⟨rfl, rfl, rfl⟩), (by omega)⟩))
    · refine zz_iconst d_RD_part_209 ?_
      refine ab_goto (tgt := 214) d_RD_part_210 (by decide) ?_
      refine zz_iconst d_RD_part_214 ?_
      refine zz_iconst d_RD_part_215 ?_
      refine ab_callI (d' := d - 1) (as := [vz 3, vz 2, vz 1, vz 1]) (st := [vR a378]) (z90_PA_init (o := o377) (a := a378) (k0 := 3) (v0 := 2) (s0 := 1) (m0 := 1) (ps := ps) (wt := wt) (bs := bs) (gr := grp) (Pr := pr0) (ph := ph) ha378 ppaI_0 (by omega) (by omega) (by omega) (by omega)) (fun oc G2 h => by rcases h with ⟨h, _⟩ <;> exact ⟨_, h⟩) (by omega) m_PA_init ml_RD_20 im_PA_init rfl (Nat.le_of_ble_eq_true rfl) d_RD_part_216 rfl ?_
      intro v G392 hq
      rcases hq with ⟨hv, hfk, hlk, hsk, hNa378, pNpaI_0, hq393⟩
      cases hv
      have hd_ := hfk.get hd_ (by decide)
      have hx := hfk.get hx (by decide)
      have hna := hfk.get hna (by decide)
      have hnl := hfk.get hnl (by decide)
      have hby_ := hfk.get hby_ (by decide)
      have h15 := hfk.get h15 (by decide)
      have h16 := hfk.get h16 (by decide)
      have popI_0 := popI_0.fz (o2 := o377) hq393 (by simp)
      have pcsI_se := csI.fr hfk pcsI_se (by decide) (by decide)
      have ptbI_0 := tbI.fr hfk ptbI_0  (by decide)
      have pszJ_0 := pszJ_0.fzk (o2 := o377) hq393
      have ppaI_0 := pNpaI_0
      have hfr := hfr.tr hfk (by decide)
      have hq394 := hlk
      have hq395 := hsk
      have ha378 := hNa378
      change ab_W _ _ _ G392 219 [some (vR d_), some (vz pl), none] [vR a378] _
      have hnf_ := ppaI_0.nref hnpa378
      have hnp9_ := hnpa378
      have hlt396 := ha378.lt
      have hn396 : paN grp pr0 3 2 (-1) := ⟨by omega, by intro _; omega, by intro _; omega, by intro _; omega, pr0_⟩
      obtain ⟨ps396, wt396, hx396, hxo396, hpa396, ppaI_0⟩ : ∃ pz wz : Nat → Nat, psx ps pz a378 ∧ (∀ x, ¬ x = a378 → pz x = ps x) ∧ pz a378 = 90 ∧ paI o377 G392 0 pz wz bs grp pr0 (ph + 0) := ⟨_, _, psx.ol (Nat.le_refl _), fun x hx => if_neg hx, ol_self, ppaI_0.ad90 0 hnpa378 (by omega) ha378 hn396 (by unfold pnB; omega) (Or.inl ⟨by omega, rfl⟩) (Or.inl rfl) (Or.inl rfl) (Or.inl rfl)⟩
      have popI_0 : opI o377 G392 0 ps396 k hi inn := opn_ps _ _ _ popI_0 (psx.lt hx396 (by omega))
      have hlf_ : leafp ps ps396 G392 a378 := leafp.mk hnf_ hnp9_ hxo396 hpa396 ha378 (by omega)
      have pszJ_0 := (pszJ_0.leaf hlf_ (s := (fi G392 a378 8)) ceq.rf (by have t := hlf_.2.2.2.2.1.2.1; omega)).up (hi2 := a378) (by omega)
      have popI_0 := opn_up (hi2 := a378) popI_0 (by omega)
      have popI_0 : opI o377 G392 0 ps396 k a378 inn := popI_0
      refine ab_aret (rt := _) rfl (Or.inl ⟨_, rfl⟩) (Or.inr ⟨_, rfl⟩) d_RD_part_219 ?_
      rw [hQ]; exact (Or.inr (Or.inr ⟨_, _, _, _, _, _, _, _, _, _, _, _, _, _, _, _, _, _, _, _, _, _, _, (pl + 1), fr, (fi G392 a378 8), rfl, hfr, hd_, hx, hna, hnl, ppaI_0, popI_0, pcsI_se, pszJ_0, (by omega), (by omega), (by omega), (by exact hnm), (by have hlt := ha378.lt; omega), (by exact hx396.lt (by omega)), (by omega), (by omega), (by omega), (by omega), (by omega), (by omega), (by omega), (by omega), (by exact hpa396), (by first | exact hkf | (simp only [List.length_cons]; omega) | omega), (by omega), (by omega), (by exact Or.inl ⟨Or.inr (Or.inr (Or.inr (Or.inr (Or.inl ⟨by omega, by omega, (fi_pa ha378 (by omega) (by omega)).2.2.1⟩)))), rfl, rfl⟩), (by exact ⟨rfl, rfl, rfl⟩), (by omega)⟩))
  replace c372 : nzq v2 94 := c372
  by_cases c397 : v2 = 124
  · refine zz_lookup (off := 241) (tgt := 257) d_RD_part_16 (by decide) (by omega) (by rw [c397]; decide) (by decide) ?_
    refine ab_aload_n d_RD_part_257 rfl ?_
    refine ab_getf (fs := [vR x, inn, vz dp, vz flg, vz grp, vR na, vR nl, vz lst, vz mst, vz bh]) f_RD_12 d_RD_part_258 hd_.2.2 rfl ?_
    refine ab_dup d_RD_part_261 rfl ?_
    refine ab_getf (fs := [vR se, vR by_, vz n, vz pl, vz fa, vz fp, vR kd, vz kn]) f_RD_55 d_RD_part_262 hx.2.2 rfl ?_
    refine zz_iconst d_RD_part_265 ?_
    refine zz_iadd d_RD_part_266 ?_
    refine ab_putf (fs := [vR se, vR by_, vz n, vz pl, vz fa, vz fp, vR kd, vz kn]) f_RD_55 (Or.inl rfl) d_RD_part_267 hx.2.2 (Nat.le_of_ble_eq_true rfl) (fun _ => ⟨rfl, rfl⟩) (hx.2.1 (by decide)) ?_
    obtain ⟨G398, eG398⟩ : ∃ z : ab_G, z = List.set G x (ab_ob 10 [vR se, vR by_, vz n, vz (pl + 1), vz fa, vz fp, vR kd, vz kn]) := ⟨_, rfl⟩
    have hd_ := hd_.keep hx eG398 (by decide)
    have hna := hna.keep hx eG398 (by decide)
    have hnl := hnl.keep hx eG398 (by decide)
    have hby_ := hby_.keep hx eG398 (by decide)
    have h15 := h15.keep hx eG398 (by decide)
    have h16 := h16.keep hx eG398 (by decide)
    have hst := (fx.rf (o := o) (S := [24]) (G := G)).wr hx eG398 (List.mem_singleton.mpr rfl)
    have popI_0 := opI.fr hst ppaI_0 popI_0 (by decide) (by decide)
    have pcsI_se := csI.fr hst pcsI_se (by decide) (by decide)
    have ptbI_0 := tbI.fr hst ptbI_0  (by decide)
    have pszJ_0 := szJ.fr hst ppaI_0 pszJ_0 (by decide) (by decide)
    have ppaI_0 := paI.fr hst ppaI_0 (by decide) (by decide) (by decide) (by decide)
    have hq399 := z_len eG398
    have hq400 := z_sl hx eG398 rfl
    have hfr := hfr.wr hx eG398 (by decide)
    have hx := hx.kept eG398
    change ab_W _ _ _ (List.set G x (ab_ob 10 [vR se, vR by_, vz n, vz (pl + 1), vz fa, vz fp, vR kd, vz kn])) 270 [some (vR d_), some (vz pl), none] [] _
    rw [← eG398]
    obtain ⟨j401, hj401⟩ : ∃ j, k = j + 1 := ⟨k - 1, by omega⟩
    rw [hj401] at popI_0
    obtain ⟨g401, r401, w401, lv401, hv401, ⟨hpg401, hpr401⟩, ⟨hgl401, hrl401⟩, hf6401, hf5401, hr6401, hlv401, hop401⟩ := popI_0
    subst hv401
    obtain ⟨k_402, v_402, rg_402, pl_402, fl_402, ou_402, ls_402, bf_402, sz_402, mb_402, oe_402, le_402, mo_402, la_402, rc_402, hg401, hn402, hb402, hg402, ho402, hl402, hf402⟩ := ppaI_0.1 g401 hpg401
    have hB402 := hb402
    unfold pnB at hB402
    have hK402 := hn402.1
    obtain ⟨ls403, bf403, sz403, mb403, hr401, hB403, hl403, hf403⟩ := ppaI_0.2.1 r401 hpr401
    have e6401 : some ls_402 = some (vR r401) := by have t := hf6401; unfold pf at t; rw [hg401.2.2] at t; exact t
    have e6401 := Option.some.inj e6401
    subst e6401
    have e5401 : some ou_402 = some w401 := by have t := hf5401; unfold pf at t; rw [hg401.2.2] at t; exact t
    have e5401 := Option.some.inj e5401
    subst e5401
    have e7401 : some ls403 = some lv401 := by have t := hr6401; unfold pf at t; rw [hr401.2.2] at t; exact t
    have e7401 := Option.some.inj e7401
    subst e7401
    have popI_0 : opI o G398 0 ps j401 g401 ou_402 := hop401
    have hnq401 : nq g401 r401 := hg401.ne hr401 (by decide)
    change ab_W _ _ _ G398 270 [some (vR d_), some (vz pl), none] [] _
    refine ab_aload_n d_RD_part_270 rfl ?_
    refine ab_getf (fs := [vR x, vR g401, vz dp, vz flg, vz grp, vR na, vR nl, vz lst, vz mst, vz bh]) f_RD_23 d_RD_part_271 hd_.2.2 rfl ?_
    refine ab_new (fs := [vz 0, vz 0, vN, vz 0, vz 0, vN, vN, vN, vz 0, vz 0, vz 0, vz 0, vz 0, vz 0, vz 0]) k_PA rfl cl_RD_18 inst_PA ini_PA d_RD_part_274 (by decide) (fun _ => rfl) (by omega) (by omega) ?_
    obtain ⟨G404, eG404⟩ : ∃ z : ab_G, z = G398 ++ [ab_ob 4 [vz 0, vz 0, vN, vz 0, vz 0, vN, vN, vN, vz 0, vz 0, vz 0, vz 0, vz 0, vz 0, vz 0]] := ⟨_, rfl⟩
    obtain ⟨o405, eo405⟩ : ∃ z : Nat → Nat, z = ol o G398.length 94 := ⟨_, rfl⟩
    obtain ⟨a406, ea406⟩ : ∃ z : Nat, z = G398.length := ⟨_, rfl⟩
    have hq407 := hr401.n0 (by first | decide | omega)
    have ne_a406_d_ : nq a406 d_ := by have hlt := hd_.lt; unfold nq; omega
    have ne_a406_x : nq a406 x := by have hlt := hx.lt; unfold nq; omega
    have ne_a406_na : nq a406 na := by have hlt := hna.lt; unfold nq; omega
    have ne_a406_nl : nq a406 nl := by have hlt := hnl.lt; unfold nq; omega
    have ne_a406_by_ : nq a406 by_ := by have hlt := hby_.lt; unfold nq; omega
    have ne_a406_15 : nq a406 15 := by have hlt := h15.lt; unfold nq; omega
    have ne_a406_16 : nq a406 16 := by have hlt := h16.lt; unfold nq; omega
    have ne_a406_g401 : nq a406 g401 := by have hlt := hg401.lt; unfold nq; omega
    have ne_a406_r401 : nq a406 r401 := by have hlt := hr401.lt; unfold nq; omega
    have hd_ := hd_.akeep (k := 94) eG404
    rw [← eo405] at hd_
    have hx := hx.akeep (k := 94) eG404
    rw [← eo405] at hx
    have hna := hna.akeep (k := 94) eG404
    rw [← eo405] at hna
    have hnl := hnl.akeep (k := 94) eG404
    rw [← eo405] at hnl
    have hby_ := hby_.akeep (k := 94) eG404
    rw [← eo405] at hby_
    have h15 := h15.akeep (k := 94) eG404
    rw [← eo405] at h15
    have h16 := h16.akeep (k := 94) eG404
    rw [← eo405] at h16
    have hg401 := hg401.akeep (k := 94) eG404
    rw [← eo405] at hg401
    have hr401 := hr401.akeep (k := 94) eG404
    rw [← eo405] at hr401
    have hst := (fx.rf (o := o) (S := []) (G := G398)).ap (k := 94) eG404
    rw [← eo405] at hst
    have hnpa406 := ppaI_0.new (a := a406) (by omega)
    have pcsI_se := csI.fr hst pcsI_se (by decide) (by decide)
    have ptbI_0 := tbI.fr hst ptbI_0  (by simp)
    have pszJ_0 := szJ.fr hst ppaI_0 pszJ_0 (by decide) (by decide)
    have popI_0 := opI.fr hst ppaI_0 popI_0 (by decide) (by decide)
    have ppaI_0 := paI.fr hst ppaI_0 (by decide) (by decide) (by decide) (by simp)
    have ha406 := cc.anew (o := o) 94 eG404 hq407
    rw [← eo405, ← ea406] at ha406
    have hfr := hfr.ap (k := 94) eG404
    rw [← eo405] at hfr
    have hq408 := z_alen eG404
    have hq409 : ab_slots G404 = ab_slots G398 + 15 := z_asl eG404 hq407
    change ab_W _ _ _ (G398 ++ [ab_ob 4 [vz 0, vz 0, vN, vz 0, vz 0, vN, vN, vN, vz 0, vz 0, vz 0, vz 0, vz 0, vz 0, vz 0]]) 277 [some (vR d_), some (vz pl), none] [.ref G398.length, vR g401] _
    rw [← eG404, ← ea406]
    change ab_W _ _ _ G404 277 [some (vR d_), some (vz pl), none] [vR a406, vR g401] _
    refine ab_dup d_RD_part_277 rfl ?_
    refine zz_iconst d_RD_part_278 ?_
    refine zz_iconst d_RD_part_279 ?_
    refine zz_iconst d_RD_part_280 ?_
    refine zz_iconst d_RD_part_281 ?_
    refine ab_callI (d' := d - 1) (as := [vz 5, vz 0, vz 0, vz 1]) (st := [vR a406, vR g401]) (z94_PA_init (o := o405) (a := a406) (k0 := 5) (v0 := 0) (s0 := 0) (m0 := 1) (ps := ps) (wt := wt) (bs := bs) (gr := grp) (Pr := pr0) (ph := ph) ha406 ppaI_0 (by omega) (by omega) (by omega) (by omega)) (fun oc G2 h => by rcases h with ⟨h, _⟩ <;> exact ⟨_, h⟩) (by omega) m_PA_init ml_RD_20 im_PA_init rfl (Nat.le_of_ble_eq_true rfl) d_RD_part_282 rfl ?_
    intro v G410 hq
    rcases hq with ⟨hv, hfk, hlk, hsk, hNa406, pNpaI_0, hq411⟩
    cases hv
    have hd_ := hfk.get hd_ (by decide)
    have hx := hfk.get hx (by decide)
    have hna := hfk.get hna (by decide)
    have hnl := hfk.get hnl (by decide)
    have hby_ := hfk.get hby_ (by decide)
    have h15 := hfk.get h15 (by decide)
    have h16 := hfk.get h16 (by decide)
    have hg401 := hfk.get hg401 (by decide)
    have hKr401 := hq411.get hfk hr401 (Or.inr hpr401) (by simp only [List.mem_cons, List.not_mem_nil, or_false, not_or]; exact not_false)
    have hr401 := hKr401
    have pcsI_se := csI.fr hfk pcsI_se (by decide) (by decide)
    have ptbI_0 := tbI.fr hfk ptbI_0  (by decide)
    have pszJ_0 := pszJ_0.fzk (o2 := o405) hq411
    have popI_0 := popI_0.fz (o2 := o405) hq411 (by simp)
    have ppaI_0 := pNpaI_0
    have hfr := hfr.tr hfk (by decide)
    have hq412 := hlk
    have hq413 := hsk
    have ha406 := hNa406
    change ab_W _ _ _ G410 285 [some (vR d_), some (vz pl), none] [vR a406, vR g401] _
    have hnf_ := ppaI_0.nref hnpa406
    have hnp9_ := hnpa406
    obtain ⟨a1_, b1_, c1_, d1_, e1_, t_, hft_⟩ := pszJ_0.hd (by omega)
    rw [hft_] at pszJ_0
    have hsz9 := pszJ_0
    have hg9 := hg401
    have hlt414 := ha406.lt
    obtain ⟨ps414, hx414, hxo414, hpa414, ppaI_0⟩ : ∃ pz : Nat → Nat, psx ps pz a406 ∧ (∀ x, ¬ x = a406 → pz x = ps x) ∧ pz a406 = 94 ∧ paI o405 G410 0 pz wt bs grp pr0 ph := ⟨_, psx.ol (Nat.le_refl _), fun x hx => if_neg hx, ol_self, ppaI_0.ad94 hnpa406 ha406 (by omega) (Or.inl rfl) (Or.inl rfl)⟩
    have hp415 : ps414 g401 = 90 := hx414.at (by have hlt := hg401.lt; omega) hpg401
    have hp416 : ps414 r401 = 94 := hx414.at (by have hlt := hr401.lt; omega) hpr401
    have hl417 := ho402.ps (by have hlt := hg401.lt; omega) hx414
    have hl418 := hl402.ps (by omega) hx414
    have hl419 := hf402.ps (by have hlt := hg401.lt; omega) hx414
    have hl420 := hl403.ps (by omega) hx414
    have hl421 := hf403.ps (by have hlt := hr401.lt; omega) hx414
    have hl422 := hlv401.ps (by omega) hx414
    have popI_0 : opI o405 G410 0 ps414 j401 g401 ou_402 := opn_ps _ _ _ popI_0 (psx.lt hx414 (by omega))
    have hfz : fz ps414 [g401, a406] G410 G410 := fz.rf
    refine ab_callV (d' := d - 1) (as := [vR a406]) (st := []) (r := _) (z90_PA_push (o := o405) (k := k_402) (v := v_402) (rg := rg_402) (pl := pl_402) (fl := fl_402) (ou := ou_402) (ls := vR r401) (bf := bf_402) (sz := sz_402) (mb := mb_402) (oe := oe_402) (le := le_402) (mo := mo_402) (la := la_402) (rc := rc_402) (lr := vN) (br := vN) (sr := 0) (mr := 1) (ps := ps414) (wt := wt) (bs := bs) (gr := grp) (Pr := pr0) (ph := ph) (r := a406) (p := g401) hg401 ha406 ppaI_0 (by omega) hp415 hpa414 hn402 (by omega) (by omega) (hl417.up (by omega)) (Or.inr ⟨_, rfl, hp416, by have hlt := hr401.lt; omega⟩) (hl419.up (by omega)) (Or.inl rfl) (Or.inl rfl) (Or.inr ⟨_, rfl, hp416, by have hlt := hr401.lt; omega⟩) (by omega)) (fun oc G2 h => by rcases h with ⟨h, _⟩ <;> exact ⟨_, h⟩) (by omega) m_PA_push ml_RD_48 im_PA_push se_PA_push c_PA hg401.2.2 (Nat.le_of_ble_eq_true rfl) d_RD_part_285 rfl ?_
    intro v G423 hq
    rcases hq with ⟨hv, hfk, hlk, hsk, hNg401, hNa406, pNpaI_0, hq424⟩
    cases hv
    have hd_ := hfk.get hd_ (by decide)
    have hx := hfk.get hx (by decide)
    have hna := hfk.get hna (by decide)
    have hnl := hfk.get hnl (by decide)
    have hby_ := hfk.get hby_ (by decide)
    have h15 := hfk.get h15 (by decide)
    have h16 := hfk.get h16 (by decide)
    have hKr401 := hq424.get hfk hr401 (Or.inr hp416) (by simp only [List.mem_cons, List.not_mem_nil, or_false, not_or]; exact ⟨(hr401.ne hg401 (by decide)), (nq.s ne_a406_r401)⟩)
    have hr401 := hKr401
    have hfz := hfz.tr hq424 (by simp)
    have pcsI_se := csI.fr hfk pcsI_se (by decide) (by decide)
    have ptbI_0 := tbI.fr hfk ptbI_0  (by decide)
    have popI_0 := popI_0.fz (o2 := o405) hq424 (by intro y hy; simp only [List.mem_cons, List.not_mem_nil, or_false] at hy; omega)
    have ppaI_0 := pNpaI_0
    have hfr := hfr.tr hfk (by decide)
    have hq425 := hlk
    have hq426 := hsk
    have hg401 := hNg401
    have ha406 := hNa406
    change ab_W _ _ _ G423 288 [some (vR d_), some (vz pl), none] [] _
    refine ab_null d_RD_part_288 ?_
    have popI_0 : opI o405 G423 0 ps414 (j401 + 1) G423.length (vR g401) := ⟨g401, a406, ou_402, (vN), rfl, ⟨hp415, hpa414⟩, ⟨by omega, by omega⟩, by unfold pf; rw [hg401.2.2]; rfl, by unfold pf; rw [hg401.2.2]; rfl, by unfold pf; rw [ha406.2.2]; rfl, (Or.inl rfl), popI_0⟩
    rw [← hj401] at popI_0
    have pszJ_0 : szJ o405 G423 0 ps414 ((a1_, b1_, c1_, (d1_ + e1_ + 1), 0) :: t_) G423.length (vR g401) wh 0 0 := (szJ.barC hsz9 hnf_ hnp9_ hxo414 hpa414 hfz hg9 hg401 ha406 (by omega) (by omega)).up (by omega)
    refine ab_aret (rt := _) rfl (Or.inl ⟨_, rfl⟩) (Or.inl rfl) d_RD_part_289 ?_
    rw [hQ]; exact (Or.inr (Or.inl ⟨_, _, _, _, _, _, _, _, _, _, _, _, _, _, _, _, _, _, _, _, _, _, _, (pl + 1), ((a1_, b1_, c1_, (d1_ + e1_ + 1), 0) :: t_), rfl, hfr, hd_, hx, hna, hnl, ppaI_0, popI_0, pcsI_se, pszJ_0, (by omega), (by omega), (by omega), (by exact hnm), (by omega), (by exact hx414.lt (by omega)), (by omega), (by omega), (by omega), (by omega), (by omega), (by omega), (by omega), (by omega), (by first | exact hkf | (simp only [List.length_cons]; omega) | omega | (have t := congrArg List.length hft_; simp only [List.length_cons] at t ⊢; omega) | (have t := congrArg List.length hft_; simp only [List.length_cons] at t; omega)), (by omega), (by omega), (by exact Or.inl ⟨by omega, ⟨by omega, rfl, rfl, rfl, rfl⟩, _, _, _, _, _, _, hft_, rfl⟩), (by omega)⟩))
  replace c397 : nzq v2 124 := c397
  refine zz_lookup (off := 274) (tgt := 290) d_RD_part_16 (by decide) (by omega) (by simp only [Op.lookupswitch.offset]; rw [if_neg (fun h => c5 h.symm)]; rw [if_neg (fun h => c30 h.symm)]; rw [if_neg (fun h => c114 h.symm)]; rw [if_neg (fun h => c162 h.symm)]; rw [if_neg (fun h => c205 h.symm)]; rw [if_neg (fun h => c270 h.symm)]; rw [if_neg (fun h => c372 h.symm)]; rw [if_neg (fun h => c397 h.symm)]) (by decide) ?_
  refine ab_aload_n d_RD_part_290 rfl ?_
  refine ab_callV (d' := d - 1) (as := []) (st := []) (r := _) (z_RD_isRepeat (o := o) (d_ := d_) (inn := inn) (dp := dp) (flg := flg) (grp := grp) (na := na) (nl := nl) (lst := lst) (mst := mst) (bh := bh) (x := x) (se := se) (by_ := by_) (m := m) (f := f) (n := n) (pl := pl) (fa := fa) (fp := fp) (kd := kd) (kn := kn) hd_ hx hby_ (by omega) hb (by omega) (by omega) (by omega)) (fun oc G2 h => by rcases h with ⟨_, _, _, h, _⟩ | ⟨_, _, _, h, _⟩ | ⟨_, _, _, h, _⟩ <;> exact ⟨_, h⟩) (by omega) m_RD_isRepeat ml_RD_119 im_RD_isRepeat se_RD_isRepeat c_RD hd_.2.2 (Nat.le_of_ble_eq_true rfl) d_RD_part_291 rfl ?_
  intro v G428 hq
  rcases hq with ⟨l2429, m2430, bh2431, hv, hfk, hlk, hsk, hNd_, hq432, hq433, hq434⟩ | ⟨l2435, m2436, bh2437, hv, hfk, hlk, hsk, hNd_, hq438, hq439, hq440⟩ | ⟨l2441, m2442, bh2443, hv, hfk, hlk, hsk, hNd_, hq444, hq445⟩
  · cases hv
    have hx := hfk.get hx (by decide)
    have hna := hfk.get hna (by decide)
    have hnl := hfk.get hnl (by decide)
    have hby_ := hfk.get hby_ (by decide)
    have h15 := hfk.get h15 (by decide)
    have h16 := hfk.get h16 (by decide)
    have popI_0 := opI.fr hfk ppaI_0 popI_0 (by decide) (by decide)
    have pcsI_se := csI.fr hfk pcsI_se (by decide) (by decide)
    have ptbI_0 := tbI.fr hfk ptbI_0  (by decide)
    have pszJ_0 := szJ.fr hfk ppaI_0 pszJ_0 (by decide) (by decide)
    have ppaI_0 := paI.fr hfk ppaI_0 (by decide) (by decide) (by decide) (by decide)
    have hfr := hfr.tr hfk (by decide)
    have hq446 := hlk
    have hq447 := hsk
    have hd_ := hNd_
    change ab_W _ _ _ G428 294 [some (vR d_), some (vz pl), none] [vz 1] _
    refine zz_if_eq (tgt := 310) d_RD_part_294 (by decide) (by decide) (fun c452 => absurd c452 (by decide)) (fun c452 => ?_)
    refine ab_aload_n d_RD_part_297 rfl ?_
    refine ab_getf (fs := [vR x, inn, vz dp, vz flg, vz grp, vR na, vR nl, vz l2429, vz m2430, vz bh2431]) f_RD_12 d_RD_part_298 hd_.2.2 rfl ?_
    refine zz_bipush d_RD_part_301 (by decide) ?_
    refine ab_iload_n d_RD_part_303 rfl ?_
    refine ab_callV (d' := d - 1) (as := [vz 8, vz pl]) (st := []) (r := _) (z_TX_fail (o := o) (x := x) (lx := 24) (se := se) (by_ := by_) (n := n) (pl := pl) (fa := fa) (fp := fp) (kd := kd) (kn := kn) (w := 8) (p := pl) hx (by omega) (by omega) (by omega)) (fun oc G2 h => by rcases h with ⟨h, _⟩ | ⟨h, _⟩ <;> exact ⟨_, h⟩) (by omega) m_TX_fail ml_RD_69 im_TX_fail se_TX_fail c_TX hx.2.2 (Nat.le_of_ble_eq_true rfl) d_RD_part_304 rfl ?_
    intro v G453 hq
    rcases hq with ⟨hv, hfk, hlk, hsk, hNx, hq454⟩ | ⟨hv, hGe, hq455⟩
    · cases hv
      have hd_ := hfk.get hd_ (by decide)
      have hna := hfk.get hna (by decide)
      have hnl := hfk.get hnl (by decide)
      have hby_ := hfk.get hby_ (by decide)
      have h15 := hfk.get h15 (by decide)
      have h16 := hfk.get h16 (by decide)
      have popI_0 := opI.fr hfk ppaI_0 popI_0 (by decide) (by decide)
      have pcsI_se := csI.fr hfk pcsI_se (by decide) (by decide)
      have ptbI_0 := tbI.fr hfk ptbI_0  (by decide)
      have pszJ_0 := szJ.fr hfk ppaI_0 pszJ_0 (by decide) (by decide)
      have ppaI_0 := paI.fr hfk ppaI_0 (by decide) (by decide) (by decide) (by decide)
      have hfr := hfr.tr hfk (by decide)
      have hq456 := hlk
      have hq457 := hsk
      have hx := hNx
      change ab_W _ _ _ G453 307 [some (vR d_), some (vz pl), none] [vz (-1)] _
      refine ab_pop d_RD_part_307 rfl ?_
      refine ab_null d_RD_part_308 ?_
      refine ab_aret (rt := _) rfl (Or.inl ⟨_, rfl⟩) (Or.inl rfl) d_RD_part_309 ?_
      rw [hQ]; exact (Or.inl ⟨_, _, _, _, _, _, _, _, _, _, _, _, _, _, _, _, _, _, _, _, _, _, _, pl, fr, rfl, hfr, hd_, hx, hna, hnl, ppaI_0, popI_0, pcsI_se, pszJ_0, (by omega), (by omega), (by omega), (by exact hnm), (by omega), (by exact psx.rf), (by omega), (by omega), (by omega), (by omega), (by omega), (by omega), (by omega), (by omega), (by first | exact hkf | (simp only [List.length_cons]; omega) | omega), (by omega), (by exact Or.inr ⟨⟨fun z => by have t := tpk_at (f := f) (n := n) (i := pl) (by omega); have u := hb pl (by omega) (by omega); omega, fun z => c270 (hq3.trans z), fun z => c205 (hq3.trans z), fun z => c30 (hq3.trans z), fun z => c114 (hq3.trans z), fun z => c162 (hq3.trans z), fun z => c372 (hq3.trans z), fun z => c5 (hq3.trans z), fun z => c397 (hq3.trans z)⟩, ⟨_, _, _, _, hq434⟩, by omega, by omega⟩)⟩)
    · cases hv
      rw [hGe]
      change ab_W _ _ _ G428 307 [some (vR d_), some (vz pl), none] [vz (-1)] _
      exfalso; omega
  · cases hv
    have hx := hfk.get hx (by decide)
    have hna := hfk.get hna (by decide)
    have hnl := hfk.get hnl (by decide)
    have hby_ := hfk.get hby_ (by decide)
    have h15 := hfk.get h15 (by decide)
    have h16 := hfk.get h16 (by decide)
    have popI_0 := opI.fr hfk ppaI_0 popI_0 (by decide) (by decide)
    have pcsI_se := csI.fr hfk pcsI_se (by decide) (by decide)
    have ptbI_0 := tbI.fr hfk ptbI_0  (by decide)
    have pszJ_0 := szJ.fr hfk ppaI_0 pszJ_0 (by decide) (by decide)
    have ppaI_0 := paI.fr hfk ppaI_0 (by decide) (by decide) (by decide) (by decide)
    have hfr := hfr.tr hfk (by decide)
    have hq448 := hlk
    have hq449 := hsk
    have hd_ := hNd_
    change ab_W _ _ _ G428 294 [some (vR d_), some (vz pl), none] [vz 1] _
    refine zz_if_eq (tgt := 310) d_RD_part_294 (by decide) (by decide) (fun c458 => absurd c458 (by decide)) (fun c458 => ?_)
    refine ab_aload_n d_RD_part_297 rfl ?_
    refine ab_getf (fs := [vR x, inn, vz dp, vz flg, vz grp, vR na, vR nl, vz l2435, vz m2436, vz bh2437]) f_RD_12 d_RD_part_298 hd_.2.2 rfl ?_
    refine zz_bipush d_RD_part_301 (by decide) ?_
    refine ab_iload_n d_RD_part_303 rfl ?_
    refine ab_callV (d' := d - 1) (as := [vz 8, vz pl]) (st := []) (r := _) (z_TX_fail (o := o) (x := x) (lx := 24) (se := se) (by_ := by_) (n := n) (pl := pl) (fa := fa) (fp := fp) (kd := kd) (kn := kn) (w := 8) (p := pl) hx (by omega) (by omega) (by omega)) (fun oc G2 h => by rcases h with ⟨h, _⟩ | ⟨h, _⟩ <;> exact ⟨_, h⟩) (by omega) m_TX_fail ml_RD_69 im_TX_fail se_TX_fail c_TX hx.2.2 (Nat.le_of_ble_eq_true rfl) d_RD_part_304 rfl ?_
    intro v G459 hq
    rcases hq with ⟨hv, hfk, hlk, hsk, hNx, hq460⟩ | ⟨hv, hGe, hq461⟩
    · cases hv
      have hd_ := hfk.get hd_ (by decide)
      have hna := hfk.get hna (by decide)
      have hnl := hfk.get hnl (by decide)
      have hby_ := hfk.get hby_ (by decide)
      have h15 := hfk.get h15 (by decide)
      have h16 := hfk.get h16 (by decide)
      have popI_0 := opI.fr hfk ppaI_0 popI_0 (by decide) (by decide)
      have pcsI_se := csI.fr hfk pcsI_se (by decide) (by decide)
      have ptbI_0 := tbI.fr hfk ptbI_0  (by decide)
      have pszJ_0 := szJ.fr hfk ppaI_0 pszJ_0 (by decide) (by decide)
      have ppaI_0 := paI.fr hfk ppaI_0 (by decide) (by decide) (by decide) (by decide)
      have hfr := hfr.tr hfk (by decide)
      have hq462 := hlk
      have hq463 := hsk
      have hx := hNx
      change ab_W _ _ _ G459 307 [some (vR d_), some (vz pl), none] [vz (-1)] _
      refine ab_pop d_RD_part_307 rfl ?_
      refine ab_null d_RD_part_308 ?_
      refine ab_aret (rt := _) rfl (Or.inl ⟨_, rfl⟩) (Or.inl rfl) d_RD_part_309 ?_
      rw [hQ]; exact (Or.inl ⟨_, _, _, _, _, _, _, _, _, _, _, _, _, _, _, _, _, _, _, _, _, _, _, pl, fr, rfl, hfr, hd_, hx, hna, hnl, ppaI_0, popI_0, pcsI_se, pszJ_0, (by omega), (by omega), (by omega), (by exact hnm), (by omega), (by exact psx.rf), (by omega), (by omega), (by omega), (by omega), (by omega), (by omega), (by omega), (by omega), (by first | exact hkf | (simp only [List.length_cons]; omega) | omega), (by omega), (by exact Or.inr ⟨⟨fun z => by have t := tpk_at (f := f) (n := n) (i := pl) (by omega); have u := hb pl (by omega) (by omega); omega, fun z => c270 (hq3.trans z), fun z => c205 (hq3.trans z), fun z => c30 (hq3.trans z), fun z => c114 (hq3.trans z), fun z => c162 (hq3.trans z), fun z => c372 (hq3.trans z), fun z => c5 (hq3.trans z), fun z => c397 (hq3.trans z)⟩, ⟨_, _, _, _, hq440⟩, by omega, by omega⟩)⟩)
    · cases hv
      rw [hGe]
      change ab_W _ _ _ G428 307 [some (vR d_), some (vz pl), none] [vz (-1)] _
      exfalso; omega
  · cases hv
    have hx := hfk.get hx (by decide)
    have hna := hfk.get hna (by decide)
    have hnl := hfk.get hnl (by decide)
    have hby_ := hfk.get hby_ (by decide)
    have h15 := hfk.get h15 (by decide)
    have h16 := hfk.get h16 (by decide)
    have popI_0 := opI.fr hfk ppaI_0 popI_0 (by decide) (by decide)
    have pcsI_se := csI.fr hfk pcsI_se (by decide) (by decide)
    have ptbI_0 := tbI.fr hfk ptbI_0  (by decide)
    have pszJ_0 := szJ.fr hfk ppaI_0 pszJ_0 (by decide) (by decide)
    have ppaI_0 := paI.fr hfk ppaI_0 (by decide) (by decide) (by decide) (by decide)
    have hfr := hfr.tr hfk (by decide)
    have hq450 := hlk
    have hq451 := hsk
    have hd_ := hNd_
    change ab_W _ _ _ G428 294 [some (vR d_), some (vz pl), none] [vz 0] _
    refine zz_if_eq (tgt := 310) d_RD_part_294 (by decide) (by decide) (fun c464 => ?_) (fun c464 => absurd c464 (by decide))
    refine ab_aload_n d_RD_part_310 rfl ?_
    refine ab_aload_n d_RD_part_311 rfl ?_
    refine ab_getf (fs := [vR x, inn, vz dp, vz flg, vz grp, vR na, vR nl, vz l2441, vz m2442, vz bh2443]) f_RD_12 d_RD_part_312 hd_.2.2 rfl ?_
    refine ab_callV (d' := d - 1) (as := []) (st := [vR d_]) (r := _) (z_TX_character (o := o) (x := x) (lx := 24) (se := se) (by_ := by_) (lby := 23) (m := m) (f := f) (n := n) (pl := pl) (fa := fa) (fp := fp) (kd := kd) (kn := kn) hx hby_ (by omega) hb (by omega) (by omega) (by omega) (by omega)) (fun oc G2 h => by rcases h with ⟨h, _⟩ | ⟨_, _, h, _⟩ <;> exact ⟨_, h⟩) (by omega) m_TX_character ml_RD_123 im_TX_character se_TX_character c_TX hx.2.2 (Nat.le_of_ble_eq_true rfl) d_RD_part_315 rfl ?_
    intro v G465 hq
    rcases hq with ⟨hv, hfk, hlk, hsk, hNx, hq466⟩ | ⟨v467, p2468, hv, hfk, hlk, hsk, hNx, hq469, hq470, hq471, hq472⟩
    · cases hv
      have hd_ := hfk.get hd_ (by decide)
      have hna := hfk.get hna (by decide)
      have hnl := hfk.get hnl (by decide)
      have hby_ := hfk.get hby_ (by decide)
      have h15 := hfk.get h15 (by decide)
      have h16 := hfk.get h16 (by decide)
      have popI_0 := opI.fr hfk ppaI_0 popI_0 (by decide) (by decide)
      have pcsI_se := csI.fr hfk pcsI_se (by decide) (by decide)
      have ptbI_0 := tbI.fr hfk ptbI_0  (by decide)
      have pszJ_0 := szJ.fr hfk ppaI_0 pszJ_0 (by decide) (by decide)
      have ppaI_0 := paI.fr hfk ppaI_0 (by decide) (by decide) (by decide) (by decide)
      have hfr := hfr.tr hfk (by decide)
      have hq473 := hlk
      have hq474 := hsk
      have hx := hNx
      change ab_W _ _ _ G465 318 [some (vR d_), some (vz pl), none] [vz (-1), vR d_] _
      refine ab_callV (d' := d - 1) (as := [vz (-1)]) (st := []) (r := _) (zN_RD_literal (o := o) (d_ := d_) ) (fun oc G2 h => by rcases h with ⟨h, _⟩ <;> exact ⟨_, h⟩) (by omega) m_RD_literal ml_RD_87 im_RD_literal se_RD_literal c_RD hd_.2.2 (Nat.le_of_ble_eq_true rfl) d_RD_part_318 rfl ?_
      intro v G477 hq
      rcases hq with ⟨hv, hGe⟩
      cases hv
      rw [hGe]
      change ab_W _ _ _ G465 321 [some (vR d_), some (vz pl), none] [vN] _
      refine ab_aret (rt := _) rfl (Or.inl ⟨_, rfl⟩) (Or.inl rfl) d_RD_part_321 ?_
      rw [hQ]; exact (Or.inl ⟨_, _, _, _, _, _, _, _, _, _, _, _, _, _, _, _, _, _, _, _, _, _, _, pl, fr, rfl, hfr, hd_, hx, hna, hnl, ppaI_0, popI_0, pcsI_se, pszJ_0, (by omega), (by omega), (by omega), (by exact hnm), (by omega), (by exact psx.rf), (by omega), (by omega), (by omega), (by omega), (by omega), (by omega), (by omega), (by omega), (by first | exact hkf | (simp only [List.length_cons]; omega) | omega), (by omega), (by exact Or.inl (Or.inl (Or.inr (Or.inr ⟨⟨fun z => by have t := tpk_at (f := f) (n := n) (i := pl) (by omega); have u := hb pl (by omega) (by omega); omega, fun z => c270 (hq3.trans z), fun z => c205 (hq3.trans z), fun z => c30 (hq3.trans z), fun z => c114 (hq3.trans z), fun z => c162 (hq3.trans z), fun z => c372 (hq3.trans z), fun z => c5 (hq3.trans z), fun z => c397 (hq3.trans z)⟩, hq445, hq466, by omega, by omega⟩))))⟩)
    · cases hv
      have hd_ := hfk.get hd_ (by decide)
      have hna := hfk.get hna (by decide)
      have hnl := hfk.get hnl (by decide)
      have hby_ := hfk.get hby_ (by decide)
      have h15 := hfk.get h15 (by decide)
      have h16 := hfk.get h16 (by decide)
      have popI_0 := opI.fr hfk ppaI_0 popI_0 (by decide) (by decide)
      have pcsI_se := csI.fr hfk pcsI_se (by decide) (by decide)
      have ptbI_0 := tbI.fr hfk ptbI_0  (by decide)
      have pszJ_0 := szJ.fr hfk ppaI_0 pszJ_0 (by decide) (by decide)
      have ppaI_0 := paI.fr hfk ppaI_0 (by decide) (by decide) (by decide) (by decide)
      have hfr := hfr.tr hfk (by decide)
      have hq475 := hlk
      have hq476 := hsk
      have hx := hNx
      change ab_W _ _ _ G465 318 [some (vR d_), some (vz pl), none] [vz v467, vR d_] _
      have hgp : ¬ cs_gap v467 := by rw [hq469]; exact u8_gap hb (by rw [← hq469]; omega)
      have hew : p2468 ≤ n := by have t := u8_w (p := pl) hb (by rw [← hq469]; omega); rw [← hq469] at t; omega
      refine ab_callV (d' := d - 1) (as := [vz v467]) (st := []) (r := _) (z_RD_literal (o := o) (d_ := d_) (inn := inn) (dp := dp) (flg := flg) (grp := grp) (na := na) (nl := nl) (lst := l2441) (mst := m2442) (bh := bh2443) (x := x) (se := se) (by_ := by_) (n := n) (pl := p2468) (fa := fa) (fp := fp) (kd := kd) (kn := kn) (nb := nb) (cnt := cnt) (P := P) (ps := ps) (wt := wt) (bs := bs) (gr := grp) (ph := ph) (c := v467) hd_ hx h15 h16 ppaI_0 pcsI_se (by omega) (by omega) (by omega) hgp (by omega) (by omega) (by omega) (by omega) (by omega)) (fun oc G2 h => by rcases h with ⟨_, _, _, _, _, _, _, _, h, _⟩ <;> exact ⟨_, h⟩) (by omega) m_RD_literal ml_RD_87 im_RD_literal se_RD_literal c_RD hd_.2.2 (Nat.le_of_ble_eq_true rfl) d_RD_part_318 rfl ?_
      intro v G478 hq
      rcases hq with ⟨o479, p480, ps2481, wt2482, ph2483, nb2484, c2485, P2486, hv, hfk, pNpaI_0, pNcsI_se, hq487, hq488, hq489, hq490, hq491, hq492, hq493, hq494, hq495, hq496⟩
      cases hv
      have hd_ := hfk.get hd_ (by decide)
      have hx := hfk.get hx (by decide)
      have hna := hfk.get hna (by decide)
      have hnl := hfk.get hnl (by decide)
      have hby_ := hfk.get hby_ (by decide)
      have h15 := hfk.get h15 (by decide)
      have h16 := hfk.get h16 (by decide)
      have popI_0 := popI_0.fz (o2 := o479) hq490 (by simp)
      have ptbI_0 := tbI.fr hfk ptbI_0  (by decide)
      have pszJ_0 := pszJ_0.fzk (o2 := o479) hq490
      have ppaI_0 := pNpaI_0
      have pcsI_se := pNcsI_se
      have hfr := hfr.tr hfk (by decide)
      have hq497 := hfk.1
      change ab_W _ _ _ G478 321 [some (vR d_), some (vz pl), none] [vR p480] _
      have popI_0 : opI o479 G478 0 ps2481 k hi inn := opn_ps _ _ _ popI_0 (psx.lt hq487 (by omega))
      have pszJ_0 := (pszJ_0.leaf hq495 (s := (fi G478 p480 8)) ceq.rf (by have t := hq495.2.2.2.2.1.2.1; omega)).up (hi2 := p480) (by omega)
      have popI_0 := opn_up (hi2 := p480) popI_0 (by omega)
      have popI_0 : opI o479 G478 0 ps2481 k p480 inn := popI_0
      refine ab_aret (rt := _) rfl (Or.inl ⟨_, rfl⟩) (Or.inr ⟨_, rfl⟩) d_RD_part_321 ?_
      rw [hQ]; exact (Or.inr (Or.inr ⟨_, _, _, _, _, _, _, _, _, _, _, _, _, _, _, _, _, _, _, _, _, _, _, p2468, fr, (fi G478 p480 8), rfl, hfr, hd_, hx, hna, hnl, ppaI_0, popI_0, pcsI_se, pszJ_0, (by omega), (by omega), (by omega), (by exact hnm), (by omega), (by exact hq487.lt (by omega)), (by omega), (by omega), (by omega), (by omega), (by omega), (by omega), (by omega), (by omega), (by exact hq488), (by first | exact hkf | (simp only [List.length_cons]; omega) | omega), (by omega), (by omega), (by exact Or.inl ⟨Or.inr (Or.inr (Or.inr (Or.inr (Or.inr ⟨⟨fun z => by have t := tpk_at (f := f) (n := n) (i := pl) (by omega); have u := hb pl (by omega) (by omega); omega, fun z => c270 (hq3.trans z), fun z => c205 (hq3.trans z), fun z => c30 (hq3.trans z), fun z => c114 (hq3.trans z), fun z => c162 (hq3.trans z), fun z => c372 (hq3.trans z), fun z => c5 (hq3.trans z), fun z => c397 (hq3.trans z)⟩, hq445, by rw [← hq469]; omega, by rw [← hq469]; omega, by rw [← hq469]; exact hq496⟩)))), rfl, rfl⟩), (by exact ⟨rfl, rfl, rfl⟩), (by omega)⟩))
