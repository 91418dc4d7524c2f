set_option maxRecDepth 100000 in
set_option maxHeartbeats 4000000 in
theorem z_RD_part {X : ab_X} {d : Nat} {o : Nat → Nat} {G : ab_G} {d_ : Nat} {inn : Value} {dp : Int} {flg : Int} {grp : Int} {na : Nat} {nl : Nat} {lst : Int} {mst : Int} {bh : Int} {NA : Int → Int} {NL : Int → Int} {x : Nat} {se : Nat} {by_ : Nat} {m : Nat} {f : Int → Int} {n : Int} {pl : Int} {fa : Int} {fp : Int} {kd : Nat} {kn : Int} {ps : Nat → Nat} {wt : Nat → Wt} {bs : Nat} {ph : Int} {k : Nat} {hi : Nat} {wh : Nat} {fr : List Fr} {FS : List Fs} {nb : Nat} {cnt : Int} {P : Int → Prop} (hd_ : cc o G d_ 25 (ab_ob 6 [vR x, inn, vz dp, vz flg, vz grp, vR na, vR nl, vz lst, vz mst, vz bh])) (hx : cc o G x 24 (ab_ob 10 [vR se, vR by_, vz n, vz pl, vz fa, vz fp, vR kd, vz kn])) (hna : cc o G na 86 (za 10 NA)) (hnl : cc o G nl 87 (za 10 NL)) (hby_ : cc o G by_ 23 (za m f)) (h15 : cc o G 15 15 (za 18 zAR)) (h16 : cc o G 16 16 (za 20 zAF)) (ppaI_0 : paI o G 0 ps wt bs grp pr0 ph) (popI_0 : opI o G 0 ps k hi inn) (pcsI_se : csI o G se 88 89 nb cnt P) (ptbI_0 : tbI o G 0) (pszJ_0 : szJ o G 0 ps fr hi inn wh 0 0) (pdnJ_0 : dnJ o G 0 ps wt FS hi inn 0 mnI) (hkf : k = fr.length) (hks : k = FS.length) (n18 : ab_n0 = 18) (cn_ : 0 ≤ n ∧ n ≤ ↑m ∧ m ≤ 2000) (hb : bytes f n) (cf : 0 ≤ flg ∧ flg ≤ 31) (cg : 0 ≤ grp ∧ grp ≤ 9) (ck : 0 ≤ dp ∧ dp ≤ 30 ∧ ↑k = dp + 1 ∧ hi ≤ G.length) (hnm : nmok NA NL grp n) (cbs : bs ≤ G.length ∧ 18 ≤ G.length) (ckd : 1 ≤ kd ∧ kd ≤ 12 ∧ 0 ≤ kn ∧ kn ≤ 1) (cfa : fa = 0) (cfp : fp = -1) (cp : 0 ≤ pl ∧ pl < n) (hnb : nb ≤ 104000) (rc : G.length + 9000 ≤ ab_n0 + room_1.cells) (rs : ab_slots G + 430000 ≤ room_1.slots + 2 * nb) (hd : 11 ≤ d) : ab_F X d y_RD_part (.code y_RD_part b_RD_part 3 (some (.object "PatternWorks$Part"))) [vR d_] G (fun oc G2 => (∃ o2 : Nat → Nat, ∃ inn2 : Value, ∃ dp2 : Int, ∃ flg2 : Int, ∃ grp2 : Int, ∃ NA2 : Int → Int, ∃ NL2 : Int → Int, ∃ lst2 : Int, ∃ mst2 : Int, ∃ bh2 : Int, ∃ p2 : Int, ∃ fa2 : Int, ∃ fp2 : Int, ∃ kd2 : Nat, ∃ kn2 : Int, ∃ k2 : Nat, ∃ hi2 : Nat, ∃ ps2 : Nat → Nat, ∃ wt2 : Nat → Wt, ∃ ph2 : Int, ∃ nb2 : Nat, ∃ c2 : Int, ∃ P2 : Int → Prop, ∃ q2 : Int, ∃ fr2 : List Fr, ∃ FS2 : List Fs, oc = .returned (some (vN)) ∧ fx o o2 [24, 25, 86, 87, 88, 89, 90, 92, 94] G G2 ∧ cc o2 G2 d_ 25 (ab_ob 6 [vR x, inn2, vz dp2, vz flg2, vz grp2, vR na, vR nl, vz lst2, vz mst2, vz bh2]) ∧ cc o2 G2 x 24 (ab_ob 10 [vR se, vR by_, vz n, vz p2, vz fa2, vz fp2, vR kd2, vz kn2]) ∧ cc o2 G2 na 86 (za 10 NA2) ∧ cc o2 G2 nl 87 (za 10 NL2) ∧ paI o2 G2 0 ps2 wt2 bs grp2 pr0 ph2 ∧ opI o2 G2 0 ps2 k2 hi2 inn2 ∧ csI o2 G2 se 88 89 nb2 c2 P2 ∧ szJ o2 G2 0 ps2 fr2 hi2 inn2 wh 0 0 ∧ dnJ o2 G2 0 ps2 wt2 FS2 hi2 inn2 0 mnI ∧ (0 ≤ flg2 ∧ flg2 ≤ 31) ∧ (0 ≤ grp2 ∧ grp2 ≤ 9) ∧ (0 ≤ dp2 ∧ dp2 ≤ 30 ∧ ↑k2 = dp2 + 1) ∧ (nmok NA2 NL2 grp2 n) ∧ (hi2 ≤ G2.length) ∧ (psx ps ps2 G.length) ∧ (0 ≤ fa2 ∧ fa2 ≤ 14) ∧ (1 ≤ kd2 ∧ kd2 ≤ 12 ∧ 0 ≤ kn2 ∧ kn2 ≤ 1) ∧ (0 ≤ p2 ∧ p2 ≤ 8000) ∧ (pl ≤ q2 ∧ q2 ≤ n ∧ q2 ≤ p2) ∧ (nb2 ≤ 104000) ∧ (ph2 ≤ ph + 25 * (q2 - pl)) ∧ (64 * G2.length + nb ≤ 64 * G.length + nb2 + 400) ∧ ((↑(ab_slots G2) : Int) + 2 * ↑nb ≤ ↑(ab_slots G) + 2 * ↑nb2 + 100 * (q2 - pl)) ∧ (k2 = fr2.length) ∧ (k2 = FS2.length) ∧ (1 ≤ fa2) ∧ (ptF f n pl flg grp NA NL fr fa2 fp2 ∨ strF f n pl fa2 fp2)) ∨ (∃ o2 : Nat → Nat, ∃ inn2 : Value, ∃ dp2 : Int, ∃ flg2 : Int, ∃ grp2 : Int, ∃ NA2 : Int → Int, ∃ NL2 : Int → Int, ∃ lst2 : Int, ∃ mst2 : Int, ∃ bh2 : Int, ∃ p2 : Int, ∃ fa2 : Int, ∃ fp2 : Int, ∃ kd2 : Nat, ∃ kn2 : Int, ∃ k2 : Nat, ∃ hi2 : Nat, ∃ ps2 : Nat → Nat, ∃ wt2 : Nat → Wt, ∃ ph2 : Int, ∃ nb2 : Nat, ∃ c2 : Int, ∃ P2 : Int → Prop, ∃ q2 : Int, ∃ fr2 : List Fr, ∃ FS2 : List Fs, oc = .returned (some (vN)) ∧ fx o o2 [24, 25, 86, 87, 88, 89, 90, 92, 94] G G2 ∧ cc o2 G2 d_ 25 (ab_ob 6 [vR x, inn2, vz dp2, vz flg2, vz grp2, vR na, vR nl, vz lst2, vz mst2, vz bh2]) ∧ cc o2 G2 x 24 (ab_ob 10 [vR se, vR by_, vz n, vz p2, vz fa2, vz fp2, vR kd2, vz kn2]) ∧ cc o2 G2 na 86 (za 10 NA2) ∧ cc o2 G2 nl 87 (za 10 NL2) ∧ paI o2 G2 0 ps2 wt2 bs grp2 pr0 ph2 ∧ opI o2 G2 0 ps2 k2 hi2 inn2 ∧ csI o2 G2 se 88 89 nb2 c2 P2 ∧ szJ o2 G2 0 ps2 fr2 hi2 inn2 wh 0 0 ∧ dnJ o2 G2 0 ps2 wt2 FS2 hi2 inn2 0 mnI ∧ (0 ≤ flg2 ∧ flg2 ≤ 31) ∧ (0 ≤ grp2 ∧ grp2 ≤ 9) ∧ (0 ≤ dp2 ∧ dp2 ≤ 30 ∧ ↑k2 = dp2 + 1) ∧ (nmok NA2 NL2 grp2 n) ∧ (hi2 ≤ G2.length) ∧ (psx ps ps2 G.length) ∧ (0 ≤ fa2 ∧ fa2 ≤ 14) ∧ (1 ≤ kd2 ∧ kd2 ≤ 12 ∧ 0 ≤ kn2 ∧ kn2 ≤ 1) ∧ (0 ≤ p2 ∧ p2 ≤ 8000) ∧ (pl ≤ q2 ∧ q2 ≤ n ∧ q2 ≤ p2) ∧ (nb2 ≤ 104000) ∧ (ph2 ≤ ph + 25 * (q2 - pl)) ∧ (64 * G2.length + nb ≤ 64 * G.length + nb2 + 400) ∧ ((↑(ab_slots G2) : Int) + 2 * ↑nb ≤ ↑(ab_slots G) + 2 * ↑nb2 + 100 * (q2 - pl)) ∧ (k2 = fr2.length) ∧ (k2 = FS2.length) ∧ (fa2 = 0) ∧ (fp2 = -1) ∧ (ptN f n pl flg grp NA NL fr p2 flg2 grp2 NA2 NL2 fr2) ∧ (ptW f n pl fr fr2 FS FS2) ∧ (pl < p2 ∧ p2 ≤ n)) ∨ (∃ o2 : Nat → Nat, ∃ p : Nat, ∃ inn2 : Value, ∃ dp2 : Int, ∃ flg2 : Int, ∃ grp2 : Int, ∃ NA2 : Int → Int, ∃ NL2 : Int → Int, ∃ lst2 : Int, ∃ mst2 : Int, ∃ bh2 : Int, ∃ p2 : Int, ∃ fa2 : Int, ∃ fp2 : Int, ∃ kd2 : Nat, ∃ kn2 : Int, ∃ k2 : Nat, ∃ ps2 : Nat → Nat, ∃ wt2 : Nat → Wt, ∃ ph2 : Int, ∃ nb2 : Nat, ∃ c2 : Int, ∃ P2 : Int → Prop, ∃ q2 : Int, ∃ fr2 : List Fr, ∃ FS2 : List Fs, ∃ psz2 : Int, ∃ ov2 : Sn, oc = .returned (some (vR p)) ∧ fx o o2 [24, 25, 86, 87, 88, 89, 90, 92, 94] G G2 ∧ cc o2 G2 d_ 25 (ab_ob 6 [vR x, inn2, vz dp2, vz flg2, vz grp2, vR na, vR nl, vz lst2, vz mst2, vz bh2]) ∧ cc o2 G2 x 24 (ab_ob 10 [vR se, vR by_, vz n, vz p2, vz fa2, vz fp2, vR kd2, vz kn2]) ∧ cc o2 G2 na 86 (za 10 NA2) ∧ cc o2 G2 nl 87 (za 10 NL2) ∧ paI o2 G2 0 ps2 wt2 bs grp2 pr0 ph2 ∧ opI o2 G2 0 ps2 k2 p inn2 ∧ csI o2 G2 se 88 89 nb2 c2 P2 ∧ szJ o2 G2 0 ps2 fr2 p inn2 wh p psz2 ∧ dnJ o2 G2 0 ps2 wt2 FS2 p inn2 p ov2 ∧ (0 ≤ flg2 ∧ flg2 ≤ 31) ∧ (0 ≤ grp2 ∧ grp2 ≤ 9) ∧ (0 ≤ dp2 ∧ dp2 ≤ 30 ∧ ↑k2 = dp2 + 1) ∧ (nmok NA2 NL2 grp2 n) ∧ (p < G2.length) ∧ (psx ps ps2 G.length) ∧ (0 ≤ fa2 ∧ fa2 ≤ 14) ∧ (1 ≤ kd2 ∧ kd2 ≤ 12 ∧ 0 ≤ kn2 ∧ kn2 ≤ 1) ∧ (0 ≤ p2 ∧ p2 ≤ 8000) ∧ (pl ≤ q2 ∧ q2 ≤ n ∧ q2 ≤ p2) ∧ (nb2 ≤ 104000) ∧ (ph2 ≤ ph + 25 * (q2 - pl)) ∧ (64 * G2.length + nb ≤ 64 * G.length + nb2 + 400) ∧ ((↑(ab_slots G2) : Int) + 2 * ↑nb ≤ ↑(ab_slots G) + 2 * ↑nb2 + 100 * (q2 - pl)) ∧ (ps2 p = 90) ∧ (k2 = fr2.length) ∧ (k2 = FS2.length) ∧ (fa2 = 0) ∧ (fp2 = -1) ∧ (ptP f n pl flg fr p2 flg2 fr2 psz2) ∧ (ptV f n pl flg fr FS p2 FS2 ov2) ∧ (grp2 = grp ∧ NA2 = NA ∧ NL2 = NL) ∧ (pl < p2 ∧ p2 ≤ n))) := by
  refine ab_F_of (by decide +kernel) (Nat.le_of_ble_eq_true rfl) ?_
  obtain ⟨Q, hQ⟩ : ∃ z : Outcome → ab_G → Prop, z = (fun oc G2 => (∃ o2 : Nat → Nat, ∃ inn2 : Value, ∃ dp2 : Int, ∃ flg2 : Int, ∃ grp2 : Int, ∃ NA2 : Int → Int, ∃ NL2 : Int → Int, ∃ lst2 : Int, ∃ mst2 : Int, ∃ bh2 : Int, ∃ p2 : Int, ∃ fa2 : Int, ∃ fp2 : Int, ∃ kd2 : Nat, ∃ kn2 : Int, ∃ k2 : Nat, ∃ hi2 : Nat, ∃ ps2 : Nat → Nat, ∃ wt2 : Nat → Wt, ∃ ph2 : Int, ∃ nb2 : Nat, ∃ c2 : Int, ∃ P2 : Int → Prop, ∃ q2 : Int, ∃ fr2 : List Fr, ∃ FS2 : List Fs, oc = .returned (some (vN)) ∧ fx o o2 [24, 25, 86, 87, 88, 89, 90, 92, 94] G G2 ∧ cc o2 G2 d_ 25 (ab_ob 6 [vR x, inn2, vz dp2, vz flg2, vz grp2, vR na, vR nl, vz lst2, vz mst2, vz bh2]) ∧ cc o2 G2 x 24 (ab_ob 10 [vR se, vR by_, vz n, vz p2, vz fa2, vz fp2, vR kd2, vz kn2]) ∧ cc o2 G2 na 86 (za 10 NA2) ∧ cc o2 G2 nl 87 (za 10 NL2) ∧ paI o2 G2 0 ps2 wt2 bs grp2 pr0 ph2 ∧ opI o2 G2 0 ps2 k2 hi2 inn2 ∧ csI o2 G2 se 88 89 nb2 c2 P2 ∧ szJ o2 G2 0 ps2 fr2 hi2 inn2 wh 0 0 ∧ dnJ o2 G2 0 ps2 wt2 FS2 hi2 inn2 0 mnI ∧ (0 ≤ flg2 ∧ flg2 ≤ 31) ∧ (0 ≤ grp2 ∧ grp2 ≤ 9) ∧ (0 ≤ dp2 ∧ dp2 ≤ 30 ∧ ↑k2 = dp2 + 1) ∧ (nmok NA2 NL2 grp2 n) ∧ (hi2 ≤ G2.length) ∧ (psx ps ps2 G.length) ∧ (0 ≤ fa2 ∧ fa2 ≤ 14) ∧ (1 ≤ kd2 ∧ kd2 ≤ 12 ∧ 0 ≤ kn2 ∧ kn2 ≤ 1) ∧ (0 ≤ p2 ∧ p2 ≤ 8000) ∧ (pl ≤ q2 ∧ q2 ≤ n ∧ q2 ≤ p2) ∧ (nb2 ≤ 104000) ∧ (ph2 ≤ ph + 25 * (q2 - pl)) ∧ (64 * G2.length + nb ≤ 64 * G.length + nb2 + 400) ∧ ((↑(ab_slots G2) : Int) + 2 * ↑nb ≤ ↑(ab_slots G) + 2 * ↑nb2 + 100 * (q2 - pl)) ∧ (k2 = fr2.length) ∧ (k2 = FS2.length) ∧ (1 ≤ fa2) ∧ (ptF f n pl flg grp NA NL fr fa2 fp2 ∨ strF f n pl fa2 fp2)) ∨ (∃ o2 : Nat → Nat, ∃ inn2 : Value, ∃ dp2 : Int, ∃ flg2 : Int, ∃ grp2 : Int, ∃ NA2 : Int → Int, ∃ NL2 : Int → Int, ∃ lst2 : Int, ∃ mst2 : Int, ∃ bh2 : Int, ∃ p2 : Int, ∃ fa2 : Int, ∃ fp2 : Int, ∃ kd2 : Nat, ∃ kn2 : Int, ∃ k2 : Nat, ∃ hi2 : Nat, ∃ ps2 : Nat → Nat, ∃ wt2 : Nat → Wt, ∃ ph2 : Int, ∃ nb2 : Nat, ∃ c2 : Int, ∃ P2 : Int → Prop, ∃ q2 : Int, ∃ fr2 : List Fr, ∃ FS2 : List Fs, oc = .returned (some (vN)) ∧ fx o o2 [24, 25, 86, 87, 88, 89, 90, 92, 94] G G2 ∧ cc o2 G2 d_ 25 (ab_ob 6 [vR x, inn2, vz dp2, vz flg2, vz grp2, vR na, vR nl, vz lst2, vz mst2, vz bh2]) ∧ cc o2 G2 x 24 (ab_ob 10 [vR se, vR by_, vz n, vz p2, vz fa2, vz fp2, vR kd2, vz kn2]) ∧ cc o2 G2 na 86 (za 10 NA2) ∧ cc o2 G2 nl 87 (za 10 NL2) ∧ paI o2 G2 0 ps2 wt2 bs grp2 pr0 ph2 ∧ opI o2 G2 0 ps2 k2 hi2 inn2 ∧ csI o2 G2 se 88 89 nb2 c2 P2 ∧ szJ o2 G2 0 ps2 fr2 hi2 inn2 wh 0 0 ∧ dnJ o2 G2 0 ps2 wt2 FS2 hi2 inn2 0 mnI ∧ (0 ≤ flg2 ∧ flg2 ≤ 31) ∧ (0 ≤ grp2 ∧ grp2 ≤ 9) ∧ (0 ≤ dp2 ∧ dp2 ≤ 30 ∧ ↑k2 = dp2 + 1) ∧ (nmok NA2 NL2 grp2 n) ∧ (hi2 ≤ G2.length) ∧ (psx ps ps2 G.length) ∧ (0 ≤ fa2 ∧ fa2 ≤ 14) ∧ (1 ≤ kd2 ∧ kd2 ≤ 12 ∧ 0 ≤ kn2 ∧ kn2 ≤ 1) ∧ (0 ≤ p2 ∧ p2 ≤ 8000) ∧ (pl ≤ q2 ∧ q2 ≤ n ∧ q2 ≤ p2) ∧ (nb2 ≤ 104000) ∧ (ph2 ≤ ph + 25 * (q2 - pl)) ∧ (64 * G2.length + nb ≤ 64 * G.length + nb2 + 400) ∧ ((↑(ab_slots G2) : Int) + 2 * ↑nb ≤ ↑(ab_slots G) + 2 * ↑nb2 + 100 * (q2 - pl)) ∧ (k2 = fr2.length) ∧ (k2 = FS2.length) ∧ (fa2 = 0) ∧ (fp2 = -1) ∧ (ptN f n pl flg grp NA NL fr p2 flg2 grp2 NA2 NL2 fr2) ∧ (ptW f n pl fr fr2 FS FS2) ∧ (pl < p2 ∧ p2 ≤ n)) ∨ (∃ o2 : Nat → Nat, ∃ p : Nat, ∃ inn2 : Value, ∃ dp2 : Int, ∃ flg2 : Int, ∃ grp2 : Int, ∃ NA2 : Int → Int, ∃ NL2 : Int → Int, ∃ lst2 : Int, ∃ mst2 : Int, ∃ bh2 : Int, ∃ p2 : Int, ∃ fa2 : Int, ∃ fp2 : Int, ∃ kd2 : Nat, ∃ kn2 : Int, ∃ k2 : Nat, ∃ ps2 : Nat → Nat, ∃ wt2 : Nat → Wt, ∃ ph2 : Int, ∃ nb2 : Nat, ∃ c2 : Int, ∃ P2 : Int → Prop, ∃ q2 : Int, ∃ fr2 : List Fr, ∃ FS2 : List Fs, ∃ psz2 : Int, ∃ ov2 : Sn, oc = .returned (some (vR p)) ∧ fx o o2 [24, 25, 86, 87, 88, 89, 90, 92, 94] G G2 ∧ cc o2 G2 d_ 25 (ab_ob 6 [vR x, inn2, vz dp2, vz flg2, vz grp2, vR na, vR nl, vz lst2, vz mst2, vz bh2]) ∧ cc o2 G2 x 24 (ab_ob 10 [vR se, vR by_, vz n, vz p2, vz fa2, vz fp2, vR kd2, vz kn2]) ∧ cc o2 G2 na 86 (za 10 NA2) ∧ cc o2 G2 nl 87 (za 10 NL2) ∧ paI o2 G2 0 ps2 wt2 bs grp2 pr0 ph2 ∧ opI o2 G2 0 ps2 k2 p inn2 ∧ csI o2 G2 se 88 89 nb2 c2 P2 ∧ szJ o2 G2 0 ps2 fr2 p inn2 wh p psz2 ∧ dnJ o2 G2 0 ps2 wt2 FS2 p inn2 p ov2 ∧ (0 ≤ flg2 ∧ flg2 ≤ 31) ∧ (0 ≤ grp2 ∧ grp2 ≤ 9) ∧ (0 ≤ dp2 ∧ dp2 ≤ 30 ∧ ↑k2 = dp2 + 1) ∧ (nmok NA2 NL2 grp2 n) ∧ (p < G2.length) ∧ (psx ps ps2 G.length) ∧ (0 ≤ fa2 ∧ fa2 ≤ 14) ∧ (1 ≤ kd2 ∧ kd2 ≤ 12 ∧ 0 ≤ kn2 ∧ kn2 ≤ 1) ∧ (0 ≤ p2 ∧ p2 ≤ 8000) ∧ (pl ≤ q2 ∧ q2 ≤ n ∧ q2 ≤ p2) ∧ (nb2 ≤ 104000) ∧ (ph2 ≤ ph + 25 * (q2 - pl)) ∧ (64 * G2.length + nb ≤ 64 * G.length + nb2 + 400) ∧ ((↑(ab_slots G2) : Int) + 2 * ↑nb ≤ ↑(ab_slots G) + 2 * ↑nb2 + 100 * (q2 - pl)) ∧ (ps2 p = 90) ∧ (k2 = fr2.length) ∧ (k2 = FS2.length) ∧ (fa2 = 0) ∧ (fp2 = -1) ∧ (ptP f n pl flg fr p2 flg2 fr2 psz2) ∧ (ptV f n pl flg fr FS p2 FS2 ov2) ∧ (grp2 = grp ∧ NA2 = NA ∧ NL2 = NL) ∧ (pl < p2 ∧ p2 ≤ n))) := ⟨_, rfl⟩
  rw [← hQ]
  change ab_W X (ab_pl y_RD_part b_RD_part 3 (some (.object "PatternWorks$Part"))) d G 0 [some (vR d_), none, none] [] Q
  have hfr : fx o o [24, 25, 86, 87, 88, 89, 90, 92, 94] G G := fx.rf
  refine ab_aload_n d_RD_part_0 rfl ?_
  refine ab_getf (fs := [vR x, inn, vz dp, vz flg, vz grp, vR na, vR nl, vz lst, vz mst, vz bh]) f_RD_12 d_RD_part_1 hd_.2.2 rfl ?_
  refine ab_getf (fs := [vR se, vR by_, vz n, vz pl, vz fa, vz fp, vR kd, vz kn]) f_RD_55 d_RD_part_4 hx.2.2 rfl ?_
  refine ab_istore_n d_RD_part_7 (Nat.le_of_ble_eq_true rfl) (Nat.le_of_ble_eq_true rfl) rfl ?_
  change ab_W _ _ _ G 8 [some (vR d_), some (vz pl), none] [] _
  refine ab_aload_n d_RD_part_8 rfl ?_
  refine ab_getf (fs := [vR x, inn, vz dp, vz flg, vz grp, vR na, vR nl, vz lst, vz mst, vz bh]) f_RD_12 d_RD_part_9 hd_.2.2 rfl ?_
  refine zz_iconst d_RD_part_12 ?_
  refine ab_callV (d' := d - 1) (as := [vz 0]) (st := []) (r := _) (z_TX_peek0 (o := o) (x := x) (lx := 24) (se := se) (by_ := by_) (lby := 23) (m := m) (f := f) (n := n) (pl := pl) (fa := fa) (fp := fp) (kd := kd) (kn := kn) hx hby_ (by omega) hb) (fun oc G2 h => by rcases h with ⟨_, h, _⟩ <;> exact ⟨_, h⟩) (by omega) m_TX_peek ml_RD_79 im_TX_peek se_TX_peek c_TX hx.2.2 (Nat.le_of_ble_eq_true rfl) d_RD_part_13 rfl ?_
  intro v G1 hq
  rcases hq with ⟨v2, hv, hGe, hq3, hq4⟩
  cases hv
  rw [hGe]
  change ab_W _ _ _ G 16 [some (vR d_), some (vz pl), none] [vz v2] _
  by_cases c5 : v2 = 36
  · refine zz_lookup (off := 204) (tgt := 220) d_RD_part_16 (by decide) (by omega) (by rw [c5]; decide) (by decide) ?_
    refine ab_aload_n d_RD_part_220 rfl ?_
    refine ab_getf (fs := [vR x, inn, vz dp, vz flg, vz grp, vR na, vR nl, vz lst, vz mst, vz bh]) f_RD_12 d_RD_part_221 hd_.2.2 rfl ?_
    refine ab_dup d_RD_part_224 rfl ?_
    refine ab_getf (fs := [vR se, vR by_, vz n, vz pl, vz fa, vz fp, vR kd, vz kn]) f_RD_55 d_RD_part_225 hx.2.2 rfl ?_
    refine zz_iconst d_RD_part_228 ?_
    refine zz_iadd d_RD_part_229 ?_
    refine ab_putf (fs := [vR se, vR by_, vz n, vz pl, vz fa, vz fp, vR kd, vz kn]) f_RD_55 (Or.inl rfl) d_RD_part_230 hx.2.2 (Nat.le_of_ble_eq_true rfl) (fun _ => ⟨rfl, rfl⟩) (hx.2.1 (by decide)) ?_
    obtain ⟨G6, eG6⟩ : ∃ z : ab_G, z = List.set G x (ab_ob 10 [vR se, vR by_, vz n, vz (pl + 1), vz fa, vz fp, vR kd, vz kn]) := ⟨_, rfl⟩
    have hd_ := hd_.keep hx eG6 (by decide)
    have hna := hna.keep hx eG6 (by decide)
    have hnl := hnl.keep hx eG6 (by decide)
    have hby_ := hby_.keep hx eG6 (by decide)
    have h15 := h15.keep hx eG6 (by decide)
    have h16 := h16.keep hx eG6 (by decide)
    have hst := (fx.rf (o := o) (S := [24]) (G := G)).wr hx eG6 (List.mem_singleton.mpr rfl)
    have popI_0 := opI.fr hst ppaI_0 popI_0 (by decide) (by decide)
    have pcsI_se := csI.fr hst pcsI_se (by decide) (by decide)
    have ptbI_0 := tbI.fr hst ptbI_0  (by decide)
    have pszJ_0 := szJ.fr hst ppaI_0 pszJ_0 (by decide) (by decide)
    have pdnJ_0 := dnJ.fr hst ppaI_0 pdnJ_0 (by decide) (by decide)
    have ppaI_0 := paI.fr hst ppaI_0 (by decide) (by decide) (by decide) (by decide)
    have hq7 := z_len eG6
    have hq8 := z_sl hx eG6 rfl
    have hfr := hfr.wr hx eG6 (by decide)
    have hx := hx.kept eG6
    change ab_W _ _ _ (List.set G x (ab_ob 10 [vR se, vR by_, vz n, vz (pl + 1), vz fa, vz fp, vR kd, vz kn])) 233 [some (vR d_), some (vz pl), none] [] _
    rw [← eG6]
    refine ab_new (fs := [vz 0, vz 0, vN, vz 0, vz 0, vN, vN, vN, vz 0, vz 0, vz 0, vz 0, vz 0, vz 0, vz 0]) k_PA rfl cl_RD_18 inst_PA ini_PA d_RD_part_233 (by decide) (fun _ => rfl) (by omega) (by omega) ?_
    obtain ⟨G9, eG9⟩ : ∃ z : ab_G, z = G6 ++ [ab_ob 4 [vz 0, vz 0, vN, vz 0, vz 0, vN, vN, vN, vz 0, vz 0, vz 0, vz 0, vz 0, vz 0, vz 0]] := ⟨_, rfl⟩
    obtain ⟨o10, eo10⟩ : ∃ z : Nat → Nat, z = ol o G6.length 90 := ⟨_, rfl⟩
    obtain ⟨a11, ea11⟩ : ∃ z : Nat, z = G6.length := ⟨_, rfl⟩
    have hq12 := hby_.n0 (by first | decide | omega)
    have ne_a11_d_ : nq a11 d_ := by have hlt := hd_.lt; unfold nq; omega
    have ne_a11_x : nq a11 x := by have hlt := hx.lt; unfold nq; omega
    have ne_a11_na : nq a11 na := by have hlt := hna.lt; unfold nq; omega
    have ne_a11_nl : nq a11 nl := by have hlt := hnl.lt; unfold nq; omega
    have ne_a11_by_ : nq a11 by_ := by have hlt := hby_.lt; unfold nq; omega
    have ne_a11_15 : nq a11 15 := by have hlt := h15.lt; unfold nq; omega
    have ne_a11_16 : nq a11 16 := by have hlt := h16.lt; unfold nq; omega
    have hd_ := hd_.akeep (k := 90) eG9
    rw [← eo10] at hd_
    have hx := hx.akeep (k := 90) eG9
    rw [← eo10] at hx
    have hna := hna.akeep (k := 90) eG9
    rw [← eo10] at hna
    have hnl := hnl.akeep (k := 90) eG9
    rw [← eo10] at hnl
    have hby_ := hby_.akeep (k := 90) eG9
    rw [← eo10] at hby_
    have h15 := h15.akeep (k := 90) eG9
    rw [← eo10] at h15
    have h16 := h16.akeep (k := 90) eG9
    rw [← eo10] at h16
    have hst := (fx.rf (o := o) (S := []) (G := G6)).ap (k := 90) eG9
    rw [← eo10] at hst
    have hnpa11 := ppaI_0.new (a := a11) (by omega)
    have popI_0 := opI.fr hst ppaI_0 popI_0 (by decide) (by decide)
    have pcsI_se := csI.fr hst pcsI_se (by decide) (by decide)
    have ptbI_0 := tbI.fr hst ptbI_0  (by simp)
    have pszJ_0 := szJ.fr hst ppaI_0 pszJ_0 (by decide) (by decide)
    have pdnJ_0 := dnJ.fr hst ppaI_0 pdnJ_0 (by decide) (by decide)
    have ppaI_0 := paI.fr hst ppaI_0 (by decide) (by decide) (by decide) (by simp)
    have ha11 := cc.anew (o := o) 90 eG9 hq12
    rw [← eo10, ← ea11] at ha11
    have hfr := hfr.ap (k := 90) eG9
    rw [← eo10] at hfr
    have hq13 := z_alen eG9
    have hq14 : ab_slots G9 = ab_slots G6 + 15 := z_asl eG9 hq12
    change ab_W _ _ _ (G6 ++ [ab_ob 4 [vz 0, vz 0, vN, vz 0, vz 0, vN, vN, vN, vz 0, vz 0, vz 0, vz 0, vz 0, vz 0, vz 0]]) 236 [some (vR d_), some (vz pl), none] [.ref G6.length] _
    rw [← eG9, ← ea11]
    change ab_W _ _ _ G9 236 [some (vR d_), some (vz pl), none] [vR a11] _
    refine ab_dup d_RD_part_236 rfl ?_
    refine zz_iconst d_RD_part_237 ?_
    refine ab_aload_n d_RD_part_238 rfl ?_
    refine zz_iconst d_RD_part_239 ?_
    refine ab_callV (d' := d - 1) (as := [vz 2]) (st := [vz 3, vR a11, vR a11]) (r := _) (z2_RD_isOn (o := o10) (d_ := d_) (inn := inn) (dp := dp) (flg := flg) (grp := grp) (na := na) (nl := nl) (lst := lst) (mst := mst) (bh := bh) (x := x) hd_ (by omega)) (fun oc G2 h => by rcases h with ⟨_, h, _⟩ <;> exact ⟨_, h⟩) (by omega) m_RD_isOn ml_RD_94 im_RD_isOn se_RD_isOn c_RD hd_.2.2 (Nat.le_of_ble_eq_true rfl) d_RD_part_240 rfl ?_
    intro v G15 hq
    rcases hq with ⟨v16, hv, hGe, hq17, hq18⟩
    cases hv
    rw [hGe]
    change ab_W _ _ _ G9 243 [some (vR d_), some (vz pl), none] [vz v16, vz 3, vR a11, vR a11] _
    refine zz_if_eq (tgt := 250) d_RD_part_243 (by decide) (by omega) (fun c19 => ?_) (fun c19 => ?_)
    · refine zz_iconst d_RD_part_250 ?_
      refine zz_iconst d_RD_part_251 ?_
      refine zz_iconst d_RD_part_252 ?_
      refine ab_callI (d' := d - 1) (as := [vz 3, vz 1, vz 1, vz 1]) (st := [vR a11]) (z90_PA_init (o := o10) (a := a11) (k0 := 3) (v0 := 1) (s0 := 1) (m0 := 1) (ps := ps) (wt := wt) (bs := bs) (gr := grp) (Pr := pr0) (ph := ph) ha11 ppaI_0 (by omega) (by omega) (by omega) (by omega)) (fun oc G2 h => by rcases h with ⟨h, _⟩ <;> exact ⟨_, h⟩) (by omega) m_PA_init ml_RD_20 im_PA_init rfl (Nat.le_of_ble_eq_true rfl) d_RD_part_253 rfl ?_
      intro v G20 hq
      rcases hq with ⟨hv, hfk, hlk, hsk, hNa11, pNpaI_0, hq21⟩
      cases hv
      have hd_ := hfk.get hd_ (by decide)
      have hx := hfk.get hx (by decide)
      have hna := hfk.get hna (by decide)
      have hnl := hfk.get hnl (by decide)
      have hby_ := hfk.get hby_ (by decide)
      have h15 := hfk.get h15 (by decide)
      have h16 := hfk.get h16 (by decide)
      have popI_0 := popI_0.fz (o2 := o10) hq21 (by simp)
      have pcsI_se := csI.fr hfk pcsI_se (by decide) (by decide)
      have ptbI_0 := tbI.fr hfk ptbI_0  (by decide)
      have pszJ_0 := pszJ_0.fzk (o2 := o10) hq21
      have pdnJ_0 := pdnJ_0.fzk (o2 := o10) hq21
      have ppaI_0 := pNpaI_0
      have hfr := hfr.tr hfk (by decide)
      have hq22 := hlk
      have hq23 := hsk
      have ha11 := hNa11
      change ab_W _ _ _ G20 256 [some (vR d_), some (vz pl), none] [vR a11] _
      have hnf_ := ppaI_0.nref hnpa11
      have hnp9_ := hnpa11
      have hlt24 := ha11.lt
      have hn24 : paN grp pr0 3 1 (-1) := ⟨by omega, by intro _; omega, by intro _; omega, by intro _; omega, pr0_⟩
      obtain ⟨ps24, wt24, hx24, hxo24, hpa24, hwo24, hwa24, ppaI_0⟩ : ∃ (pz : Nat → Nat) (wz : Nat → Wt), psx ps pz a11 ∧ (∀ x, ¬ x = a11 → pz x = ps x) ∧ pz a11 = 90 ∧ wtx wt wz a11 ∧ wz a11 = (0, fun _ => False) ∧ paI o10 G20 0 pz wz bs grp pr0 (ph + 0) := ⟨_, _, psx.ol (Nat.le_refl _), fun x hx => if_neg hx, ol_self, fun x hx => if_neg hx, olw_self, ppaI_0.ad90 (0, fun _ => False) hnpa11 (by omega) ha11 hn24 (by unfold pnB; omega) (Or.inl ⟨by omega, rfl⟩) (Or.inl rfl) (Or.inl rfl) (Or.inl rfl)⟩
      have popI_0 : opI o10 G20 0 ps24 k hi inn := opn_ps _ _ _ popI_0 (psx.lt hx24 (by omega))
      have hlf_ : leafp ps ps24 G20 a11 := leafp.mk hnf_ hnp9_ hxo24 hpa24 ha11 (by omega)
      have hwx_ : wtx wt wt24 a11 := hwo24
      have hlv_ : lfv G20 wt24 a11 (onS 3 1 (fun _ => False) mnI) := lfv.mk ha11 hwa24 (by omega) (by omega) (by omega) (fun t => by first | omega | exact onN (by omega))
      have pszJ_0 := (pszJ_0.leaf hlf_ (s := (fi G20 a11 8)) ceq.rf (by have t := hlf_.2.2.2.2.1.2.1; omega)).up (hi2 := a11) (by omega)
      have pdnJ_0 := (pdnJ_0.leaf hlf_ hwx_ hlv_).up (hi2 := a11) (by omega)
      have popI_0 := opn_up (hi2 := a11) popI_0 (by omega)
      have popI_0 : opI o10 G20 0 ps24 k a11 inn := popI_0
      refine ab_aret (rt := _) rfl (Or.inl ⟨_, rfl⟩) (Or.inr ⟨_, rfl⟩) d_RD_part_256 ?_
      rw [hQ]; exact (Or.inr (Or.inr ⟨_, _, _, _, _, _, _, _, _, _, _, _, _, _, _, _, _, _, _, _, _, _, _, (pl + 1), fr, FS, (fi G20 a11 8), (onS 3 1 (fun _ => False) mnI), rfl, hfr, hd_, hx, hna, hnl, ppaI_0, popI_0, pcsI_se, pszJ_0, pdnJ_0, (by omega), (by omega), (by omega), (by exact hnm), (by have hlt := ha11.lt; omega), (by exact hx24.lt (by omega)), (by omega), (by omega), (by omega), (by omega), (by omega), (by omega), (by omega), (by omega), (by exact hpa24), (by first | exact hkf | (simp only [List.length_cons]; omega) | omega), (by first | exact hks | (simp only [List.length_cons]; omega) | omega), (by omega), (by omega), (by exact Or.inl ⟨Or.inr (Or.inr (Or.inr (Or.inr (Or.inl ⟨by omega, by omega, (fi_pa ha11 (by omega) (by omega)).2.2.1⟩)))), rfl, rfl⟩), (by exact Or.inl ⟨Or.inr (Or.inr (Or.inr (Or.inr (Or.inr (Or.inl ⟨by omega, by omega, onS_3.trans (congrArg mnQ (by omega))⟩))))), rfl⟩), (by exact ⟨rfl, rfl, rfl⟩), (by omega)⟩))
    · refine zz_iconst d_RD_part_246 ?_
      refine ab_goto (tgt := 251) d_RD_part_247 (by decide) ?_
      refine zz_iconst d_RD_part_251 ?_
      refine zz_iconst d_RD_part_252 ?_
      refine ab_callI (d' := d - 1) (as := [vz 3, vz 3, vz 1, vz 1]) (st := [vR a11]) (z90_PA_init (o := o10) (a := a11) (k0 := 3) (v0 := 3) (s0 := 1) (m0 := 1) (ps := ps) (wt := wt) (bs := bs) (gr := grp) (Pr := pr0) (ph := ph) ha11 ppaI_0 (by omega) (by omega) (by omega) (by omega)) (fun oc G2 h => by rcases h with ⟨h, _⟩ <;> exact ⟨_, h⟩) (by omega) m_PA_init ml_RD_20 im_PA_init rfl (Nat.le_of_ble_eq_true rfl) d_RD_part_253 rfl ?_
      intro v G25 hq
      rcases hq with ⟨hv, hfk, hlk, hsk, hNa11, pNpaI_0, hq26⟩
      cases hv
      have hd_ := hfk.get hd_ (by decide)
      have hx := hfk.get hx (by decide)
      have hna := hfk.get hna (by decide)
      have hnl := hfk.get hnl (by decide)
      have hby_ := hfk.get hby_ (by decide)
      have h15 := hfk.get h15 (by decide)
      have h16 := hfk.get h16 (by decide)
      have popI_0 := popI_0.fz (o2 := o10) hq26 (by simp)
      have pcsI_se := csI.fr hfk pcsI_se (by decide) (by decide)
      have ptbI_0 := tbI.fr hfk ptbI_0  (by decide)
      have pszJ_0 := pszJ_0.fzk (o2 := o10) hq26
      have pdnJ_0 := pdnJ_0.fzk (o2 := o10) hq26
      have ppaI_0 := pNpaI_0
      have hfr := hfr.tr hfk (by decide)
      have hq27 := hlk
      have hq28 := hsk
      have ha11 := hNa11
      change ab_W _ _ _ G25 256 [some (vR d_), some (vz pl), none] [vR a11] _
      have hnf_ := ppaI_0.nref hnpa11
      have hnp9_ := hnpa11
      have hlt29 := ha11.lt
      have hn29 : paN grp pr0 3 3 (-1) := ⟨by omega, by intro _; omega, by intro _; omega, by intro _; omega, pr0_⟩
      obtain ⟨ps29, wt29, hx29, hxo29, hpa29, hwo29, hwa29, ppaI_0⟩ : ∃ (pz : Nat → Nat) (wz : Nat → Wt), psx ps pz a11 ∧ (∀ x, ¬ x = a11 → pz x = ps x) ∧ pz a11 = 90 ∧ wtx wt wz a11 ∧ wz a11 = (0, fun _ => False) ∧ paI o10 G25 0 pz wz bs grp pr0 (ph + 0) := ⟨_, _, psx.ol (Nat.le_refl _), fun x hx => if_neg hx, ol_self, fun x hx => if_neg hx, olw_self, ppaI_0.ad90 (0, fun _ => False) hnpa11 (by omega) ha11 hn29 (by unfold pnB; omega) (Or.inl ⟨by omega, rfl⟩) (Or.inl rfl) (Or.inl rfl) (Or.inl rfl)⟩
      have popI_0 : opI o10 G25 0 ps29 k hi inn := opn_ps _ _ _ popI_0 (psx.lt hx29 (by omega))
      have hlf_ : leafp ps ps29 G25 a11 := leafp.mk hnf_ hnp9_ hxo29 hpa29 ha11 (by omega)
      have hwx_ : wtx wt wt29 a11 := hwo29
      have hlv_ : lfv G25 wt29 a11 (onS 3 3 (fun _ => False) mnI) := lfv.mk ha11 hwa29 (by omega) (by omega) (by omega) (fun t => by first | omega | exact onN (by omega))
      have pszJ_0 := (pszJ_0.leaf hlf_ (s := (fi G25 a11 8)) ceq.rf (by have t := hlf_.2.2.2.2.1.2.1; omega)).up (hi2 := a11) (by omega)
      have pdnJ_0 := (pdnJ_0.leaf hlf_ hwx_ hlv_).up (hi2 := a11) (by omega)
      have popI_0 := opn_up (hi2 := a11) popI_0 (by omega)
      have popI_0 : opI o10 G25 0 ps29 k a11 inn := popI_0
      refine ab_aret (rt := _) rfl (Or.inl ⟨_, rfl⟩) (Or.inr ⟨_, rfl⟩) d_RD_part_256 ?_
      rw [hQ]; exact (Or.inr (Or.inr ⟨_, _, _, _, _, _, _, _, _, _, _, _, _, _, _, _, _, _, _, _, _, _, _, (pl + 1), fr, FS, (fi G25 a11 8), (onS 3 3 (fun _ => False) mnI), rfl, hfr, hd_, hx, hna, hnl, ppaI_0, popI_0, pcsI_se, pszJ_0, pdnJ_0, (by omega), (by omega), (by omega), (by exact hnm), (by have hlt := ha11.lt; omega), (by exact hx29.lt (by omega)), (by omega), (by omega), (by omega), (by omega), (by omega), (by omega), (by omega), (by omega), (by exact hpa29), (by first | exact hkf | (simp only [List.length_cons]; omega) | omega), (by first | exact hks | (simp only [List.length_cons]; omega) | omega), (by omega), (by omega), (by exact Or.inl ⟨Or.inr (Or.inr (Or.inr (Or.inr (Or.inl ⟨by omega, by omega, (fi_pa ha11 (by omega) (by omega)).2.2.1⟩)))), rfl, rfl⟩), (by exact Or.inl ⟨Or.inr (Or.inr (Or.inr (Or.inr (Or.inr (Or.inl ⟨by omega, by omega, onS_3.trans (congrArg mnQ (by omega))⟩))))), rfl⟩), (by exact ⟨rfl, rfl, rfl⟩), (by omega)⟩))
  replace c5 : nzq v2 36 := c5
  by_cases c30 : v2 = 40
  · refine zz_lookup (off := 120) (tgt := 136) d_RD_part_16 (by decide) (by omega) (by rw [c30]; decide) (by decide) ?_
    refine ab_aload_n d_RD_part_136 rfl ?_
    refine ab_iload_n d_RD_part_137 rfl ?_
    refine ab_callV (d' := d - 1) (as := [vz pl]) (st := []) (r := _) (z_RD_open (o := o) (d_ := d_) (inn := inn) (dp := dp) (flg := flg) (grp := grp) (na := na) (nl := nl) (lst := lst) (mst := mst) (bh := bh) (NA := NA) (NL := NL) (x := x) (se := se) (by_ := by_) (m := m) (f := f) (n := n) (pl := pl) (fa := fa) (fp := fp) (kd := kd) (kn := kn) (ps := ps) (wt := wt) (bs := bs) (ph := ph) (k := k) (hi := hi) (wh := wh) (fr := fr) (FS := FS) hd_ hx hna hnl hby_ ppaI_0 popI_0 pszJ_0 pdnJ_0 (by omega) (by omega) hb (by omega) (by omega) (by omega) hnm (by omega) (by omega) (by omega) (by omega) (by omega) (by omega) (by omega) (by omega)) (fun oc G2 h => by rcases h with ⟨_, _, _, _, _, _, _, h, _⟩ | ⟨_, _, _, _, _, _, _, _, h, _⟩ | ⟨_, _, _, _, _, _, _, _, _, h, _⟩ | ⟨_, _, _, h, _⟩ | ⟨_, _, _, _, h, _⟩ <;> exact ⟨_, h⟩) (by omega) m_RD_open ml_RD_106 im_RD_open se_RD_open c_RD hd_.2.2 (Nat.le_of_ble_eq_true rfl) d_RD_part_138 rfl ?_
    intro v G31 hq
    rcases hq with ⟨o32, inn233, k234, hi235, ps236, wt237, ph238, hv, hfk, hNd_, hNx, hNna, hNnl, pNpaI_0, pNopI_0, pNszJ_0, pNdnJ_0, hq39, hq40, hq41, hq42, hq43, hq44, hq45, hq46, hq47⟩ | ⟨o48, nm249, inn250, k251, hi252, ps253, wt254, ph255, hv, hfk, hNd_, hNx, hNna, hNnl, pNpaI_0, pNopI_0, pNszJ_0, pNdnJ_0, hq56, hq57, hq58, hq59, hq60, hq61, hq62, hq63, hq64, hq65, hq66, hq67, hq68⟩ | ⟨o69, v270, e271, inn272, k273, hi274, ps275, wt276, ph277, hv, hfk, hNd_, hNx, hNna, hNnl, pNpaI_0, pNopI_0, pNszJ_0, pNdnJ_0, hq78, hq79, hq80, hq81, hq82, hq83, hq84, hq85, hq86, hq87, hq88, hq89⟩ | ⟨o90, v291, e292, hv, hfk, hNd_, hNx, hNna, hNnl, pNpaI_0, pNopI_0, pNszJ_0, pNdnJ_0, hq93, hq94, hq95, hq96, hq97, hq98, hq99⟩ | ⟨o100, p2101, fa2102, fp2103, hv, hfk, hNd_, hNx, hNna, hNnl, pNpaI_0, pNopI_0, pNszJ_0, pNdnJ_0, hq104, hq105, hq106, hq107, hq108⟩
    · cases hv
      have hby_ := hfk.get hby_ (by decide)
      have h15 := hfk.get h15 (by decide)
      have h16 := hfk.get h16 (by decide)
      have pcsI_se := csI.fr hfk pcsI_se (by decide) (by decide)
      have ptbI_0 := tbI.fr hfk ptbI_0  (by decide)
      have ppaI_0 := pNpaI_0
      have popI_0 := pNopI_0
      have pszJ_0 := pNszJ_0
      have pdnJ_0 := pNdnJ_0
      have hfr := hfr.tr hfk (by decide)
      have hq109 := hfk.1
      have hd_ := hNd_
      have hx := hNx
      have hna := hNna
      have hnl := hNnl
      change ab_W _ _ _ G31 141 [some (vR d_), some (vz pl), none] [] _
      refine ab_null d_RD_part_141 ?_
      refine ab_aret (rt := _) rfl (Or.inl ⟨_, rfl⟩) (Or.inl rfl) d_RD_part_142 ?_
      rw [hQ]; exact (Or.inr (Or.inl ⟨_, _, _, _, _, _, _, _, _, _, _, _, _, _, _, _, _, _, _, _, _, _, _, (pl + 1), ((pl, flg, (grp + 1), 0, 0) :: fr), ((none, mnI) :: FS), rfl, hfr, hd_, hx, hna, hnl, ppaI_0, popI_0, pcsI_se, pszJ_0, pdnJ_0, (by omega), (by omega), (by omega), (by exact nmok_s hnm (by omega) (by omega)), (by omega), (by exact hq44.lt (by omega)), (by omega), (by omega), (by omega), (by omega), (by omega), (by omega), (by omega), (by omega), (by first | exact hkf | (simp only [List.length_cons]; omega) | omega), (by first | exact hks | (simp only [List.length_cons]; omega) | omega), (by omega), (by omega), (by exact Or.inr (Or.inl ⟨by omega, by omega, ⟨by omega, by omega⟩, ⟨by omega, rfl, rfl, rfl, rfl⟩, rfl⟩)), (by exact Or.inr ⟨by omega, Or.inl ⟨by rw [List.length_cons], rfl⟩⟩), (by omega)⟩))
    · cases hv
      have hby_ := hfk.get hby_ (by decide)
      have h15 := hfk.get h15 (by decide)
      have h16 := hfk.get h16 (by decide)
      have pcsI_se := csI.fr hfk pcsI_se (by decide) (by decide)
      have ptbI_0 := tbI.fr hfk ptbI_0  (by decide)
      have ppaI_0 := pNpaI_0
      have popI_0 := pNopI_0
      have pszJ_0 := pNszJ_0
      have pdnJ_0 := pNdnJ_0
      have hfr := hfr.tr hfk (by decide)
      have hq110 := hfk.1
      have hd_ := hNd_
      have hx := hNx
      have hna := hNna
      have hnl := hNnl
      change ab_W _ _ _ G31 141 [some (vR d_), some (vz pl), none] [] _
      have hnw_ : 1 ≤ nm249 ∧ nm249 ≤ 12 ∧ pl + 4 + nm249 < n := by have t := nmR_w hq58; omega
      refine ab_null d_RD_part_141 ?_
      refine ab_aret (rt := _) rfl (Or.inl ⟨_, rfl⟩) (Or.inl rfl) d_RD_part_142 ?_
      rw [hQ]; exact (Or.inr (Or.inl ⟨_, _, _, _, _, _, _, _, _, _, _, _, _, _, _, _, _, _, _, _, _, _, _, (pl + 1), ((pl, flg, (grp + 1), 0, 0) :: fr), ((none, mnI) :: FS), rfl, hfr, hd_, hx, hna, hnl, ppaI_0, popI_0, pcsI_se, pszJ_0, pdnJ_0, (by omega), (by omega), (by omega), (by exact nmok_s hnm (by omega) (by omega)), (by omega), (by exact hq65.lt (by omega)), (by omega), (by omega), (by omega), (by omega), (by omega), (by omega), (by omega), (by omega), (by first | exact hkf | (simp only [List.length_cons]; omega) | omega), (by first | exact hks | (simp only [List.length_cons]; omega) | omega), (by omega), (by omega), (by exact Or.inr (Or.inr (Or.inl ⟨by omega, by omega, ⟨by omega, by omega⟩, _, ⟨hq58, by omega, hq60⟩, ⟨by omega, by omega⟩, ⟨by omega, rfl, rfl, rfl, rfl⟩, rfl⟩))), (by exact Or.inr ⟨by omega, Or.inl ⟨by rw [List.length_cons], rfl⟩⟩), (by first | omega | (have t := nmR_w hq58; omega))⟩))
    · cases hv
      have hby_ := hfk.get hby_ (by decide)
      have h15 := hfk.get h15 (by decide)
      have h16 := hfk.get h16 (by decide)
      have pcsI_se := csI.fr hfk pcsI_se (by decide) (by decide)
      have ptbI_0 := tbI.fr hfk ptbI_0  (by decide)
      have ppaI_0 := pNpaI_0
      have popI_0 := pNopI_0
      have pszJ_0 := pNszJ_0
      have pdnJ_0 := pNdnJ_0
      have hfr := hfr.tr hfk (by decide)
      have hq111 := hfk.1
      have hd_ := hNd_
      have hx := hNx
      have hna := hNna
      have hnl := hNnl
      change ab_W _ _ _ G31 141 [some (vR d_), some (vz pl), none] [] _
      have hfw_ := (flgR_w hq80).1
      have hfv_ := flgR_v hq80 (by omega)
      refine ab_null d_RD_part_141 ?_
      refine ab_aret (rt := _) rfl (Or.inl ⟨_, rfl⟩) (Or.inl rfl) d_RD_part_142 ?_
      rw [hQ]; exact (Or.inr (Or.inl ⟨_, _, _, _, _, _, _, _, _, _, _, _, _, _, _, _, _, _, _, _, _, _, _, (pl + 1), ((pl, flg, 0, 0, 0) :: fr), ((none, mnI) :: FS), rfl, hfr, hd_, hx, hna, hnl, ppaI_0, popI_0, pcsI_se, pszJ_0, pdnJ_0, (by omega), (by omega), (by omega), (by exact hnm), (by omega), (by exact hq86.lt (by omega)), (by omega), (by omega), (by omega), (by omega), (by omega), (by omega), (by omega), (by omega), (by first | exact hkf | (simp only [List.length_cons]; omega) | omega), (by first | exact hks | (simp only [List.length_cons]; omega) | omega), (by omega), (by omega), (by exact Or.inr (Or.inr (Or.inr ⟨by omega, by omega, by omega, _, hq80, ⟨by omega, rfl, rfl, rfl⟩, Or.inl ⟨by omega, by omega, rfl⟩⟩))), (by exact Or.inr ⟨by omega, Or.inl ⟨by rw [List.length_cons], rfl⟩⟩), (by first | omega | (have t := flgR_w hq80; omega))⟩))
    · cases hv
      have hby_ := hfk.get hby_ (by decide)
      have h15 := hfk.get h15 (by decide)
      have h16 := hfk.get h16 (by decide)
      have pcsI_se := csI.fr hfk pcsI_se (by decide) (by decide)
      have ptbI_0 := tbI.fr hfk ptbI_0  (by decide)
      have ppaI_0 := pNpaI_0
      have popI_0 := pNopI_0
      have pszJ_0 := pNszJ_0
      have pdnJ_0 := pNdnJ_0
      have hfr := hfr.tr hfk (by decide)
      have hq112 := hfk.1
      have hd_ := hNd_
      have hx := hNx
      have hna := hNna
      have hnl := hNnl
      change ab_W _ _ _ G31 141 [some (vR d_), some (vz pl), none] [] _
      have hfw_ := (flgR_w hq95).1
      have hfv_ := flgR_v hq95 (by omega)
      refine ab_null d_RD_part_141 ?_
      refine ab_aret (rt := _) rfl (Or.inl ⟨_, rfl⟩) (Or.inl rfl) d_RD_part_142 ?_
      rw [hQ]; exact (Or.inr (Or.inl ⟨_, _, _, _, _, _, _, _, _, _, _, _, _, _, _, _, _, _, _, _, _, _, _, (pl + 1), fr, FS, rfl, hfr, hd_, hx, hna, hnl, ppaI_0, popI_0, pcsI_se, pszJ_0, pdnJ_0, (by omega), (by omega), (by omega), (by exact hnm), (by omega), (by exact psx.rf), (by omega), (by omega), (by omega), (by omega), (by omega), (by omega), (by omega), (by omega), (by first | exact hkf | (simp only [List.length_cons]; omega) | omega), (by first | exact hks | (simp only [List.length_cons]; omega) | omega), (by omega), (by omega), (by exact Or.inr (Or.inr (Or.inr ⟨by omega, by omega, by omega, _, hq95, ⟨by omega, rfl, rfl, rfl⟩, Or.inr ⟨by omega, rfl⟩⟩))), (by exact Or.inr ⟨by omega, Or.inr ⟨rfl, rfl⟩⟩), (by first | omega | (have t := flgR_w hq95; omega))⟩))
    · cases hv
      have hby_ := hfk.get hby_ (by decide)
      have h15 := hfk.get h15 (by decide)
      have h16 := hfk.get h16 (by decide)
      have pcsI_se := csI.fr hfk pcsI_se (by decide) (by decide)
      have ptbI_0 := tbI.fr hfk ptbI_0  (by decide)
      have ppaI_0 := pNpaI_0
      have popI_0 := pNopI_0
      have pszJ_0 := pNszJ_0
      have pdnJ_0 := pNdnJ_0
      have hfr := hfr.tr hfk (by decide)
      have hq113 := hfk.1
      have hd_ := hNd_
      have hx := hNx
      have hna := hNna
      have hnl := hNnl
      change ab_W _ _ _ G31 141 [some (vR d_), some (vz pl), none] [] _
      refine ab_null d_RD_part_141 ?_
      refine ab_aret (rt := _) rfl (Or.inl ⟨_, rfl⟩) (Or.inl rfl) d_RD_part_142 ?_
      rw [hQ]; exact (Or.inl ⟨_, _, _, _, _, _, _, _, _, _, _, _, _, _, _, _, _, _, _, _, _, _, _, (pl + 1), fr, FS, rfl, hfr, hd_, hx, hna, hnl, ppaI_0, popI_0, pcsI_se, pszJ_0, pdnJ_0, (by omega), (by omega), (by omega), (by exact hnm), (by omega), (by exact psx.rf), (by omega), (by omega), (by omega), (by omega), (by omega), (by omega), (by omega), (by omega), (by first | exact hkf | (simp only [List.length_cons]; omega) | omega), (by first | exact hks | (simp only [List.length_cons]; omega) | omega), (by omega), (by exact Or.inl (Or.inr (Or.inl ⟨by omega, by have t := hq104; rw [show dp = ↑fr.length - 1 by omega] at t; exact t, by omega⟩)))⟩)
  replace c30 : nzq v2 40 := c30
  by_cases c114 : v2 = 41
  · refine zz_lookup (off := 127) (tgt := 143) d_RD_part_16 (by decide) (by omega) (by rw [c114]; decide) (by decide) ?_
    refine ab_aload_n d_RD_part_143 rfl ?_
    refine ab_callV (d' := d - 1) (as := []) (st := []) (r := _) (z_RD_close (o := o) (d_ := d_) (inn := inn) (dp := dp) (flg := flg) (grp := grp) (na := na) (nl := nl) (lst := lst) (mst := mst) (bh := bh) (x := x) (se := se) (by_ := by_) (n := n) (pl := pl) (fa := fa) (fp := fp) (kd := kd) (kn := kn) (ps := ps) (wt := wt) (bs := bs) (ph := ph) (k := k) (hi := hi) (wh := wh) (fr := fr) (FS := FS) hd_ hx ppaI_0 popI_0 pszJ_0 pdnJ_0 (by omega) (by omega) (by omega) (by omega) (by omega) (by omega) (by omega) (by omega) (by omega)) (fun oc G2 h => by rcases h with ⟨_, _, _, _, _, _, _, _, h, _⟩ | ⟨_, _, _, _, _, _, _, _, _, _, _, _, _, _, _, _, _, h, _⟩ <;> exact ⟨_, h⟩) (by omega) m_RD_close ml_RD_110 im_RD_close se_RD_close c_RD hd_.2.2 (Nat.le_of_ble_eq_true rfl) d_RD_part_144 rfl ?_
    intro v G115 hq
    rcases hq with ⟨inn2116, dp2117, flg2118, p2119, fa2120, fp2121, k2122, hi2123, hv, hfk, hlk, hsk, hNd_, hNx, pNpaI_0, pNopI_0, pNszJ_0, pNdnJ_0, hq124, hq125, hq126, hq127, hq128, hq129, hq130, hq131⟩ | ⟨p132, a1_133, b1_134, c1_135, d1_136, e1_137, t_138, ao_139, ro_140, ts_141, inn2142, dp2143, flg2144, p2145, fa2146, fp2147, k2148, hv, hfk, hlk, hsk, hNd_, hNx, pNpaI_0, pNopI_0, pNszJ_0, pNdnJ_0, hq149, hq150, hq151, hq152, hq153, hq154, hq155, hq156, hq157, hq158, hq159, hq160, hq161⟩
    · cases hv
      have hna := hfk.get hna (by decide)
      have hnl := hfk.get hnl (by decide)
      have hby_ := hfk.get hby_ (by decide)
      have h15 := hfk.get h15 (by decide)
      have h16 := hfk.get h16 (by decide)
      have pcsI_se := csI.fr hfk pcsI_se (by decide) (by decide)
      have ptbI_0 := tbI.fr hfk ptbI_0  (by decide)
      have ppaI_0 := pNpaI_0
      have popI_0 := pNopI_0
      have pszJ_0 := pNszJ_0
      have pdnJ_0 := pNdnJ_0
      have hfr := hfr.tr hfk (by decide)
      have hq162 := hlk
      have hq163 := hsk
      have hd_ := hNd_
      have hx := hNx
      change ab_W _ _ _ G115 147 [some (vR d_), some (vz pl), none] [vN] _
      refine ab_aret (rt := _) rfl (Or.inl ⟨_, rfl⟩) (Or.inl rfl) d_RD_part_147 ?_
      rw [hQ]; exact (Or.inl ⟨_, _, _, _, _, _, _, _, _, _, _, _, _, _, _, _, _, _, _, _, _, _, _, pl, fr, FS, rfl, hfr, hd_, hx, hna, hnl, ppaI_0, popI_0, pcsI_se, pszJ_0, pdnJ_0, (by omega), (by omega), (by omega), (by exact hnm), (by omega), (by exact psx.rf), (by omega), (by omega), (by omega), (by omega), (by omega), (by omega), (by omega), (by omega), (by first | exact hkf | (simp only [List.length_cons]; omega) | omega), (by first | exact hks | (simp only [List.length_cons]; omega) | omega), (by omega), (by exact Or.inl (Or.inr (Or.inr ⟨by omega, by omega, by omega, by omega⟩)))⟩)
    · cases hv
      have hna := hfk.get hna (by decide)
      have hnl := hfk.get hnl (by decide)
      have hby_ := hfk.get hby_ (by decide)
      have h15 := hfk.get h15 (by decide)
      have h16 := hfk.get h16 (by decide)
      have pcsI_se := csI.fr hfk pcsI_se (by decide) (by decide)
      have ptbI_0 := tbI.fr hfk ptbI_0  (by decide)
      have ppaI_0 := pNpaI_0
      have popI_0 := pNopI_0
      have pszJ_0 := pNszJ_0
      have pdnJ_0 := pNdnJ_0
      have hfr := hfr.tr hfk (by decide)
      have hq164 := hlk
      have hq165 := hsk
      have hd_ := hNd_
      have hx := hNx
      change ab_W _ _ _ G115 147 [some (vR d_), some (vz pl), none] [vR p132] _
      refine ab_aret (rt := _) rfl (Or.inl ⟨_, rfl⟩) (Or.inr ⟨_, rfl⟩) d_RD_part_147 ?_
      rw [hQ]; exact (Or.inr (Or.inr ⟨_, _, _, _, _, _, _, _, _, _, _, _, _, _, _, _, _, _, _, _, _, _, _, pl, t_138, ts_141, (pin 4 c1_135 + e1_137 + d1_136), (mnG c1_135 (opO ao_139 ro_140)), rfl, hfr, hd_, hx, hna, hnl, ppaI_0, popI_0, pcsI_se, pszJ_0, pdnJ_0, (by omega), (by omega), (by omega), (by exact hnm), (by omega), (by exact psx.rf), (by omega), (by omega), (by omega), (by omega), (by omega), (by omega), (by omega), (by omega), (by exact hq160), (by first | exact hkf | (simp only [List.length_cons]; omega) | omega | (have t := congrArg List.length hq149; simp only [List.length_cons] at t ⊢; omega) | (have t := congrArg List.length hq149; simp only [List.length_cons] at t; omega)), (by first | exact hks | (simp only [List.length_cons]; omega) | omega | (have t := congrArg List.length hq150; simp only [List.length_cons] at t ⊢; omega) | (have t := congrArg List.length hq150; simp only [List.length_cons] at t; omega)), (by omega), (by omega), (by exact Or.inr ⟨by omega, by omega, _, _, _, _, _, hq149, by have t := congrArg List.length hq149; simp only [List.length_cons] at t; omega, by omega, rfl⟩), (by exact Or.inr ⟨by omega, _, _, _, _, _, _, _, _, hq149, hq150, rfl⟩), (by exact ⟨rfl, rfl, rfl⟩), (by omega)⟩))
  replace c114 : nzq v2 41 := c114
  by_cases c166 : v2 = 46
  · refine zz_lookup (off := 132) (tgt := 148) d_RD_part_16 (by decide) (by omega) (by rw [c166]; decide) (by decide) ?_
    refine ab_aload_n d_RD_part_148 rfl ?_
    refine ab_getf (fs := [vR x, inn, vz dp, vz flg, vz grp, vR na, vR nl, vz lst, vz mst, vz bh]) f_RD_12 d_RD_part_149 hd_.2.2 rfl ?_
    refine ab_dup d_RD_part_152 rfl ?_
    refine ab_getf (fs := [vR se, vR by_, vz n, vz pl, vz fa, vz fp, vR kd, vz kn]) f_RD_55 d_RD_part_153 hx.2.2 rfl ?_
    refine zz_iconst d_RD_part_156 ?_
    refine zz_iadd d_RD_part_157 ?_
    refine ab_putf (fs := [vR se, vR by_, vz n, vz pl, vz fa, vz fp, vR kd, vz kn]) f_RD_55 (Or.inl rfl) d_RD_part_158 hx.2.2 (Nat.le_of_ble_eq_true rfl) (fun _ => ⟨rfl, rfl⟩) (hx.2.1 (by decide)) ?_
    obtain ⟨G167, eG167⟩ : ∃ z : ab_G, z = List.set G x (ab_ob 10 [vR se, vR by_, vz n, vz (pl + 1), vz fa, vz fp, vR kd, vz kn]) := ⟨_, rfl⟩
    have hd_ := hd_.keep hx eG167 (by decide)
    have hna := hna.keep hx eG167 (by decide)
    have hnl := hnl.keep hx eG167 (by decide)
    have hby_ := hby_.keep hx eG167 (by decide)
    have h15 := h15.keep hx eG167 (by decide)
    have h16 := h16.keep hx eG167 (by decide)
    have hst := (fx.rf (o := o) (S := [24]) (G := G)).wr hx eG167 (List.mem_singleton.mpr rfl)
    have popI_0 := opI.fr hst ppaI_0 popI_0 (by decide) (by decide)
    have pcsI_se := csI.fr hst pcsI_se (by decide) (by decide)
    have ptbI_0 := tbI.fr hst ptbI_0  (by decide)
    have pszJ_0 := szJ.fr hst ppaI_0 pszJ_0 (by decide) (by decide)
    have pdnJ_0 := dnJ.fr hst ppaI_0 pdnJ_0 (by decide) (by decide)
    have ppaI_0 := paI.fr hst ppaI_0 (by decide) (by decide) (by decide) (by decide)
    have hq168 := z_len eG167
    have hq169 := z_sl hx eG167 rfl
    have hfr := hfr.wr hx eG167 (by decide)
    have hx := hx.kept eG167
    change ab_W _ _ _ (List.set G x (ab_ob 10 [vR se, vR by_, vz n, vz (pl + 1), vz fa, vz fp, vR kd, vz kn])) 161 [some (vR d_), some (vz pl), none] [] _
    rw [← eG167]
    refine ab_aload_n d_RD_part_161 rfl ?_
    refine ab_aload_n d_RD_part_162 rfl ?_
    refine zz_iconst d_RD_part_163 ?_
    refine ab_callV (d' := d - 1) (as := [vz 4]) (st := [vR d_]) (r := _) (z4_RD_isOn (o := o) (d_ := d_) (inn := inn) (dp := dp) (flg := flg) (grp := grp) (na := na) (nl := nl) (lst := lst) (mst := mst) (bh := bh) (x := x) hd_ (by omega)) (fun oc G2 h => by rcases h with ⟨_, h, _⟩ <;> exact ⟨_, h⟩) (by omega) m_RD_isOn ml_RD_94 im_RD_isOn se_RD_isOn c_RD hd_.2.2 (Nat.le_of_ble_eq_true rfl) d_RD_part_164 rfl ?_
    intro v G170 hq
    rcases hq with ⟨v171, hv, hGe, hq172, hq173⟩
    cases hv
    rw [hGe]
    change ab_W _ _ _ G167 167 [some (vR d_), some (vz pl), none] [vz v171, vR d_] _
    refine zz_if_eq (tgt := 176) d_RD_part_167 (by decide) (by omega) (fun c174 => ?_) (fun c174 => ?_)
    · refine ab_gets (i := 14) (by decide) s_RD_116 d_RD_part_176 ?_
      obtain ⟨w175, q175, mm175, hk175, hw175, hc175, hL175, hD175⟩ := ptbI_0.dot14
      refine ab_callV (d' := d - 1) (as := [vR 14]) (st := []) (r := _) (zs_RD_classPart (o := o) (d_ := d_) (w := 14) (lw := 14) (w2 := w175) (q2 := q175) (m2 := mm175) (ps := ps) (wt := wt) (bs := bs) (gr := grp) (ph := ph) hk175 ppaI_0 (by omega) (by omega) (by omega) (by omega) hc175 (by omega) (by omega) (by omega) (by omega)) (fun oc G2 h => by rcases h with ⟨_, _, _, _, _, h, _⟩ <;> exact ⟨_, h⟩) (by omega) m_RD_classPart ml_RD_102 im_RD_classPart se_RD_classPart c_RD hd_.2.2 (Nat.le_of_ble_eq_true rfl) d_RD_part_179 rfl ?_
      intro v G176 hq
      rcases hq with ⟨o177, p178, ps2179, wt2180, ph2181, hv, hfk, pNpaI_0, hq182, hq183, hq184, hq185, hq186, hq187, hq188, hq189, hq190, hq191, hq192⟩
      cases hv
      have hd_ := hfk.get hd_ (by decide)
      have hx := hfk.get hx (by decide)
      have hna := hfk.get hna (by decide)
      have hnl := hfk.get hnl (by decide)
      have hby_ := hfk.get hby_ (by decide)
      have h15 := hfk.get h15 (by decide)
      have h16 := hfk.get h16 (by decide)
      have hk175 := hfk.get hk175 (by decide)
      have popI_0 := popI_0.fz (o2 := o177) hq185 (by simp)
      have pcsI_se := csI.fr hfk pcsI_se (by decide) (by decide)
      have ptbI_0 := tbI.fr hfk ptbI_0  (by decide)
      have pszJ_0 := pszJ_0.fzk (o2 := o177) hq185
      have pdnJ_0 := pdnJ_0.fzk (o2 := o177) hq185
      have ppaI_0 := pNpaI_0
      have hfr := hfr.tr hfk (by decide)
      have hq193 := hfk.1
      change ab_W _ _ _ G176 182 [some (vR d_), some (vz pl), none] [vR p178] _
      have popI_0 : opI o177 G176 0 ps2179 k hi inn := opn_ps _ _ _ popI_0 (psx.lt hq182 (by omega))
      have pszJ_0 := (pszJ_0.leaf hq189 (s := (fi G176 p178 8)) ceq.rf (by have t := hq189.2.2.2.2.1.2.1; omega)).up (hi2 := p178) (by omega)
      have pdnJ_0 := (pdnJ_0.leaf hq189 hq190 hq192).up (hi2 := p178) (by omega)
      have popI_0 := opn_up (hi2 := p178) popI_0 (by omega)
      have popI_0 : opI o177 G176 0 ps2179 k p178 inn := popI_0
      refine ab_aret (rt := _) rfl (Or.inl ⟨_, rfl⟩) (Or.inr ⟨_, rfl⟩) d_RD_part_182 ?_
      rw [hQ]; exact (Or.inr (Or.inr ⟨_, _, _, _, _, _, _, _, _, _, _, _, _, _, _, _, _, _, _, _, _, _, _, (pl + 1), fr, FS, (fi G176 p178 8), (mnS (fun x => cs_mem q175 mm175 x)), rfl, hfr, hd_, hx, hna, hnl, ppaI_0, popI_0, pcsI_se, pszJ_0, pdnJ_0, (by omega), (by omega), (by omega), (by exact hnm), (by omega), (by exact hq182.lt (by omega)), (by omega), (by omega), (by omega), (by omega), (by omega), (by omega), (by omega), (by omega), (by exact hq183), (by first | exact hkf | (simp only [List.length_cons]; omega) | omega), (by first | exact hks | (simp only [List.length_cons]; omega) | omega), (by omega), (by omega), (by exact Or.inl ⟨Or.inr (Or.inr (Or.inr (Or.inl ⟨by omega, by omega, by omega⟩))), rfl, rfl⟩), (by exact Or.inl ⟨Or.inr (Or.inr (Or.inr (Or.inl ⟨by omega, by omega, mnS_cg (by rw [show flg / 4 % 2 = 0 by omega]; exact hD175)⟩))), rfl⟩), (by exact ⟨rfl, rfl, rfl⟩), (by omega)⟩))
    · refine ab_gets (i := 13) (by decide) s_RD_113 d_RD_part_170 ?_
      refine ab_goto (tgt := 179) d_RD_part_173 (by decide) ?_
      obtain ⟨w194, q194, mm194, hk194, hw194, hc194, hL194, hD194⟩ := ptbI_0.dot13
      refine ab_callV (d' := d - 1) (as := [vR 13]) (st := []) (r := _) (zs_RD_classPart (o := o) (d_ := d_) (w := 13) (lw := 13) (w2 := w194) (q2 := q194) (m2 := mm194) (ps := ps) (wt := wt) (bs := bs) (gr := grp) (ph := ph) hk194 ppaI_0 (by omega) (by omega) (by omega) (by omega) hc194 (by omega) (by omega) (by omega) (by omega)) (fun oc G2 h => by rcases h with ⟨_, _, _, _, _, h, _⟩ <;> exact ⟨_, h⟩) (by omega) m_RD_classPart ml_RD_102 im_RD_classPart se_RD_classPart c_RD hd_.2.2 (Nat.le_of_ble_eq_true rfl) d_RD_part_179 rfl ?_
      intro v G195 hq
      rcases hq with ⟨o196, p197, ps2198, wt2199, ph2200, hv, hfk, pNpaI_0, hq201, hq202, hq203, hq204, hq205, hq206, hq207, hq208, hq209, hq210, hq211⟩
      cases hv
      have hd_ := hfk.get hd_ (by decide)
      have hx := hfk.get hx (by decide)
      have hna := hfk.get hna (by decide)
      have hnl := hfk.get hnl (by decide)
      have hby_ := hfk.get hby_ (by decide)
      have h15 := hfk.get h15 (by decide)
      have h16 := hfk.get h16 (by decide)
      have hk194 := hfk.get hk194 (by decide)
      have popI_0 := popI_0.fz (o2 := o196) hq204 (by simp)
      have pcsI_se := csI.fr hfk pcsI_se (by decide) (by decide)
      have ptbI_0 := tbI.fr hfk ptbI_0  (by decide)
      have pszJ_0 := pszJ_0.fzk (o2 := o196) hq204
      have pdnJ_0 := pdnJ_0.fzk (o2 := o196) hq204
      have ppaI_0 := pNpaI_0
      have hfr := hfr.tr hfk (by decide)
      have hq212 := hfk.1
      change ab_W _ _ _ G195 182 [some (vR d_), some (vz pl), none] [vR p197] _
      have popI_0 : opI o196 G195 0 ps2198 k hi inn := opn_ps _ _ _ popI_0 (psx.lt hq201 (by omega))
      have pszJ_0 := (pszJ_0.leaf hq208 (s := (fi G195 p197 8)) ceq.rf (by have t := hq208.2.2.2.2.1.2.1; omega)).up (hi2 := p197) (by omega)
      have pdnJ_0 := (pdnJ_0.leaf hq208 hq209 hq211).up (hi2 := p197) (by omega)
      have popI_0 := opn_up (hi2 := p197) popI_0 (by omega)
      have popI_0 : opI o196 G195 0 ps2198 k p197 inn := popI_0
      refine ab_aret (rt := _) rfl (Or.inl ⟨_, rfl⟩) (Or.inr ⟨_, rfl⟩) d_RD_part_182 ?_
      rw [hQ]; exact (Or.inr (Or.inr ⟨_, _, _, _, _, _, _, _, _, _, _, _, _, _, _, _, _, _, _, _, _, _, _, (pl + 1), fr, FS, (fi G195 p197 8), (mnS (fun x => cs_mem q194 mm194 x)), rfl, hfr, hd_, hx, hna, hnl, ppaI_0, popI_0, pcsI_se, pszJ_0, pdnJ_0, (by omega), (by omega), (by omega), (by exact hnm), (by omega), (by exact hq201.lt (by omega)), (by omega), (by omega), (by omega), (by omega), (by omega), (by omega), (by omega), (by omega), (by exact hq202), (by first | exact hkf | (simp only [List.length_cons]; omega) | omega), (by first | exact hks | (simp only [List.length_cons]; omega) | omega), (by omega), (by omega), (by exact Or.inl ⟨Or.inr (Or.inr (Or.inr (Or.inl ⟨by omega, by omega, by omega⟩))), rfl, rfl⟩), (by exact Or.inl ⟨Or.inr (Or.inr (Or.inr (Or.inl ⟨by omega, by omega, mnS_cg (by rw [show flg / 4 % 2 = 1 by omega]; exact hD194)⟩))), rfl⟩), (by exact ⟨rfl, rfl, rfl⟩), (by omega)⟩))
  replace c166 : nzq v2 46 := c166
  by_cases c213 : v2 = 91
  · refine zz_lookup (off := 103) (tgt := 119) d_RD_part_16 (by decide) (by omega) (by rw [c213]; decide) (by decide) ?_
    refine ab_aload_n d_RD_part_119 rfl ?_
    refine ab_aload_n d_RD_part_120 rfl ?_
    refine ab_getf (fs := [vR x, inn, vz dp, vz flg, vz grp, vR na, vR nl, vz lst, vz mst, vz bh]) f_RD_12 d_RD_part_121 hd_.2.2 rfl ?_
    refine ab_aload_n d_RD_part_124 rfl ?_
    refine zz_iconst d_RD_part_125 ?_
    refine ab_callV (d' := d - 1) (as := [vz 1]) (st := [vR x, vR d_]) (r := _) (z1_RD_isOn (o := o) (d_ := d_) (inn := inn) (dp := dp) (flg := flg) (grp := grp) (na := na) (nl := nl) (lst := lst) (mst := mst) (bh := bh) (x := x) hd_ (by omega)) (fun oc G2 h => by rcases h with ⟨_, h, _⟩ <;> exact ⟨_, h⟩) (by omega) m_RD_isOn ml_RD_94 im_RD_isOn se_RD_isOn c_RD hd_.2.2 (Nat.le_of_ble_eq_true rfl) d_RD_part_126 rfl ?_
    intro v G214 hq
    rcases hq with ⟨v215, hv, hGe, hq216, hq217⟩
    cases hv
    rw [hGe]
    change ab_W _ _ _ G 129 [some (vR d_), some (vz pl), none] [vz v215, vR x, vR d_] _
    refine ab_callV (d' := d - 1) (as := [vz v215]) (st := [vR d_]) (r := _) (z_TX_charClass (o := o) (x := x) (se := se) (by_ := by_) (m := m) (f := f) (n := n) (pl := pl) (fa := fa) (fp := fp) (kd := kd) (kn := kn) (nb := nb) (cnt := cnt) (P := P) (al := v215) hx hby_ h15 h16 pcsI_se ptbI_0 (by omega) hb (by omega) (by omega) (by omega) (by omega) (by omega) (by omega) (by omega) (by omega) (by omega)) (fun oc G2 h => by rcases h with ⟨_, _, _, _, _, _, _, _, _, h, _⟩ | ⟨_, _, _, _, _, _, _, _, _, _, _, _, _, h, _⟩ <;> exact ⟨_, h⟩) (by omega) m_TX_charClass ml_RD_98 im_TX_charClass se_TX_charClass c_TX hx.2.2 (Nat.le_of_ble_eq_true rfl) d_RD_part_129 rfl ?_
    intro v G218 hq
    rcases hq with ⟨o219, p2220, fa2221, fp2222, kd2223, kn2224, nb2225, c2226, P2227, hv, hfk, hNx, hNby_, pNcsI_se, hq228, hq229, hq230, hq231, hq232, hq233, hq234, hq235⟩ | ⟨o236, w237, p2238, fa2239, fp2240, kd2241, kn2242, nb2243, c2244, P2245, q2246, m2247, w2248, hv, hfk, hNx, hNby_, hNw237, pNcsI_se, hq249, hq250, hq251, hq252, hq253, hq254, hq255, hq256, hq257, hq258, hq259⟩
    · cases hv
      have hd_ := hfk.get hd_ (by decide)
      have hna := hfk.get hna (by decide)
      have hnl := hfk.get hnl (by decide)
      have h15 := hfk.get h15 (by decide)
      have h16 := hfk.get h16 (by decide)
      have popI_0 := opI.fr hfk ppaI_0 popI_0 (by decide) (by decide)
      have ptbI_0 := tbI.fr hfk ptbI_0  (by decide)
      have pszJ_0 := szJ.fr hfk ppaI_0 pszJ_0 (by decide) (by decide)
      have pdnJ_0 := dnJ.fr hfk ppaI_0 pdnJ_0 (by decide) (by decide)
      have ppaI_0 := paI.fr hfk ppaI_0 (by decide) (by decide) (by decide) (by decide)
      have pcsI_se := pNcsI_se
      have hfr := hfr.tr hfk (by decide)
      have hq260 := hfk.1
      have hx := hNx
      have hby_ := hNby_
      change ab_W _ _ _ G218 132 [some (vR d_), some (vz pl), none] [vN, vR d_] _
      refine ab_callV (d' := d - 1) (as := [vN]) (st := []) (r := _) (zN_RD_classPart (o := o219) (d_ := d_) ) (fun oc G2 h => by rcases h with ⟨h, _⟩ <;> exact ⟨_, h⟩) (by omega) m_RD_classPart ml_RD_102 im_RD_classPart se_RD_classPart c_RD hd_.2.2 (Nat.le_of_ble_eq_true rfl) d_RD_part_132 rfl ?_
      intro v G262 hq
      rcases hq with ⟨hv, hGe⟩
      cases hv
      rw [hGe]
      change ab_W _ _ _ G218 135 [some (vR d_), some (vz pl), none] [vN] _
      refine ab_aret (rt := _) rfl (Or.inl ⟨_, rfl⟩) (Or.inl rfl) d_RD_part_135 ?_
      rw [hQ]; exact (Or.inl ⟨_, _, _, _, _, _, _, _, _, _, _, _, _, _, _, _, _, _, _, _, _, _, _, pl, fr, FS, rfl, hfr, hd_, hx, hna, hnl, ppaI_0, popI_0, pcsI_se, pszJ_0, pdnJ_0, (by omega), (by omega), (by omega), (by exact hnm), (by omega), (by exact psx.rf), (by omega), (by omega), (by omega), (by omega), (by omega), (by omega), (by omega), (by omega), (by first | exact hkf | (simp only [List.length_cons]; omega) | omega), (by first | exact hks | (simp only [List.length_cons]; omega) | omega), (by omega), (by exact Or.inl (Or.inl (Or.inr (Or.inl ⟨by omega, by rw [show flg % 2 = v215 by omega]; exact hq229⟩))))⟩)
    · cases hv
      have hd_ := hfk.get hd_ (by decide)
      have hna := hfk.get hna (by decide)
      have hnl := hfk.get hnl (by decide)
      have h15 := hfk.get h15 (by decide)
      have h16 := hfk.get h16 (by decide)
      have popI_0 := opI.fr hfk ppaI_0 popI_0 (by decide) (by decide)
      have ptbI_0 := tbI.fr hfk ptbI_0  (by decide)
      have pszJ_0 := szJ.fr hfk ppaI_0 pszJ_0 (by decide) (by decide)
      have pdnJ_0 := dnJ.fr hfk ppaI_0 pdnJ_0 (by decide) (by decide)
      have ppaI_0 := paI.fr hfk ppaI_0 (by decide) (by decide) (by decide) (by decide)
      have pcsI_se := pNcsI_se
      have hfr := hfr.tr hfk (by decide)
      have hq261 := hfk.1
      have hx := hNx
      have hby_ := hNby_
      have hw237 := hNw237
      change ab_W _ _ _ G218 132 [some (vR d_), some (vz pl), none] [vR w237, vR d_] _
      refine ab_callV (d' := d - 1) (as := [vR w237]) (st := []) (r := _) (z93_RD_classPart (o := o236) (d_ := d_) (w := w237) (w2 := w2248) (q2 := q2246) (m2 := m2247) (ps := ps) (wt := wt) (bs := bs) (gr := grp) (ph := ph) hw237 ppaI_0 (by omega) (by omega) hq256 (by omega) (by omega) (by omega) (by omega)) (fun oc G2 h => by rcases h with ⟨_, _, _, _, _, h, _⟩ <;> exact ⟨_, h⟩) (by omega) m_RD_classPart ml_RD_102 im_RD_classPart se_RD_classPart c_RD hd_.2.2 (Nat.le_of_ble_eq_true rfl) d_RD_part_132 rfl ?_
      intro v G263 hq
      rcases hq with ⟨o264, p265, ps2266, wt2267, ph2268, hv, hfk, pNpaI_0, hq269, hq270, hq271, hq272, hq273, hq274, hq275, hq276, hq277, hq278, hq279⟩
      cases hv
      have hd_ := hfk.get hd_ (by decide)
      have hx := hfk.get hx (by decide)
      have hna := hfk.get hna (by decide)
      have hnl := hfk.get hnl (by decide)
      have hby_ := hfk.get hby_ (by decide)
      have h15 := hfk.get h15 (by decide)
      have h16 := hfk.get h16 (by decide)
      have hw237 := hfk.get hw237 (by decide)
      have popI_0 := popI_0.fz (o2 := o264) hq272 (by simp)
      have pcsI_se := csI.fr hfk pcsI_se (by decide) (by decide)
      have ptbI_0 := tbI.fr hfk ptbI_0  (by decide)
      have pszJ_0 := pszJ_0.fzk (o2 := o264) hq272
      have pdnJ_0 := pdnJ_0.fzk (o2 := o264) hq272
      have ppaI_0 := pNpaI_0
      have hfr := hfr.tr hfk (by decide)
      have hq280 := hfk.1
      change ab_W _ _ _ G263 135 [some (vR d_), some (vz pl), none] [vR p265] _
      have popI_0 : opI o264 G263 0 ps2266 k hi inn := opn_ps _ _ _ popI_0 (psx.lt hq269 (by omega))
      have pszJ_0 := (pszJ_0.leaf hq276 (s := (fi G263 p265 8)) ceq.rf (by have t := hq276.2.2.2.2.1.2.1; omega)).up (hi2 := p265) (by omega)
      have pdnJ_0 := (pdnJ_0.leaf hq276 hq277 hq279).up (hi2 := p265) (by omega)
      have popI_0 := opn_up (hi2 := p265) popI_0 (by omega)
      have popI_0 : opI o264 G263 0 ps2266 k p265 inn := popI_0
      refine ab_aret (rt := _) rfl (Or.inl ⟨_, rfl⟩) (Or.inr ⟨_, rfl⟩) d_RD_part_135 ?_
      rw [hQ]; exact (Or.inr (Or.inr ⟨_, _, _, _, _, _, _, _, _, _, _, _, _, _, _, _, _, _, _, _, _, _, _, p2238, fr, FS, (fi G263 p265 8), (mnS (fun x => cs_mem q2246 m2247 x)), rfl, hfr, hd_, hx, hna, hnl, ppaI_0, popI_0, pcsI_se, pszJ_0, pdnJ_0, (by omega), (by omega), (by omega), (by exact hnm), (by omega), (by exact hq269.lt (by omega)), (by omega), (by omega), (by omega), (by omega), (by omega), (by omega), (by omega), (by omega), (by exact hq270), (by first | exact hkf | (simp only [List.length_cons]; omega) | omega), (by first | exact hks | (simp only [List.length_cons]; omega) | omega), (by omega), (by omega), (by obtain ⟨no9, fi9, P9, y1, y2, y3, y4⟩ := hq249; exact Or.inl ⟨Or.inr (Or.inr (Or.inl ⟨by omega, no9, fi9, P9, y1, by rw [show flg % 2 = v215 by omega]; exact y2, y3, _, _, ⟨hq256, by omega⟩, y4, by omega⟩)), rfl, rfl⟩), (by obtain ⟨no9, fi9, P9, y1, y2, y3, y4⟩ := hq249; exact Or.inl ⟨Or.inr (Or.inr (Or.inl ⟨by omega, no9, fi9, P9, y1, by rw [show flg % 2 = v215 by omega]; exact y2, y3, mnS_cg y4⟩)), rfl⟩), (by exact ⟨rfl, rfl, rfl⟩), (by omega)⟩))
  replace c213 : nzq v2 91 := c213
  by_cases c281 : v2 = 92
  · refine zz_lookup (off := 76) (tgt := 92) d_RD_part_16 (by decide) (by omega) (by rw [c281]; decide) (by decide) ?_
    refine ab_aload_n d_RD_part_92 rfl ?_
    refine ab_getf (fs := [vR x, inn, vz dp, vz flg, vz grp, vR na, vR nl, vz lst, vz mst, vz bh]) f_RD_12 d_RD_part_93 hd_.2.2 rfl ?_
    refine ab_callV (d' := d - 1) (as := []) (st := []) (r := _) (z_TX_escape (o := o) (x := x) (lx := 24) (se := se) (by_ := by_) (lby := 23) (m := m) (f := f) (n := n) (pl := pl) (fa := fa) (fp := fp) (kd := kd) (kn := kn) hx hby_ (by omega) hb (by omega) (by omega) (by omega) (by omega)) (fun oc G2 h => by rcases h with ⟨_, _, h, _⟩ | ⟨_, _, _, h, _⟩ | ⟨_, _, h, _⟩ <;> exact ⟨_, h⟩) (by omega) m_TX_escape ml_RD_83 im_TX_escape se_TX_escape c_TX hx.2.2 (Nat.le_of_ble_eq_true rfl) d_RD_part_96 rfl ?_
    intro v G282 hq
    rcases hq with ⟨v283, p2284, hv, hfk, hlk, hsk, hNx, hNby_, hq285, hq286, hq287⟩ | ⟨p2288, k2289, b2290, hv, hfk, hlk, hsk, hNx, hNby_, hq291, hq292, hq293, hq294⟩ | ⟨p2295, w296, hv, hfk, hlk, hsk, hNx, hNby_, hq297, hq298, hq299⟩
    · cases hv
      have hd_ := hfk.get hd_ (by decide)
      have hna := hfk.get hna (by decide)
      have hnl := hfk.get hnl (by decide)
      have h15 := hfk.get h15 (by decide)
      have h16 := hfk.get h16 (by decide)
      have popI_0 := opI.fr hfk ppaI_0 popI_0 (by decide) (by decide)
      have pcsI_se := csI.fr hfk pcsI_se (by decide) (by decide)
      have ptbI_0 := tbI.fr hfk ptbI_0  (by decide)
      have pszJ_0 := szJ.fr hfk ppaI_0 pszJ_0 (by decide) (by decide)
      have pdnJ_0 := dnJ.fr hfk ppaI_0 pdnJ_0 (by decide) (by decide)
      have ppaI_0 := paI.fr hfk ppaI_0 (by decide) (by decide) (by decide) (by decide)
      have hfr := hfr.tr hfk (by decide)
      have hq300 := hlk
      have hq301 := hsk
      have hx := hNx
      have hby_ := hNby_
      change ab_W _ _ _ G282 99 [some (vR d_), some (vz pl), none] [vz v283] _
      refine ab_istore_n d_RD_part_99 (Nat.le_of_ble_eq_true rfl) (Nat.le_of_ble_eq_true rfl) rfl ?_
      change ab_W _ _ _ G282 100 [some (vR d_), some (vz pl), some (vz v283)] [] _
      have hew := esc1_w hq287
      have hgp := esc1_gap hq287
      refine ab_iload_n d_RD_part_100 rfl ?_
      refine zz_iconst d_RD_part_101 ?_
      refine zz_icmp_lt (tgt := 113) d_RD_part_102 (by decide) (by omega) (by decide) (fun c306 => ?_) (fun c306 => ?_)
      · refine ab_aload_n d_RD_part_113 rfl ?_
        refine ab_iload_n d_RD_part_114 rfl ?_
        by_cases hv307 : v283 = -3
        · subst hv307
          change ab_W _ _ _ G282 115 [some (vR d_), some (vz pl), some (vz (-3))] [vz (-3), vR d_] _
          refine ab_callV (d' := d - 1) (as := [vz (-3)]) (st := []) (r := _) (z3_RD_escaped (o := o) (d_ := d_) (ps := ps) (wt := wt) (bs := bs) (gr := grp) (ph := ph) ppaI_0 (by omega) (by omega) (by omega) (by omega) (by omega)) (fun oc G2 h => by rcases h with ⟨_, _, _, _, _, h, _⟩ <;> exact ⟨_, h⟩) (by omega) m_RD_escaped ml_RD_91 im_RD_escaped se_RD_escaped c_RD hd_.2.2 (Nat.le_of_ble_eq_true rfl) d_RD_part_115 rfl ?_
          intro v G308 hq
          rcases hq with ⟨o309, p310, ps2311, wt2312, ph2313, hv, hfk, pNpaI_0, hq314, hq315, hq316, hq317, hq318, hq319, hq320, hq321, hq322, hq323, hq324⟩
          cases hv
          have hd_ := hfk.get hd_ (by decide)
          have hx := hfk.get hx (by decide)
          have hna := hfk.get hna (by decide)
          have hnl := hfk.get hnl (by decide)
          have hby_ := hfk.get hby_ (by decide)
          have h15 := hfk.get h15 (by decide)
          have h16 := hfk.get h16 (by decide)
          have popI_0 := popI_0.fz (o2 := o309) hq317 (by simp)
          have pcsI_se := csI.fr hfk pcsI_se (by decide) (by decide)
          have ptbI_0 := tbI.fr hfk ptbI_0  (by decide)
          have pszJ_0 := pszJ_0.fzk (o2 := o309) hq317
          have pdnJ_0 := pdnJ_0.fzk (o2 := o309) hq317
          have ppaI_0 := pNpaI_0
          have hfr := hfr.tr hfk (by decide)
          have hq325 := hfk.1
          change ab_W _ _ _ G308 118 [some (vR d_), some (vz pl), some (vz (-3))] [vR p310] _
          have popI_0 : opI o309 G308 0 ps2311 k hi inn := opn_ps _ _ _ popI_0 (psx.lt hq314 (by omega))
          have pszJ_0 := (pszJ_0.leaf hq321 (s := (fi G308 p310 8)) ceq.rf (by have t := hq321.2.2.2.2.1.2.1; omega)).up (hi2 := p310) (by omega)
          have pdnJ_0 := (pdnJ_0.leaf hq321 hq322 hq324).up (hi2 := p310) (by omega)
          have popI_0 := opn_up (hi2 := p310) popI_0 (by omega)
          have popI_0 : opI o309 G308 0 ps2311 k p310 inn := popI_0
          refine ab_aret (rt := _) rfl (Or.inl ⟨_, rfl⟩) (Or.inr ⟨_, rfl⟩) d_RD_part_118 ?_
          rw [hQ]; exact (Or.inr (Or.inr ⟨_, _, _, _, _, _, _, _, _, _, _, _, _, _, _, _, _, _, _, _, _, _, _, p2284, fr, FS, (fi G308 p310 8), mnA, rfl, hfr, hd_, hx, hna, hnl, ppaI_0, popI_0, pcsI_se, pszJ_0, pdnJ_0, (by omega), (by omega), (by omega), (by exact hnm), (by omega), (by exact hq314.lt (by omega)), (by omega), (by omega), (by omega), (by omega), (by omega), (by omega), (by omega), (by omega), (by exact hq315), (by first | exact hkf | (simp only [List.length_cons]; omega) | omega), (by first | exact hks | (simp only [List.length_cons]; omega) | omega), (by omega), (by omega), (by exact Or.inl ⟨Or.inl ⟨by omega, _, hq287, Or.inr ⟨by omega, hq323⟩⟩, rfl, rfl⟩), (by exact Or.inl ⟨Or.inl ⟨by omega, _, hq287, Or.inr (Or.inl ⟨by omega, rfl⟩)⟩, rfl⟩), (by exact ⟨rfl, rfl, rfl⟩), (by omega)⟩))
        · have hv4 : v283 ≤ -4 := by omega
          refine ab_callV (d' := d - 1) (as := [vz v283]) (st := []) (r := _) (z4_RD_escaped (o := o) (d_ := d_) (ps := ps) (wt := wt) (bs := bs) (gr := grp) (ph := ph) (c := v283) ppaI_0 (by omega) (by omega) (by omega) (by omega) (by omega) (by omega)) (fun oc G2 h => by rcases h with ⟨_, _, _, _, _, h, _⟩ <;> exact ⟨_, h⟩) (by omega) m_RD_escaped ml_RD_91 im_RD_escaped se_RD_escaped c_RD hd_.2.2 (Nat.le_of_ble_eq_true rfl) d_RD_part_115 rfl ?_
          intro v G326 hq
          rcases hq with ⟨o327, p328, ps2329, wt2330, ph2331, hv, hfk, pNpaI_0, hq332, hq333, hq334, hq335, hq336, hq337, hq338, hq339, hq340, hq341, hq342⟩
          cases hv
          have hd_ := hfk.get hd_ (by decide)
          have hx := hfk.get hx (by decide)
          have hna := hfk.get hna (by decide)
          have hnl := hfk.get hnl (by decide)
          have hby_ := hfk.get hby_ (by decide)
          have h15 := hfk.get h15 (by decide)
          have h16 := hfk.get h16 (by decide)
          have popI_0 := popI_0.fz (o2 := o327) hq335 (by simp)
          have pcsI_se := csI.fr hfk pcsI_se (by decide) (by decide)
          have ptbI_0 := tbI.fr hfk ptbI_0  (by decide)
          have pszJ_0 := pszJ_0.fzk (o2 := o327) hq335
          have pdnJ_0 := pdnJ_0.fzk (o2 := o327) hq335
          have ppaI_0 := pNpaI_0
          have hfr := hfr.tr hfk (by decide)
          have hq343 := hfk.1
          change ab_W _ _ _ G326 118 [some (vR d_), some (vz pl), some (vz v283)] [vR p328] _
          have popI_0 : opI o327 G326 0 ps2329 k hi inn := opn_ps _ _ _ popI_0 (psx.lt hq332 (by omega))
          have pszJ_0 := (pszJ_0.leaf hq339 (s := (fi G326 p328 8)) ceq.rf (by have t := hq339.2.2.2.2.1.2.1; omega)).up (hi2 := p328) (by omega)
          have pdnJ_0 := (pdnJ_0.leaf hq339 hq340 hq342).up (hi2 := p328) (by omega)
          have popI_0 := opn_up (hi2 := p328) popI_0 (by omega)
          have popI_0 : opI o327 G326 0 ps2329 k p328 inn := popI_0
          refine ab_aret (rt := _) rfl (Or.inl ⟨_, rfl⟩) (Or.inr ⟨_, rfl⟩) d_RD_part_118 ?_
          rw [hQ]; exact (Or.inr (Or.inr ⟨_, _, _, _, _, _, _, _, _, _, _, _, _, _, _, _, _, _, _, _, _, _, _, p2284, fr, FS, (fi G326 p328 8), (mnQ (-4 - v283)), rfl, hfr, hd_, hx, hna, hnl, ppaI_0, popI_0, pcsI_se, pszJ_0, pdnJ_0, (by omega), (by omega), (by omega), (by exact hnm), (by omega), (by exact hq332.lt (by omega)), (by omega), (by omega), (by omega), (by omega), (by omega), (by omega), (by omega), (by omega), (by exact hq333), (by first | exact hkf | (simp only [List.length_cons]; omega) | omega), (by first | exact hks | (simp only [List.length_cons]; omega) | omega), (by omega), (by omega), (by exact Or.inl ⟨Or.inl ⟨by omega, _, hq287, Or.inr ⟨by omega, hq341⟩⟩, rfl, rfl⟩), (by exact Or.inl ⟨Or.inl ⟨by omega, _, hq287, Or.inr (Or.inr ⟨by omega, rfl⟩)⟩, rfl⟩), (by exact ⟨rfl, rfl, rfl⟩), (by omega)⟩))
      · refine ab_aload_n d_RD_part_105 rfl ?_
        refine ab_iload_n d_RD_part_106 rfl ?_
        refine ab_callV (d' := d - 1) (as := [vz v283]) (st := []) (r := _) (z_RD_literal (o := o) (d_ := d_) (inn := inn) (dp := dp) (flg := flg) (grp := grp) (na := na) (nl := nl) (lst := lst) (mst := mst) (bh := bh) (x := x) (se := se) (by_ := by_) (n := n) (pl := p2284) (fa := fa) (fp := fp) (kd := kd) (kn := kn) (nb := nb) (cnt := cnt) (P := P) (ps := ps) (wt := wt) (bs := bs) (gr := grp) (ph := ph) (c := v283) hd_ hx h15 h16 ppaI_0 pcsI_se (by omega) (by omega) (by omega) hgp (by omega) (by omega) (by omega) (by omega) (by omega)) (fun oc G2 h => by rcases h with ⟨_, _, _, _, _, _, _, _, h, _⟩ <;> exact ⟨_, h⟩) (by omega) m_RD_literal ml_RD_87 im_RD_literal se_RD_literal c_RD hd_.2.2 (Nat.le_of_ble_eq_true rfl) d_RD_part_107 rfl ?_
        intro v G344 hq
        rcases hq with ⟨o345, p346, ps2347, wt2348, ph2349, nb2350, c2351, P2352, hv, hfk, pNpaI_0, pNcsI_se, hq353, hq354, hq355, hq356, hq357, hq358, hq359, hq360, hq361, hq362, hq363, hq364⟩
        cases hv
        have hd_ := hfk.get hd_ (by decide)
        have hx := hfk.get hx (by decide)
        have hna := hfk.get hna (by decide)
        have hnl := hfk.get hnl (by decide)
        have hby_ := hfk.get hby_ (by decide)
        have h15 := hfk.get h15 (by decide)
        have h16 := hfk.get h16 (by decide)
        have popI_0 := popI_0.fz (o2 := o345) hq356 (by simp)
        have ptbI_0 := tbI.fr hfk ptbI_0  (by decide)
        have pszJ_0 := pszJ_0.fzk (o2 := o345) hq356
        have pdnJ_0 := pdnJ_0.fzk (o2 := o345) hq356
        have ppaI_0 := pNpaI_0
        have pcsI_se := pNcsI_se
        have hfr := hfr.tr hfk (by decide)
        have hq365 := hfk.1
        change ab_W _ _ _ G344 110 [some (vR d_), some (vz pl), some (vz v283)] [vR p346] _
        refine ab_goto (tgt := 118) d_RD_part_110 (by decide) ?_
        have popI_0 : opI o345 G344 0 ps2347 k hi inn := opn_ps _ _ _ popI_0 (psx.lt hq353 (by omega))
        have pszJ_0 := (pszJ_0.leaf hq361 (s := (fi G344 p346 8)) ceq.rf (by have t := hq361.2.2.2.2.1.2.1; omega)).up (hi2 := p346) (by omega)
        have pdnJ_0 := (pdnJ_0.leaf hq361 hq362 hq364).up (hi2 := p346) (by omega)
        have popI_0 := opn_up (hi2 := p346) popI_0 (by omega)
        have popI_0 : opI o345 G344 0 ps2347 k p346 inn := popI_0
        refine ab_aret (rt := _) rfl (Or.inl ⟨_, rfl⟩) (Or.inr ⟨_, rfl⟩) d_RD_part_118 ?_
        rw [hQ]; exact (Or.inr (Or.inr ⟨_, _, _, _, _, _, _, _, _, _, _, _, _, _, _, _, _, _, _, _, _, _, _, p2284, fr, FS, (fi G344 p346 8), (mnS (chS (flg % 2) v283)), rfl, hfr, hd_, hx, hna, hnl, ppaI_0, popI_0, pcsI_se, pszJ_0, pdnJ_0, (by omega), (by omega), (by omega), (by exact hnm), (by omega), (by exact hq353.lt (by omega)), (by omega), (by omega), (by omega), (by omega), (by omega), (by omega), (by omega), (by omega), (by exact hq354), (by first | exact hkf | (simp only [List.length_cons]; omega) | omega), (by first | exact hks | (simp only [List.length_cons]; omega) | omega), (by omega), (by omega), (by exact Or.inl ⟨Or.inl ⟨by omega, _, hq287, Or.inl ⟨by omega, hq363⟩⟩, rfl, rfl⟩), (by exact Or.inl ⟨Or.inl ⟨by omega, _, hq287, Or.inl ⟨by omega, rfl⟩⟩, rfl⟩), (by exact ⟨rfl, rfl, rfl⟩), (by omega)⟩))
    · cases hv
      have hd_ := hfk.get hd_ (by decide)
      have hna := hfk.get hna (by decide)
      have hnl := hfk.get hnl (by decide)
      have h15 := hfk.get h15 (by decide)
      have h16 := hfk.get h16 (by decide)
      have popI_0 := opI.fr hfk ppaI_0 popI_0 (by decide) (by decide)
      have pcsI_se := csI.fr hfk pcsI_se (by decide) (by decide)
      have ptbI_0 := tbI.fr hfk ptbI_0  (by decide)
      have pszJ_0 := szJ.fr hfk ppaI_0 pszJ_0 (by decide) (by decide)
      have pdnJ_0 := dnJ.fr hfk ppaI_0 pdnJ_0 (by decide) (by decide)
      have ppaI_0 := paI.fr hfk ppaI_0 (by decide) (by decide) (by decide) (by decide)
      have hfr := hfr.tr hfk (by decide)
      have hq302 := hlk
      have hq303 := hsk
      have hx := hNx
      have hby_ := hNby_
      change ab_W _ _ _ G282 99 [some (vR d_), some (vz pl), none] [vz (-2)] _
      refine ab_istore_n d_RD_part_99 (Nat.le_of_ble_eq_true rfl) (Nat.le_of_ble_eq_true rfl) rfl ?_
      change ab_W _ _ _ G282 100 [some (vR d_), some (vz pl), some (vz (-2))] [] _
      have hew := esc2_w hq294
      refine ab_iload_n d_RD_part_100 rfl ?_
      refine zz_iconst d_RD_part_101 ?_
      refine zz_icmp_lt (tgt := 113) d_RD_part_102 (by decide) (by decide) (by decide) (fun c366 => ?_) (fun c366 => absurd c366 (by decide))
      refine ab_aload_n d_RD_part_113 rfl ?_
      refine ab_iload_n d_RD_part_114 rfl ?_
      refine ab_callV (d' := d - 1) (as := [vz (-2)]) (st := []) (r := _) (z2_RD_escaped (o := o) (d_ := d_) (inn := inn) (dp := dp) (flg := flg) (grp := grp) (na := na) (nl := nl) (lst := lst) (mst := mst) (bh := bh) (x := x) (se := se) (by_ := by_) (n := n) (pl := p2288) (fa := fa) (fp := fp) (kd := k2289) (kn := b2290) (nb := nb) (cnt := cnt) (P := P) (ps := ps) (wt := wt) (bs := bs) (gr := grp) (ph := ph) hd_ hx ppaI_0 pcsI_se ptbI_0 (by omega) (by omega) (by omega) (by omega) (by omega) (by omega) (by omega)) (fun oc G2 h => by rcases h with ⟨_, _, _, _, _, _, _, _, h, _⟩ <;> exact ⟨_, h⟩) (by omega) m_RD_escaped ml_RD_91 im_RD_escaped se_RD_escaped c_RD hd_.2.2 (Nat.le_of_ble_eq_true rfl) d_RD_part_115 rfl ?_
      intro v G367 hq
      rcases hq with ⟨o368, p369, ps2370, wt2371, ph2372, nb2373, c2374, P2375, hv, hfk, pNpaI_0, pNcsI_se, hq376, hq377, hq378, hq379, hq380, hq381, hq382, hq383, hq384, hq385, hq386, hq387⟩
      cases hv
      have hd_ := hfk.get hd_ (by decide)
      have hx := hfk.get hx (by decide)
      have hna := hfk.get hna (by decide)
      have hnl := hfk.get hnl (by decide)
      have hby_ := hfk.get hby_ (by decide)
      have h15 := hfk.get h15 (by decide)
      have h16 := hfk.get h16 (by decide)
      have popI_0 := popI_0.fz (o2 := o368) hq379 (by simp)
      have ptbI_0 := tbI.fr hfk ptbI_0  (by decide)
      have pszJ_0 := pszJ_0.fzk (o2 := o368) hq379
      have pdnJ_0 := pdnJ_0.fzk (o2 := o368) hq379
      have ppaI_0 := pNpaI_0
      have pcsI_se := pNcsI_se
      have hfr := hfr.tr hfk (by decide)
      have hq388 := hfk.1
      change ab_W _ _ _ G367 118 [some (vR d_), some (vz pl), some (vz (-2))] [vR p369] _
      have popI_0 : opI o368 G367 0 ps2370 k hi inn := opn_ps _ _ _ popI_0 (psx.lt hq376 (by omega))
      have pszJ_0 := (pszJ_0.leaf hq384 (s := (fi G367 p369 8)) ceq.rf (by have t := hq384.2.2.2.2.1.2.1; omega)).up (hi2 := p369) (by omega)
      have pdnJ_0 := (pdnJ_0.leaf hq384 hq385 hq387).up (hi2 := p369) (by omega)
      have popI_0 := opn_up (hi2 := p369) popI_0 (by omega)
      have popI_0 : opI o368 G367 0 ps2370 k p369 inn := popI_0
      refine ab_aret (rt := _) rfl (Or.inl ⟨_, rfl⟩) (Or.inr ⟨_, rfl⟩) d_RD_part_118 ?_
      rw [hQ]; exact (Or.inr (Or.inr ⟨_, _, _, _, _, _, _, _, _, _, _, _, _, _, _, _, _, _, _, _, _, _, _, p2288, fr, FS, (fi G367 p369 8), (mnS (kdS k2289 b2290)), rfl, hfr, hd_, hx, hna, hnl, ppaI_0, popI_0, pcsI_se, pszJ_0, pdnJ_0, (by omega), (by omega), (by omega), (by exact hnm), (by omega), (by exact hq376.lt (by omega)), (by omega), (by omega), (by omega), (by omega), (by omega), (by omega), (by omega), (by omega), (by exact hq377), (by first | exact hkf | (simp only [List.length_cons]; omega) | omega), (by first | exact hks | (simp only [List.length_cons]; omega) | omega), (by omega), (by omega), (by exact Or.inl ⟨Or.inr (Or.inl ⟨by omega, _, _, hq294, hq386⟩), rfl, rfl⟩), (by exact Or.inl ⟨Or.inr (Or.inl ⟨by omega, _, _, hq294, rfl⟩), rfl⟩), (by exact ⟨rfl, rfl, rfl⟩), (by omega)⟩))
    · cases hv
      have hd_ := hfk.get hd_ (by decide)
      have hna := hfk.get hna (by decide)
      have hnl := hfk.get hnl (by decide)
      have h15 := hfk.get h15 (by decide)
      have h16 := hfk.get h16 (by decide)
      have popI_0 := opI.fr hfk ppaI_0 popI_0 (by decide) (by decide)
      have pcsI_se := csI.fr hfk pcsI_se (by decide) (by decide)
      have ptbI_0 := tbI.fr hfk ptbI_0  (by decide)
      have pszJ_0 := szJ.fr hfk ppaI_0 pszJ_0 (by decide) (by decide)
      have pdnJ_0 := dnJ.fr hfk ppaI_0 pdnJ_0 (by decide) (by decide)
      have ppaI_0 := paI.fr hfk ppaI_0 (by decide) (by decide) (by decide) (by decide)
      have hfr := hfr.tr hfk (by decide)
      have hq304 := hlk
      have hq305 := hsk
      have hx := hNx
      have hby_ := hNby_
      change ab_W _ _ _ G282 99 [some (vR d_), some (vz pl), none] [vz (-1)] _
      refine ab_istore_n d_RD_part_99 (Nat.le_of_ble_eq_true rfl) (Nat.le_of_ble_eq_true rfl) rfl ?_
      change ab_W _ _ _ G282 100 [some (vR d_), some (vz pl), some (vz (-1))] [] _
      refine ab_iload_n d_RD_part_100 rfl ?_
      refine zz_iconst d_RD_part_101 ?_
      refine zz_icmp_lt (tgt := 113) d_RD_part_102 (by decide) (by decide) (by decide) (fun c389 => absurd c389 (by decide)) (fun c389 => ?_)
      refine ab_aload_n d_RD_part_105 rfl ?_
      refine ab_iload_n d_RD_part_106 rfl ?_
      refine ab_callV (d' := d - 1) (as := [vz (-1)]) (st := []) (r := _) (zN_RD_literal (o := o) (d_ := d_) ) (fun oc G2 h => by rcases h with ⟨h, _⟩ <;> exact ⟨_, h⟩) (by omega) m_RD_literal ml_RD_87 im_RD_literal se_RD_literal c_RD hd_.2.2 (Nat.le_of_ble_eq_true rfl) d_RD_part_107 rfl ?_
      intro v G390 hq
      rcases hq with ⟨hv, hGe⟩
      cases hv
      rw [hGe]
      change ab_W _ _ _ G282 110 [some (vR d_), some (vz pl), some (vz (-1))] [vN] _
      refine ab_goto (tgt := 118) d_RD_part_110 (by decide) ?_
      refine ab_aret (rt := _) rfl (Or.inl ⟨_, rfl⟩) (Or.inl rfl) d_RD_part_118 ?_
      rw [hQ]; exact (Or.inl ⟨_, _, _, _, _, _, _, _, _, _, _, _, _, _, _, _, _, _, _, _, _, _, _, pl, fr, FS, rfl, hfr, hd_, hx, hna, hnl, ppaI_0, popI_0, pcsI_se, pszJ_0, pdnJ_0, (by omega), (by omega), (by omega), (by exact hnm), (by omega), (by exact psx.rf), (by omega), (by omega), (by omega), (by omega), (by omega), (by omega), (by omega), (by omega), (by first | exact hkf | (simp only [List.length_cons]; omega) | omega), (by first | exact hks | (simp only [List.length_cons]; omega) | omega), (by omega), (by exact Or.inl (Or.inl (Or.inl ⟨by omega, hq299, by omega⟩)))⟩)
  replace c281 : nzq v2 92 := c281
  by_cases c391 : v2 = 94
  · refine zz_lookup (off := 167) (tgt := 183) d_RD_part_16 (by decide) (by omega) (by rw [c391]; decide) (by decide) ?_
    refine ab_aload_n d_RD_part_183 rfl ?_
    refine ab_getf (fs := [vR x, inn, vz dp, vz flg, vz grp, vR na, vR nl, vz lst, vz mst, vz bh]) f_RD_12 d_RD_part_184 hd_.2.2 rfl ?_
    refine ab_dup d_RD_part_187 rfl ?_
    refine ab_getf (fs := [vR se, vR by_, vz n, vz pl, vz fa, vz fp, vR kd, vz kn]) f_RD_55 d_RD_part_188 hx.2.2 rfl ?_
    refine zz_iconst d_RD_part_191 ?_
    refine zz_iadd d_RD_part_192 ?_
    refine ab_putf (fs := [vR se, vR by_, vz n, vz pl, vz fa, vz fp, vR kd, vz kn]) f_RD_55 (Or.inl rfl) d_RD_part_193 hx.2.2 (Nat.le_of_ble_eq_true rfl) (fun _ => ⟨rfl, rfl⟩) (hx.2.1 (by decide)) ?_
    obtain ⟨G392, eG392⟩ : ∃ z : ab_G, z = List.set G x (ab_ob 10 [vR se, vR by_, vz n, vz (pl + 1), vz fa, vz fp, vR kd, vz kn]) := ⟨_, rfl⟩
    have hd_ := hd_.keep hx eG392 (by decide)
    have hna := hna.keep hx eG392 (by decide)
    have hnl := hnl.keep hx eG392 (by decide)
    have hby_ := hby_.keep hx eG392 (by decide)
    have h15 := h15.keep hx eG392 (by decide)
    have h16 := h16.keep hx eG392 (by decide)
    have hst := (fx.rf (o := o) (S := [24]) (G := G)).wr hx eG392 (List.mem_singleton.mpr rfl)
    have popI_0 := opI.fr hst ppaI_0 popI_0 (by decide) (by decide)
    have pcsI_se := csI.fr hst pcsI_se (by decide) (by decide)
    have ptbI_0 := tbI.fr hst ptbI_0  (by decide)
    have pszJ_0 := szJ.fr hst ppaI_0 pszJ_0 (by decide) (by decide)
    have pdnJ_0 := dnJ.fr hst ppaI_0 pdnJ_0 (by decide) (by decide)
    have ppaI_0 := paI.fr hst ppaI_0 (by decide) (by decide) (by decide) (by decide)
    have hq393 := z_len eG392
    have hq394 := z_sl hx eG392 rfl
    have hfr := hfr.wr hx eG392 (by decide)
    have hx := hx.kept eG392
    change ab_W _ _ _ (List.set G x (ab_ob 10 [vR se, vR by_, vz n, vz (pl + 1), vz fa, vz fp, vR kd, vz kn])) 196 [some (vR d_), some (vz pl), none] [] _
    rw [← eG392]
    refine ab_new (fs := [vz 0, vz 0, vN, vz 0, vz 0, vN, vN, vN, vz 0, vz 0, vz 0, vz 0, vz 0, vz 0, vz 0]) k_PA rfl cl_RD_18 inst_PA ini_PA d_RD_part_196 (by decide) (fun _ => rfl) (by omega) (by omega) ?_
    obtain ⟨G395, eG395⟩ : ∃ z : ab_G, z = G392 ++ [ab_ob 4 [vz 0, vz 0, vN, vz 0, vz 0, vN, vN, vN, vz 0, vz 0, vz 0, vz 0, vz 0, vz 0, vz 0]] := ⟨_, rfl⟩
    obtain ⟨o396, eo396⟩ : ∃ z : Nat → Nat, z = ol o G392.length 90 := ⟨_, rfl⟩
    obtain ⟨a397, ea397⟩ : ∃ z : Nat, z = G392.length := ⟨_, rfl⟩
    have hq398 := hby_.n0 (by first | decide | omega)
    have ne_a397_d_ : nq a397 d_ := by have hlt := hd_.lt; unfold nq; omega
    have ne_a397_x : nq a397 x := by have hlt := hx.lt; unfold nq; omega
    have ne_a397_na : nq a397 na := by have hlt := hna.lt; unfold nq; omega
    have ne_a397_nl : nq a397 nl := by have hlt := hnl.lt; unfold nq; omega
    have ne_a397_by_ : nq a397 by_ := by have hlt := hby_.lt; unfold nq; omega
    have ne_a397_15 : nq a397 15 := by have hlt := h15.lt; unfold nq; omega
    have ne_a397_16 : nq a397 16 := by have hlt := h16.lt; unfold nq; omega
    have hd_ := hd_.akeep (k := 90) eG395
    rw [← eo396] at hd_
    have hx := hx.akeep (k := 90) eG395
    rw [← eo396] at hx
    have hna := hna.akeep (k := 90) eG395
    rw [← eo396] at hna
    have hnl := hnl.akeep (k := 90) eG395
    rw [← eo396] at hnl
    have hby_ := hby_.akeep (k := 90) eG395
    rw [← eo396] at hby_
    have h15 := h15.akeep (k := 90) eG395
    rw [← eo396] at h15
    have h16 := h16.akeep (k := 90) eG395
    rw [← eo396] at h16
    have hst := (fx.rf (o := o) (S := []) (G := G392)).ap (k := 90) eG395
    rw [← eo396] at hst
    have hnpa397 := ppaI_0.new (a := a397) (by omega)
    have popI_0 := opI.fr hst ppaI_0 popI_0 (by decide) (by decide)
    have pcsI_se := csI.fr hst pcsI_se (by decide) (by decide)
    have ptbI_0 := tbI.fr hst ptbI_0  (by simp)
    have pszJ_0 := szJ.fr hst ppaI_0 pszJ_0 (by decide) (by decide)
    have pdnJ_0 := dnJ.fr hst ppaI_0 pdnJ_0 (by decide) (by decide)
    have ppaI_0 := paI.fr hst ppaI_0 (by decide) (by decide) (by decide) (by simp)
    have ha397 := cc.anew (o := o) 90 eG395 hq398
    rw [← eo396, ← ea397] at ha397
    have hfr := hfr.ap (k := 90) eG395
    rw [← eo396] at hfr
    have hq399 := z_alen eG395
    have hq400 : ab_slots G395 = ab_slots G392 + 15 := z_asl eG395 hq398
    change ab_W _ _ _ (G392 ++ [ab_ob 4 [vz 0, vz 0, vN, vz 0, vz 0, vN, vN, vN, vz 0, vz 0, vz 0, vz 0, vz 0, vz 0, vz 0]]) 199 [some (vR d_), some (vz pl), none] [.ref G392.length] _
    rw [← eG395, ← ea397]
    change ab_W _ _ _ G395 199 [some (vR d_), some (vz pl), none] [vR a397] _
    refine ab_dup d_RD_part_199 rfl ?_
    refine zz_iconst d_RD_part_200 ?_
    refine ab_aload_n d_RD_part_201 rfl ?_
    refine zz_iconst d_RD_part_202 ?_
    refine ab_callV (d' := d - 1) (as := [vz 2]) (st := [vz 3, vR a397, vR a397]) (r := _) (z2_RD_isOn (o := o396) (d_ := d_) (inn := inn) (dp := dp) (flg := flg) (grp := grp) (na := na) (nl := nl) (lst := lst) (mst := mst) (bh := bh) (x := x) hd_ (by omega)) (fun oc G2 h => by rcases h with ⟨_, h, _⟩ <;> exact ⟨_, h⟩) (by omega) m_RD_isOn ml_RD_94 im_RD_isOn se_RD_isOn c_RD hd_.2.2 (Nat.le_of_ble_eq_true rfl) d_RD_part_203 rfl ?_
    intro v G401 hq
    rcases hq with ⟨v402, hv, hGe, hq403, hq404⟩
    cases hv
    rw [hGe]
    change ab_W _ _ _ G395 206 [some (vR d_), some (vz pl), none] [vz v402, vz 3, vR a397, vR a397] _
    refine zz_if_eq (tgt := 213) d_RD_part_206 (by decide) (by omega) (fun c405 => ?_) (fun c405 => ?_)
    · refine zz_iconst d_RD_part_213 ?_
      refine zz_iconst d_RD_part_214 ?_
      refine zz_iconst d_RD_part_215 ?_
      refine ab_callI (d' := d - 1) (as := [vz 3, vz 0, vz 1, vz 1]) (st := [vR a397]) (z90_PA_init (o := o396) (a := a397) (k0 := 3) (v0 := 0) (s0 := 1) (m0 := 1) (ps := ps) (wt := wt) (bs := bs) (gr := grp) (Pr := pr0) (ph := ph) ha397 ppaI_0 (by omega) (by omega) (by omega) (by omega)) (fun oc G2 h => by rcases h with ⟨h, _⟩ <;> exact ⟨_, h⟩) (by omega) m_PA_init ml_RD_20 im_PA_init rfl (Nat.le_of_ble_eq_true rfl) d_RD_part_216 rfl ?_
      intro v G406 hq
      rcases hq with ⟨hv, hfk, hlk, hsk, hNa397, pNpaI_0, hq407⟩
      cases hv
      have hd_ := hfk.get hd_ (by decide)
      have hx := hfk.get hx (by decide)
      have hna := hfk.get hna (by decide)
      have hnl := hfk.get hnl (by decide)
      have hby_ := hfk.get hby_ (by decide)
      have h15 := hfk.get h15 (by decide)
      have h16 := hfk.get h16 (by decide)
      have popI_0 := popI_0.fz (o2 := o396) hq407 (by simp)
      have pcsI_se := csI.fr hfk pcsI_se (by decide) (by decide)
      have ptbI_0 := tbI.fr hfk ptbI_0  (by decide)
      have pszJ_0 := pszJ_0.fzk (o2 := o396) hq407
      have pdnJ_0 := pdnJ_0.fzk (o2 := o396) hq407
      have ppaI_0 := pNpaI_0
      have hfr := hfr.tr hfk (by decide)
      have hq408 := hlk
      have hq409 := hsk
      have ha397 := hNa397
      change ab_W _ _ _ G406 219 [some (vR d_), some (vz pl), none] [vR a397] _
      have hnf_ := ppaI_0.nref hnpa397
      have hnp9_ := hnpa397
      have hlt410 := ha397.lt
      have hn410 : paN grp pr0 3 0 (-1) := ⟨by omega, by intro _; omega, by intro _; omega, by intro _; omega, pr0_⟩
      obtain ⟨ps410, wt410, hx410, hxo410, hpa410, hwo410, hwa410, ppaI_0⟩ : ∃ (pz : Nat → Nat) (wz : Nat → Wt), psx ps pz a397 ∧ (∀ x, ¬ x = a397 → pz x = ps x) ∧ pz a397 = 90 ∧ wtx wt wz a397 ∧ wz a397 = (0, fun _ => False) ∧ paI o396 G406 0 pz wz bs grp pr0 (ph + 0) := ⟨_, _, psx.ol (Nat.le_refl _), fun x hx => if_neg hx, ol_self, fun x hx => if_neg hx, olw_self, ppaI_0.ad90 (0, fun _ => False) hnpa397 (by omega) ha397 hn410 (by unfold pnB; omega) (Or.inl ⟨by omega, rfl⟩) (Or.inl rfl) (Or.inl rfl) (Or.inl rfl)⟩
      have popI_0 : opI o396 G406 0 ps410 k hi inn := opn_ps _ _ _ popI_0 (psx.lt hx410 (by omega))
      have hlf_ : leafp ps ps410 G406 a397 := leafp.mk hnf_ hnp9_ hxo410 hpa410 ha397 (by omega)
      have hwx_ : wtx wt wt410 a397 := hwo410
      have hlv_ : lfv G406 wt410 a397 (onS 3 0 (fun _ => False) mnI) := lfv.mk ha397 hwa410 (by omega) (by omega) (by omega) (fun t => by first | omega | exact onN (by omega))
      have pszJ_0 := (pszJ_0.leaf hlf_ (s := (fi G406 a397 8)) ceq.rf (by have t := hlf_.2.2.2.2.1.2.1; omega)).up (hi2 := a397) (by omega)
      have pdnJ_0 := (pdnJ_0.leaf hlf_ hwx_ hlv_).up (hi2 := a397) (by omega)
      have popI_0 := opn_up (hi2 := a397) popI_0 (by omega)
      have popI_0 : opI o396 G406 0 ps410 k a397 inn := popI_0
      refine ab_aret (rt := _) rfl (Or.inl ⟨_, rfl⟩) (Or.inr ⟨_, rfl⟩) d_RD_part_219 ?_
      rw [hQ]; exact (Or.inr (Or.inr ⟨_, _, _, _, _, _, _, _, _, _, _, _, _, _, _, _, _, _, _, _, _, _, _, (pl + 1), fr, FS, (fi G406 a397 8), (onS 3 0 (fun _ => False) mnI), rfl, hfr, hd_, hx, hna, hnl, ppaI_0, popI_0, pcsI_se, pszJ_0, pdnJ_0, (by omega), (by omega), (by omega), (by exact hnm), (by have hlt := ha397.lt; omega), (by exact hx410.lt (by omega)), (by omega), (by omega), (by omega), (by omega), (by omega), (by omega), (by omega), (by omega), (by exact hpa410), (by first | exact hkf | (simp only [List.length_cons]; omega) | omega), (by first | exact hks | (simp only [List.length_cons]; omega) | omega), (by omega), (by omega), (by exact Or.inl ⟨Or.inr (Or.inr (Or.inr (Or.inr (Or.inl ⟨by omega, by omega, (fi_pa ha397 (by omega) (by omega)).2.2.1⟩)))), rfl, rfl⟩), (by exact Or.inl ⟨Or.inr (Or.inr (Or.inr (Or.inr (Or.inl ⟨by omega, by omega, onS_3.trans (congrArg mnQ (by omega))⟩)))), rfl⟩), (by exact ⟨rfl, rfl, rfl⟩), (by omega)⟩))
    · refine zz_iconst d_RD_part_209 ?_
      refine ab_goto (tgt := 214) d_RD_part_210 (by decide) ?_
      refine zz_iconst d_RD_part_214 ?_
      refine zz_iconst d_RD_part_215 ?_
      refine ab_callI (d' := d - 1) (as := [vz 3, vz 2, vz 1, vz 1]) (st := [vR a397]) (z90_PA_init (o := o396) (a := a397) (k0 := 3) (v0 := 2) (s0 := 1) (m0 := 1) (ps := ps) (wt := wt) (bs := bs) (gr := grp) (Pr := pr0) (ph := ph) ha397 ppaI_0 (by omega) (by omega) (by omega) (by omega)) (fun oc G2 h => by rcases h with ⟨h, _⟩ <;> exact ⟨_, h⟩) (by omega) m_PA_init ml_RD_20 im_PA_init rfl (Nat.le_of_ble_eq_true rfl) d_RD_part_216 rfl ?_
      intro v G411 hq
      rcases hq with ⟨hv, hfk, hlk, hsk, hNa397, pNpaI_0, hq412⟩
      cases hv
      have hd_ := hfk.get hd_ (by decide)
      have hx := hfk.get hx (by decide)
      have hna := hfk.get hna (by decide)
      have hnl := hfk.get hnl (by decide)
      have hby_ := hfk.get hby_ (by decide)
      have h15 := hfk.get h15 (by decide)
      have h16 := hfk.get h16 (by decide)
      have popI_0 := popI_0.fz (o2 := o396) hq412 (by simp)
      have pcsI_se := csI.fr hfk pcsI_se (by decide) (by decide)
      have ptbI_0 := tbI.fr hfk ptbI_0  (by decide)
      have pszJ_0 := pszJ_0.fzk (o2 := o396) hq412
      have pdnJ_0 := pdnJ_0.fzk (o2 := o396) hq412
      have ppaI_0 := pNpaI_0
      have hfr := hfr.tr hfk (by decide)
      have hq413 := hlk
      have hq414 := hsk
      have ha397 := hNa397
      change ab_W _ _ _ G411 219 [some (vR d_), some (vz pl), none] [vR a397] _
      have hnf_ := ppaI_0.nref hnpa397
      have hnp9_ := hnpa397
      have hlt415 := ha397.lt
      have hn415 : paN grp pr0 3 2 (-1) := ⟨by omega, by intro _; omega, by intro _; omega, by intro _; omega, pr0_⟩
      obtain ⟨ps415, wt415, hx415, hxo415, hpa415, hwo415, hwa415, ppaI_0⟩ : ∃ (pz : Nat → Nat) (wz : Nat → Wt), psx ps pz a397 ∧ (∀ x, ¬ x = a397 → pz x = ps x) ∧ pz a397 = 90 ∧ wtx wt wz a397 ∧ wz a397 = (0, fun _ => False) ∧ paI o396 G411 0 pz wz bs grp pr0 (ph + 0) := ⟨_, _, psx.ol (Nat.le_refl _), fun x hx => if_neg hx, ol_self, fun x hx => if_neg hx, olw_self, ppaI_0.ad90 (0, fun _ => False) hnpa397 (by omega) ha397 hn415 (by unfold pnB; omega) (Or.inl ⟨by omega, rfl⟩) (Or.inl rfl) (Or.inl rfl) (Or.inl rfl)⟩
      have popI_0 : opI o396 G411 0 ps415 k hi inn := opn_ps _ _ _ popI_0 (psx.lt hx415 (by omega))
      have hlf_ : leafp ps ps415 G411 a397 := leafp.mk hnf_ hnp9_ hxo415 hpa415 ha397 (by omega)
      have hwx_ : wtx wt wt415 a397 := hwo415
      have hlv_ : lfv G411 wt415 a397 (onS 3 2 (fun _ => False) mnI) := lfv.mk ha397 hwa415 (by omega) (by omega) (by omega) (fun t => by first | omega | exact onN (by omega))
      have pszJ_0 := (pszJ_0.leaf hlf_ (s := (fi G411 a397 8)) ceq.rf (by have t := hlf_.2.2.2.2.1.2.1; omega)).up (hi2 := a397) (by omega)
      have pdnJ_0 := (pdnJ_0.leaf hlf_ hwx_ hlv_).up (hi2 := a397) (by omega)
      have popI_0 := opn_up (hi2 := a397) popI_0 (by omega)
      have popI_0 : opI o396 G411 0 ps415 k a397 inn := popI_0
      refine ab_aret (rt := _) rfl (Or.inl ⟨_, rfl⟩) (Or.inr ⟨_, rfl⟩) d_RD_part_219 ?_
      rw [hQ]; exact (Or.inr (Or.inr ⟨_, _, _, _, _, _, _, _, _, _, _, _, _, _, _, _, _, _, _, _, _, _, _, (pl + 1), fr, FS, (fi G411 a397 8), (onS 3 2 (fun _ => False) mnI), rfl, hfr, hd_, hx, hna, hnl, ppaI_0, popI_0, pcsI_se, pszJ_0, pdnJ_0, (by omega), (by omega), (by omega), (by exact hnm), (by have hlt := ha397.lt; omega), (by exact hx415.lt (by omega)), (by omega), (by omega), (by omega), (by omega), (by omega), (by omega), (by omega), (by omega), (by exact hpa415), (by first | exact hkf | (simp only [List.length_cons]; omega) | omega), (by first | exact hks | (simp only [List.length_cons]; omega) | omega), (by omega), (by omega), (by exact Or.inl ⟨Or.inr (Or.inr (Or.inr (Or.inr (Or.inl ⟨by omega, by omega, (fi_pa ha397 (by omega) (by omega)).2.2.1⟩)))), rfl, rfl⟩), (by exact Or.inl ⟨Or.inr (Or.inr (Or.inr (Or.inr (Or.inl ⟨by omega, by omega, onS_3.trans (congrArg mnQ (by omega))⟩)))), rfl⟩), (by exact ⟨rfl, rfl, rfl⟩), (by omega)⟩))
  replace c391 : nzq v2 94 := c391
  by_cases c416 : v2 = 124
  · refine zz_lookup (off := 241) (tgt := 257) d_RD_part_16 (by decide) (by omega) (by rw [c416]; decide) (by decide) ?_
    refine ab_aload_n d_RD_part_257 rfl ?_
    refine ab_getf (fs := [vR x, inn, vz dp, vz flg, vz grp, vR na, vR nl, vz lst, vz mst, vz bh]) f_RD_12 d_RD_part_258 hd_.2.2 rfl ?_
    refine ab_dup d_RD_part_261 rfl ?_
    refine ab_getf (fs := [vR se, vR by_, vz n, vz pl, vz fa, vz fp, vR kd, vz kn]) f_RD_55 d_RD_part_262 hx.2.2 rfl ?_
    refine zz_iconst d_RD_part_265 ?_
    refine zz_iadd d_RD_part_266 ?_
    refine ab_putf (fs := [vR se, vR by_, vz n, vz pl, vz fa, vz fp, vR kd, vz kn]) f_RD_55 (Or.inl rfl) d_RD_part_267 hx.2.2 (Nat.le_of_ble_eq_true rfl) (fun _ => ⟨rfl, rfl⟩) (hx.2.1 (by decide)) ?_
    obtain ⟨G417, eG417⟩ : ∃ z : ab_G, z = List.set G x (ab_ob 10 [vR se, vR by_, vz n, vz (pl + 1), vz fa, vz fp, vR kd, vz kn]) := ⟨_, rfl⟩
    have hd_ := hd_.keep hx eG417 (by decide)
    have hna := hna.keep hx eG417 (by decide)
    have hnl := hnl.keep hx eG417 (by decide)
    have hby_ := hby_.keep hx eG417 (by decide)
    have h15 := h15.keep hx eG417 (by decide)
    have h16 := h16.keep hx eG417 (by decide)
    have hst := (fx.rf (o := o) (S := [24]) (G := G)).wr hx eG417 (List.mem_singleton.mpr rfl)
    have popI_0 := opI.fr hst ppaI_0 popI_0 (by decide) (by decide)
    have pcsI_se := csI.fr hst pcsI_se (by decide) (by decide)
    have ptbI_0 := tbI.fr hst ptbI_0  (by decide)
    have pszJ_0 := szJ.fr hst ppaI_0 pszJ_0 (by decide) (by decide)
    have pdnJ_0 := dnJ.fr hst ppaI_0 pdnJ_0 (by decide) (by decide)
    have ppaI_0 := paI.fr hst ppaI_0 (by decide) (by decide) (by decide) (by decide)
    have hq418 := z_len eG417
    have hq419 := z_sl hx eG417 rfl
    have hfr := hfr.wr hx eG417 (by decide)
    have hx := hx.kept eG417
    change ab_W _ _ _ (List.set G x (ab_ob 10 [vR se, vR by_, vz n, vz (pl + 1), vz fa, vz fp, vR kd, vz kn])) 270 [some (vR d_), some (vz pl), none] [] _
    rw [← eG417]
    obtain ⟨j420, hj420⟩ : ∃ j, k = j + 1 := ⟨k - 1, by omega⟩
    rw [hj420] at popI_0
    obtain ⟨g420, r420, w420, lv420, hv420, ⟨hpg420, hpr420⟩, ⟨hgl420, hrl420⟩, hf6420, hf5420, hr6420, hlv420, hop420⟩ := popI_0
    subst hv420
    obtain ⟨k_421, v_421, rg_421, pl_421, fl_421, ou_421, ls_421, bf_421, sz_421, mb_421, oe_421, le_421, mo_421, la_421, rc_421, hg420, hn421, hb421, hg421, ho421, hl421, hf421⟩ := ppaI_0.1 g420 hpg420
    have hB421 := hb421
    unfold pnB at hB421
    have hK421 := hn421.1
    obtain ⟨ls422, bf422, sz422, mb422, hr420, hB422, hl422, hf422⟩ := ppaI_0.2.1 r420 hpr420
    have e6420 : some ls_421 = some (vR r420) := by have t := hf6420; unfold pf at t; rw [hg420.2.2] at t; exact t
    have e6420 := Option.some.inj e6420
    subst e6420
    have e5420 : some ou_421 = some w420 := by have t := hf5420; unfold pf at t; rw [hg420.2.2] at t; exact t
    have e5420 := Option.some.inj e5420
    subst e5420
    have e7420 : some ls422 = some lv420 := by have t := hr6420; unfold pf at t; rw [hr420.2.2] at t; exact t
    have e7420 := Option.some.inj e7420
    subst e7420
    have popI_0 : opI o G417 0 ps j420 g420 ou_421 := hop420
    have hnq420 : nq g420 r420 := hg420.ne hr420 (by decide)
    change ab_W _ _ _ G417 270 [some (vR d_), some (vz pl), none] [] _
    refine ab_aload_n d_RD_part_270 rfl ?_
    refine ab_getf (fs := [vR x, vR g420, vz dp, vz flg, vz grp, vR na, vR nl, vz lst, vz mst, vz bh]) f_RD_23 d_RD_part_271 hd_.2.2 rfl ?_
    refine ab_new (fs := [vz 0, vz 0, vN, vz 0, vz 0, vN, vN, vN, vz 0, vz 0, vz 0, vz 0, vz 0, vz 0, vz 0]) k_PA rfl cl_RD_18 inst_PA ini_PA d_RD_part_274 (by decide) (fun _ => rfl) (by omega) (by omega) ?_
    obtain ⟨G423, eG423⟩ : ∃ z : ab_G, z = G417 ++ [ab_ob 4 [vz 0, vz 0, vN, vz 0, vz 0, vN, vN, vN, vz 0, vz 0, vz 0, vz 0, vz 0, vz 0, vz 0]] := ⟨_, rfl⟩
    obtain ⟨o424, eo424⟩ : ∃ z : Nat → Nat, z = ol o G417.length 94 := ⟨_, rfl⟩
    obtain ⟨a425, ea425⟩ : ∃ z : Nat, z = G417.length := ⟨_, rfl⟩
    have hq426 := hr420.n0 (by first | decide | omega)
    have ne_a425_d_ : nq a425 d_ := by have hlt := hd_.lt; unfold nq; omega
    have ne_a425_x : nq a425 x := by have hlt := hx.lt; unfold nq; omega
    have ne_a425_na : nq a425 na := by have hlt := hna.lt; unfold nq; omega
    have ne_a425_nl : nq a425 nl := by have hlt := hnl.lt; unfold nq; omega
    have ne_a425_by_ : nq a425 by_ := by have hlt := hby_.lt; unfold nq; omega
    have ne_a425_15 : nq a425 15 := by have hlt := h15.lt; unfold nq; omega
    have ne_a425_16 : nq a425 16 := by have hlt := h16.lt; unfold nq; omega
    have ne_a425_g420 : nq a425 g420 := by have hlt := hg420.lt; unfold nq; omega
    have ne_a425_r420 : nq a425 r420 := by have hlt := hr420.lt; unfold nq; omega
    have hd_ := hd_.akeep (k := 94) eG423
    rw [← eo424] at hd_
    have hx := hx.akeep (k := 94) eG423
    rw [← eo424] at hx
    have hna := hna.akeep (k := 94) eG423
    rw [← eo424] at hna
    have hnl := hnl.akeep (k := 94) eG423
    rw [← eo424] at hnl
    have hby_ := hby_.akeep (k := 94) eG423
    rw [← eo424] at hby_
    have h15 := h15.akeep (k := 94) eG423
    rw [← eo424] at h15
    have h16 := h16.akeep (k := 94) eG423
    rw [← eo424] at h16
    have hg420 := hg420.akeep (k := 94) eG423
    rw [← eo424] at hg420
    have hr420 := hr420.akeep (k := 94) eG423
    rw [← eo424] at hr420
    have hst := (fx.rf (o := o) (S := []) (G := G417)).ap (k := 94) eG423
    rw [← eo424] at hst
    have hnpa425 := ppaI_0.new (a := a425) (by omega)
    have pcsI_se := csI.fr hst pcsI_se (by decide) (by decide)
    have ptbI_0 := tbI.fr hst ptbI_0  (by simp)
    have pszJ_0 := szJ.fr hst ppaI_0 pszJ_0 (by decide) (by decide)
    have pdnJ_0 := dnJ.fr hst ppaI_0 pdnJ_0 (by decide) (by decide)
    have popI_0 := opI.fr hst ppaI_0 popI_0 (by decide) (by decide)
    have ppaI_0 := paI.fr hst ppaI_0 (by decide) (by decide) (by decide) (by simp)
    have ha425 := cc.anew (o := o) 94 eG423 hq426
    rw [← eo424, ← ea425] at ha425
    have hfr := hfr.ap (k := 94) eG423
    rw [← eo424] at hfr
    have hq427 := z_alen eG423
    have hq428 : ab_slots G423 = ab_slots G417 + 15 := z_asl eG423 hq426
    change ab_W _ _ _ (G417 ++ [ab_ob 4 [vz 0, vz 0, vN, vz 0, vz 0, vN, vN, vN, vz 0, vz 0, vz 0, vz 0, vz 0, vz 0, vz 0]]) 277 [some (vR d_), some (vz pl), none] [.ref G417.length, vR g420] _
    rw [← eG423, ← ea425]
    change ab_W _ _ _ G423 277 [some (vR d_), some (vz pl), none] [vR a425, vR g420] _
    refine ab_dup d_RD_part_277 rfl ?_
    refine zz_iconst d_RD_part_278 ?_
    refine zz_iconst d_RD_part_279 ?_
    refine zz_iconst d_RD_part_280 ?_
    refine zz_iconst d_RD_part_281 ?_
    refine ab_callI (d' := d - 1) (as := [vz 5, vz 0, vz 0, vz 1]) (st := [vR a425, vR g420]) (z94_PA_init (o := o424) (a := a425) (k0 := 5) (v0 := 0) (s0 := 0) (m0 := 1) (ps := ps) (wt := wt) (bs := bs) (gr := grp) (Pr := pr0) (ph := ph) ha425 ppaI_0 (by omega) (by omega) (by omega) (by omega)) (fun oc G2 h => by rcases h with ⟨h, _⟩ <;> exact ⟨_, h⟩) (by omega) m_PA_init ml_RD_20 im_PA_init rfl (Nat.le_of_ble_eq_true rfl) d_RD_part_282 rfl ?_
    intro v G429 hq
    rcases hq with ⟨hv, hfk, hlk, hsk, hNa425, pNpaI_0, hq430⟩
    cases hv
    have hd_ := hfk.get hd_ (by decide)
    have hx := hfk.get hx (by decide)
    have hna := hfk.get hna (by decide)
    have hnl := hfk.get hnl (by decide)
    have hby_ := hfk.get hby_ (by decide)
    have h15 := hfk.get h15 (by decide)
    have h16 := hfk.get h16 (by decide)
    have hg420 := hfk.get hg420 (by decide)
    have hKr420 := hq430.get hfk hr420 (Or.inr hpr420) (by simp only [List.mem_cons, List.not_mem_nil, or_false, not_or]; exact not_false)
    have hr420 := hKr420
    have pcsI_se := csI.fr hfk pcsI_se (by decide) (by decide)
    have ptbI_0 := tbI.fr hfk ptbI_0  (by decide)
    have pszJ_0 := pszJ_0.fzk (o2 := o424) hq430
    have pdnJ_0 := pdnJ_0.fzk (o2 := o424) hq430
    have popI_0 := popI_0.fz (o2 := o424) hq430 (by simp)
    have ppaI_0 := pNpaI_0
    have hfr := hfr.tr hfk (by decide)
    have hq431 := hlk
    have hq432 := hsk
    have ha425 := hNa425
    change ab_W _ _ _ G429 285 [some (vR d_), some (vz pl), none] [vR a425, vR g420] _
    have hnf_ := ppaI_0.nref hnpa425
    have hnp9_ := hnpa425
    obtain ⟨a1_, b1_, c1_, d1_, e1_, t_, hft_⟩ := pszJ_0.hd (by omega)
    rw [hft_] at pszJ_0
    have hsz9 := pszJ_0
    obtain ⟨ao_, ro_, ts_, hfs_⟩ := pdnJ_0.hd (by omega)
    rw [hfs_] at pdnJ_0
    have hdn9 := pdnJ_0
    have hg9 := hg420
    have hlt433 := ha425.lt
    obtain ⟨ps433, hx433, hxo433, hpa433, ppaI_0⟩ : ∃ pz : Nat → Nat, psx ps pz a425 ∧ (∀ x, ¬ x = a425 → pz x = ps x) ∧ pz a425 = 94 ∧ paI o424 G429 0 pz wt bs grp pr0 ph := ⟨_, psx.ol (Nat.le_refl _), fun x hx => if_neg hx, ol_self, ppaI_0.ad94 hnpa425 ha425 (by omega) (Or.inl rfl) (Or.inl rfl)⟩
    have hp434 : ps433 g420 = 90 := hx433.at (by have hlt := hg420.lt; omega) hpg420
    have hp435 : ps433 r420 = 94 := hx433.at (by have hlt := hr420.lt; omega) hpr420
    have hl436 := ho421.ps (by have hlt := hg420.lt; omega) hx433
    have hl437 := hl421.ps (by omega) hx433
    have hl438 := hf421.ps (by have hlt := hg420.lt; omega) hx433
    have hl439 := hl422.ps (by omega) hx433
    have hl440 := hf422.ps (by have hlt := hr420.lt; omega) hx433
    have hl441 := hlv420.ps (by omega) hx433
    have popI_0 : opI o424 G429 0 ps433 j420 g420 ou_421 := opn_ps _ _ _ popI_0 (psx.lt hx433 (by omega))
    have hfz : fz ps433 [g420, a425] G429 G429 := fz.rf
    refine ab_callV (d' := d - 1) (as := [vR a425]) (st := []) (r := _) (z90_PA_push (o := o424) (k := k_421) (v := v_421) (rg := rg_421) (pl := pl_421) (fl := fl_421) (ou := ou_421) (ls := vR r420) (bf := bf_421) (sz := sz_421) (mb := mb_421) (oe := oe_421) (le := le_421) (mo := mo_421) (la := la_421) (rc := rc_421) (lr := vN) (br := vN) (sr := 0) (mr := 1) (ps := ps433) (wt := wt) (bs := bs) (gr := grp) (Pr := pr0) (ph := ph) (r := a425) (p := g420) hg420 ha425 ppaI_0 (by omega) hp434 hpa433 hn421 (by omega) (by omega) (hl436.up (by omega)) (Or.inr ⟨_, rfl, hp435, by have hlt := hr420.lt; omega⟩) (hl438.up (by omega)) (Or.inl rfl) (Or.inl rfl) (Or.inr ⟨_, rfl, hp435, by have hlt := hr420.lt; omega⟩) (by omega)) (fun oc G2 h => by rcases h with ⟨h, _⟩ <;> exact ⟨_, h⟩) (by omega) m_PA_push ml_RD_48 im_PA_push se_PA_push c_PA hg420.2.2 (Nat.le_of_ble_eq_true rfl) d_RD_part_285 rfl ?_
    intro v G442 hq
    rcases hq with ⟨hv, hfk, hlk, hsk, hNg420, hNa425, pNpaI_0, hq443⟩
    cases hv
    have hd_ := hfk.get hd_ (by decide)
    have hx := hfk.get hx (by decide)
    have hna := hfk.get hna (by decide)
    have hnl := hfk.get hnl (by decide)
    have hby_ := hfk.get hby_ (by decide)
    have h15 := hfk.get h15 (by decide)
    have h16 := hfk.get h16 (by decide)
    have hKr420 := hq443.get hfk hr420 (Or.inr hp435) (by simp only [List.mem_cons, List.not_mem_nil, or_false, not_or]; exact ⟨(hr420.ne hg420 (by decide)), (nq.s ne_a425_r420)⟩)
    have hr420 := hKr420
    have hfz := hfz.tr hq443 (by simp)
    have pcsI_se := csI.fr hfk pcsI_se (by decide) (by decide)
    have ptbI_0 := tbI.fr hfk ptbI_0  (by decide)
    have popI_0 := popI_0.fz (o2 := o424) hq443 (by intro y hy; simp only [List.mem_cons, List.not_mem_nil, or_false] at hy; omega)
    have ppaI_0 := pNpaI_0
    have hfr := hfr.tr hfk (by decide)
    have hq444 := hlk
    have hq445 := hsk
    have hg420 := hNg420
    have ha425 := hNa425
    change ab_W _ _ _ G442 288 [some (vR d_), some (vz pl), none] [] _
    refine ab_null d_RD_part_288 ?_
    have popI_0 : opI o424 G442 0 ps433 (j420 + 1) G442.length (vR g420) := ⟨g420, a425, ou_421, (vN), rfl, ⟨hp434, hpa433⟩, ⟨by omega, by omega⟩, by unfold pf; rw [hg420.2.2]; rfl, by unfold pf; rw [hg420.2.2]; rfl, by unfold pf; rw [ha425.2.2]; rfl, (Or.inl rfl), popI_0⟩
    rw [← hj420] at popI_0
    have pszJ_0 : szJ o424 G442 0 ps433 ((a1_, b1_, c1_, (d1_ + e1_ + 1), 0) :: t_) G442.length (vR g420) wh 0 0 := (szJ.barC hsz9 hnf_ hnp9_ hxo433 hpa433 hfz hg9 hg420 ha425 (by omega) (by omega)).up (by omega)
    have pdnJ_0 : dnJ o424 G442 0 ps433 wt ((some (opO ao_ ro_), mnI) :: ts_) G442.length (vR g420) 0 mnI := (dnJ.barC hdn9 hnf_ hnp9_ hxo433 hpa433 hfz hsz9 hg9 hg420 ha425).up (by omega)
    refine ab_aret (rt := _) rfl (Or.inl ⟨_, rfl⟩) (Or.inl rfl) d_RD_part_289 ?_
    rw [hQ]; exact (Or.inr (Or.inl ⟨_, _, _, _, _, _, _, _, _, _, _, _, _, _, _, _, _, _, _, _, _, _, _, (pl + 1), ((a1_, b1_, c1_, (d1_ + e1_ + 1), 0) :: t_), ((some (opO ao_ ro_), mnI) :: ts_), rfl, hfr, hd_, hx, hna, hnl, ppaI_0, popI_0, pcsI_se, pszJ_0, pdnJ_0, (by omega), (by omega), (by omega), (by exact hnm), (by omega), (by exact hx433.lt (by omega)), (by omega), (by omega), (by omega), (by omega), (by omega), (by omega), (by omega), (by omega), (by first | exact hkf | (simp only [List.length_cons]; omega) | omega | (have t := congrArg List.length hft_; simp only [List.length_cons] at t ⊢; omega) | (have t := congrArg List.length hft_; simp only [List.length_cons] at t; omega)), (by first | exact hks | (simp only [List.length_cons]; omega) | omega | (have t := congrArg List.length hfs_; simp only [List.length_cons] at t ⊢; omega) | (have t := congrArg List.length hfs_; simp only [List.length_cons] at t; omega)), (by omega), (by omega), (by exact Or.inl ⟨by omega, ⟨by omega, rfl, rfl, rfl, rfl⟩, _, _, _, _, _, _, hft_, rfl⟩), (by exact Or.inl ⟨by omega, _, _, _, hfs_, rfl⟩), (by omega)⟩))
  replace c416 : nzq v2 124 := c416
  refine zz_lookup (off := 274) (tgt := 290) d_RD_part_16 (by decide) (by omega) (by simp only [Op.lookupswitch.offset]; rw [if_neg (fun h => c5 h.symm)]; rw [if_neg (fun h => c30 h.symm)]; rw [if_neg (fun h => c114 h.symm)]; rw [if_neg (fun h => c166 h.symm)]; rw [if_neg (fun h => c213 h.symm)]; rw [if_neg (fun h => c281 h.symm)]; rw [if_neg (fun h => c391 h.symm)]; rw [if_neg (fun h => c416 h.symm)]) (by decide) ?_
  refine ab_aload_n d_RD_part_290 rfl ?_
  refine ab_callV (d' := d - 1) (as := []) (st := []) (r := _) (z_RD_isRepeat (o := o) (d_ := d_) (inn := inn) (dp := dp) (flg := flg) (grp := grp) (na := na) (nl := nl) (lst := lst) (mst := mst) (bh := bh) (x := x) (se := se) (by_ := by_) (m := m) (f := f) (n := n) (pl := pl) (fa := fa) (fp := fp) (kd := kd) (kn := kn) hd_ hx hby_ (by omega) hb (by omega) (by omega) (by omega)) (fun oc G2 h => by rcases h with ⟨_, _, _, h, _⟩ | ⟨_, _, _, h, _⟩ | ⟨_, _, _, h, _⟩ <;> exact ⟨_, h⟩) (by omega) m_RD_isRepeat ml_RD_119 im_RD_isRepeat se_RD_isRepeat c_RD hd_.2.2 (Nat.le_of_ble_eq_true rfl) d_RD_part_291 rfl ?_
  intro v G447 hq
  rcases hq with ⟨l2448, m2449, bh2450, hv, hfk, hlk, hsk, hNd_, hq451, hq452, hq453⟩ | ⟨l2454, m2455, bh2456, hv, hfk, hlk, hsk, hNd_, hq457, hq458, hq459⟩ | ⟨l2460, m2461, bh2462, hv, hfk, hlk, hsk, hNd_, hq463, hq464⟩
  · cases hv
    have hx := hfk.get hx (by decide)
    have hna := hfk.get hna (by decide)
    have hnl := hfk.get hnl (by decide)
    have hby_ := hfk.get hby_ (by decide)
    have h15 := hfk.get h15 (by decide)
    have h16 := hfk.get h16 (by decide)
    have popI_0 := opI.fr hfk ppaI_0 popI_0 (by decide) (by decide)
    have pcsI_se := csI.fr hfk pcsI_se (by decide) (by decide)
    have ptbI_0 := tbI.fr hfk ptbI_0  (by decide)
    have pszJ_0 := szJ.fr hfk ppaI_0 pszJ_0 (by decide) (by decide)
    have pdnJ_0 := dnJ.fr hfk ppaI_0 pdnJ_0 (by decide) (by decide)
    have ppaI_0 := paI.fr hfk ppaI_0 (by decide) (by decide) (by decide) (by decide)
    have hfr := hfr.tr hfk (by decide)
    have hq465 := hlk
    have hq466 := hsk
    have hd_ := hNd_
    change ab_W _ _ _ G447 294 [some (vR d_), some (vz pl), none] [vz 1] _
    refine zz_if_eq (tgt := 310) d_RD_part_294 (by decide) (by decide) (fun c471 => absurd c471 (by decide)) (fun c471 => ?_)
    refine ab_aload_n d_RD_part_297 rfl ?_
    refine ab_getf (fs := [vR x, inn, vz dp, vz flg, vz grp, vR na, vR nl, vz l2448, vz m2449, vz bh2450]) f_RD_12 d_RD_part_298 hd_.2.2 rfl ?_
    refine zz_bipush d_RD_part_301 (by decide) ?_
    refine ab_iload_n d_RD_part_303 rfl ?_
    refine ab_callV (d' := d - 1) (as := [vz 8, vz pl]) (st := []) (r := _) (z_TX_fail (o := o) (x := x) (lx := 24) (se := se) (by_ := by_) (n := n) (pl := pl) (fa := fa) (fp := fp) (kd := kd) (kn := kn) (w := 8) (p := pl) hx (by omega) (by omega) (by omega)) (fun oc G2 h => by rcases h with ⟨h, _⟩ | ⟨h, _⟩ <;> exact ⟨_, h⟩) (by omega) m_TX_fail ml_RD_69 im_TX_fail se_TX_fail c_TX hx.2.2 (Nat.le_of_ble_eq_true rfl) d_RD_part_304 rfl ?_
    intro v G472 hq
    rcases hq with ⟨hv, hfk, hlk, hsk, hNx, hq473⟩ | ⟨hv, hGe, hq474⟩
    · cases hv
      have hd_ := hfk.get hd_ (by decide)
      have hna := hfk.get hna (by decide)
      have hnl := hfk.get hnl (by decide)
      have hby_ := hfk.get hby_ (by decide)
      have h15 := hfk.get h15 (by decide)
      have h16 := hfk.get h16 (by decide)
      have popI_0 := opI.fr hfk ppaI_0 popI_0 (by decide) (by decide)
      have pcsI_se := csI.fr hfk pcsI_se (by decide) (by decide)
      have ptbI_0 := tbI.fr hfk ptbI_0  (by decide)
      have pszJ_0 := szJ.fr hfk ppaI_0 pszJ_0 (by decide) (by decide)
      have pdnJ_0 := dnJ.fr hfk ppaI_0 pdnJ_0 (by decide) (by decide)
      have ppaI_0 := paI.fr hfk ppaI_0 (by decide) (by decide) (by decide) (by decide)
      have hfr := hfr.tr hfk (by decide)
      have hq475 := hlk
      have hq476 := hsk
      have hx := hNx
      change ab_W _ _ _ G472 307 [some (vR d_), some (vz pl), none] [vz (-1)] _
      refine ab_pop d_RD_part_307 rfl ?_
      refine ab_null d_RD_part_308 ?_
      refine ab_aret (rt := _) rfl (Or.inl ⟨_, rfl⟩) (Or.inl rfl) d_RD_part_309 ?_
      rw [hQ]; exact (Or.inl ⟨_, _, _, _, _, _, _, _, _, _, _, _, _, _, _, _, _, _, _, _, _, _, _, pl, fr, FS, rfl, hfr, hd_, hx, hna, hnl, ppaI_0, popI_0, pcsI_se, pszJ_0, pdnJ_0, (by omega), (by omega), (by omega), (by exact hnm), (by omega), (by exact psx.rf), (by omega), (by omega), (by omega), (by omega), (by omega), (by omega), (by omega), (by omega), (by first | exact hkf | (simp only [List.length_cons]; omega) | omega), (by first | exact hks | (simp only [List.length_cons]; omega) | omega), (by omega), (by exact Or.inr ⟨⟨fun z => by have t := tpk_at (f := f) (n := n) (i := pl) (by omega); have u := hb pl (by omega) (by omega); omega, fun z => c281 (hq3.trans z), fun z => c213 (hq3.trans z), fun z => c30 (hq3.trans z), fun z => c114 (hq3.trans z), fun z => c166 (hq3.trans z), fun z => c391 (hq3.trans z), fun z => c5 (hq3.trans z), fun z => c416 (hq3.trans z)⟩, ⟨_, _, _, _, hq453⟩, by omega, by omega⟩)⟩)
    · cases hv
      rw [hGe]
      change ab_W _ _ _ G447 307 [some (vR d_), some (vz pl), none] [vz (-1)] _
      exfalso; omega
  · cases hv
    have hx := hfk.get hx (by decide)
    have hna := hfk.get hna (by decide)
    have hnl := hfk.get hnl (by decide)
    have hby_ := hfk.get hby_ (by decide)
    have h15 := hfk.get h15 (by decide)
    have h16 := hfk.get h16 (by decide)
    have popI_0 := opI.fr hfk ppaI_0 popI_0 (by decide) (by decide)
    have pcsI_se := csI.fr hfk pcsI_se (by decide) (by decide)
    have ptbI_0 := tbI.fr hfk ptbI_0  (by decide)
    have pszJ_0 := szJ.fr hfk ppaI_0 pszJ_0 (by decide) (by decide)
    have pdnJ_0 := dnJ.fr hfk ppaI_0 pdnJ_0 (by decide) (by decide)
    have ppaI_0 := paI.fr hfk ppaI_0 (by decide) (by decide) (by decide) (by decide)
    have hfr := hfr.tr hfk (by decide)
    have hq467 := hlk
    have hq468 := hsk
    have hd_ := hNd_
    change ab_W _ _ _ G447 294 [some (vR d_), some (vz pl), none] [vz 1] _
    refine zz_if_eq (tgt := 310) d_RD_part_294 (by decide) (by decide) (fun c477 => absurd c477 (by decide)) (fun c477 => ?_)
    refine ab_aload_n d_RD_part_297 rfl ?_
    refine ab_getf (fs := [vR x, inn, vz dp, vz flg, vz grp, vR na, vR nl, vz l2454, vz m2455, vz bh2456]) f_RD_12 d_RD_part_298 hd_.2.2 rfl ?_
    refine zz_bipush d_RD_part_301 (by decide) ?_
    refine ab_iload_n d_RD_part_303 rfl ?_
    refine ab_callV (d' := d - 1) (as := [vz 8, vz pl]) (st := []) (r := _) (z_TX_fail (o := o) (x := x) (lx := 24) (se := se) (by_ := by_) (n := n) (pl := pl) (fa := fa) (fp := fp) (kd := kd) (kn := kn) (w := 8) (p := pl) hx (by omega) (by omega) (by omega)) (fun oc G2 h => by rcases h with ⟨h, _⟩ | ⟨h, _⟩ <;> exact ⟨_, h⟩) (by omega) m_TX_fail ml_RD_69 im_TX_fail se_TX_fail c_TX hx.2.2 (Nat.le_of_ble_eq_true rfl) d_RD_part_304 rfl ?_
    intro v G478 hq
    rcases hq with ⟨hv, hfk, hlk, hsk, hNx, hq479⟩ | ⟨hv, hGe, hq480⟩
    · cases hv
      have hd_ := hfk.get hd_ (by decide)
      have hna := hfk.get hna (by decide)
      have hnl := hfk.get hnl (by decide)
      have hby_ := hfk.get hby_ (by decide)
      have h15 := hfk.get h15 (by decide)
      have h16 := hfk.get h16 (by decide)
      have popI_0 := opI.fr hfk ppaI_0 popI_0 (by decide) (by decide)
      have pcsI_se := csI.fr hfk pcsI_se (by decide) (by decide)
      have ptbI_0 := tbI.fr hfk ptbI_0  (by decide)
      have pszJ_0 := szJ.fr hfk ppaI_0 pszJ_0 (by decide) (by decide)
      have pdnJ_0 := dnJ.fr hfk ppaI_0 pdnJ_0 (by decide) (by decide)
      have ppaI_0 := paI.fr hfk ppaI_0 (by decide) (by decide) (by decide) (by decide)
      have hfr := hfr.tr hfk (by decide)
      have hq481 := hlk
      have hq482 := hsk
      have hx := hNx
      change ab_W _ _ _ G478 307 [some (vR d_), some (vz pl), none] [vz (-1)] _
      refine ab_pop d_RD_part_307 rfl ?_
      refine ab_null d_RD_part_308 ?_
      refine ab_aret (rt := _) rfl (Or.inl ⟨_, rfl⟩) (Or.inl rfl) d_RD_part_309 ?_
      rw [hQ]; exact (Or.inl ⟨_, _, _, _, _, _, _, _, _, _, _, _, _, _, _, _, _, _, _, _, _, _, _, pl, fr, FS, rfl, hfr, hd_, hx, hna, hnl, ppaI_0, popI_0, pcsI_se, pszJ_0, pdnJ_0, (by omega), (by omega), (by omega), (by exact hnm), (by omega), (by exact psx.rf), (by omega), (by omega), (by omega), (by omega), (by omega), (by omega), (by omega), (by omega), (by first | exact hkf | (simp only [List.length_cons]; omega) | omega), (by first | exact hks | (simp only [List.length_cons]; omega) | omega), (by omega), (by exact Or.inr ⟨⟨fun z => by have t := tpk_at (f := f) (n := n) (i := pl) (by omega); have u := hb pl (by omega) (by omega); omega, fun z => c281 (hq3.trans z), fun z => c213 (hq3.trans z), fun z => c30 (hq3.trans z), fun z => c114 (hq3.trans z), fun z => c166 (hq3.trans z), fun z => c391 (hq3.trans z), fun z => c5 (hq3.trans z), fun z => c416 (hq3.trans z)⟩, ⟨_, _, _, _, hq459⟩, by omega, by omega⟩)⟩)
    · cases hv
      rw [hGe]
      change ab_W _ _ _ G447 307 [some (vR d_), some (vz pl), none] [vz (-1)] _
      exfalso; omega
  · cases hv
    have hx := hfk.get hx (by decide)
    have hna := hfk.get hna (by decide)
    have hnl := hfk.get hnl (by decide)
    have hby_ := hfk.get hby_ (by decide)
    have h15 := hfk.get h15 (by decide)
    have h16 := hfk.get h16 (by decide)
    have popI_0 := opI.fr hfk ppaI_0 popI_0 (by decide) (by decide)
    have pcsI_se := csI.fr hfk pcsI_se (by decide) (by decide)
    have ptbI_0 := tbI.fr hfk ptbI_0  (by decide)
    have pszJ_0 := szJ.fr hfk ppaI_0 pszJ_0 (by decide) (by decide)
    have pdnJ_0 := dnJ.fr hfk ppaI_0 pdnJ_0 (by decide) (by decide)
    have ppaI_0 := paI.fr hfk ppaI_0 (by decide) (by decide) (by decide) (by decide)
    have hfr := hfr.tr hfk (by decide)
    have hq469 := hlk
    have hq470 := hsk
    have hd_ := hNd_
    change ab_W _ _ _ G447 294 [some (vR d_), some (vz pl), none] [vz 0] _
    refine zz_if_eq (tgt := 310) d_RD_part_294 (by decide) (by decide) (fun c483 => ?_) (fun c483 => absurd c483 (by decide))
    refine ab_aload_n d_RD_part_310 rfl ?_
    refine ab_aload_n d_RD_part_311 rfl ?_
    refine ab_getf (fs := [vR x, inn, vz dp, vz flg, vz grp, vR na, vR nl, vz l2460, vz m2461, vz bh2462]) f_RD_12 d_RD_part_312 hd_.2.2 rfl ?_
    refine ab_callV (d' := d - 1) (as := []) (st := [vR d_]) (r := _) (z_TX_character (o := o) (x := x) (lx := 24) (se := se) (by_ := by_) (lby := 23) (m := m) (f := f) (n := n) (pl := pl) (fa := fa) (fp := fp) (kd := kd) (kn := kn) hx hby_ (by omega) hb (by omega) (by omega) (by omega) (by omega)) (fun oc G2 h => by rcases h with ⟨h, _⟩ | ⟨_, _, h, _⟩ <;> exact ⟨_, h⟩) (by omega) m_TX_character ml_RD_123 im_TX_character se_TX_character c_TX hx.2.2 (Nat.le_of_ble_eq_true rfl) d_RD_part_315 rfl ?_
    intro v G484 hq
    rcases hq with ⟨hv, hfk, hlk, hsk, hNx, hq485⟩ | ⟨v486, p2487, hv, hfk, hlk, hsk, hNx, hq488, hq489, hq490, hq491⟩
    · cases hv
      have hd_ := hfk.get hd_ (by decide)
      have hna := hfk.get hna (by decide)
      have hnl := hfk.get hnl (by decide)
      have hby_ := hfk.get hby_ (by decide)
      have h15 := hfk.get h15 (by decide)
      have h16 := hfk.get h16 (by decide)
      have popI_0 := opI.fr hfk ppaI_0 popI_0 (by decide) (by decide)
      have pcsI_se := csI.fr hfk pcsI_se (by decide) (by decide)
      have ptbI_0 := tbI.fr hfk ptbI_0  (by decide)
      have pszJ_0 := szJ.fr hfk ppaI_0 pszJ_0 (by decide) (by decide)
      have pdnJ_0 := dnJ.fr hfk ppaI_0 pdnJ_0 (by decide) (by decide)
      have ppaI_0 := paI.fr hfk ppaI_0 (by decide) (by decide) (by decide) (by decide)
      have hfr := hfr.tr hfk (by decide)
      have hq492 := hlk
      have hq493 := hsk
      have hx := hNx
      change ab_W _ _ _ G484 318 [some (vR d_), some (vz pl), none] [vz (-1), vR d_] _
      refine ab_callV (d' := d - 1) (as := [vz (-1)]) (st := []) (r := _) (zN_RD_literal (o := o) (d_ := d_) ) (fun oc G2 h => by rcases h with ⟨h, _⟩ <;> exact ⟨_, h⟩) (by omega) m_RD_literal ml_RD_87 im_RD_literal se_RD_literal c_RD hd_.2.2 (Nat.le_of_ble_eq_true rfl) d_RD_part_318 rfl ?_
      intro v G496 hq
      rcases hq with ⟨hv, hGe⟩
      cases hv
      rw [hGe]
      change ab_W _ _ _ G484 321 [some (vR d_), some (vz pl), none] [vN] _
      refine ab_aret (rt := _) rfl (Or.inl ⟨_, rfl⟩) (Or.inl rfl) d_RD_part_321 ?_
      rw [hQ]; exact (Or.inl ⟨_, _, _, _, _, _, _, _, _, _, _, _, _, _, _, _, _, _, _, _, _, _, _, pl, fr, FS, rfl, hfr, hd_, hx, hna, hnl, ppaI_0, popI_0, pcsI_se, pszJ_0, pdnJ_0, (by omega), (by omega), (by omega), (by exact hnm), (by omega), (by exact psx.rf), (by omega), (by omega), (by omega), (by omega), (by omega), (by omega), (by omega), (by omega), (by first | exact hkf | (simp only [List.length_cons]; omega) | omega), (by first | exact hks | (simp only [List.length_cons]; omega) | omega), (by omega), (by exact Or.inl (Or.inl (Or.inr (Or.inr ⟨⟨fun z => by have t := tpk_at (f := f) (n := n) (i := pl) (by omega); have u := hb pl (by omega) (by omega); omega, fun z => c281 (hq3.trans z), fun z => c213 (hq3.trans z), fun z => c30 (hq3.trans z), fun z => c114 (hq3.trans z), fun z => c166 (hq3.trans z), fun z => c391 (hq3.trans z), fun z => c5 (hq3.trans z), fun z => c416 (hq3.trans z)⟩, hq464, hq485, by omega, by omega⟩))))⟩)
    · cases hv
      have hd_ := hfk.get hd_ (by decide)
      have hna := hfk.get hna (by decide)
      have hnl := hfk.get hnl (by decide)
      have hby_ := hfk.get hby_ (by decide)
      have h15 := hfk.get h15 (by decide)
      have h16 := hfk.get h16 (by decide)
      have popI_0 := opI.fr hfk ppaI_0 popI_0 (by decide) (by decide)
      have pcsI_se := csI.fr hfk pcsI_se (by decide) (by decide)
      have ptbI_0 := tbI.fr hfk ptbI_0  (by decide)
      have pszJ_0 := szJ.fr hfk ppaI_0 pszJ_0 (by decide) (by decide)
      have pdnJ_0 := dnJ.fr hfk ppaI_0 pdnJ_0 (by decide) (by decide)
      have ppaI_0 := paI.fr hfk ppaI_0 (by decide) (by decide) (by decide) (by decide)
      have hfr := hfr.tr hfk (by decide)
      have hq494 := hlk
      have hq495 := hsk
      have hx := hNx
      change ab_W _ _ _ G484 318 [some (vR d_), some (vz pl), none] [vz v486, vR d_] _
      have hgp : ¬ cs_gap v486 := by rw [hq488]; exact u8_gap hb (by rw [← hq488]; omega)
      have hew : p2487 ≤ n := by have t := u8_w (p := pl) hb (by rw [← hq488]; omega); rw [← hq488] at t; omega
      refine ab_callV (d' := d - 1) (as := [vz v486]) (st := []) (r := _) (z_RD_literal (o := o) (d_ := d_) (inn := inn) (dp := dp) (flg := flg) (grp := grp) (na := na) (nl := nl) (lst := l2460) (mst := m2461) (bh := bh2462) (x := x) (se := se) (by_ := by_) (n := n) (pl := p2487) (fa := fa) (fp := fp) (kd := kd) (kn := kn) (nb := nb) (cnt := cnt) (P := P) (ps := ps) (wt := wt) (bs := bs) (gr := grp) (ph := ph) (c := v486) hd_ hx h15 h16 ppaI_0 pcsI_se (by omega) (by omega) (by omega) hgp (by omega) (by omega) (by omega) (by omega) (by omega)) (fun oc G2 h => by rcases h with ⟨_, _, _, _, _, _, _, _, h, _⟩ <;> exact ⟨_, h⟩) (by omega) m_RD_literal ml_RD_87 im_RD_literal se_RD_literal c_RD hd_.2.2 (Nat.le_of_ble_eq_true rfl) d_RD_part_318 rfl ?_
      intro v G497 hq
      rcases hq with ⟨o498, p499, ps2500, wt2501, ph2502, nb2503, c2504, P2505, hv, hfk, pNpaI_0, pNcsI_se, hq506, hq507, hq508, hq509, hq510, hq511, hq512, hq513, hq514, hq515, hq516, hq517⟩
      cases hv
      have hd_ := hfk.get hd_ (by decide)
      have hx := hfk.get hx (by decide)
      have hna := hfk.get hna (by decide)
      have hnl := hfk.get hnl (by decide)
      have hby_ := hfk.get hby_ (by decide)
      have h15 := hfk.get h15 (by decide)
      have h16 := hfk.get h16 (by decide)
      have popI_0 := popI_0.fz (o2 := o498) hq509 (by simp)
      have ptbI_0 := tbI.fr hfk ptbI_0  (by decide)
      have pszJ_0 := pszJ_0.fzk (o2 := o498) hq509
      have pdnJ_0 := pdnJ_0.fzk (o2 := o498) hq509
      have ppaI_0 := pNpaI_0
      have pcsI_se := pNcsI_se
      have hfr := hfr.tr hfk (by decide)
      have hq518 := hfk.1
      change ab_W _ _ _ G497 321 [some (vR d_), some (vz pl), none] [vR p499] _
      have popI_0 : opI o498 G497 0 ps2500 k hi inn := opn_ps _ _ _ popI_0 (psx.lt hq506 (by omega))
      have pszJ_0 := (pszJ_0.leaf hq514 (s := (fi G497 p499 8)) ceq.rf (by have t := hq514.2.2.2.2.1.2.1; omega)).up (hi2 := p499) (by omega)
      have pdnJ_0 := (pdnJ_0.leaf hq514 hq515 hq517).up (hi2 := p499) (by omega)
      have popI_0 := opn_up (hi2 := p499) popI_0 (by omega)
      have popI_0 : opI o498 G497 0 ps2500 k p499 inn := popI_0
      refine ab_aret (rt := _) rfl (Or.inl ⟨_, rfl⟩) (Or.inr ⟨_, rfl⟩) d_RD_part_321 ?_
      rw [hQ]; exact (Or.inr (Or.inr ⟨_, _, _, _, _, _, _, _, _, _, _, _, _, _, _, _, _, _, _, _, _, _, _, p2487, fr, FS, (fi G497 p499 8), (mnS (chS (flg % 2) v486)), rfl, hfr, hd_, hx, hna, hnl, ppaI_0, popI_0, pcsI_se, pszJ_0, pdnJ_0, (by omega), (by omega), (by omega), (by exact hnm), (by omega), (by exact hq506.lt (by omega)), (by omega), (by omega), (by omega), (by omega), (by omega), (by omega), (by omega), (by omega), (by exact hq507), (by first | exact hkf | (simp only [List.length_cons]; omega) | omega), (by first | exact hks | (simp only [List.length_cons]; omega) | omega), (by omega), (by omega), (by exact Or.inl ⟨Or.inr (Or.inr (Or.inr (Or.inr (Or.inr ⟨⟨fun z => by have t := tpk_at (f := f) (n := n) (i := pl) (by omega); have u := hb pl (by omega) (by omega); omega, fun z => c281 (hq3.trans z), fun z => c213 (hq3.trans z), fun z => c30 (hq3.trans z), fun z => c114 (hq3.trans z), fun z => c166 (hq3.trans z), fun z => c391 (hq3.trans z), fun z => c5 (hq3.trans z), fun z => c416 (hq3.trans z)⟩, hq464, by rw [← hq488]; omega, by rw [← hq488]; omega, by rw [← hq488]; exact hq516⟩)))), rfl, rfl⟩), (by exact Or.inl ⟨Or.inr (Or.inr (Or.inr (Or.inr (Or.inr (Or.inr (⟨⟨fun z => by have t := tpk_at (f := f) (n := n) (i := pl) (by omega); have u := hb pl (by omega) (by omega); omega, fun z => c281 (hq3.trans z), fun z => c213 (hq3.trans z), fun z => c30 (hq3.trans z), fun z => c114 (hq3.trans z), fun z => c166 (hq3.trans z), fun z => c391 (hq3.trans z), fun z => c5 (hq3.trans z), fun z => c416 (hq3.trans z)⟩, by rw [← hq488]; omega, by rw [← hq488]; omega, by rw [← hq488]⟩)))))), rfl⟩), (by exact ⟨rfl, rfl, rfl⟩), (by omega)⟩))
