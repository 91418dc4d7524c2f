set_option maxRecDepth 100000 in
set_option maxHeartbeats 4000000 in
theorem y_RD_read_58 {X : ab_X} {d : Nat} {Q : Outcome → ab_G → Prop} {o0 : Nat → Nat} {G0 : ab_G} {d_ : Nat} {na : Nat} {nl : Nat} {x : Nat} {se : Nat} {by_ : Nat} {m : Nat} {f : Int → Int} {n : Int} {bs : Nat} {wh : Nat} {n0 : Nat} {t : Nat} {fl0 : Int} (n18 : ab_n0 = 18) (cn_ : 0 ≤ n ∧ n ≤ ↑m ∧ m ≤ 2000) (hb : bytes f n) (cbs : bs ≤ G0.length ∧ 18 ≤ G0.length) (rc : G0.length + 40000 ≤ ab_n0 + room_1.cells) (rs : ab_slots G0 + 630000 ≤ room_1.slots + 2 * n0) (hd : 12 ≤ d) : ∀ (mz : Nat) {G : ab_G} {o : Nat → Nat} {inn : Value} {dp : Int} {flg : Int} {grp : Int} {lst : Int} {mst : Int} {bh : Int} {NA : Int → Int} {NL : Int → Int} {pl : Int} {fa : Int} {fp : Int} {kd : Nat} {kn : Int} {ps : Nat → Nat} {wt : Nat → Wt} {ph : Int} {k : Nat} {hi : Nat} {fr : List Fr} {FS : List Fs} {nb : Nat} {cnt : Int} {P : Int → Prop} {tu : Int} {cp : Int}, (cc o G d_ 25 (ab_ob 6 [vR x, inn, vz dp, vz flg, vz grp, vR na, vR nl, vz lst, vz mst, vz bh])) → (cc o G x 24 (ab_ob 10 [vR se, vR by_, vz n, vz pl, vz fa, vz fp, vR kd, vz kn])) → (cc o G na 86 (za 10 NA)) → (cc o G nl 87 (za 10 NL)) → (cc o G by_ 23 (za m f)) → (cc o G 15 15 (za 18 zAR)) → (cc o G 16 16 (za 20 zAF)) → (paI o G 0 ps wt bs grp pr0 ph) → (opI o G 0 ps k hi inn) → (csI o G se 88 89 nb cnt P) → (tbI o G 0) → (szJ o G 0 ps fr hi inn wh 0 0) → (dnJ o G 0 ps wt FS hi inn 0 mnI) → (0 ≤ flg ∧ flg ≤ 31) → (0 ≤ grp ∧ grp ≤ 9) → (0 ≤ dp ∧ dp ≤ 30 ∧ ↑k = dp + 1 ∧ hi ≤ G.length) → (nmok NA NL grp n) → (1 ≤ kd ∧ kd ≤ 12 ∧ 0 ≤ kn ∧ kn ≤ 1) → (0 ≤ fa ∧ fa ≤ 14) → (0 ≤ pl ∧ pl ≤ 9001) → (nb ≤ 104000) → (0 ≤ cp ∧ cp ≤ n ∧ cp ≤ pl ∧ ph ≤ 25 * cp) → (0 ≤ tu ∧ tu ≤ n) → (ps wh = 90) → (wh < G.length) → (k = fr.length) → (k = FS.length) → (rdH f n fl0 pl flg grp NA NL fr FS fa fp) → (tu ≤ pl + 3000 * fa) → (G0.length ≤ G.length) → (64 * (↑G.length : Int) + ↑n0 ≤ 64 * ↑G0.length + ↑nb + 400 * tu) → ((↑(ab_slots G) : Int) + 2 * ↑n0 ≤ ↑(ab_slots G0) + 2 * ↑nb + 100 * cp) → (fx o0 o [24, 25, 86, 87, 88, 89, 90, 92, 94] G0 G) → (Int.toNat (n + 1 - tu) < mz) → (∀ (G2 : ab_G) (o2 : Nat → Nat) (inn : Value) (dp : Int) (flg : Int) (grp : Int) (lst : Int) (mst : Int) (bh : Int) (NA : Int → Int) (NL : Int → Int) (pl : Int) (fa : Int) (fp : Int) (kd : Nat) (kn : Int) (ps : Nat → Nat) (wt : Nat → Wt) (ph : Int) (k : Nat) (hi : Nat) (fr : List Fr) (FS : List Fs) (nb : Nat) (cnt : Int) (P : Int → Prop) (cp : Int), (cc o2 G2 d_ 25 (ab_ob 6 [vR x, inn, vz dp, vz flg, vz grp, vR na, vR nl, vz lst, vz mst, vz bh])) → (cc o2 G2 x 24 (ab_ob 10 [vR se, vR by_, vz n, vz pl, vz fa, vz fp, vR kd, vz kn])) → (cc o2 G2 na 86 (za 10 NA)) → (cc o2 G2 nl 87 (za 10 NL)) → (cc o2 G2 by_ 23 (za m f)) → (cc o2 G2 15 15 (za 18 zAR)) → (cc o2 G2 16 16 (za 20 zAF)) → (paI o2 G2 0 ps wt bs grp pr0 ph) → (opI o2 G2 0 ps k hi inn) → (csI o2 G2 se 88 89 nb cnt P) → (tbI o2 G2 0) → (szJ o2 G2 0 ps fr hi inn wh 0 0) → (dnJ o2 G2 0 ps wt FS hi inn 0 mnI) → (0 ≤ flg ∧ flg ≤ 31) → (0 ≤ grp ∧ grp ≤ 9) → (0 ≤ dp ∧ dp ≤ 30 ∧ ↑k = dp + 1 ∧ hi ≤ G2.length) → (nmok NA NL grp n) → (1 ≤ kd ∧ kd ≤ 12 ∧ 0 ≤ kn ∧ kn ≤ 1) → (0 ≤ fa ∧ fa ≤ 14) → (0 ≤ pl ∧ pl ≤ 9001) → (nb ≤ 104000) → (0 ≤ cp ∧ cp ≤ n ∧ cp ≤ pl ∧ ph ≤ 25 * cp) → (ps wh = 90) → (wh < G2.length) → (k = fr.length) → (k = FS.length) → (rdH f n fl0 pl flg grp NA NL fr FS fa fp) → (n ≤ pl + 20000 * fa) → (64 * (↑G2.length : Int) + ↑n0 ≤ 64 * ↑G0.length + ↑nb + 400 * n) → ((↑(ab_slots G2) : Int) + 2 * ↑n0 ≤ ↑(ab_slots G0) + 2 * ↑nb + 100 * cp) → (fx o0 o2 [24, 25, 86, 87, 88, 89, 90, 92, 94] G0 G2) → ab_W X (ab_pl y_RD_read b_RD_read 6 (some (.object "PatternWorks$Part"))) d G2 120 [some (vR d_), none, none, some (vR wh), none, none] [] Q) → ab_W X (ab_pl y_RD_read b_RD_read 6 (some (.object "PatternWorks$Part"))) d G 58 [some (vR d_), some (vR t), none, some (vR wh), some (vz tu), none] [] Q := by
  intro mz
  induction mz with
  | zero => intro G o inn dp flg grp lst mst bh NA NL pl fa fp kd kn ps wt ph k hi fr FS nb cnt P tu cp hd_ hx hna hnl hby_ h15 h16 ppaI_0 popI_0 pcsI_se ptbI_0 pszJ_0 pdnJ_0 cf cg ck hnm ckd cfa cpl hnb ccp ctu hpw cwh hkf hks hrd ctp hgl hg hs hfr hm hk0; exact absurd hm (Nat.not_lt_zero _)
  | succ mz ih =>
    intro G o inn dp flg grp lst mst bh NA NL pl fa fp kd kn ps wt ph k hi fr FS nb cnt P tu cp hd_ hx hna hnl hby_ h15 h16 ppaI_0 popI_0 pcsI_se ptbI_0 pszJ_0 pdnJ_0 cf cg ck hnm ckd cfa cpl hnb ccp ctu hpw cwh hkf hks hrd ctp hgl hg hs hfr hm hk0
    refine ab_iload d_RD_read_58 rfl ?_
    refine ab_aload_n d_RD_read_60 rfl ?_
    refine ab_getf (fs := [vR x, inn, vz dp, vz flg, vz grp, vR na, vR nl, vz lst, vz mst, vz bh]) f_RD_12 d_RD_read_61 hd_.2.2 rfl ?_
    refine ab_getf (fs := [vR se, vR by_, vz n, vz pl, vz fa, vz fp, vR kd, vz kn]) f_RD_52 d_RD_read_64 hx.2.2 rfl ?_
    refine zz_icmp_ge (tgt := 120) d_RD_read_67 (by decide) (by omega) (by omega) (fun c1 => ?_) (fun c1 => ?_)
    · refine ab_less (L' := [some (vR d_), none, none, some (vR wh), none, none]) (fun i v h => by rcases i with _ | _ | _ | _ | _ | _ | i <;> first | exact h | (simp at h)) ?_
      exact hk0 _ _ _ _ _ _ _ _ _ _ _ _ _ _ _ _ _ _ _ _ _ _ _ _ _ _ _ hd_ hx hna hnl hby_ h15 h16 ppaI_0 popI_0 pcsI_se ptbI_0 pszJ_0 pdnJ_0 (by omega) (by omega) (by omega) (by exact hnm) (by omega) (by omega) (by omega) (by omega) (by omega) (by exact hpw) (by omega) (by exact hkf) (by exact hks) (by exact hrd) (by omega) (by omega) (by omega) hfr
    · refine ab_aload_n d_RD_read_70 rfl ?_
      refine ab_getf (fs := [vR x, inn, vz dp, vz flg, vz grp, vR na, vR nl, vz lst, vz mst, vz bh]) f_RD_12 d_RD_read_71 hd_.2.2 rfl ?_
      refine ab_getf (fs := [vR se, vR by_, vz n, vz pl, vz fa, vz fp, vR kd, vz kn]) f_RD_55 d_RD_read_74 hx.2.2 rfl ?_
      refine ab_aload_n d_RD_read_77 rfl ?_
      refine ab_getf (fs := [vR x, inn, vz dp, vz flg, vz grp, vR na, vR nl, vz lst, vz mst, vz bh]) f_RD_12 d_RD_read_78 hd_.2.2 rfl ?_
      refine ab_getf (fs := [vR se, vR by_, vz n, vz pl, vz fa, vz fp, vR kd, vz kn]) f_RD_52 d_RD_read_81 hx.2.2 rfl ?_
      refine zz_icmp_ge (tgt := 120) d_RD_read_84 (by decide) (by omega) (by omega) (fun c2 => ?_) (fun c2 => ?_)
      · refine ab_less (L' := [some (vR d_), none, none, some (vR wh), none, none]) (fun i v h => by rcases i with _ | _ | _ | _ | _ | _ | i <;> first | exact h | (simp at h)) ?_
        exact hk0 _ _ _ _ _ _ _ _ _ _ _ _ _ _ _ _ _ _ _ _ _ _ _ _ _ _ _ hd_ hx hna hnl hby_ h15 h16 ppaI_0 popI_0 pcsI_se ptbI_0 pszJ_0 pdnJ_0 (by omega) (by omega) (by omega) (by exact hnm) (by omega) (by omega) (by omega) (by omega) (by omega) (by exact hpw) (by omega) (by exact hkf) (by exact hks) (by exact hrd) (by omega) (by omega) (by omega) hfr
      · refine ab_aload_n d_RD_read_87 rfl ?_
        refine ab_getf (fs := [vR x, inn, vz dp, vz flg, vz grp, vR na, vR nl, vz lst, vz mst, vz bh]) f_RD_12 d_RD_read_88 hd_.2.2 rfl ?_
        refine ab_getf (fs := [vR se, vR by_, vz n, vz pl, vz fa, vz fp, vR kd, vz kn]) f_RD_58 d_RD_read_91 hx.2.2 rfl ?_
        refine zz_if_ne (tgt := 120) d_RD_read_94 (by decide) (by omega) (fun c3 => ?_) (fun c3 => ?_)
        · refine ab_less (L' := [some (vR d_), none, none, some (vR wh), none, none]) (fun i v h => by rcases i with _ | _ | _ | _ | _ | _ | i <;> first | exact h | (simp at h)) ?_
          exact hk0 _ _ _ _ _ _ _ _ _ _ _ _ _ _ _ _ _ _ _ _ _ _ _ _ _ _ _ hd_ hx hna hnl hby_ h15 h16 ppaI_0 popI_0 pcsI_se ptbI_0 pszJ_0 pdnJ_0 (by omega) (by omega) (by omega) (by exact hnm) (by omega) (by omega) (by omega) (by omega) (by omega) (by exact hpw) (by omega) (by exact hkf) (by exact hks) (by exact hrd) (by omega) (by omega) (by omega) hfr
        · refine ab_aload_n d_RD_read_97 rfl ?_
          have hfp_ := rdH_p hrd (by omega)
          refine ab_callV (d' := d - 1) (as := []) (st := []) (r := _) (z_RD_part (o := o) (d_ := d_) (inn := inn) (dp := dp) (flg := flg) (grp := grp) (na := na) (nl := nl) (lst := lst) (mst := mst) (bh := bh) (NA := NA) (NL := NL) (x := x) (se := se) (by_ := by_) (m := m) (f := f) (n := n) (pl := pl) (fa := fa) (fp := fp) (kd := kd) (kn := kn) (ps := ps) (wt := wt) (bs := bs) (ph := ph) (k := k) (hi := hi) (wh := wh) (fr := fr) (FS := FS) (nb := nb) (cnt := cnt) (P := P) hd_ hx hna hnl hby_ h15 h16 ppaI_0 popI_0 pcsI_se ptbI_0 pszJ_0 pdnJ_0 (by omega) (by omega) (by omega) (by omega) hb (by omega) (by omega) (by omega) hnm (by omega) (by omega) (by omega) (by omega) (by omega) (by omega) (by omega) (by omega) (by omega)) (fun oc G2 h => by rcases h with ⟨_, _, _, _, _, _, _, _, _, _, _, _, _, _, _, _, _, _, _, _, _, _, _, _, _, _, h, _⟩ | ⟨_, _, _, _, _, _, _, _, _, _, _, _, _, _, _, _, _, _, _, _, _, _, _, _, _, _, h, _⟩ | ⟨_, _, _, _, _, _, _, _, _, _, _, _, _, _, _, _, _, _, _, _, _, _, _, _, _, _, _, _, h, _⟩ <;> exact ⟨_, h⟩) (by omega) m_RD_part ml_RD_61 im_RD_part se_RD_part c_RD hd_.2.2 (Nat.le_of_ble_eq_true rfl) d_RD_read_98 rfl ?_
          intro v G4 hq
          rcases hq with ⟨o5, inn26, dp27, flg28, grp29, NA210, NL211, lst212, mst213, bh214, p215, fa216, fp217, kd218, kn219, k220, hi221, ps222, wt223, ph224, nb225, c226, P227, q228, fr229, FS230, hv, hfk, hNd_, hNx, hNna, hNnl, pNpaI_0, pNopI_0, pNcsI_se, pNszJ_0, pNdnJ_0, hq31, hq32, hq33, hq34, hq35, hq36, hq37, hq38, hq39, hq40, hq41, hq42, hq43, hq44, hq45, hq46, hq47, hq48⟩ | ⟨o49, inn250, dp251, flg252, grp253, NA254, NL255, lst256, mst257, bh258, p259, fa260, fp261, kd262, kn263, k264, hi265, ps266, wt267, ph268, nb269, c270, P271, q272, fr273, FS274, hv, hfk, hNd_, hNx, hNna, hNnl, pNpaI_0, pNopI_0, pNcsI_se, pNszJ_0, pNdnJ_0, hq75, hq76, hq77, hq78, hq79, hq80, hq81, hq82, hq83, hq84, hq85, hq86, hq87, hq88, hq89, hq90, hq91, hq92, hq93, hq94, hq95⟩ | ⟨o96, p97, inn298, dp299, flg2100, grp2101, NA2102, NL2103, lst2104, mst2105, bh2106, p2107, fa2108, fp2109, kd2110, kn2111, k2112, ps2113, wt2114, ph2115, nb2116, c2117, P2118, q2119, fr2120, FS2121, psz2122, ov2123, hv, hfk, hNd_, hNx, hNna, hNnl, pNpaI_0, pNopI_0, pNcsI_se, pNszJ_0, pNdnJ_0, hq124, hq125, hq126, hq127, hq128, hq129, hq130, hq131, hq132, hq133, hq134, hq135, hq136, hq137, hq138, hq139, hq140, hq141, hq142, hq143, hq144, hq145, hq146⟩
          · cases hv
            have hby_ := hfk.get hby_ (by decide)
            have h15 := hfk.get h15 (by decide)
            have h16 := hfk.get h16 (by decide)
            have ptbI_0 := tbI.fr hfk ptbI_0  (by decide)
            have ppaI_0 := pNpaI_0
            have popI_0 := pNopI_0
            have pcsI_se := pNcsI_se
            have pszJ_0 := pNszJ_0
            have pdnJ_0 := pNdnJ_0
            have hfr := hfr.tr hfk (by decide)
            have hq147 := hfk.1
            have hd_ := hNd_
            have hx := hNx
            have hna := hNna
            have hnl := hNnl
            change ab_W _ _ _ G4 101 [some (vR d_), some (vR t), none, some (vR wh), some (vz tu), none] [vN] _
            have hp150 : ps222 wh = 90 := hq36.at (by omega) hpw
            refine ab_astoreN d_RD_read_101 (Nat.le_of_ble_eq_true rfl) (Nat.le_of_ble_eq_true rfl) rfl ?_
            change ab_W _ _ _ G4 103 [some (vR d_), some (vR t), none, some (vR wh), some (vz tu), some (vN)] [] _
            refine ab_aloadN d_RD_read_103 rfl ?_
            refine ab_ifnullN (tgt := 114) d_RD_read_105 (by decide) ?_
            refine zz_iinc d_RD_read_114 rfl (Nat.le_of_ble_eq_true rfl) (Nat.le_of_ble_eq_true rfl) rfl ?_
            change ab_W _ _ _ G4 117 [some (vR d_), some (vR t), none, some (vR wh), some (vz (tu + 1)), some (vN)] [] _
            refine ab_goto (tgt := 58) d_RD_read_117 (by decide) ?_
            refine ab_less (L' := [some (vR d_), some (vR t), none, some (vR wh), some (vz (tu + 1)), none]) (fun i v h => by rcases i with _ | _ | _ | _ | _ | _ | i <;> first | exact h | (simp at h)) ?_
            exact ih (inn := inn26) (dp := dp27) (flg := flg28) (grp := grp29) (lst := lst212) (mst := mst213) (bh := bh214) (NA := NA210) (NL := NL211) (pl := p215) (fa := fa216) (fp := fp217) (kd := kd218) (kn := kn219) (ps := ps222) (wt := wt223) (ph := ph224) (k := k220) (hi := hi221) (fr := fr229) (FS := FS230) (nb := nb225) (cnt := c226) (P := P227) (tu := (tu + 1)) (cp := (cp + (q228 - pl))) hd_ hx hna hnl hby_ h15 h16 ppaI_0 popI_0 pcsI_se ptbI_0 pszJ_0 pdnJ_0 (by omega) (by omega) (by omega) (hq34) (by omega) (by omega) (by omega) (by omega) (by omega) (by omega) hp150 (by omega) (by first | rfl | omega | (simp only [List.length_cons]; omega)) (by first | rfl | omega | (simp only [List.length_cons]; omega)) (rdH_F hrd (by omega) (by omega) (by omega) hq48 (by omega)) (by omega) (by omega) (by omega) (by omega) hfr (by omega) hk0
          · cases hv
            have hby_ := hfk.get hby_ (by decide)
            have h15 := hfk.get h15 (by decide)
            have h16 := hfk.get h16 (by decide)
            have ptbI_0 := tbI.fr hfk ptbI_0  (by decide)
            have ppaI_0 := pNpaI_0
            have popI_0 := pNopI_0
            have pcsI_se := pNcsI_se
            have pszJ_0 := pNszJ_0
            have pdnJ_0 := pNdnJ_0
            have hfr := hfr.tr hfk (by decide)
            have hq148 := hfk.1
            have hd_ := hNd_
            have hx := hNx
            have hna := hNna
            have hnl := hNnl
            change ab_W _ _ _ G4 101 [some (vR d_), some (vR t), none, some (vR wh), some (vz tu), none] [vN] _
            have hp151 : ps266 wh = 90 := hq80.at (by omega) hpw
            refine ab_astoreN d_RD_read_101 (Nat.le_of_ble_eq_true rfl) (Nat.le_of_ble_eq_true rfl) rfl ?_
            change ab_W _ _ _ G4 103 [some (vR d_), some (vR t), none, some (vR wh), some (vz tu), some (vN)] [] _
            refine ab_aloadN d_RD_read_103 rfl ?_
            refine ab_ifnullN (tgt := 114) d_RD_read_105 (by decide) ?_
            refine zz_iinc d_RD_read_114 rfl (Nat.le_of_ble_eq_true rfl) (Nat.le_of_ble_eq_true rfl) rfl ?_
            change ab_W _ _ _ G4 117 [some (vR d_), some (vR t), none, some (vR wh), some (vz (tu + 1)), some (vN)] [] _
            refine ab_goto (tgt := 58) d_RD_read_117 (by decide) ?_
            refine ab_less (L' := [some (vR d_), some (vR t), none, some (vR wh), some (vz (tu + 1)), none]) (fun i v h => by rcases i with _ | _ | _ | _ | _ | _ | i <;> first | exact h | (simp at h)) ?_
            exact ih (inn := inn250) (dp := dp251) (flg := flg252) (grp := grp253) (lst := lst256) (mst := mst257) (bh := bh258) (NA := NA254) (NL := NL255) (pl := p259) (fa := fa260) (fp := fp261) (kd := kd262) (kn := kn263) (ps := ps266) (wt := wt267) (ph := ph268) (k := k264) (hi := hi265) (fr := fr273) (FS := FS274) (nb := nb269) (cnt := c270) (P := P271) (tu := (tu + 1)) (cp := (cp + (q272 - pl))) hd_ hx hna hnl hby_ h15 h16 ppaI_0 popI_0 pcsI_se ptbI_0 pszJ_0 pdnJ_0 (by omega) (by omega) (by omega) (hq78) (by omega) (by omega) (by omega) (by omega) (by omega) (by omega) hp151 (by omega) (by first | rfl | omega | (simp only [List.length_cons]; omega)) (by first | rfl | omega | (simp only [List.length_cons]; omega)) (rdH_N hrd (by omega) (by omega) hq93 hq94 (by omega) (by omega)) (by omega) (by omega) (by omega) (by omega) hfr (by omega) hk0
          · cases hv
            have hby_ := hfk.get hby_ (by decide)
            have h15 := hfk.get h15 (by decide)
            have h16 := hfk.get h16 (by decide)
            have ptbI_0 := tbI.fr hfk ptbI_0  (by decide)
            have ppaI_0 := pNpaI_0
            have popI_0 := pNopI_0
            have pcsI_se := pNcsI_se
            have pszJ_0 := pNszJ_0
            have pdnJ_0 := pNdnJ_0
            have hfr := hfr.tr hfk (by decide)
            have hq149 := hfk.1
            have hd_ := hNd_
            have hx := hNx
            have hna := hNna
            have hnl := hNnl
            change ab_W _ _ _ G4 101 [some (vR d_), some (vR t), none, some (vR wh), some (vz tu), none] [vR p97] _
            have hp152 : ps2113 wh = 90 := hq129.at (by omega) hpw
            refine ab_astore d_RD_read_101 (Nat.le_of_ble_eq_true rfl) (Nat.le_of_ble_eq_true rfl) rfl ?_
            change ab_W _ _ _ G4 103 [some (vR d_), some (vR t), none, some (vR wh), some (vz tu), some (vR p97)] [] _
            refine ab_aload d_RD_read_103 rfl ?_
            refine ab_ifnull d_RD_read_105 ?_
            refine ab_aload_n d_RD_read_108 rfl ?_
            refine ab_aload d_RD_read_109 rfl ?_
            refine ab_callV (d' := d - 1) (as := [vR p97]) (st := []) (r := _) (z_RD_append (o := o96) (d_ := d_) (inn := inn298) (dp := dp299) (flg := flg2100) (grp := grp2101) (na := na) (nl := nl) (lst := lst2104) (mst := mst2105) (bh := bh2106) (x := x) (se := se) (by_ := by_) (m := m) (f := f) (n := n) (pl := p2107) (fa := fa2108) (fp := fp2109) (kd := kd2110) (kn := kn2111) (ps := ps2113) (wt := wt2114) (bs := bs) (ph := ph2115) (k := k2112) (wh := wh) (fr := fr2120) (FS := FS2121) (p := p97) (psz := psz2122) (ov := ov2123) hd_ hx hby_ ppaI_0 popI_0 pszJ_0 pdnJ_0 (by omega) (by omega) (by omega) (by omega) hb (by omega) (by omega) (by omega) (by omega) (by omega) hq138 (by omega)) (fun oc G2 h => by rcases h with ⟨_, _, _, _, _, _, _, _, _, _, _, _, _, _, h, _⟩ | ⟨_, _, _, _, _, _, _, _, _, _, _, _, _, _, _, _, h, _⟩ | ⟨_, _, _, _, _, _, _, _, _, _, _, _, _, _, h, _⟩ <;> exact ⟨_, h⟩) (by omega) m_RD_append ml_RD_65 im_RD_append se_RD_append c_RD hd_.2.2 (Nat.le_of_ble_eq_true rfl) d_RD_read_111 rfl ?_
            intro v G153 hq
            rcases hq with ⟨lst2154, mst2155, bh2156, a1_157, b1_158, c1_159, d1_160, e1_161, t_162, ao_163, ro_164, ts_165, inn2166, hi2167, hv, hfk, hlk, hsk, hNd_, hNx, pNpaI_0, pNopI_0, pNszJ_0, pNdnJ_0, hq168, hq169, hq170, hq171, hq172⟩ | ⟨lst2173, mst2174, bh2175, a1_176, b1_177, c1_178, d1_179, e1_180, t_181, ao_182, ro_183, ts_184, p2185, kd9186, inn2187, hi2188, hv, hfk, hlk, hsk, hNd_, hNx, pNpaI_0, pNopI_0, pNszJ_0, pNdnJ_0, hq189, hq190, hq191, hq192, hq193, hq194, hq195⟩ | ⟨lst2196, mst2197, bh2198, a1_199, b1_200, c1_201, d1_202, e1_203, t_204, ao_205, ro_206, ts_207, inn2208, hi2209, hv, hfk, hlk, hsk, hNd_, hNx, pNpaI_0, pNopI_0, pNszJ_0, pNdnJ_0, hq210, hq211, hq212, hq213⟩
            · cases hv
              have hna := hfk.get hna (by decide)
              have hnl := hfk.get hnl (by decide)
              have hby_ := hfk.get hby_ (by decide)
              have h15 := hfk.get h15 (by decide)
              have h16 := hfk.get h16 (by decide)
              have pcsI_se := csI.fr hfk pcsI_se (by decide) (by decide)
              have ptbI_0 := tbI.fr hfk ptbI_0  (by decide)
              have ppaI_0 := pNpaI_0
              have popI_0 := pNopI_0
              have pszJ_0 := pNszJ_0
              have pdnJ_0 := pNdnJ_0
              have hfr := hfr.tr hfk (by decide)
              have hq214 := hlk
              have hq215 := hsk
              have hd_ := hNd_
              have hx := hNx
              change ab_W _ _ _ G153 114 [some (vR d_), some (vR t), none, some (vR wh), some (vz tu), some (vR p97)] [] _
              refine zz_iinc d_RD_read_114 rfl (Nat.le_of_ble_eq_true rfl) (Nat.le_of_ble_eq_true rfl) rfl ?_
              change ab_W _ _ _ G153 117 [some (vR d_), some (vR t), none, some (vR wh), some (vz (tu + 1)), some (vR p97)] [] _
              refine ab_goto (tgt := 58) d_RD_read_117 (by decide) ?_
              refine ab_less (L' := [some (vR d_), some (vR t), none, some (vR wh), some (vz (tu + 1)), none]) (fun i v h => by rcases i with _ | _ | _ | _ | _ | _ | i <;> first | exact h | (simp at h)) ?_
              exact ih (inn := inn2166) (dp := dp299) (flg := flg2100) (grp := grp2101) (lst := lst2154) (mst := mst2155) (bh := bh2156) (NA := NA2102) (NL := NL2103) (pl := p2107) (fa := 9) (fp := p2107) (kd := kd2110) (kn := kn2111) (ps := ps2113) (wt := wt2114) (ph := ph2115) (k := k2112) (hi := hi2167) (fr := fr2120) (FS := FS2121) (nb := nb2116) (cnt := c2117) (P := P2118) (tu := (tu + 1)) (cp := (cp + (q2119 - pl))) hd_ hx hna hnl hby_ h15 h16 ppaI_0 popI_0 pcsI_se ptbI_0 pszJ_0 pdnJ_0 (by omega) (by omega) (by omega) (hq127) (by omega) (by omega) (by omega) (by omega) (by omega) (by omega) hp152 (by omega) (by first | rfl | omega | (simp only [List.length_cons]; omega) | (have t := congrArg List.length hq168; simp only [List.length_cons] at t ⊢; omega)) (by first | rfl | omega | (simp only [List.length_cons]; omega) | (have t := congrArg List.length hq169; simp only [List.length_cons] at t ⊢; omega)) (rdH_9 hrd (by omega) hq143 hq168 hq144 hq169 hq170 hq171) (by omega) (by omega) (by omega) (by omega) hfr (by omega) hk0
            · cases hv
              have hna := hfk.get hna (by decide)
              have hnl := hfk.get hnl (by decide)
              have hby_ := hfk.get hby_ (by decide)
              have h15 := hfk.get h15 (by decide)
              have h16 := hfk.get h16 (by decide)
              have pcsI_se := csI.fr hfk pcsI_se (by decide) (by decide)
              have ptbI_0 := tbI.fr hfk ptbI_0  (by decide)
              have ppaI_0 := pNpaI_0
              have popI_0 := pNopI_0
              have pszJ_0 := pNszJ_0
              have pdnJ_0 := pNdnJ_0
              have hfr := hfr.tr hfk (by decide)
              have hq216 := hlk
              have hq217 := hsk
              have hd_ := hNd_
              have hx := hNx
              change ab_W _ _ _ G153 114 [some (vR d_), some (vR t), none, some (vR wh), some (vz tu), some (vR p97)] [] _
              refine zz_iinc d_RD_read_114 rfl (Nat.le_of_ble_eq_true rfl) (Nat.le_of_ble_eq_true rfl) rfl ?_
              change ab_W _ _ _ G153 117 [some (vR d_), some (vR t), none, some (vR wh), some (vz (tu + 1)), some (vR p97)] [] _
              refine ab_goto (tgt := 58) d_RD_read_117 (by decide) ?_
              refine ab_less (L' := [some (vR d_), some (vR t), none, some (vR wh), some (vz (tu + 1)), none]) (fun i v h => by rcases i with _ | _ | _ | _ | _ | _ | i <;> first | exact h | (simp at h)) ?_
              exact ih (inn := inn2187) (dp := dp299) (flg := flg2100) (grp := grp2101) (lst := lst2173) (mst := mst2174) (bh := bh2175) (NA := NA2102) (NL := NL2103) (pl := p2185) (fa := fa2108) (fp := fp2109) (kd := kd2110) (kn := kn2111) (ps := ps2113) (wt := wt2114) (ph := ph2115) (k := k2112) (hi := hi2188) (fr := ((a1_176, b1_177, c1_178, d1_179, (e1_180 + (tms lst2173 mst2174 * psz2122 + mre lst2173 mst2174))) :: t_181)) (FS := ((ao_182, (mnC ro_183 (mnR lst2173 mst2174 (lzR f n bh2175 flg2100) ov2123))) :: ts_184)) (nb := nb2116) (cnt := c2117) (P := P2118) (tu := (tu + 1)) (cp := (cp + (q2119 - pl))) hd_ hx hna hnl hby_ h15 h16 ppaI_0 popI_0 pcsI_se ptbI_0 pszJ_0 pdnJ_0 (by omega) (by omega) (by omega) (hq127) (by omega) (by omega) (by omega) (by omega) (by omega) (by omega) hp152 (by omega) (by first | rfl | omega | (simp only [List.length_cons]; omega) | (have t := congrArg List.length hq189; simp only [List.length_cons] at t ⊢; omega)) (by first | rfl | omega | (simp only [List.length_cons]; omega) | (have t := congrArg List.length hq190; simp only [List.length_cons] at t ⊢; omega)) (by obtain ⟨y1, y2, y3⟩ := hq145; rw [y1, y2, y3]; exact rdH_r hrd (by omega) hq143 hq189 hq144 hq190 hq191 hq192 hq193 (by omega) (by omega)) (by omega) (by omega) (by omega) (by omega) hfr (by omega) hk0
            · cases hv
              have hna := hfk.get hna (by decide)
              have hnl := hfk.get hnl (by decide)
              have hby_ := hfk.get hby_ (by decide)
              have h15 := hfk.get h15 (by decide)
              have h16 := hfk.get h16 (by decide)
              have pcsI_se := csI.fr hfk pcsI_se (by decide) (by decide)
              have ptbI_0 := tbI.fr hfk ptbI_0  (by decide)
              have ppaI_0 := pNpaI_0
              have popI_0 := pNopI_0
              have pszJ_0 := pNszJ_0
              have pdnJ_0 := pNdnJ_0
              have hfr := hfr.tr hfk (by decide)
              have hq218 := hlk
              have hq219 := hsk
              have hd_ := hNd_
              have hx := hNx
              change ab_W _ _ _ G153 114 [some (vR d_), some (vR t), none, some (vR wh), some (vz tu), some (vR p97)] [] _
              refine zz_iinc d_RD_read_114 rfl (Nat.le_of_ble_eq_true rfl) (Nat.le_of_ble_eq_true rfl) rfl ?_
              change ab_W _ _ _ G153 117 [some (vR d_), some (vR t), none, some (vR wh), some (vz (tu + 1)), some (vR p97)] [] _
              refine ab_goto (tgt := 58) d_RD_read_117 (by decide) ?_
              refine ab_less (L' := [some (vR d_), some (vR t), none, some (vR wh), some (vz (tu + 1)), none]) (fun i v h => by rcases i with _ | _ | _ | _ | _ | _ | i <;> first | exact h | (simp at h)) ?_
              exact ih (inn := inn2208) (dp := dp299) (flg := flg2100) (grp := grp2101) (lst := lst2196) (mst := mst2197) (bh := bh2198) (NA := NA2102) (NL := NL2103) (pl := p2107) (fa := fa2108) (fp := fp2109) (kd := kd2110) (kn := kn2111) (ps := ps2113) (wt := wt2114) (ph := ph2115) (k := k2112) (hi := hi2209) (fr := ((a1_199, b1_200, c1_201, d1_202, (e1_203 + (tms 1 1 * psz2122 + mre 1 1))) :: t_204)) (FS := ((ao_205, (mnC ro_206 ov2123)) :: ts_207)) (nb := nb2116) (cnt := c2117) (P := P2118) (tu := (tu + 1)) (cp := (cp + (q2119 - pl))) hd_ hx hna hnl hby_ h15 h16 ppaI_0 popI_0 pcsI_se ptbI_0 pszJ_0 pdnJ_0 (by omega) (by omega) (by omega) (hq127) (by omega) (by omega) (by omega) (by omega) (by omega) (by omega) hp152 (by omega) (by first | rfl | omega | (simp only [List.length_cons]; omega) | (have t := congrArg List.length hq210; simp only [List.length_cons] at t ⊢; omega)) (by first | rfl | omega | (simp only [List.length_cons]; omega) | (have t := congrArg List.length hq211; simp only [List.length_cons] at t ⊢; omega)) (by obtain ⟨y1, y2, y3⟩ := hq145; rw [y1, y2, y3]; exact rdH_n hrd (by omega) hq143 hq210 hq144 hq211 hq212 (by omega) (by omega)) (by omega) (by omega) (by omega) (by omega) hfr (by omega) hk0
set_option maxRecDepth 100000 in
set_option maxHeartbeats 4000000 in
theorem z_RD_read {X : ab_X} {d : Nat} {o : Nat → Nat} {G : ab_G} {d_ : Nat} {inn : Value} {dp : Int} {flg : Int} {grp : Int} {na : Nat} {nl : Nat} {lst : Int} {mst : Int} {bh : Int} {NA : Int → Int} {NL : Int → Int} {x : Nat} {se : Nat} {by0 : Nat} {n9 : Int} {pl : Int} {fa : Int} {fp : Int} {kd : Nat} {kn : Int} {nb : Nat} {cnt : Int} {P : Int → Prop} {t : Nat} {lim : Int} {by_ : Nat} {n : Int} {m : Nat} {f : Int → Int} {fl0 : Int} (hd_ : cc o G d_ 25 (ab_ob 6 [vR x, inn, vz dp, vz flg, vz grp, vR na, vR nl, vz lst, vz mst, vz bh])) (hx : cc o G x 24 (ab_ob 10 [vR se, vR by0, vz n9, vz pl, vz fa, vz fp, vR kd, vz kn])) (ht : cc o G t 22 (ab_ob 7 [vz lim, vR by_, vz n])) (hby_ : cc o G by_ 23 (za m f)) (hna : cc o G na 86 (za 10 NA)) (hnl : cc o G nl 87 (za 10 NL)) (h15 : cc o G 15 15 (za 18 zAR)) (h16 : cc o G 16 16 (za 20 zAF)) (pcsI_se : csI o G se 88 89 nb cnt P) (ptbI_0 : tbI o G 0) (n18 : ab_n0 = 18) (cn_ : 0 ≤ n ∧ n ≤ ↑m ∧ m ≤ 2000) (hb : bytes f n) (ckd : 1 ≤ kd ∧ kd ≤ 12 ∧ 0 ≤ kn ∧ kn ≤ 1) (cfl : 0 ≤ fl0 ∧ fl0 ≤ 31) (hnb : nb ≤ 104000) (rc : G.length + 41000 ≤ ab_n0 + room_1.cells) (rs : ab_slots G + 631000 ≤ room_1.slots + 2 * nb) (hd : 13 ≤ d) : ab_F X d y_RD_read (.code y_RD_read b_RD_read 6 (some (.object "PatternWorks$Part"))) [vR d_, vR t, vz fl0] G (fun oc G2 => (∃ o2 : Nat → Nat, ∃ inn2 : Value, ∃ dp2 : Int, ∃ flg2 : Int, ∃ grp2 : Int, ∃ NA2 : Int → Int, ∃ NL2 : Int → Int, ∃ lst2 : Int, ∃ mst2 : Int, ∃ bh2 : Int, ∃ p2 : Int, ∃ fa2 : Int, ∃ fp2 : Int, ∃ kd2 : Nat, ∃ kn2 : Int, ∃ nb2 : Nat, ∃ c2 : Int, ∃ P2 : Int → Prop, oc = .returned (some (vN)) ∧ fx o o2 [24, 25, 86, 87, 88, 89, 90, 92, 94] G G2 ∧ cc o2 G2 d_ 25 (ab_ob 6 [vR x, inn2, vz dp2, vz flg2, vz grp2, vR na, vR nl, vz lst2, vz mst2, vz bh2]) ∧ cc o2 G2 x 24 (ab_ob 10 [vR se, vR by_, vz n, vz p2, vz fa2, vz fp2, vR kd2, vz kn2]) ∧ cc o2 G2 na 86 (za 10 NA2) ∧ cc o2 G2 nl 87 (za 10 NL2) ∧ csI o2 G2 se 88 89 nb2 c2 P2 ∧ (0 ≤ flg2 ∧ flg2 ≤ 31 ∧ 0 ≤ grp2 ∧ grp2 ≤ 9) ∧ (1 ≤ kd2 ∧ kd2 ≤ 12 ∧ 0 ≤ kn2 ∧ kn2 ≤ 1) ∧ (nb2 ≤ 104000) ∧ (64 * (↑G2.length : Int) + ↑nb ≤ 64 * ↑G.length + ↑nb2 + 400 * n + 200) ∧ ((↑(ab_slots G2) : Int) + 2 * ↑nb ≤ ↑(ab_slots G) + 2 * ↑nb2 + 100 * n + 60) ∧ (1 ≤ fa2 ∧ fa2 ≤ 14) ∧ (rdF f n (fl0 % 16) fa2 fp2)) ∨ (∃ o2 : Nat → Nat, ∃ p : Nat, ∃ inn2 : Value, ∃ dp2 : Int, ∃ flg2 : Int, ∃ grp2 : Int, ∃ NA2 : Int → Int, ∃ NL2 : Int → Int, ∃ lst2 : Int, ∃ mst2 : Int, ∃ bh2 : Int, ∃ p2 : Int, ∃ fa2 : Int, ∃ fp2 : Int, ∃ kd2 : Nat, ∃ kn2 : Int, ∃ nb2 : Nat, ∃ c2 : Int, ∃ P2 : Int → Prop, ∃ ps2 : Nat → Nat, ∃ wt2 : Nat → Wt, ∃ bs2 : Nat, ∃ ph2 : Int, ∃ sz2 : Int, ∃ cu2 : Nat → Int, ∃ cs2 : Nat → Sn, ∃ v2 : Sn, oc = .returned (some (vR p)) ∧ fx o o2 [24, 25, 86, 87, 88, 89, 90, 92, 94] G G2 ∧ cc o2 G2 d_ 25 (ab_ob 6 [vR x, inn2, vz dp2, vz flg2, vz grp2, vR na, vR nl, vz lst2, vz mst2, vz bh2]) ∧ cc o2 G2 x 24 (ab_ob 10 [vR se, vR by_, vz n, vz p2, vz fa2, vz fp2, vR kd2, vz kn2]) ∧ cc o2 G2 na 86 (za 10 NA2) ∧ cc o2 G2 nl 87 (za 10 NL2) ∧ csI o2 G2 se 88 89 nb2 c2 P2 ∧ paI o2 G2 0 ps2 wt2 bs2 grp2 pr0 ph2 ∧ szF o2 G2 0 ps2 cu2 p ∧ dnF o2 G2 0 ps2 wt2 cs2 p v2 ∧ (0 ≤ flg2 ∧ flg2 ≤ 31 ∧ 0 ≤ grp2 ∧ grp2 ≤ 9) ∧ (1 ≤ kd2 ∧ kd2 ≤ 12 ∧ 0 ≤ kn2 ∧ kn2 ≤ 1) ∧ (nb2 ≤ 104000) ∧ (64 * (↑G2.length : Int) + ↑nb ≤ 64 * ↑G.length + ↑nb2 + 400 * n + 200) ∧ ((↑(ab_slots G2) : Int) + 2 * ↑nb ≤ ↑(ab_slots G) + 2 * ↑nb2 + 100 * n + 60) ∧ (fa2 = 0) ∧ (fp2 = -1) ∧ (rdC f n fl0 grp2 sz2 NA2 NL2) ∧ (rdM f n (fl0 % 16) v2) ∧ (nmok NA2 NL2 grp2 n) ∧ (ps2 p = 90) ∧ (0 ≤ sz2 ∧ sz2 ≤ 400) ∧ (pf G2 p 8 = some (vz sz2)) ∧ (ph2 ≤ 25 * n))) := by
  refine ab_F_of (by decide +kernel) (Nat.le_of_ble_eq_true rfl) ?_
  obtain ⟨Q, hQ⟩ : ∃ z : Outcome → ab_G → Prop, z = (fun oc G2 => (∃ o2 : Nat → Nat, ∃ inn2 : Value, ∃ dp2 : Int, ∃ flg2 : Int, ∃ grp2 : Int, ∃ NA2 : Int → Int, ∃ NL2 : Int → Int, ∃ lst2 : Int, ∃ mst2 : Int, ∃ bh2 : Int, ∃ p2 : Int, ∃ fa2 : Int, ∃ fp2 : Int, ∃ kd2 : Nat, ∃ kn2 : Int, ∃ nb2 : Nat, ∃ c2 : Int, ∃ P2 : Int → Prop, oc = .returned (some (vN)) ∧ fx o o2 [24, 25, 86, 87, 88, 89, 90, 92, 94] G G2 ∧ cc o2 G2 d_ 25 (ab_ob 6 [vR x, inn2, vz dp2, vz flg2, vz grp2, vR na, vR nl, vz lst2, vz mst2, vz bh2]) ∧ cc o2 G2 x 24 (ab_ob 10 [vR se, vR by_, vz n, vz p2, vz fa2, vz fp2, vR kd2, vz kn2]) ∧ cc o2 G2 na 86 (za 10 NA2) ∧ cc o2 G2 nl 87 (za 10 NL2) ∧ csI o2 G2 se 88 89 nb2 c2 P2 ∧ (0 ≤ flg2 ∧ flg2 ≤ 31 ∧ 0 ≤ grp2 ∧ grp2 ≤ 9) ∧ (1 ≤ kd2 ∧ kd2 ≤ 12 ∧ 0 ≤ kn2 ∧ kn2 ≤ 1) ∧ (nb2 ≤ 104000) ∧ (64 * (↑G2.length : Int) + ↑nb ≤ 64 * ↑G.length + ↑nb2 + 400 * n + 200) ∧ ((↑(ab_slots G2) : Int) + 2 * ↑nb ≤ ↑(ab_slots G) + 2 * ↑nb2 + 100 * n + 60) ∧ (1 ≤ fa2 ∧ fa2 ≤ 14) ∧ (rdF f n (fl0 % 16) fa2 fp2)) ∨ (∃ o2 : Nat → Nat, ∃ p : Nat, ∃ inn2 : Value, ∃ dp2 : Int, ∃ flg2 : Int, ∃ grp2 : Int, ∃ NA2 : Int → Int, ∃ NL2 : Int → Int, ∃ lst2 : Int, ∃ mst2 : Int, ∃ bh2 : Int, ∃ p2 : Int, ∃ fa2 : Int, ∃ fp2 : Int, ∃ kd2 : Nat, ∃ kn2 : Int, ∃ nb2 : Nat, ∃ c2 : Int, ∃ P2 : Int → Prop, ∃ ps2 : Nat → Nat, ∃ wt2 : Nat → Wt, ∃ bs2 : Nat, ∃ ph2 : Int, ∃ sz2 : Int, ∃ cu2 : Nat → Int, ∃ cs2 : Nat → Sn, ∃ v2 : Sn, oc = .returned (some (vR p)) ∧ fx o o2 [24, 25, 86, 87, 88, 89, 90, 92, 94] G G2 ∧ cc o2 G2 d_ 25 (ab_ob 6 [vR x, inn2, vz dp2, vz flg2, vz grp2, vR na, vR nl, vz lst2, vz mst2, vz bh2]) ∧ cc o2 G2 x 24 (ab_ob 10 [vR se, vR by_, vz n, vz p2, vz fa2, vz fp2, vR kd2, vz kn2]) ∧ cc o2 G2 na 86 (za 10 NA2) ∧ cc o2 G2 nl 87 (za 10 NL2) ∧ csI o2 G2 se 88 89 nb2 c2 P2 ∧ paI o2 G2 0 ps2 wt2 bs2 grp2 pr0 ph2 ∧ szF o2 G2 0 ps2 cu2 p ∧ dnF o2 G2 0 ps2 wt2 cs2 p v2 ∧ (0 ≤ flg2 ∧ flg2 ≤ 31 ∧ 0 ≤ grp2 ∧ grp2 ≤ 9) ∧ (1 ≤ kd2 ∧ kd2 ≤ 12 ∧ 0 ≤ kn2 ∧ kn2 ≤ 1) ∧ (nb2 ≤ 104000) ∧ (64 * (↑G2.length : Int) + ↑nb ≤ 64 * ↑G.length + ↑nb2 + 400 * n + 200) ∧ ((↑(ab_slots G2) : Int) + 2 * ↑nb ≤ ↑(ab_slots G) + 2 * ↑nb2 + 100 * n + 60) ∧ (fa2 = 0) ∧ (fp2 = -1) ∧ (rdC f n fl0 grp2 sz2 NA2 NL2) ∧ (rdM f n (fl0 % 16) v2) ∧ (nmok NA2 NL2 grp2 n) ∧ (ps2 p = 90) ∧ (0 ≤ sz2 ∧ sz2 ≤ 400) ∧ (pf G2 p 8 = some (vz sz2)) ∧ (ph2 ≤ 25 * n))) := ⟨_, rfl⟩
  rw [← hQ]
  change ab_W X (ab_pl y_RD_read b_RD_read 6 (some (.object "PatternWorks$Part"))) d G 0 [some (vR d_), some (vR t), some (vz fl0), none, none, none] [] Q
  have hfr : fx o o [24, 25, 86, 87, 88, 89, 90, 92, 94] G G := fx.rf
  refine ab_aload_n d_RD_read_0 rfl ?_
  refine ab_getf (fs := [vR x, inn, vz dp, vz flg, vz grp, vR na, vR nl, vz lst, vz mst, vz bh]) f_RD_12 d_RD_read_1 hd_.2.2 rfl ?_
  refine ab_aload_n d_RD_read_4 rfl ?_
  refine ab_callV (d' := d - 1) (as := [vR t]) (st := []) (r := _) (z_TX_begin (o := o) (x := x) (lx := 24) (se := se) (by_ := by0) (n := n9) (pl := pl) (fa := fa) (fp := fp) (kd := kd) (kn := kn) (r := t) (lr := 22) (lim := lim) (b2 := by_) (sz := n) hx ht (by omega) (by omega)) (fun oc G2 h => by rcases h with ⟨h, _⟩ <;> exact ⟨_, h⟩) (by omega) m_TX_begin ml_RD_34 im_TX_begin se_TX_begin c_TX hx.2.2 (Nat.le_of_ble_eq_true rfl) d_RD_read_5 rfl ?_
  intro v G1 hq
  rcases hq with ⟨hv, hfk, hlk, hsk, hNx⟩
  cases hv
  have hd_ := hfk.get hd_ (by decide)
  have ht := hfk.get ht (by decide)
  have hby_ := hfk.get hby_ (by decide)
  have hna := hfk.get hna (by decide)
  have hnl := hfk.get hnl (by decide)
  have h15 := hfk.get h15 (by decide)
  have h16 := hfk.get h16 (by decide)
  have pcsI_se := csI.fr hfk pcsI_se (by decide) (by decide)
  have ptbI_0 := tbI.fr hfk ptbI_0  (by decide)
  have hfr := hfr.tr hfk (by decide)
  have hq2 := hlk
  have hq3 := hsk
  have hx := hNx
  change ab_W _ _ _ G1 8 [some (vR d_), some (vR t), some (vz fl0), none, none, none] [] _
  refine ab_aload_n d_RD_read_8 rfl ?_
  refine ab_iload_n d_RD_read_9 rfl ?_
  refine ab_putf (fs := [vR x, inn, vz dp, vz flg, vz grp, vR na, vR nl, vz lst, vz mst, vz bh]) f_RD_38 (Or.inl rfl) d_RD_read_10 hd_.2.2 (Nat.le_of_ble_eq_true rfl) (fun _ => ⟨rfl, rfl⟩) (hd_.2.1 (by decide)) ?_
  obtain ⟨G4, eG4⟩ : ∃ z : ab_G, z = List.set G1 d_ (ab_ob 6 [vR x, inn, vz dp, vz fl0, vz grp, vR na, vR nl, vz lst, vz mst, vz bh]) := ⟨_, rfl⟩
  have hx := hx.keep hd_ eG4 (by decide)
  have ht := ht.keep hd_ eG4 (by decide)
  have hby_ := hby_.keep hd_ eG4 (by decide)
  have hna := hna.keep hd_ eG4 (by decide)
  have hnl := hnl.keep hd_ eG4 (by decide)
  have h15 := h15.keep hd_ eG4 (by decide)
  have h16 := h16.keep hd_ eG4 (by decide)
  have hst := (fx.rf (o := o) (S := [25]) (G := G1)).wr hd_ eG4 (List.mem_singleton.mpr rfl)
  have pcsI_se := csI.fr hst pcsI_se (by decide) (by decide)
  have ptbI_0 := tbI.fr hst ptbI_0  (by decide)
  have hq5 := z_len eG4
  have hq6 := z_sl hd_ eG4 rfl
  have hfr := hfr.wr hd_ eG4 (by decide)
  have hd_ := hd_.kept eG4
  change ab_W _ _ _ (List.set G1 d_ (ab_ob 6 [vR x, inn, vz dp, vz fl0, vz grp, vR na, vR nl, vz lst, vz mst, vz bh])) 13 [some (vR d_), some (vR t), some (vz fl0), none, none, none] [] _
  rw [← eG4]
  refine ab_aload_n d_RD_read_13 rfl ?_
  refine zz_iconst d_RD_read_14 ?_
  refine ab_putf (fs := [vR x, inn, vz dp, vz fl0, vz grp, vR na, vR nl, vz lst, vz mst, vz bh]) f_RD_42 (Or.inl rfl) d_RD_read_15 hd_.2.2 (Nat.le_of_ble_eq_true rfl) (fun _ => ⟨rfl, rfl⟩) (hd_.2.1 (by decide)) ?_
  obtain ⟨G7, eG7⟩ : ∃ z : ab_G, z = List.set G4 d_ (ab_ob 6 [vR x, inn, vz dp, vz fl0, vz 0, vR na, vR nl, vz lst, vz mst, vz bh]) := ⟨_, rfl⟩
  have hx := hx.keep hd_ eG7 (by decide)
  have ht := ht.keep hd_ eG7 (by decide)
  have hby_ := hby_.keep hd_ eG7 (by decide)
  have hna := hna.keep hd_ eG7 (by decide)
  have hnl := hnl.keep hd_ eG7 (by decide)
  have h15 := h15.keep hd_ eG7 (by decide)
  have h16 := h16.keep hd_ eG7 (by decide)
  have hst := (fx.rf (o := o) (S := [25]) (G := G4)).wr hd_ eG7 (List.mem_singleton.mpr rfl)
  have pcsI_se := csI.fr hst pcsI_se (by decide) (by decide)
  have ptbI_0 := tbI.fr hst ptbI_0  (by decide)
  have hq8 := z_len eG7
  have hq9 := z_sl hd_ eG7 rfl
  have hfr := hfr.wr hd_ eG7 (by decide)
  have hd_ := hd_.kept eG7
  change ab_W _ _ _ (List.set G4 d_ (ab_ob 6 [vR x, inn, vz dp, vz fl0, vz 0, vR na, vR nl, vz lst, vz mst, vz bh])) 18 [some (vR d_), some (vR t), some (vz fl0), none, none, none] [] _
  rw [← eG7]
  refine ab_aload_n d_RD_read_18 rfl ?_
  refine zz_iconst d_RD_read_19 ?_
  refine ab_putf (fs := [vR x, inn, vz dp, vz fl0, vz 0, vR na, vR nl, vz lst, vz mst, vz bh]) f_RD_45 (Or.inl rfl) d_RD_read_20 hd_.2.2 (Nat.le_of_ble_eq_true rfl) (fun _ => ⟨rfl, rfl⟩) (hd_.2.1 (by decide)) ?_
  obtain ⟨G10, eG10⟩ : ∃ z : ab_G, z = List.set G7 d_ (ab_ob 6 [vR x, inn, vz 0, vz fl0, vz 0, vR na, vR nl, vz lst, vz mst, vz bh]) := ⟨_, rfl⟩
  have hx := hx.keep hd_ eG10 (by decide)
  have ht := ht.keep hd_ eG10 (by decide)
  have hby_ := hby_.keep hd_ eG10 (by decide)
  have hna := hna.keep hd_ eG10 (by decide)
  have hnl := hnl.keep hd_ eG10 (by decide)
  have h15 := h15.keep hd_ eG10 (by decide)
  have h16 := h16.keep hd_ eG10 (by decide)
  have hst := (fx.rf (o := o) (S := [25]) (G := G7)).wr hd_ eG10 (List.mem_singleton.mpr rfl)
  have pcsI_se := csI.fr hst pcsI_se (by decide) (by decide)
  have ptbI_0 := tbI.fr hst ptbI_0  (by decide)
  have hq11 := z_len eG10
  have hq12 := z_sl hd_ eG10 rfl
  have hfr := hfr.wr hd_ eG10 (by decide)
  have hd_ := hd_.kept eG10
  change ab_W _ _ _ (List.set G7 d_ (ab_ob 6 [vR x, inn, vz 0, vz fl0, vz 0, vR na, vR nl, vz lst, vz mst, vz bh])) 23 [some (vR d_), some (vR t), some (vz fl0), none, none, none] [] _
  rw [← eG10]
  obtain ⟨ps, wt, bs, hbs, hps0, ppaI_0⟩ : ∃ (pz : Nat → Nat) (wz : Nat → Wt) (bz : Nat), bz = G10.length ∧ (∀ x, ¬ pz x = 90 ∧ ¬ pz x = 94) ∧ paI o G10 0 pz wz bz 0 pr0 0 := ⟨fun _ => 0, fun _ => (0, fun _ => False), _, rfl, fun _ => ⟨fun t => absurd (show (0 : Nat) = 90 from t) (by decide), fun t => absurd (show (0 : Nat) = 94 from t) (by decide)⟩, paI_none⟩
  refine ab_new (fs := [vz 0, vz 0, vN, vz 0, vz 0, vN, vN, vN, vz 0, vz 0, vz 0, vz 0, vz 0, vz 0, vz 0]) k_PA rfl cl_RD_18 inst_PA ini_PA d_RD_read_23 (by decide) (fun _ => rfl) (by omega) (by omega) ?_
  obtain ⟨G13, eG13⟩ : ∃ z : ab_G, z = G10 ++ [ab_ob 4 [vz 0, vz 0, vN, vz 0, vz 0, vN, vN, vN, vz 0, vz 0, vz 0, vz 0, vz 0, vz 0, vz 0]] := ⟨_, rfl⟩
  obtain ⟨o14, eo14⟩ : ∃ z : Nat → Nat, z = ol o G10.length 90 := ⟨_, rfl⟩
  obtain ⟨a15, ea15⟩ : ∃ z : Nat, z = G10.length := ⟨_, rfl⟩
  have hq16 := hnl.n0 (by first | decide | omega)
  have ne_a15_d_ : nq a15 d_ := by have hlt := hd_.lt; unfold nq; omega
  have ne_a15_x : nq a15 x := by have hlt := hx.lt; unfold nq; omega
  have ne_a15_t : nq a15 t := by have hlt := ht.lt; unfold nq; omega
  have ne_a15_by_ : nq a15 by_ := by have hlt := hby_.lt; unfold nq; omega
  have ne_a15_na : nq a15 na := by have hlt := hna.lt; unfold nq; omega
  have ne_a15_nl : nq a15 nl := by have hlt := hnl.lt; unfold nq; omega
  have ne_a15_15 : nq a15 15 := by have hlt := h15.lt; unfold nq; omega
  have ne_a15_16 : nq a15 16 := by have hlt := h16.lt; unfold nq; omega
  have hd_ := hd_.akeep (k := 90) eG13
  rw [← eo14] at hd_
  have hx := hx.akeep (k := 90) eG13
  rw [← eo14] at hx
  have ht := ht.akeep (k := 90) eG13
  rw [← eo14] at ht
  have hby_ := hby_.akeep (k := 90) eG13
  rw [← eo14] at hby_
  have hna := hna.akeep (k := 90) eG13
  rw [← eo14] at hna
  have hnl := hnl.akeep (k := 90) eG13
  rw [← eo14] at hnl
  have h15 := h15.akeep (k := 90) eG13
  rw [← eo14] at h15
  have h16 := h16.akeep (k := 90) eG13
  rw [← eo14] at h16
  have hst := (fx.rf (o := o) (S := []) (G := G10)).ap (k := 90) eG13
  rw [← eo14] at hst
  have hnpa15 := ppaI_0.new (a := a15) (by omega)
  have pcsI_se := csI.fr hst pcsI_se (by decide) (by decide)
  have ptbI_0 := tbI.fr hst ptbI_0  (by simp)
  have ppaI_0 := paI.fr hst ppaI_0 (by decide) (by decide) (by decide) (by simp)
  have ha15 := cc.anew (o := o) 90 eG13 hq16
  rw [← eo14, ← ea15] at ha15
  have hfr := hfr.ap (k := 90) eG13
  rw [← eo14] at hfr
  have hq17 := z_alen eG13
  have hq18 : ab_slots G13 = ab_slots G10 + 15 := z_asl eG13 hq16
  change ab_W _ _ _ (G10 ++ [ab_ob 4 [vz 0, vz 0, vN, vz 0, vz 0, vN, vN, vN, vz 0, vz 0, vz 0, vz 0, vz 0, vz 0, vz 0]]) 26 [some (vR d_), some (vR t), some (vz fl0), none, none, none] [.ref G10.length] _
  rw [← eG13, ← ea15]
  change ab_W _ _ _ G13 26 [some (vR d_), some (vR t), some (vz fl0), none, none, none] [vR a15] _
  refine ab_dup d_RD_read_26 rfl ?_
  refine zz_iconst d_RD_read_27 ?_
  refine zz_iconst d_RD_read_28 ?_
  refine zz_iconst d_RD_read_29 ?_
  refine zz_iconst d_RD_read_30 ?_
  refine ab_callI (d' := d - 1) (as := [vz 4, vz 0, vz 0, vz 0]) (st := [vR a15]) (z90_PA_init (o := o14) (a := a15) (k0 := 4) (v0 := 0) (s0 := 0) (m0 := 0) (ps := ps) (wt := wt) (bs := bs) (gr := 0) (Pr := pr0) (ph := 0) ha15 ppaI_0 (by omega) (by omega) (by omega) (by omega)) (fun oc G2 h => by rcases h with ⟨h, _⟩ <;> exact ⟨_, h⟩) (by omega) m_PA_init ml_RD_20 im_PA_init rfl (Nat.le_of_ble_eq_true rfl) d_RD_read_31 rfl ?_
  intro v G19 hq
  rcases hq with ⟨hv, hfk, hlk, hsk, hNa15, pNpaI_0, hq20⟩
  cases hv
  have hd_ := hfk.get hd_ (by decide)
  have hx := hfk.get hx (by decide)
  have ht := hfk.get ht (by decide)
  have hby_ := hfk.get hby_ (by decide)
  have hna := hfk.get hna (by decide)
  have hnl := hfk.get hnl (by decide)
  have h15 := hfk.get h15 (by decide)
  have h16 := hfk.get h16 (by decide)
  have pcsI_se := csI.fr hfk pcsI_se (by decide) (by decide)
  have ptbI_0 := tbI.fr hfk ptbI_0  (by decide)
  have ppaI_0 := pNpaI_0
  have hfr := hfr.tr hfk (by decide)
  have hq21 := hlk
  have hq22 := hsk
  have ha15 := hNa15
  change ab_W _ _ _ G19 34 [some (vR d_), some (vR t), some (vz fl0), none, none, none] [vR a15] _
  refine ab_astore_n d_RD_read_34 (Nat.le_of_ble_eq_true rfl) (Nat.le_of_ble_eq_true rfl) rfl ?_
  change ab_W _ _ _ G19 35 [some (vR d_), some (vR t), some (vz fl0), some (vR a15), none, none] [] _
  refine ab_aload_n d_RD_read_35 rfl ?_
  refine ab_new (fs := [vz 0, vz 0, vN, vz 0, vz 0, vN, vN, vN, vz 0, vz 0, vz 0, vz 0, vz 0, vz 0, vz 0]) k_PA rfl cl_RD_18 inst_PA ini_PA d_RD_read_36 (by decide) (fun _ => rfl) (by omega) (by omega) ?_
  obtain ⟨G23, eG23⟩ : ∃ z : ab_G, z = G19 ++ [ab_ob 4 [vz 0, vz 0, vN, vz 0, vz 0, vN, vN, vN, vz 0, vz 0, vz 0, vz 0, vz 0, vz 0, vz 0]] := ⟨_, rfl⟩
  obtain ⟨o24, eo24⟩ : ∃ z : Nat → Nat, z = ol o14 G19.length 94 := ⟨_, rfl⟩
  obtain ⟨a25, ea25⟩ : ∃ z : Nat, z = G19.length := ⟨_, rfl⟩
  have hq26 := ha15.n0 (by first | decide | omega)
  have ne_a25_d_ : nq a25 d_ := by have hlt := hd_.lt; unfold nq; omega
  have ne_a25_x : nq a25 x := by have hlt := hx.lt; unfold nq; omega
  have ne_a25_t : nq a25 t := by have hlt := ht.lt; unfold nq; omega
  have ne_a25_by_ : nq a25 by_ := by have hlt := hby_.lt; unfold nq; omega
  have ne_a25_na : nq a25 na := by have hlt := hna.lt; unfold nq; omega
  have ne_a25_nl : nq a25 nl := by have hlt := hnl.lt; unfold nq; omega
  have ne_a25_15 : nq a25 15 := by have hlt := h15.lt; unfold nq; omega
  have ne_a25_16 : nq a25 16 := by have hlt := h16.lt; unfold nq; omega
  have ne_a25_a15 : nq a25 a15 := by have hlt := ha15.lt; unfold nq; omega
  have hd_ := hd_.akeep (k := 94) eG23
  rw [← eo24] at hd_
  have hx := hx.akeep (k := 94) eG23
  rw [← eo24] at hx
  have ht := ht.akeep (k := 94) eG23
  rw [← eo24] at ht
  have hby_ := hby_.akeep (k := 94) eG23
  rw [← eo24] at hby_
  have hna := hna.akeep (k := 94) eG23
  rw [← eo24] at hna
  have hnl := hnl.akeep (k := 94) eG23
  rw [← eo24] at hnl
  have h15 := h15.akeep (k := 94) eG23
  rw [← eo24] at h15
  have h16 := h16.akeep (k := 94) eG23
  rw [← eo24] at h16
  have ha15 := ha15.akeep (k := 94) eG23
  rw [← eo24] at ha15
  have hst := (fx.rf (o := o14) (S := []) (G := G19)).ap (k := 94) eG23
  rw [← eo24] at hst
  have hnpa25 := ppaI_0.new (a := a25) (by omega)
  have pcsI_se := csI.fr hst pcsI_se (by decide) (by decide)
  have ptbI_0 := tbI.fr hst ptbI_0  (by simp)
  have ppaI_0 := paI.fr hst ppaI_0 (by decide) (by decide) (by decide) (by simp)
  have ha25 := cc.anew (o := o14) 94 eG23 hq26
  rw [← eo24, ← ea25] at ha25
  have hfr := hfr.ap (k := 94) eG23
  rw [← eo24] at hfr
  have hq27 := z_alen eG23
  have hq28 : ab_slots G23 = ab_slots G19 + 15 := z_asl eG23 hq26
  change ab_W _ _ _ (G19 ++ [ab_ob 4 [vz 0, vz 0, vN, vz 0, vz 0, vN, vN, vN, vz 0, vz 0, vz 0, vz 0, vz 0, vz 0, vz 0]]) 39 [some (vR d_), some (vR t), some (vz fl0), some (vR a15), none, none] [.ref G19.length, vR a15] _
  rw [← eG23, ← ea25]
  change ab_W _ _ _ G23 39 [some (vR d_), some (vR t), some (vz fl0), some (vR a15), none, none] [vR a25, vR a15] _
  refine ab_dup d_RD_read_39 rfl ?_
  refine zz_iconst d_RD_read_40 ?_
  refine zz_iconst d_RD_read_41 ?_
  refine zz_iconst d_RD_read_42 ?_
  refine zz_iconst d_RD_read_43 ?_
  refine ab_callI (d' := d - 1) (as := [vz 5, vz 0, vz 0, vz 1]) (st := [vR a25, vR a15]) (z94_PA_init (o := o24) (a := a25) (k0 := 5) (v0 := 0) (s0 := 0) (m0 := 1) (ps := ps) (wt := wt) (bs := bs) (gr := 0) (Pr := pr0) (ph := 0) ha25 ppaI_0 (by omega) (by omega) (by omega) (by omega)) (fun oc G2 h => by rcases h with ⟨h, _⟩ <;> exact ⟨_, h⟩) (by omega) m_PA_init ml_RD_20 im_PA_init rfl (Nat.le_of_ble_eq_true rfl) d_RD_read_44 rfl ?_
  intro v G29 hq
  rcases hq with ⟨hv, hfk, hlk, hsk, hNa25, pNpaI_0, hq30⟩
  cases hv
  have hd_ := hfk.get hd_ (by decide)
  have hx := hfk.get hx (by decide)
  have ht := hfk.get ht (by decide)
  have hby_ := hfk.get hby_ (by decide)
  have hna := hfk.get hna (by decide)
  have hnl := hfk.get hnl (by decide)
  have h15 := hfk.get h15 (by decide)
  have h16 := hfk.get h16 (by decide)
  have ha15 := hfk.get ha15 (by decide)
  have pcsI_se := csI.fr hfk pcsI_se (by decide) (by decide)
  have ptbI_0 := tbI.fr hfk ptbI_0  (by decide)
  have ppaI_0 := pNpaI_0
  have hfr := hfr.tr hfk (by decide)
  have hq31 := hlk
  have hq32 := hsk
  have ha25 := hNa25
  change ab_W _ _ _ G29 47 [some (vR d_), some (vR t), some (vz fl0), some (vR a15), none, none] [vR a25, vR a15] _
  have hnfg_ := ppaI_0.nref hnpa15
  have hnog_ := hnpa15
  have hnfr_ := ppaI_0.nref hnpa25
  have hnor_ := hnpa25
  have hsz9 : szJ o24 G29 0 ps [] 0 vN a15 0 0 := szJ.none hps0
  have hdn9 : dnJ o24 G29 0 ps wt [] 0 vN 0 mnI := dnJ.nil hps0
  have hlt33 := ha15.lt
  have hn33 : paN 0 pr0 4 0 (-1) := ⟨by omega, by intro _; omega, by intro _; omega, by intro _; omega, pr0_⟩
  obtain ⟨ps33, wt33, hx33, hxo33, hpa33, hwo33, hwa33, ppaI_0⟩ : ∃ (pz : Nat → Nat) (wz : Nat → Wt), psx ps pz a15 ∧ (∀ x, ¬ x = a15 → pz x = ps x) ∧ pz a15 = 90 ∧ wtx wt wz a15 ∧ wz a15 = (0, fun _ => False) ∧ paI o24 G29 0 pz wz bs 0 pr0 (0 + 0) := ⟨_, _, psx.ol (Nat.le_refl _), fun x hx => if_neg hx, ol_self, fun x hx => if_neg hx, olw_self, ppaI_0.ad90 (0, fun _ => False) hnpa15 (by omega) ha15 hn33 (by unfold pnB; omega) (Or.inl ⟨by omega, rfl⟩) (Or.inl rfl) (Or.inl rfl) (Or.inl rfl)⟩
  have hnpa25 : ¬ ps33 a25 = 90 ∧ ¬ ps33 a25 = 94 := by rw [hxo33 a25 (by omega)]; exact hnpa25
  have hlt34 := ha25.lt
  obtain ⟨ps34, hx34, hxo34, hpa34, ppaI_0⟩ : ∃ pz : Nat → Nat, psx ps33 pz a25 ∧ (∀ x, ¬ x = a25 → pz x = ps33 x) ∧ pz a25 = 94 ∧ paI o24 G29 0 pz wt33 bs 0 pr0 (0 + 0) := ⟨_, psx.ol (Nat.le_refl _), fun x hx => if_neg hx, ol_self, ppaI_0.ad94 hnpa25 ha25 (by omega) (Or.inl rfl) (Or.inl rfl)⟩
  have hp35 : ps34 a15 = 90 := hx34.at (by have hlt := ha15.lt; omega) hpa33
  have hfz : fz ps34 [a15, a25] G29 G29 := fz.rf
  refine ab_callV (d' := d - 1) (as := [vR a25]) (st := []) (r := _) (z90_PA_push (o := o24) (k := 4) (v := 0) (rg := vN) (pl := (-1)) (fl := 0) (ou := vN) (ls := vN) (bf := vN) (sz := 0) (mb := 0) (oe := 0) (le := 0) (mo := 0) (la := 0) (rc := (-1)) (lr := vN) (br := vN) (sr := 0) (mr := 1) (ps := ps34) (wt := wt33) (bs := bs) (gr := 0) (Pr := pr0) (ph := (0 + 0)) (r := a25) (p := a15) ha15 ha25 ppaI_0 (by omega) hp35 hpa34 hn33 (by omega) (by omega) (Or.inl rfl) (Or.inl rfl) (Or.inl rfl) (Or.inl rfl) (Or.inl rfl) (Or.inl rfl) (by omega)) (fun oc G2 h => by rcases h with ⟨h, _⟩ <;> exact ⟨_, h⟩) (by omega) m_PA_push ml_RD_48 im_PA_push se_PA_push c_PA ha15.2.2 (Nat.le_of_ble_eq_true rfl) d_RD_read_47 rfl ?_
  intro v G36 hq
  rcases hq with ⟨hv, hfk, hlk, hsk, hNa15, hNa25, pNpaI_0, hq37⟩
  cases hv
  have hd_ := hfk.get hd_ (by decide)
  have hx := hfk.get hx (by decide)
  have ht := hfk.get ht (by decide)
  have hby_ := hfk.get hby_ (by decide)
  have hna := hfk.get hna (by decide)
  have hnl := hfk.get hnl (by decide)
  have h15 := hfk.get h15 (by decide)
  have h16 := hfk.get h16 (by decide)
  have hfz := hfz.tr hq37 (by simp)
  have pcsI_se := csI.fr hfk pcsI_se (by decide) (by decide)
  have ptbI_0 := tbI.fr hfk ptbI_0  (by decide)
  have ppaI_0 := pNpaI_0
  have hfr := hfr.tr hfk (by decide)
  have hq38 := hlk
  have hq39 := hsk
  have ha15 := hNa15
  have ha25 := hNa25
  change ab_W _ _ _ G36 50 [some (vR d_), some (vR t), some (vz fl0), some (vR a15), none, none] [] _
  refine ab_aload_n d_RD_read_50 rfl ?_
  refine ab_aload_n d_RD_read_51 rfl ?_
  refine ab_putf (fs := [vR x, inn, vz 0, vz fl0, vz 0, vR na, vR nl, vz lst, vz mst, vz bh]) f_RD_23 (Or.inl rfl) d_RD_read_52 hd_.2.2 (Nat.le_of_ble_eq_true rfl) (fun _ => ⟨rfl, rfl⟩) (hd_.2.1 (by decide)) ?_
  obtain ⟨G40, eG40⟩ : ∃ z : ab_G, z = List.set G36 d_ (ab_ob 6 [vR x, vR a15, vz 0, vz fl0, vz 0, vR na, vR nl, vz lst, vz mst, vz bh]) := ⟨_, rfl⟩
  have hx := hx.keep hd_ eG40 (by decide)
  have ht := ht.keep hd_ eG40 (by decide)
  have hby_ := hby_.keep hd_ eG40 (by decide)
  have hna := hna.keep hd_ eG40 (by decide)
  have hnl := hnl.keep hd_ eG40 (by decide)
  have h15 := h15.keep hd_ eG40 (by decide)
  have h16 := h16.keep hd_ eG40 (by decide)
  have ha15 := ha15.keep hd_ eG40 (by decide)
  have ha25 := ha25.keep hd_ eG40 (by decide)
  have hfz := hfz.wl ppaI_0 hd_ eG40 (by decide)
  have hst := (fx.rf (o := o24) (S := [25]) (G := G36)).wr hd_ eG40 (List.mem_singleton.mpr rfl)
  have pcsI_se := csI.fr hst pcsI_se (by decide) (by decide)
  have ptbI_0 := tbI.fr hst ptbI_0  (by decide)
  have ppaI_0 := paI.fr hst ppaI_0 (by decide) (by decide) (by decide) (by decide)
  have hq41 := z_len eG40
  have hq42 := z_sl hd_ eG40 rfl
  have hfr := hfr.wr hd_ eG40 (by decide)
  have hd_ := hd_.kept eG40
  change ab_W _ _ _ (List.set G36 d_ (ab_ob 6 [vR x, vR a15, vz 0, vz fl0, vz 0, vR na, vR nl, vz lst, vz mst, vz bh])) 55 [some (vR d_), some (vR t), some (vz fl0), some (vR a15), none, none] [] _
  rw [← eG40]
  have popI_0 : opI o24 G40 0 ps34 0 a15 vN := rfl
  have popI_0 : opI o24 G40 0 ps34 (0 + 1) G40.length (vR a15) := ⟨a15, a25, (vN), (vN), rfl, ⟨hp35, hpa34⟩, ⟨by omega, by omega⟩, by unfold pf; rw [ha15.2.2]; rfl, by unfold pf; rw [ha15.2.2]; rfl, by unfold pf; rw [ha25.2.2]; rfl, (Or.inl rfl), popI_0⟩
  have pszJ_0 : szJ o24 G40 0 ps34 (((-1), 0, 0, 0, 0) :: []) G40.length (vR a15) a15 0 0 := szJ.entC hsz9 hnfg_ hnfr_ hnog_ hnor_ (fun x h1 h2 => (hxo34 x h2).trans (hxo33 x h1)) hp35 hpa34 hfz ha15 ha25 (by omega) (by first | rfl | (unfold pin; rw [if_pos rfl, if_neg (by omega)])) (by omega) (by omega) (fun _ => rfl)
  have pdnJ_0 : dnJ o24 G40 0 ps34 wt33 ((none, mnI) :: []) G40.length (vR a15) 0 mnI := dnJ.entC hdn9 hnfg_ hnfr_ hnog_ hnor_ (fun x h1 h2 => (hxo34 x h2).trans (hxo33 x h1)) hp35 hpa34 hfz hwo33 ha15 ha25 (by omega) (by omega) (by omega) (by omega)
  refine zz_iconst d_RD_read_55 ?_
  refine ab_istore d_RD_read_56 (Nat.le_of_ble_eq_true rfl) (Nat.le_of_ble_eq_true rfl) rfl ?_
  change ab_W _ _ _ G40 58 [some (vR d_), some (vR t), some (vz fl0), some (vR a15), some (vz 0), none] [] _
  refine ab_less (L' := [some (vR d_), some (vR t), none, some (vR a15), some (vz 0), none]) (fun i v h => by rcases i with _ | _ | _ | _ | _ | _ | i <;> first | exact h | (simp at h)) ?_
  refine y_RD_read_58 (d_ := d_) (na := na) (nl := nl) (x := x) (se := se) (by_ := by_) (m := m) (f := f) (n := n) (bs := bs) (wh := a15) (n0 := nb) (t := t) (G0 := G40) (inn := vR a15) (dp := 0) (flg := fl0) (grp := 0) (lst := lst) (mst := mst) (bh := bh) (NA := NA) (NL := NL) (pl := 0) (fa := 0) (fp := (-1)) (kd := kd) (kn := kn) (ps := ps34) (wt := wt33) (ph := (0 + 0)) (k := (0 + 1)) (hi := G40.length) (fr := (((-1), 0, 0, 0, 0) :: [])) (FS := ((none, mnI) :: [])) (nb := nb) (cnt := cnt) (P := P) (tu := 0) (cp := 0) (by omega) (by omega) hb (by omega) (by omega) (by omega) (by omega) (Int.toNat (n + 1 - 0) + 1) hd_ hx hna hnl hby_ h15 h16 ppaI_0 popI_0 pcsI_se ptbI_0 pszJ_0 pdnJ_0 (by omega) (by omega) (by omega) nmok_0 (by omega) (by omega) (by omega) (by omega) (by omega) (by omega) hp35 (by omega) (by first | rfl | omega | (simp only [List.length_cons]; omega)) (by first | rfl | omega | (simp only [List.length_cons]; omega)) (rdH_0 (by omega) (by omega)) (by omega) (by omega) (by omega) (by omega) fx.rf (by omega) (fun G43 o44 inn45 dp46 flg47 grp48 lst49 mst50 bh51 NA52 NL53 pl54 fa55 fp56 kd57 kn58 ps59 wt60 ph61 k62 hi63 fr64 FS65 nb66 cnt67 P68 cp69 hNd_ hNx hNna hNnl hNby_ hN15 hN16 pNpaI_0 pNopI_0 pNcsI_se pNtbI_0 pNszJ_0 pNdnJ_0 hq70 hq71 hq72 hq73 hq74 hq75 hq76 hq77 hq78 hq79 hq80 hq81 hq82 hq83 hq84 hq85 hq86 hfk => ?_)
  · have ht := hfk.get ht (by decide)
    have hfr := hfr.tr hfk (by decide)
    have hq87 := hfk.1
    have hd_ := hNd_
    have hx := hNx
    have hna := hNna
    have hnl := hNnl
    have hby_ := hNby_
    have h15 := hN15
    have h16 := hN16
    have ppaI_0 := pNpaI_0
    have popI_0 := pNopI_0
    have pcsI_se := pNcsI_se
    have ptbI_0 := pNtbI_0
    have pszJ_0 := pNszJ_0
    have pdnJ_0 := pNdnJ_0
    change ab_W _ _ _ G43 120 [some (vR d_), none, none, some (vR a15), none, none] [] _
    obtain ⟨a1_, b1_, c1_, d1_, e1_, t_, hft_⟩ := pszJ_0.hd (by omega)
    have hln_ : fr64.length = t_.length + 1 := congrArg List.length hft_
    obtain ⟨ao_, ro_, ts_, hfs_⟩ := pdnJ_0.hd (by omega)
    have hls_ : FS65.length = ts_.length + 1 := congrArg List.length hfs_
    refine ab_aload_n d_RD_read_120 rfl ?_
    refine ab_getf (fs := [vR x, inn45, vz dp46, vz flg47, vz grp48, vR na, vR nl, vz lst49, vz mst50, vz bh51]) f_RD_45 d_RD_read_121 hd_.2.2 rfl ?_
    refine zz_if_le (tgt := 143) d_RD_read_124 (by decide) (by omega) (fun c88 => ?_) (fun c88 => ?_)
    · obtain ⟨k_89, v_89, rg_89, pl_89, fl_89, ou_89, ls_89, bf_89, sz_89, mb_89, oe_89, le_89, mo_89, la_89, rc_89, ha15, hn89, hb89, hg89, ho89, hl89, hf89⟩ := ppaI_0.1 a15 hq79
      have hB89 := hb89
      unfold pnB at hB89
      have hK89 := hn89.1
      obtain ⟨cu, hsx_, hso_, hfm_, -⟩ := pszJ_0
      obtain ⟨cs_, hdx_, hfq_, -⟩ := pdnJ_0
      have hg9 := ha15
      have hpa9 := ppaI_0
      have hfz : fz ps59 [a15] G43 G43 := fz.rf
      refine ab_aload_n d_RD_read_143 rfl ?_
      refine ab_callV (d' := d - 1) (as := []) (st := []) (r := _) (z_PA_closeRows (o := o44) (k := k_89) (v := v_89) (rg := rg_89) (pl := pl_89) (fl := fl_89) (ou := ou_89) (ls := ls_89) (bf := bf_89) (sz := sz_89) (mb := mb_89) (oe := oe_89) (le := le_89) (mo := mo_89) (la := la_89) (rc := rc_89) (ps := ps59) (wt := wt60) (bs := bs) (ph := ph61) (gr := grp48) (Pr := pr0) (p := a15) (cu := cu) (eu := (euc cs_)) ha15 ppaI_0 (by omega) hq79 hn89 (by omega) (ho89.up (by omega)) (hl89.up (by omega)) (hf89.up (by omega)) hsx_.rqs hsx_.1 hdx_.reu (by omega)) (fun oc G2 h => by rcases h with ⟨_, _, h, _⟩ <;> exact ⟨_, h⟩) (by omega) m_PA_closeRows ml_RD_73 im_PA_closeRows se_PA_closeRows c_PA ha15.2.2 (Nat.le_of_ble_eq_true rfl) d_RD_read_144 rfl ?_
      intro v G90 hq
      rcases hq with ⟨sz291, mb292, hv, hfk, hlk, hsk, hNa15, pNpaI_0, hq93, hq94, hq95, hq96⟩
      cases hv
      have hd_ := hfk.get hd_ (by decide)
      have hx := hfk.get hx (by decide)
      have ht := hfk.get ht (by decide)
      have hby_ := hfk.get hby_ (by decide)
      have hna := hfk.get hna (by decide)
      have hnl := hfk.get hnl (by decide)
      have h15 := hfk.get h15 (by decide)
      have h16 := hfk.get h16 (by decide)
      have hfz := hfz.tr hq94 (by simp)
      have pcsI_se := csI.fr hfk pcsI_se (by decide) (by decide)
      have ptbI_0 := tbI.fr hfk ptbI_0  (by decide)
      have ppaI_0 := pNpaI_0
      have hfr := hfr.tr hfk (by decide)
      have hq97 := hlk
      have hq98 := hsk
      have ha15 := hNa15
      change ab_W _ _ _ G90 147 [some (vR d_), none, none, some (vR a15), none, none] [] _
      have hk1_ : fr64.length = 0 + 1 := by omega
      have hin_ := hso_.one hk1_
      rw [hin_, hft_] at hso_ hfm_
      have ht0_ : t_ = [] := List.eq_nil_of_length_eq_zero (by omega)
      have hft1_ : fr64 = [(a1_, b1_, c1_, d1_, e1_)] := by rw [hft_, ht0_]
      have hsj_ := hsx_.cloJC (o2 := o44) hso_ hfm_ hpa9 hfz hg9 ha15 (by omega) (by omega) (by omega) hq95
      have hw0_ : 0 < a15 := by have t := ha15.2.1 (by decide); omega
      have hcz_ := hsj_.sz hw0_ ha15 (by omega) (by omega)
      obtain ⟨cu2, pszF_0⟩ := hsj_.toF hw0_
      rw [hin_, hfs_] at hfq_
      have hts_ : ts_ = [] := List.eq_nil_of_length_eq_zero (by omega)
      have hfs1_ : FS65 = [(ao_, ro_)] := by rw [hfs_, hts_]
      have pdnF_0 : dnF o44 G90 0 ps59 wt60 cs_ a15 (opO ao_ ro_) := hdx_.finC hfq_ hso_ hfz hg9 ha15
      refine ab_aload_n d_RD_read_147 rfl ?_
      refine ab_getf (fs := [vz k_89, vz v_89, rg_89, vz pl_89, vz fl_89, ou_89, ls_89, bf_89, vz sz291, vz mb292, vz oe_89, vz le_89, vz mo_89, vz la_89, vz rc_89]) f_RD_76 d_RD_read_148 ha15.2.2 rfl ?_
      refine zz_sipush d_RD_read_151 (by decide) ?_
      refine zz_icmp_le (tgt := 168) d_RD_read_154 (by decide) (by omega) (by decide) (fun c99 => ?_) (fun c99 => ?_)
      · refine ab_aload_n d_RD_read_168 rfl ?_
        refine ab_getf (fs := [vR x, inn45, vz dp46, vz flg47, vz grp48, vR na, vR nl, vz lst49, vz mst50, vz bh51]) f_RD_12 d_RD_read_169 hd_.2.2 rfl ?_
        refine ab_getf (fs := [vR se, vR by_, vz n, vz pl54, vz fa55, vz fp56, vR kd57, vz kn58]) f_RD_58 d_RD_read_172 hx.2.2 rfl ?_
        refine zz_if_ne (tgt := 182) d_RD_read_175 (by decide) (by omega) (fun c100 => ?_) (fun c100 => ?_)
        · refine ab_null d_RD_read_182 ?_
          refine ab_aret (rt := _) rfl (Or.inl ⟨_, rfl⟩) (Or.inl rfl) d_RD_read_183 ?_
          rw [hQ]; exact (Or.inl ⟨_, _, _, _, _, _, _, _, _, _, _, _, _, _, _, _, _, _, rfl, hfr, hd_, hx, hna, hnl, pcsI_se, (by omega), (by omega), (by omega), (by omega), (by omega), (by omega), (by exact rdH_f hq83 (by omega))⟩)
        · refine ab_aload_n d_RD_read_178 rfl ?_
          refine ab_goto (tgt := 183) d_RD_read_179 (by decide) ?_
          refine ab_aret (rt := _) rfl (Or.inl ⟨_, rfl⟩) (Or.inr ⟨_, rfl⟩) d_RD_read_183 ?_
          rw [hQ]; exact (Or.inr ⟨_, _, _, _, _, _, _, _, _, _, _, _, _, _, _, _, _, _, _, _, _, _, _, sz291, _, _, _, rfl, hfr, hd_, hx, hna, hnl, pcsI_se, ppaI_0, pszF_0, pdnF_0, (by omega), (by omega), (by omega), (by omega), (by omega), (by omega), (by exact rdH_p hq83 (by omega)), (by have t_0 := rdH_c hq83 (by omega) hft1_; have hz_ : pin 4 c1_ = 0 := (by unfold pin; rw [if_pos rfl, if_pos t_0]); exact rdH_k hq83 (by omega) (by omega) hft1_ (by have u_ := hcz_; unfold ceq at u_; omega) (by omega)), (by exact rdH_m hq83 (by omega) (by omega) hfs1_), (by exact hq73), (by exact hq79), (by omega), (by unfold pf; rw [ha15.2.2]; rfl), (by omega)⟩)
      · refine ab_aload_n d_RD_read_157 rfl ?_
        refine ab_getf (fs := [vR x, inn45, vz dp46, vz flg47, vz grp48, vR na, vR nl, vz lst49, vz mst50, vz bh51]) f_RD_12 d_RD_read_158 hd_.2.2 rfl ?_
        refine zz_bipush d_RD_read_161 (by decide) ?_
        refine zz_iconst d_RD_read_163 ?_
        refine ab_callV (d' := d - 1) (as := [vz 14, vz (-1)]) (st := []) (r := _) (z_TX_fail (o := o44) (x := x) (lx := 24) (se := se) (by_ := by_) (n := n) (pl := pl54) (fa := fa55) (fp := fp56) (kd := kd57) (kn := kn58) (w := 14) (p := (-1)) hx (by omega) (by omega) (by omega)) (fun oc G2 h => by rcases h with ⟨h, _⟩ | ⟨h, _⟩ <;> exact ⟨_, h⟩) (by omega) m_TX_fail ml_RD_69 im_TX_fail se_TX_fail c_TX hx.2.2 (Nat.le_of_ble_eq_true rfl) d_RD_read_164 rfl ?_
        intro v G101 hq
        rcases hq with ⟨hv, hfk, hlk, hsk, hNx, hq102⟩ | ⟨hv, hGe, hq103⟩
        · cases hv
          have hd_ := hfk.get hd_ (by decide)
          have ht := hfk.get ht (by decide)
          have hby_ := hfk.get hby_ (by decide)
          have hna := hfk.get hna (by decide)
          have hnl := hfk.get hnl (by decide)
          have h15 := hfk.get h15 (by decide)
          have h16 := hfk.get h16 (by decide)
          have ha15 := hfk.get ha15 (by decide)
          have pcsI_se := csI.fr hfk pcsI_se (by decide) (by decide)
          have ptbI_0 := tbI.fr hfk ptbI_0  (by decide)
          have pszF_0 := szF.fr hfk ppaI_0 pszF_0 (by decide) (by decide)
          have pdnF_0 := dnF.fr hfk ppaI_0 pdnF_0 (by decide) (by decide)
          have ppaI_0 := paI.fr hfk ppaI_0 (by decide) (by decide) (by decide) (by decide)
          have hfr := hfr.tr hfk (by decide)
          have hq104 := hlk
          have hq105 := hsk
          have hx := hNx
          change ab_W _ _ _ G101 167 [some (vR d_), none, none, some (vR a15), none, none] [vz (-1)] _
          refine ab_pop d_RD_read_167 rfl ?_
          refine ab_aload_n d_RD_read_168 rfl ?_
          refine ab_getf (fs := [vR x, inn45, vz dp46, vz flg47, vz grp48, vR na, vR nl, vz lst49, vz mst50, vz bh51]) f_RD_12 d_RD_read_169 hd_.2.2 rfl ?_
          refine ab_getf (fs := [vR se, vR by_, vz n, vz pl54, vz 14, vz (-1), vR kd57, vz kn58]) f_RD_58 d_RD_read_172 hx.2.2 rfl ?_
          refine zz_if_ne (tgt := 182) d_RD_read_175 (by decide) (by decide) (fun c106 => ?_) (fun c106 => absurd c106 (by decide))
          refine ab_null d_RD_read_182 ?_
          refine ab_aret (rt := _) rfl (Or.inl ⟨_, rfl⟩) (Or.inl rfl) d_RD_read_183 ?_
          rw [hQ]; exact (Or.inl ⟨_, _, _, _, _, _, _, _, _, _, _, _, _, _, _, _, _, _, rfl, hfr, hd_, hx, hna, hnl, pcsI_se, (by omega), (by omega), (by omega), (by omega), (by omega), (by omega), (by have t_0 := rdH_c hq83 (by omega) hft1_; have hz_ : pin 4 c1_ = 0 := (by unfold pin; rw [if_pos rfl, if_pos t_0]); exact rdH_14 hq83 (by omega) (by omega) hft1_ (by have u_ := hcz_; unfold ceq at u_; omega))⟩)
        · cases hv
          rw [hGe]
          change ab_W _ _ _ G90 167 [some (vR d_), none, none, some (vR a15), none, none] [vz (-1)] _
          refine ab_pop d_RD_read_167 rfl ?_
          refine ab_aload_n d_RD_read_168 rfl ?_
          refine ab_getf (fs := [vR x, inn45, vz dp46, vz flg47, vz grp48, vR na, vR nl, vz lst49, vz mst50, vz bh51]) f_RD_12 d_RD_read_169 hd_.2.2 rfl ?_
          refine ab_getf (fs := [vR se, vR by_, vz n, vz pl54, vz fa55, vz fp56, vR kd57, vz kn58]) f_RD_58 d_RD_read_172 hx.2.2 rfl ?_
          refine zz_if_ne (tgt := 182) d_RD_read_175 (by decide) (by omega) (fun c107 => ?_) (fun c107 => absurd c107 (by omega))
          refine ab_null d_RD_read_182 ?_
          refine ab_aret (rt := _) rfl (Or.inl ⟨_, rfl⟩) (Or.inl rfl) d_RD_read_183 ?_
          rw [hQ]; exact (Or.inl ⟨_, _, _, _, _, _, _, _, _, _, _, _, _, _, _, _, _, _, rfl, hfr, hd_, hx, hna, hnl, pcsI_se, (by omega), (by omega), (by omega), (by omega), (by omega), (by omega), (by exact rdH_f hq83 (by omega))⟩)
    · obtain ⟨j108, hj108⟩ : ∃ j, k62 = j + 1 := ⟨k62 - 1, by omega⟩
      rw [hj108] at popI_0
      obtain ⟨g108, r108, w108, lv108, hv108, ⟨hpg108, hpr108⟩, ⟨hgl108, hrl108⟩, hf6108, hf5108, hr6108, hlv108, hop108⟩ := popI_0
      subst hv108
      obtain ⟨k_109, v_109, rg_109, pl_109, fl_109, ou_109, ls_109, bf_109, sz_109, mb_109, oe_109, le_109, mo_109, la_109, rc_109, hg108, hn109, hb109, hg109, ho109, hl109, hf109⟩ := ppaI_0.1 g108 hpg108
      have hB109 := hb109
      unfold pnB at hB109
      have hK109 := hn109.1
      obtain ⟨ls110, bf110, sz110, mb110, hr108, hB110, hl110, hf110⟩ := ppaI_0.2.1 r108 hpr108
      have e6108 : some ls_109 = some (vR r108) := by have t := hf6108; unfold pf at t; rw [hg108.2.2] at t; exact t
      have e6108 := Option.some.inj e6108
      subst e6108
      have e5108 : some ou_109 = some w108 := by have t := hf5108; unfold pf at t; rw [hg108.2.2] at t; exact t
      have e5108 := Option.some.inj e5108
      subst e5108
      have e7108 : some ls110 = some lv108 := by have t := hr6108; unfold pf at t; rw [hr108.2.2] at t; exact t
      have e7108 := Option.some.inj e7108
      subst e7108
      have popI_0 : opI o44 G43 0 ps59 j108 g108 ou_109 := hop108
      have hnq108 : nq g108 r108 := hg108.ne hr108 (by decide)
      change ab_W _ _ _ G43 127 [some (vR d_), none, none, some (vR a15), none, none] [] _
      have hpl_ : pl_109 = a1_ := by obtain ⟨cu9, _, _, hfm9, _⟩ := pszJ_0; rw [hft_] at hfm9; exact frm_pl hfm9 hg108 (by omega)
      refine ab_aload_n d_RD_read_127 rfl ?_
      refine ab_getf (fs := [vR x, vR g108, vz dp46, vz flg47, vz grp48, vR na, vR nl, vz lst49, vz mst50, vz bh51]) f_RD_12 d_RD_read_128 hd_.2.2 rfl ?_
      refine zz_iconst d_RD_read_131 ?_
      refine ab_aload_n d_RD_read_132 rfl ?_
      refine ab_getf (fs := [vR x, vR g108, vz dp46, vz flg47, vz grp48, vR na, vR nl, vz lst49, vz mst50, vz bh51]) f_RD_23 d_RD_read_133 hd_.2.2 rfl ?_
      refine ab_getf (fs := [vz k_109, vz v_109, rg_109, vz pl_109, vz fl_109, ou_109, vR r108, bf_109, vz sz_109, vz mb_109, vz oe_109, vz le_109, vz mo_109, vz la_109, vz rc_109]) f_RD_68 d_RD_read_136 hg108.2.2 rfl ?_
      refine ab_callV (d' := d - 1) (as := [vz 2, vz pl_109]) (st := []) (r := _) (z_TX_fail (o := o44) (x := x) (lx := 24) (se := se) (by_ := by_) (n := n) (pl := pl54) (fa := fa55) (fp := fp56) (kd := kd57) (kn := kn58) (w := 2) (p := pl_109) hx (by omega) (by omega) (by omega)) (fun oc G2 h => by rcases h with ⟨h, _⟩ | ⟨h, _⟩ <;> exact ⟨_, h⟩) (by omega) m_TX_fail ml_RD_69 im_TX_fail se_TX_fail c_TX hx.2.2 (Nat.le_of_ble_eq_true rfl) d_RD_read_139 rfl ?_
      intro v G111 hq
      rcases hq with ⟨hv, hfk, hlk, hsk, hNx, hq112⟩ | ⟨hv, hGe, hq113⟩
      · cases hv
        have hd_ := hfk.get hd_ (by decide)
        have ht := hfk.get ht (by decide)
        have hby_ := hfk.get hby_ (by decide)
        have hna := hfk.get hna (by decide)
        have hnl := hfk.get hnl (by decide)
        have h15 := hfk.get h15 (by decide)
        have h16 := hfk.get h16 (by decide)
        have hg108 := hfk.get hg108 (by decide)
        have hr108 := hfk.get hr108 (by decide)
        have pcsI_se := csI.fr hfk pcsI_se (by decide) (by decide)
        have ptbI_0 := tbI.fr hfk ptbI_0  (by decide)
        have pszJ_0 := szJ.fr hfk ppaI_0 pszJ_0 (by decide) (by decide)
        have pdnJ_0 := dnJ.fr hfk ppaI_0 pdnJ_0 (by decide) (by decide)
        have popI_0 := opI.fr hfk ppaI_0 popI_0 (by decide) (by decide)
        have ppaI_0 := paI.fr hfk ppaI_0 (by decide) (by decide) (by decide) (by decide)
        have hfr := hfr.tr hfk (by decide)
        have hq114 := hlk
        have hq115 := hsk
        have hx := hNx
        change ab_W _ _ _ G111 142 [some (vR d_), none, none, some (vR a15), none, none] [vz (-1)] _
        refine ab_pop d_RD_read_142 rfl ?_
        obtain ⟨k_116, v_116, rg_116, pl_116, fl_116, ou_116, ls_116, bf_116, sz_116, mb_116, oe_116, le_116, mo_116, la_116, rc_116, ha15, hn116, hb116, hg116, ho116, hl116, hf116⟩ := ppaI_0.1 a15 hq79
        have hB116 := hb116
        unfold pnB at hB116
        have hK116 := hn116.1
        obtain ⟨cu, hsx_, hso_, hfm_, -⟩ := pszJ_0
        obtain ⟨cs_, hdx_, hfq_, -⟩ := pdnJ_0
        have hg9 := ha15
        have hpa9 := ppaI_0
        have hfz : fz ps59 [a15] G111 G111 := fz.rf
        refine ab_aload_n d_RD_read_143 rfl ?_
        refine ab_callV (d' := d - 1) (as := []) (st := []) (r := _) (z_PA_closeRows (o := o44) (k := k_116) (v := v_116) (rg := rg_116) (pl := pl_116) (fl := fl_116) (ou := ou_116) (ls := ls_116) (bf := bf_116) (sz := sz_116) (mb := mb_116) (oe := oe_116) (le := le_116) (mo := mo_116) (la := la_116) (rc := rc_116) (ps := ps59) (wt := wt60) (bs := bs) (ph := ph61) (gr := grp48) (Pr := pr0) (p := a15) (cu := cu) (eu := (euc cs_)) ha15 ppaI_0 (by omega) hq79 hn116 (by omega) (ho116.up (by omega)) (hl116.up (by omega)) (hf116.up (by omega)) hsx_.rqs hsx_.1 hdx_.reu (by omega)) (fun oc G2 h => by rcases h with ⟨_, _, h, _⟩ <;> exact ⟨_, h⟩) (by omega) m_PA_closeRows ml_RD_73 im_PA_closeRows se_PA_closeRows c_PA ha15.2.2 (Nat.le_of_ble_eq_true rfl) d_RD_read_144 rfl ?_
        intro v G117 hq
        rcases hq with ⟨sz2118, mb2119, hv, hfk, hlk, hsk, hNa15, pNpaI_0, hq120, hq121, hq122, hq123⟩
        cases hv
        have hd_ := hfk.get hd_ (by decide)
        have hx := hfk.get hx (by decide)
        have ht := hfk.get ht (by decide)
        have hby_ := hfk.get hby_ (by decide)
        have hna := hfk.get hna (by decide)
        have hnl := hfk.get hnl (by decide)
        have h15 := hfk.get h15 (by decide)
        have h16 := hfk.get h16 (by decide)
        have hr108 := hfk.get hr108 (by decide)
        have hfz := hfz.tr hq121 (by simp)
        have pcsI_se := csI.fr hfk pcsI_se (by decide) (by decide)
        have ptbI_0 := tbI.fr hfk ptbI_0  (by decide)
        have ppaI_0 := pNpaI_0
        have hfr := hfr.tr hfk (by decide)
        have hq124 := hlk
        have hq125 := hsk
        have ha15 := hNa15
        change ab_W _ _ _ G117 147 [some (vR d_), none, none, some (vR a15), none, none] [] _
        refine ab_aload_n d_RD_read_147 rfl ?_
        refine ab_getf (fs := [vz k_116, vz v_116, rg_116, vz pl_116, vz fl_116, ou_116, ls_116, bf_116, vz sz2118, vz mb2119, vz oe_116, vz le_116, vz mo_116, vz la_116, vz rc_116]) f_RD_76 d_RD_read_148 ha15.2.2 rfl ?_
        refine zz_sipush d_RD_read_151 (by decide) ?_
        refine zz_icmp_le (tgt := 168) d_RD_read_154 (by decide) (by omega) (by decide) (fun c126 => ?_) (fun c126 => ?_)
        · refine ab_aload_n d_RD_read_168 rfl ?_
          refine ab_getf (fs := [vR x, vR g108, vz dp46, vz flg47, vz grp48, vR na, vR nl, vz lst49, vz mst50, vz bh51]) f_RD_12 d_RD_read_169 hd_.2.2 rfl ?_
          refine ab_getf (fs := [vR se, vR by_, vz n, vz pl54, vz 2, vz pl_109, vR kd57, vz kn58]) f_RD_58 d_RD_read_172 hx.2.2 rfl ?_
          refine zz_if_ne (tgt := 182) d_RD_read_175 (by decide) (by decide) (fun c127 => ?_) (fun c127 => absurd c127 (by decide))
          refine ab_null d_RD_read_182 ?_
          refine ab_aret (rt := _) rfl (Or.inl ⟨_, rfl⟩) (Or.inl rfl) d_RD_read_183 ?_
          rw [hQ]; exact (Or.inl ⟨_, _, _, _, _, _, _, _, _, _, _, _, _, _, _, _, _, _, rfl, hfr, hd_, hx, hna, hnl, pcsI_se, (by omega), (by omega), (by omega), (by omega), (by omega), (by omega), (by have t_0 := rdH_2 hq83 (by omega) (by omega) hft_ (by omega); rw [← hpl_] at t_0; exact t_0)⟩)
        · refine ab_aload_n d_RD_read_157 rfl ?_
          refine ab_getf (fs := [vR x, vR g108, vz dp46, vz flg47, vz grp48, vR na, vR nl, vz lst49, vz mst50, vz bh51]) f_RD_12 d_RD_read_158 hd_.2.2 rfl ?_
          refine zz_bipush d_RD_read_161 (by decide) ?_
          refine zz_iconst d_RD_read_163 ?_
          refine ab_callV (d' := d - 1) (as := [vz 14, vz (-1)]) (st := []) (r := _) (z_TX_fail (o := o44) (x := x) (lx := 24) (se := se) (by_ := by_) (n := n) (pl := pl54) (fa := 2) (fp := pl_109) (kd := kd57) (kn := kn58) (w := 14) (p := (-1)) hx (by omega) (by omega) (by omega)) (fun oc G2 h => by rcases h with ⟨h, _⟩ | ⟨h, _⟩ <;> exact ⟨_, h⟩) (by omega) m_TX_fail ml_RD_69 im_TX_fail se_TX_fail c_TX hx.2.2 (Nat.le_of_ble_eq_true rfl) d_RD_read_164 rfl ?_
          intro v G128 hq
          rcases hq with ⟨hv, hfk, hlk, hsk, hNx, hq129⟩ | ⟨hv, hGe, hq130⟩
          · cases hv
            have hd_ := hfk.get hd_ (by decide)
            have ht := hfk.get ht (by decide)
            have hby_ := hfk.get hby_ (by decide)
            have hna := hfk.get hna (by decide)
            have hnl := hfk.get hnl (by decide)
            have h15 := hfk.get h15 (by decide)
            have h16 := hfk.get h16 (by decide)
            have hr108 := hfk.get hr108 (by decide)
            have ha15 := hfk.get ha15 (by decide)
            have pcsI_se := csI.fr hfk pcsI_se (by decide) (by decide)
            have ptbI_0 := tbI.fr hfk ptbI_0  (by decide)
            have ppaI_0 := paI.fr hfk ppaI_0 (by decide) (by decide) (by decide) (by decide)
            have hfr := hfr.tr hfk (by decide)
            have hq131 := hlk
            have hq132 := hsk
            have hx := hNx
            change ab_W _ _ _ G128 167 [some (vR d_), none, none, some (vR a15), none, none] [vz (-1)] _
            exfalso; omega
          · cases hv
            rw [hGe]
            change ab_W _ _ _ G117 167 [some (vR d_), none, none, some (vR a15), none, none] [vz (-1)] _
            refine ab_pop d_RD_read_167 rfl ?_
            refine ab_aload_n d_RD_read_168 rfl ?_
            refine ab_getf (fs := [vR x, vR g108, vz dp46, vz flg47, vz grp48, vR na, vR nl, vz lst49, vz mst50, vz bh51]) f_RD_12 d_RD_read_169 hd_.2.2 rfl ?_
            refine ab_getf (fs := [vR se, vR by_, vz n, vz pl54, vz 2, vz pl_109, vR kd57, vz kn58]) f_RD_58 d_RD_read_172 hx.2.2 rfl ?_
            refine zz_if_ne (tgt := 182) d_RD_read_175 (by decide) (by decide) (fun c133 => ?_) (fun c133 => absurd c133 (by decide))
            refine ab_null d_RD_read_182 ?_
            refine ab_aret (rt := _) rfl (Or.inl ⟨_, rfl⟩) (Or.inl rfl) d_RD_read_183 ?_
            rw [hQ]; exact (Or.inl ⟨_, _, _, _, _, _, _, _, _, _, _, _, _, _, _, _, _, _, rfl, hfr, hd_, hx, hna, hnl, pcsI_se, (by omega), (by omega), (by omega), (by omega), (by omega), (by omega), (by have t_0 := rdH_2 hq83 (by omega) (by omega) hft_ (by omega); rw [← hpl_] at t_0; exact t_0)⟩)
      · cases hv
        rw [hGe]
        change ab_W _ _ _ G43 142 [some (vR d_), none, none, some (vR a15), none, none] [vz (-1)] _
        refine ab_pop d_RD_read_142 rfl ?_
        obtain ⟨k_134, v_134, rg_134, pl_134, fl_134, ou_134, ls_134, bf_134, sz_134, mb_134, oe_134, le_134, mo_134, la_134, rc_134, ha15, hn134, hb134, hg134, ho134, hl134, hf134⟩ := ppaI_0.1 a15 hq79
        have hB134 := hb134
        unfold pnB at hB134
        have hK134 := hn134.1
        obtain ⟨cu, hsx_, hso_, hfm_, -⟩ := pszJ_0
        obtain ⟨cs_, hdx_, hfq_, -⟩ := pdnJ_0
        have hg9 := ha15
        have hpa9 := ppaI_0
        have hfz : fz ps59 [a15] G43 G43 := fz.rf
        refine ab_aload_n d_RD_read_143 rfl ?_
        refine ab_callV (d' := d - 1) (as := []) (st := []) (r := _) (z_PA_closeRows (o := o44) (k := k_134) (v := v_134) (rg := rg_134) (pl := pl_134) (fl := fl_134) (ou := ou_134) (ls := ls_134) (bf := bf_134) (sz := sz_134) (mb := mb_134) (oe := oe_134) (le := le_134) (mo := mo_134) (la := la_134) (rc := rc_134) (ps := ps59) (wt := wt60) (bs := bs) (ph := ph61) (gr := grp48) (Pr := pr0) (p := a15) (cu := cu) (eu := (euc cs_)) ha15 ppaI_0 (by omega) hq79 hn134 (by omega) (ho134.up (by omega)) (hl134.up (by omega)) (hf134.up (by omega)) hsx_.rqs hsx_.1 hdx_.reu (by omega)) (fun oc G2 h => by rcases h with ⟨_, _, h, _⟩ <;> exact ⟨_, h⟩) (by omega) m_PA_closeRows ml_RD_73 im_PA_closeRows se_PA_closeRows c_PA ha15.2.2 (Nat.le_of_ble_eq_true rfl) d_RD_read_144 rfl ?_
        intro v G135 hq
        rcases hq with ⟨sz2136, mb2137, hv, hfk, hlk, hsk, hNa15, pNpaI_0, hq138, hq139, hq140, hq141⟩
        cases hv
        have hd_ := hfk.get hd_ (by decide)
        have hx := hfk.get hx (by decide)
        have ht := hfk.get ht (by decide)
        have hby_ := hfk.get hby_ (by decide)
        have hna := hfk.get hna (by decide)
        have hnl := hfk.get hnl (by decide)
        have h15 := hfk.get h15 (by decide)
        have h16 := hfk.get h16 (by decide)
        have hr108 := hfk.get hr108 (by decide)
        have hfz := hfz.tr hq139 (by simp)
        have pcsI_se := csI.fr hfk pcsI_se (by decide) (by decide)
        have ptbI_0 := tbI.fr hfk ptbI_0  (by decide)
        have ppaI_0 := pNpaI_0
        have hfr := hfr.tr hfk (by decide)
        have hq142 := hlk
        have hq143 := hsk
        have ha15 := hNa15
        change ab_W _ _ _ G135 147 [some (vR d_), none, none, some (vR a15), none, none] [] _
        refine ab_aload_n d_RD_read_147 rfl ?_
        refine ab_getf (fs := [vz k_134, vz v_134, rg_134, vz pl_134, vz fl_134, ou_134, ls_134, bf_134, vz sz2136, vz mb2137, vz oe_134, vz le_134, vz mo_134, vz la_134, vz rc_134]) f_RD_76 d_RD_read_148 ha15.2.2 rfl ?_
        refine zz_sipush d_RD_read_151 (by decide) ?_
        refine zz_icmp_le (tgt := 168) d_RD_read_154 (by decide) (by omega) (by decide) (fun c144 => ?_) (fun c144 => ?_)
        · refine ab_aload_n d_RD_read_168 rfl ?_
          refine ab_getf (fs := [vR x, vR g108, vz dp46, vz flg47, vz grp48, vR na, vR nl, vz lst49, vz mst50, vz bh51]) f_RD_12 d_RD_read_169 hd_.2.2 rfl ?_
          refine ab_getf (fs := [vR se, vR by_, vz n, vz pl54, vz fa55, vz fp56, vR kd57, vz kn58]) f_RD_58 d_RD_read_172 hx.2.2 rfl ?_
          refine zz_if_ne (tgt := 182) d_RD_read_175 (by decide) (by omega) (fun c145 => ?_) (fun c145 => absurd c145 (by omega))
          refine ab_null d_RD_read_182 ?_
          refine ab_aret (rt := _) rfl (Or.inl ⟨_, rfl⟩) (Or.inl rfl) d_RD_read_183 ?_
          rw [hQ]; exact (Or.inl ⟨_, _, _, _, _, _, _, _, _, _, _, _, _, _, _, _, _, _, rfl, hfr, hd_, hx, hna, hnl, pcsI_se, (by omega), (by omega), (by omega), (by omega), (by omega), (by omega), (by exact rdH_f hq83 (by omega))⟩)
        · refine ab_aload_n d_RD_read_157 rfl ?_
          refine ab_getf (fs := [vR x, vR g108, vz dp46, vz flg47, vz grp48, vR na, vR nl, vz lst49, vz mst50, vz bh51]) f_RD_12 d_RD_read_158 hd_.2.2 rfl ?_
          refine zz_bipush d_RD_read_161 (by decide) ?_
          refine zz_iconst d_RD_read_163 ?_
          refine ab_callV (d' := d - 1) (as := [vz 14, vz (-1)]) (st := []) (r := _) (z_TX_fail (o := o44) (x := x) (lx := 24) (se := se) (by_ := by_) (n := n) (pl := pl54) (fa := fa55) (fp := fp56) (kd := kd57) (kn := kn58) (w := 14) (p := (-1)) hx (by omega) (by omega) (by omega)) (fun oc G2 h => by rcases h with ⟨h, _⟩ | ⟨h, _⟩ <;> exact ⟨_, h⟩) (by omega) m_TX_fail ml_RD_69 im_TX_fail se_TX_fail c_TX hx.2.2 (Nat.le_of_ble_eq_true rfl) d_RD_read_164 rfl ?_
          intro v G146 hq
          rcases hq with ⟨hv, hfk, hlk, hsk, hNx, hq147⟩ | ⟨hv, hGe, hq148⟩
          · cases hv
            have hd_ := hfk.get hd_ (by decide)
            have ht := hfk.get ht (by decide)
            have hby_ := hfk.get hby_ (by decide)
            have hna := hfk.get hna (by decide)
            have hnl := hfk.get hnl (by decide)
            have h15 := hfk.get h15 (by decide)
            have h16 := hfk.get h16 (by decide)
            have hr108 := hfk.get hr108 (by decide)
            have ha15 := hfk.get ha15 (by decide)
            have pcsI_se := csI.fr hfk pcsI_se (by decide) (by decide)
            have ptbI_0 := tbI.fr hfk ptbI_0  (by decide)
            have ppaI_0 := paI.fr hfk ppaI_0 (by decide) (by decide) (by decide) (by decide)
            have hfr := hfr.tr hfk (by decide)
            have hq149 := hlk
            have hq150 := hsk
            have hx := hNx
            change ab_W _ _ _ G146 167 [some (vR d_), none, none, some (vR a15), none, none] [vz (-1)] _
            exfalso; omega
          · cases hv
            rw [hGe]
            change ab_W _ _ _ G135 167 [some (vR d_), none, none, some (vR a15), none, none] [vz (-1)] _
            refine ab_pop d_RD_read_167 rfl ?_
            refine ab_aload_n d_RD_read_168 rfl ?_
            refine ab_getf (fs := [vR x, vR g108, vz dp46, vz flg47, vz grp48, vR na, vR nl, vz lst49, vz mst50, vz bh51]) f_RD_12 d_RD_read_169 hd_.2.2 rfl ?_
            refine ab_getf (fs := [vR se, vR by_, vz n, vz pl54, vz fa55, vz fp56, vR kd57, vz kn58]) f_RD_58 d_RD_read_172 hx.2.2 rfl ?_
            refine zz_if_ne (tgt := 182) d_RD_read_175 (by decide) (by omega) (fun c151 => ?_) (fun c151 => absurd c151 (by omega))
            refine ab_null d_RD_read_182 ?_
            refine ab_aret (rt := _) rfl (Or.inl ⟨_, rfl⟩) (Or.inl rfl) d_RD_read_183 ?_
            rw [hQ]; exact (Or.inl ⟨_, _, _, _, _, _, _, _, _, _, _, _, _, _, _, _, _, _, rfl, hfr, hd_, hx, hna, hnl, pcsI_se, (by omega), (by omega), (by omega), (by omega), (by omega), (by omega), (by exact rdH_f hq83 (by omega))⟩)
