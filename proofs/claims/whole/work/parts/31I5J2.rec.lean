set_option maxRecDepth 100000 in
set_option maxHeartbeats 4000000 in
theorem z_PR_recordOf {X : ab_X} {d : Nat} {o : Nat → Nat} {G : ab_G} {q : Nat} {lq : Nat} {ki : Nat} {ne : Nat} {ot : Nat} {cnt : Int} {fi : Int} {la : Int} {ra : Nat} {ru : Int} {gr : Int} {wi : Int} {sz : Int} {fl : Int} {ve : Int} {mi : Int} {na : Nat} {nl : Nat} {K : Int → Int} {N : Int → Int} {O : Int → Int} {RR : Int → Int} {nr : Nat} {kp : Int} {vp : Int} {rgp : Value} {plp : Int} {flp : Int} {oup : Value} {lsp : Value} {bfp : Value} {szp : Int} {mbp : Int} {oep : Int} {lep : Int} {mop : Int} {lap : Int} {rcp : Int} {ps : Nat → Nat} {wt : Nat → Wt} {bs : Nat} {ph : Int} {gq : Int} {p : Nat} {cu : Nat → Int} {cs : Nat → Sn} {on : Nat → Sn} {re : Nat → Sn} {rg : Nat → Sn} (hq : cc o G q lq (ab_ob 5 [vR ki, vR ne, vR ot, vz cnt, vz fi, vz la, vR ra, vz ru, vz gr, vz wi, vz sz, vz fl, vz ve, vz mi, vR na, vR nl])) (hra : cc o G ra (lq + 4) (za nr RR)) (hp : cc o G p 90 (ab_ob 4 [vz kp, vz vp, rgp, vz plp, vz flp, oup, lsp, bfp, vz szp, vz mbp, vz oep, vz lep, vz mop, vz lap, vz rcp])) (ppaI_0 : paI o G 0 ps wt bs gq (prc RR ru) ph) (pszB_0 : szB o G 0 ps cu) (pdnB_0 : dnB o G 0 ps wt cs on re rg RR ru) (n18 : ab_n0 = 18) (cq : 100 ≤ lq ∧ 2 ≤ cnt ∧ cnt ≤ 808 ∧ 0 ≤ la ∧ la ≤ 1 ∧ 0 ≤ ru ∧ ru ≤ ↑nr ∧ ↑nr ≤ (100000 : Int) ∧ 32 ≤ nr ∧ 0 ≤ ph ∧ ru + ph ≤ 50000) (hp_ : prok K N O RR cnt ru wi) (hch : rch RR ru) (hr : hrr RR ↑nr) (hpp : ps p = 90) (ck1 : kp = 1) (hn : paN gq (prc RR ru) kp vp rcp) (cb9 : 0 ≤ szp ∧ szp ≤ 1000000 ∧ 0 ≤ lep ∧ lep ≤ 1000 ∧ 0 ≤ mop ∧ mop ≤ 1000) (rc : 32 * G.length + 103300 ≤ 32 * (ab_n0 + room_1.cells) + nr) (rs : ab_slots G + 200000 ≤ room_1.slots + 2 * nr) (hd : 3 ≤ d) : ab_F X d y_PR_recordOf (.code y_PR_recordOf b_PR_recordOf 3 (some (.int))) [vR q, vR p] G (fun oc G2 => ∃ o2 : Nat → Nat, ∃ v : Int, ∃ ra2 : Nat, ∃ nr2 : Nat, ∃ ru2 : Int, ∃ RR2 : Int → Int, ∃ ph2 : Int, ∃ rc2 : Int, oc = .returned (some (vz v)) ∧ fx o o2 [lq, (lq + 4), 90] G G2 ∧ cc o2 G2 q lq (ab_ob 5 [vR ki, vR ne, vR ot, vz cnt, vz fi, vz la, vR ra2, vz ru2, vz gr, vz wi, vz sz, vz fl, vz ve, vz mi, vR na, vR nl]) ∧ cc o2 G2 ra2 (lq + 4) (za nr2 RR2) ∧ cc o2 G2 p 90 (ab_ob 4 [vz kp, vz vp, rgp, vz plp, vz flp, oup, lsp, bfp, vz szp, vz mbp, vz oep, vz lep, vz mop, vz lap, vz rc2]) ∧ paI o2 G2 0 ps wt bs gq (prc RR2 ru2) ph2 ∧ szB o2 G2 0 ps cu ∧ dnB o2 G2 0 ps wt cs on re rg RR2 ru2 ∧ (recok RR2 ru2 v) ∧ (kext RR RR2 ru) ∧ (pxt K N O RR cnt ru K N O RR2) ∧ (∀ x, cs_mem (fun i => RR2 (v + 1 + i)) (RR2 v) x ↔ (wt p).2 x) ∧ (rch RR2 ru2) ∧ (prok K N O RR2 cnt ru2 wi) ∧ (hrr RR2 ↑nr2) ∧ (0 ≤ ru2 ∧ ru2 ≤ ↑nr2 ∧ ↑nr2 ≤ (100000 : Int) ∧ nr ≤ nr2) ∧ (0 ≤ ph2 ∧ ru2 + ph2 ≤ ru + ph ∧ ru ≤ ru2) ∧ (fzr ps o o2 G G2) ∧ (32 * G2.length + nr ≤ 32 * G.length + nr2) ∧ (ab_slots G2 + 2 * nr ≤ ab_slots G + 2 * nr2)) := by
  refine ab_F_of (by decide +kernel) (Nat.le_of_ble_eq_true rfl) ?_
  obtain ⟨Q, hQ⟩ : ∃ z : Outcome → ab_G → Prop, z = (fun oc G2 => ∃ o2 : Nat → Nat, ∃ v : Int, ∃ ra2 : Nat, ∃ nr2 : Nat, ∃ ru2 : Int, ∃ RR2 : Int → Int, ∃ ph2 : Int, ∃ rc2 : Int, oc = .returned (some (vz v)) ∧ fx o o2 [lq, (lq + 4), 90] G G2 ∧ cc o2 G2 q lq (ab_ob 5 [vR ki, vR ne, vR ot, vz cnt, vz fi, vz la, vR ra2, vz ru2, vz gr, vz wi, vz sz, vz fl, vz ve, vz mi, vR na, vR nl]) ∧ cc o2 G2 ra2 (lq + 4) (za nr2 RR2) ∧ cc o2 G2 p 90 (ab_ob 4 [vz kp, vz vp, rgp, vz plp, vz flp, oup, lsp, bfp, vz szp, vz mbp, vz oep, vz lep, vz mop, vz lap, vz rc2]) ∧ paI o2 G2 0 ps wt bs gq (prc RR2 ru2) ph2 ∧ szB o2 G2 0 ps cu ∧ dnB o2 G2 0 ps wt cs on re rg RR2 ru2 ∧ (recok RR2 ru2 v) ∧ (kext RR RR2 ru) ∧ (pxt K N O RR cnt ru K N O RR2) ∧ (∀ x, cs_mem (fun i => RR2 (v + 1 + i)) (RR2 v) x ↔ (wt p).2 x) ∧ (rch RR2 ru2) ∧ (prok K N O RR2 cnt ru2 wi) ∧ (hrr RR2 ↑nr2) ∧ (0 ≤ ru2 ∧ ru2 ≤ ↑nr2 ∧ ↑nr2 ≤ (100000 : Int) ∧ nr ≤ nr2) ∧ (0 ≤ ph2 ∧ ru2 + ph2 ≤ ru + ph ∧ ru ≤ ru2) ∧ (fzr ps o o2 G G2) ∧ (32 * G2.length + nr ≤ 32 * G.length + nr2) ∧ (ab_slots G2 + 2 * nr ≤ ab_slots G + 2 * nr2)) := ⟨_, rfl⟩
  rw [← hQ]
  change ab_W X (ab_pl y_PR_recordOf b_PR_recordOf 3 (some (.int))) d G 0 [some (vR q), some (vR p), none] [] Q
  have hfr : fx o o [lq, (lq + 4), 90] G G := fx.rf
  have hzr : fzr ps o o G G := fzr.rf
  obtain ⟨b, nn, qq_, mm, lb, hrg, hb, hlb, hwt, hcan, hnl, hsv_⟩ := ppaI_0.rng hpp hp ck1
  subst hrg
  have hK := hn.1
  have hrp := hn.2.2.2.2
  have hnb : nq b p := hb.ne hp hnl
  change ab_W _ _ _ G 0 [some (vR q), some (vR p), none] [] _
  refine ab_aload_n d_PR_recordOf_0 rfl ?_
  refine ab_getf (fs := [vz kp, vz vp, vR b, vz plp, vz flp, oup, lsp, bfp, vz szp, vz mbp, vz oep, vz lep, vz mop, vz lap, vz rcp]) f_PR_176 d_PR_recordOf_1 hp.2.2 rfl ?_
  refine zz_iconst d_PR_recordOf_4 ?_
  refine zz_icmp_ne (tgt := 117) d_PR_recordOf_5 (by decide) (by omega) (by decide) (fun c1 => ?_) (fun c1 => ?_)
  · refine ab_aload_n d_PR_recordOf_117 rfl ?_
    refine ab_getf (fs := [vz kp, vz vp, vR b, vz plp, vz flp, oup, lsp, bfp, vz szp, vz mbp, vz oep, vz lep, vz mop, vz lap, vz rcp]) f_PR_176 d_PR_recordOf_118 hp.2.2 rfl ?_
    refine zz_iconst d_PR_recordOf_121 ?_
    refine zz_mmax mj_PR_180 d_PR_recordOf_122 (by omega) (by decide) (Nat.le_of_ble_eq_true rfl) (by omega) ?_
    obtain ⟨v2, hv2⟩ : ∃ z : Int, z = (max rcp 0) := ⟨_, rfl⟩
    rw [← hv2]
    have hv2 : (rcp ≤ 0 ∧ v2 = 0) ∨ (0 < rcp ∧ v2 = rcp) := by omega
    change ab_W _ _ _ G 125 [some (vR q), some (vR p), none] [vz v2] _
    refine zz_iret rfl d_PR_recordOf_125 ?_
    rw [hQ]; exact ⟨_, _, _, _, _, _, _, _, rfl, hfr, hq, hra, hp, ppaI_0, pszB_0, pdnB_0, (by rw [show v2 = rcp by omega]; exact hrp.resolve_left (by omega)), (by first | exact hkx | exact kext.rf), (by first | exact ⟨kext.rf, kext.rf, kext.rf, hkx⟩ | exact pxt.rf), (by rw [show v2 = rcp by omega]; exact pdnB_0.rec hpp hp (by omega) (by omega) ck1 (by omega)), (by first | exact hchn | exact hch), (by first | exact hpk | exact hp_), (by first | exact hhr | exact hr), (by omega), (by omega), (by exact hzr), (by omega), (by omega)⟩
  · have hph : ((wt p).1 : Int) ≤ ph := by exact (phi_at ppaI_0 hpp hp c1)
    subst c1
    refine ab_aload_n d_PR_recordOf_8 rfl ?_
    refine ab_getf (fs := [vz kp, vz vp, vR b, vz plp, vz flp, oup, lsp, bfp, vz szp, vz mbp, vz oep, vz lep, vz mop, vz lap, vz (-1)]) f_PR_179 d_PR_recordOf_9 hp.2.2 rfl ?_
    refine ab_ifnull d_PR_recordOf_12 ?_
    refine ab_aload_n d_PR_recordOf_15 rfl ?_
    refine ab_getf (fs := [vz kp, vz vp, vR b, vz plp, vz flp, oup, lsp, bfp, vz szp, vz mbp, vz oep, vz lep, vz mop, vz lap, vz (-1)]) f_PR_179 d_PR_recordOf_16 hp.2.2 rfl ?_
    refine zz_alen d_PR_recordOf_19 hb ?_
    refine ab_istore_n d_PR_recordOf_20 (Nat.le_of_ble_eq_true rfl) (Nat.le_of_ble_eq_true rfl) rfl ?_
    change ab_W _ _ _ G 21 [some (vR q), some (vR p), some (vz (↑nn : Int))] [] _
    refine ab_aload_n d_PR_recordOf_21 rfl ?_
    refine ab_getf (fs := [vR ki, vR ne, vR ot, vz cnt, vz fi, vz la, vR ra, vz ru, vz gr, vz wi, vz sz, vz fl, vz ve, vz mi, vR na, vR nl]) f_PR_77 d_PR_recordOf_22 hq.2.2 rfl ?_
    refine ab_iload_n d_PR_recordOf_25 rfl ?_
    refine zz_iadd d_PR_recordOf_26 ?_
    refine zz_iconst d_PR_recordOf_27 ?_
    refine zz_iadd d_PR_recordOf_28 ?_
    refine ab_aload_n d_PR_recordOf_29 rfl ?_
    refine ab_getf (fs := [vR ki, vR ne, vR ot, vz cnt, vz fi, vz la, vR ra, vz ru, vz gr, vz wi, vz sz, vz fl, vz ve, vz mi, vR na, vR nl]) f_PR_21 d_PR_recordOf_30 hq.2.2 rfl ?_
    refine zz_alen d_PR_recordOf_33 hra ?_
    refine zz_icmp_le (tgt := 66) d_PR_recordOf_34 (by decide) (by omega) (by omega) (fun c3 => ?_) (fun c3 => ?_)
    · refine ab_aload_n d_PR_recordOf_66 rfl ?_
      refine ab_getf (fs := [vR ki, vR ne, vR ot, vz cnt, vz fi, vz la, vR ra, vz ru, vz gr, vz wi, vz sz, vz fl, vz ve, vz mi, vR na, vR nl]) f_PR_21 d_PR_recordOf_67 hq.2.2 rfl ?_
      refine ab_aload_n d_PR_recordOf_70 rfl ?_
      refine ab_getf (fs := [vR ki, vR ne, vR ot, vz cnt, vz fi, vz la, vR ra, vz ru, vz gr, vz wi, vz sz, vz fl, vz ve, vz mi, vR na, vR nl]) f_PR_77 d_PR_recordOf_71 hq.2.2 rfl ?_
      refine ab_iload_n d_PR_recordOf_74 rfl ?_
      refine zz_iconst d_PR_recordOf_75 ?_
      refine zz_idiv d_PR_recordOf_76 (by omega) ?_
      refine zz_iast d_PR_recordOf_77 hra (by omega) (hra.2.1 (by first | omega | exact (show 18 ≤ _ by omega))) ?_
      obtain ⟨G4, eG4⟩ : ∃ z : ab_G, z = List.set G ra (za nr (zu RR ru ((↑nn : Int) / 2))) := ⟨_, rfl⟩
      have hq := hq.keep hra eG4 (by omega)
      have hp := hp.keep hra eG4 (by omega)
      have hb := hb.keep hra eG4 (by omega)
      have hzr := hzr.wr hra eG4 (by omega)
      have hst := (fx.rf (o := o) (S := [(lq + 4)]) (G := G)).wr hra eG4 (List.mem_singleton.mpr rfl)
      have pszB_0 := szB.fr hst pszB_0 (by simp only [List.mem_cons, List.not_mem_nil, or_false]; omega) (by simp only [List.mem_cons, List.not_mem_nil, or_false]; omega)
      have pdnB_0 := dnB.fr hst ppaI_0 pdnB_0 (by simp only [List.mem_cons, List.not_mem_nil, or_false]; omega) (by simp only [List.mem_cons, List.not_mem_nil, or_false]; omega)
      have ppaI_0 := paI.fr hst ppaI_0 (by simp only [List.mem_cons, List.not_mem_nil, or_false]; omega) (by simp only [List.mem_cons, List.not_mem_nil, or_false]; omega) (by simp only [List.mem_cons, List.not_mem_nil, or_false]; omega) (by intro xx hx; simp only [List.mem_cons, List.not_mem_nil, or_false] at hx; omega)
      have hq5 := z_len eG4
      have hq6 := z_sl hra eG4 rfl
      have hfr := hfr.wr hra eG4 (by simp)
      have hra := hra.kept eG4
      change ab_W _ _ _ (List.set G ra (za nr (zu RR ru ((↑nn : Int) / 2)))) 78 [some (vR q), some (vR p), some (vz (↑nn : Int))] [] _
      rw [← eG4]
      refine ab_aload_n d_PR_recordOf_78 rfl ?_
      refine ab_getf (fs := [vz kp, vz vp, vR b, vz plp, vz flp, oup, lsp, bfp, vz szp, vz mbp, vz oep, vz lep, vz mop, vz lap, vz (-1)]) f_PR_179 d_PR_recordOf_79 hp.2.2 rfl ?_
      refine zz_iconst d_PR_recordOf_82 ?_
      refine ab_aload_n d_PR_recordOf_83 rfl ?_
      refine ab_getf (fs := [vR ki, vR ne, vR ot, vz cnt, vz fi, vz la, vR ra, vz ru, vz gr, vz wi, vz sz, vz fl, vz ve, vz mi, vR na, vR nl]) f_PR_21 d_PR_recordOf_84 hq.2.2 rfl ?_
      refine ab_aload_n d_PR_recordOf_87 rfl ?_
      refine ab_getf (fs := [vR ki, vR ne, vR ot, vz cnt, vz fi, vz la, vR ra, vz ru, vz gr, vz wi, vz sz, vz fl, vz ve, vz mi, vR na, vR nl]) f_PR_77 d_PR_recordOf_88 hq.2.2 rfl ?_
      refine zz_iconst d_PR_recordOf_91 ?_
      refine zz_iadd d_PR_recordOf_92 ?_
      refine ab_iload_n d_PR_recordOf_93 rfl ?_
      refine zz_copy mj_PR_68 d_PR_recordOf_94 hb hra (hra.2.1 (by first | omega | exact (show 18 ≤ _ by omega))) (by omega) (Nat.le_of_ble_eq_true rfl) (by omega) ?_
      obtain ⟨G7, eG7⟩ : ∃ z : ab_G, z = List.set G4 ra (za nr (zcpy qq_ (zu RR ru ((↑nn : Int) / 2)) 0 (ru + 1) (↑nn : Int))) := ⟨_, rfl⟩
      have hq := hq.keep hra eG7 (by omega)
      have hp := hp.keep hra eG7 (by omega)
      have hb := hb.keep hra eG7 (by omega)
      have hzr := hzr.wr hra eG7 (by omega)
      have hst := (fx.rf (o := o) (S := [(lq + 4)]) (G := G4)).wr hra eG7 (List.mem_singleton.mpr rfl)
      have pszB_0 := szB.fr hst pszB_0 (by simp only [List.mem_cons, List.not_mem_nil, or_false]; omega) (by simp only [List.mem_cons, List.not_mem_nil, or_false]; omega)
      have pdnB_0 := dnB.fr hst ppaI_0 pdnB_0 (by simp only [List.mem_cons, List.not_mem_nil, or_false]; omega) (by simp only [List.mem_cons, List.not_mem_nil, or_false]; omega)
      have ppaI_0 := paI.fr hst ppaI_0 (by simp only [List.mem_cons, List.not_mem_nil, or_false]; omega) (by simp only [List.mem_cons, List.not_mem_nil, or_false]; omega) (by simp only [List.mem_cons, List.not_mem_nil, or_false]; omega) (by intro xx hx; simp only [List.mem_cons, List.not_mem_nil, or_false] at hx; omega)
      have hq8 := z_len eG7
      have hq9 := z_sl hra eG7 rfl
      have hfr := hfr.wr hra eG7 (by simp)
      have hra := hra.kept eG7
      change ab_W _ _ _ (List.set G4 ra (za nr (zcpy qq_ (zu RR ru ((↑nn : Int) / 2)) 0 (ru + 1) (↑nn : Int)))) 97 [some (vR q), some (vR p), some (vz (↑nn : Int))] [] _
      rw [← eG7]
      have hmm : (↑nn : Int) / 2 = mm := by omega
      obtain ⟨F, hF⟩ : ∃ z : Int → Int, z = zcpy qq_ (zu RR ru ((↑nn : Int) / 2)) 0 (ru + 1) (↑nn : Int) := ⟨_, rfl⟩
      have hra : cc o G7 ra (lq + 4) (za nr F) := by rw [← hF.symm]; exact hra
      rw [hmm] at hF
      have hnew := rec_new (nr := ↑nr) hlb.2.1 (by omega) (by omega) hF hcan (by omega)
      have hkx : kext RR F ru := hnew.2
      have hhr : hrr F ↑nr := hrr_new hlb.2.1 (by omega) (by first | exact hr | (have t := hr; rw [show (↑nr : Int) = _ by omega]; exact t)) hF hcan
      have hpk : prok K N O F cnt (ru + (↑nn + 1)) wi := prok_ext hp_ hkx (by omega)
      have hrk : recok F (ru + (↑nn + 1)) ru := hnew.1 (rch_ext hch (by omega) hkx)
      have hchn : rch F (ru + (↑nn + 1)) := rch_new hch hkx hrk hlb.2.1 (by rw [hF, zcpy_out (by omega), zu_self])
      have ppaI_0 := ppaI_0.pr (Pr2 := prc F (ru + (↑nn + 1))) (fun r h => prc_ext hkx (by omega) h)
      have hst_ : ∀ x, cs_mem (fun i => F (ru + 1 + i)) (F ru) x ↔ (wt p).2 x := fun x => (rec_set hlb.2.1 (by omega) hF x).trans (hsv_ x)
      have pdnB_0 := pdnB_0.ext (ru2 := ru + (↑nn + 1)) hkx (by omega)
      change ab_W _ _ _ G7 97 [some (vR q), some (vR p), some (vz (↑nn : Int))] [] _
      refine ab_aload_n d_PR_recordOf_97 rfl ?_
      refine ab_aload_n d_PR_recordOf_98 rfl ?_
      refine ab_getf (fs := [vR ki, vR ne, vR ot, vz cnt, vz fi, vz la, vR ra, vz ru, vz gr, vz wi, vz sz, vz fl, vz ve, vz mi, vR na, vR nl]) f_PR_77 d_PR_recordOf_99 hq.2.2 rfl ?_
      refine ab_putf (fs := [vz kp, vz vp, vR b, vz plp, vz flp, oup, lsp, bfp, vz szp, vz mbp, vz oep, vz lep, vz mop, vz lap, vz (-1)]) f_PR_176 (Or.inl rfl) d_PR_recordOf_102 hp.2.2 (Nat.le_of_ble_eq_true rfl) (fun _ => ⟨rfl, rfl⟩) (hp.2.1 (by decide)) ?_
      obtain ⟨G10, eG10⟩ : ∃ z : ab_G, z = List.set G7 p (ab_ob 4 [vz kp, vz vp, vR b, vz plp, vz flp, oup, lsp, bfp, vz szp, vz mbp, vz oep, vz lep, vz mop, vz lap, vz ru]) := ⟨_, rfl⟩
      have hq := hq.keep hp eG10 (by omega)
      have hra := hra.keep hp eG10 (by omega)
      have hzr := hzr.wrec hp eG10
      have hst := (fx.rf (o := o) (S := [90]) (G := G7)).wr hp eG10 (List.mem_singleton.mpr rfl)
      have pszB_0 := pszB_0.wrec hp eG10
      have pdnB_0 := pdnB_0.wrec hp eG10 (by omega) ⟨hrk, hst_⟩
      have ppaI_0 := ppaI_0.wrec hpp hp (by omega) eG10 (Or.inr hrk) (by omega)
      have hq11 := z_len eG10
      have hq12 := z_sl hp eG10 rfl
      have hfr := hfr.wr hp eG10 (by simp)
      have hp := hp.kept eG10
      change ab_W _ _ _ (List.set G7 p (ab_ob 4 [vz kp, vz vp, vR b, vz plp, vz flp, oup, lsp, bfp, vz szp, vz mbp, vz oep, vz lep, vz mop, vz lap, vz ru])) 105 [some (vR q), some (vR p), some (vz (↑nn : Int))] [] _
      rw [← eG10]
      refine ab_aload_n d_PR_recordOf_105 rfl ?_
      refine ab_dup d_PR_recordOf_106 rfl ?_
      refine ab_getf (fs := [vR ki, vR ne, vR ot, vz cnt, vz fi, vz la, vR ra, vz ru, vz gr, vz wi, vz sz, vz fl, vz ve, vz mi, vR na, vR nl]) f_PR_77 d_PR_recordOf_107 hq.2.2 rfl ?_
      refine ab_iload_n d_PR_recordOf_110 rfl ?_
      refine zz_iconst d_PR_recordOf_111 ?_
      refine zz_iadd d_PR_recordOf_112 ?_
      refine zz_iadd d_PR_recordOf_113 ?_
      refine ab_putf (fs := [vR ki, vR ne, vR ot, vz cnt, vz fi, vz la, vR ra, vz ru, vz gr, vz wi, vz sz, vz fl, vz ve, vz mi, vR na, vR nl]) f_PR_77 (Or.inl rfl) d_PR_recordOf_114 hq.2.2 (Nat.le_of_ble_eq_true rfl) (fun _ => ⟨rfl, rfl⟩) (hq.2.1 (by first | omega | exact (show 18 ≤ _ by omega))) ?_
      obtain ⟨G13, eG13⟩ : ∃ z : ab_G, z = List.set G10 q (ab_ob 5 [vR ki, vR ne, vR ot, vz cnt, vz fi, vz la, vR ra, vz (ru + ((↑nn : Int) + 1)), vz gr, vz wi, vz sz, vz fl, vz ve, vz mi, vR na, vR nl]) := ⟨_, rfl⟩
      have hra := hra.keep hq eG13 (by omega)
      have hp := hp.keep hq eG13 (by omega)
      have hzr := hzr.wr hq eG13 (by omega)
      have hst := (fx.rf (o := o) (S := [lq]) (G := G10)).wr hq eG13 (List.mem_singleton.mpr rfl)
      have pszB_0 := szB.fr hst pszB_0 (by simp only [List.mem_cons, List.not_mem_nil, or_false]; omega) (by simp only [List.mem_cons, List.not_mem_nil, or_false]; omega)
      have pdnB_0 := dnB.fr hst ppaI_0 pdnB_0 (by simp only [List.mem_cons, List.not_mem_nil, or_false]; omega) (by simp only [List.mem_cons, List.not_mem_nil, or_false]; omega)
      have ppaI_0 := paI.fr hst ppaI_0 (by simp only [List.mem_cons, List.not_mem_nil, or_false]; omega) (by simp only [List.mem_cons, List.not_mem_nil, or_false]; omega) (by simp only [List.mem_cons, List.not_mem_nil, or_false]; omega) (by intro xx hx; simp only [List.mem_cons, List.not_mem_nil, or_false] at hx; omega)
      have hq14 := z_len eG13
      have hq15 := z_sl hq eG13 rfl
      have hfr := hfr.wr hq eG13 (by simp)
      have hq := hq.kept eG13
      change ab_W _ _ _ (List.set G10 q (ab_ob 5 [vR ki, vR ne, vR ot, vz cnt, vz fi, vz la, vR ra, vz (ru + ((↑nn : Int) + 1)), vz gr, vz wi, vz sz, vz fl, vz ve, vz mi, vR na, vR nl])) 117 [some (vR q), some (vR p), some (vz (↑nn : Int))] [] _
      rw [← eG13]
      refine ab_aload_n d_PR_recordOf_117 rfl ?_
      refine ab_getf (fs := [vz kp, vz vp, vR b, vz plp, vz flp, oup, lsp, bfp, vz szp, vz mbp, vz oep, vz lep, vz mop, vz lap, vz ru]) f_PR_176 d_PR_recordOf_118 hp.2.2 rfl ?_
      refine zz_iconst d_PR_recordOf_121 ?_
      refine zz_mmax mj_PR_180 d_PR_recordOf_122 (by omega) (by decide) (Nat.le_of_ble_eq_true rfl) (by omega) ?_
      obtain ⟨v16, hv16⟩ : ∃ z : Int, z = (max ru 0) := ⟨_, rfl⟩
      rw [← hv16]
      have hv16 : (ru ≤ 0 ∧ v16 = 0) ∨ (0 < ru ∧ v16 = ru) := by omega
      change ab_W _ _ _ G13 125 [some (vR q), some (vR p), some (vz (↑nn : Int))] [vz v16] _
      refine zz_iret rfl d_PR_recordOf_125 ?_
      rw [hQ]; exact ⟨_, _, _, _, _, _, _, _, rfl, hfr, hq, hra, hp, ppaI_0, pszB_0, pdnB_0, (by rw [show v16 = ru by omega]; exact hrk), (by first | exact hkx | exact kext.rf), (by first | exact ⟨kext.rf, kext.rf, kext.rf, hkx⟩ | exact pxt.rf), (by rw [show v16 = ru by omega]; exact hst_), (by first | exact hchn | exact hch), (by first | exact hpk | exact hp_), (by first | exact hhr | exact hr), (by omega), (by omega), (by exact hzr), (by omega), (by omega)⟩
    · refine ab_aload_n d_PR_recordOf_37 rfl ?_
      refine ab_aload_n d_PR_recordOf_38 rfl ?_
      refine ab_getf (fs := [vR ki, vR ne, vR ot, vz cnt, vz fi, vz la, vR ra, vz ru, vz gr, vz wi, vz sz, vz fl, vz ve, vz mi, vR na, vR nl]) f_PR_21 d_PR_recordOf_39 hq.2.2 rfl ?_
      refine ab_aload_n d_PR_recordOf_42 rfl ?_
      refine ab_getf (fs := [vR ki, vR ne, vR ot, vz cnt, vz fi, vz la, vR ra, vz ru, vz gr, vz wi, vz sz, vz fl, vz ve, vz mi, vR na, vR nl]) f_PR_77 d_PR_recordOf_43 hq.2.2 rfl ?_
      refine ab_iload_n d_PR_recordOf_46 rfl ?_
      refine zz_iadd d_PR_recordOf_47 ?_
      refine zz_iconst d_PR_recordOf_48 ?_
      refine zz_iadd d_PR_recordOf_49 ?_
      refine zz_iconst d_PR_recordOf_50 ?_
      refine ab_aload_n d_PR_recordOf_51 rfl ?_
      refine ab_getf (fs := [vR ki, vR ne, vR ot, vz cnt, vz fi, vz la, vR ra, vz ru, vz gr, vz wi, vz sz, vz fl, vz ve, vz mi, vR na, vR nl]) f_PR_21 d_PR_recordOf_52 hq.2.2 rfl ?_
      refine zz_alen d_PR_recordOf_55 hra ?_
      refine zz_imul d_PR_recordOf_56 ?_
      refine zz_mmax2 mj_PR_180 d_PR_recordOf_57 (by omega) (by omega) (Nat.le_of_ble_eq_true rfl) (by omega) (fun c17 => ?_) (fun c17 => ?_)
      · obtain ⟨w18, hw18⟩ : ∃ z : Nat, (z : Int) = (2 * (↑nr : Int)) := ⟨Int.toNat (2 * (↑nr : Int)), by omega⟩
        refine ab_callS (d' := d - 1) (as := [vR ra, vz (2 * (↑nr : Int))]) (st := [vR q]) (c0_AR_copyOf (o := o) (a := ra) (l := (lq + 4)) (k := (lq + 4)) (n := nr) (w := w18) (m := (2 * (↑nr : Int))) (f := RR) hra (by omega) (by omega) (by omega) (by have h18 : ab_n0 = 18 := rfl; omega) (by omega)) (fun oc G2 h => by rcases h with ⟨_, _, _, h, _⟩ <;> exact ⟨_, h⟩) (by omega) m_AR_copyOf ml_PR_186 st_AR_copyOf (Nat.le_of_ble_eq_true rfl) d_PR_recordOf_60 rfl ?_
        intro v G19 hq
        rcases hq with ⟨o20, b21, g22, hv, hfk, hNb21, hq23, hq24, hq25, hq26, hq27⟩
        cases hv
        have ne_b21_q : nq b21 q := by have hlt := hq.lt; unfold nq; omega
        have ne_b21_ra : nq b21 ra := by have hlt := hra.lt; unfold nq; omega
        have ne_b21_p : nq b21 p := by have hlt := hp.lt; unfold nq; omega
        have ne_b21_b : nq b21 b := by have hlt := hb.lt; unfold nq; omega
        have hzr := hzr.tr (fzr.fx hfk (by decide))
        have hq := hfk.get hq (by simp)
        have hra := hfk.get hra (by simp)
        have hp := hfk.get hp (by decide)
        have hb := hfk.get hb (by simp)
        have pszB_0 := szB.fr hfk pszB_0 (by decide) (by decide)
        have pdnB_0 := dnB.fr hfk ppaI_0 pdnB_0 (by decide) (by decide)
        have ppaI_0 := paI.fr hfk ppaI_0 (by decide) (by decide) (by decide) (by simp)
        have hfr := hfr.tr hfk (fun _ h => absurd h List.not_mem_nil)
        have hq28 := hfk.1
        have hb21 := hNb21
        change ab_W _ _ _ G19 63 [some (vR q), some (vR p), some (vz (↑nn : Int))] [vR b21, vR q] _
        refine ab_putf (fs := [vR ki, vR ne, vR ot, vz cnt, vz fi, vz la, vR ra, vz ru, vz gr, vz wi, vz sz, vz fl, vz ve, vz mi, vR na, vR nl]) f_PR_21 (Or.inl rfl) d_PR_recordOf_63 hq.2.2 (Nat.le_of_ble_eq_true rfl) (fun _ => ⟨rfl, rfl⟩) (hq.2.1 (by first | omega | exact (show 18 ≤ _ by omega))) ?_
        obtain ⟨G29, eG29⟩ : ∃ z : ab_G, z = List.set G19 q (ab_ob 5 [vR ki, vR ne, vR ot, vz cnt, vz fi, vz la, vR b21, vz ru, vz gr, vz wi, vz sz, vz fl, vz ve, vz mi, vR na, vR nl]) := ⟨_, rfl⟩
        have hra := hra.keep hq eG29 (by omega)
        have hp := hp.keep hq eG29 (by omega)
        have hb := hb.keep hq eG29 (by omega)
        have hb21 := hb21.keep' eG29 (nq.s ne_b21_q)
        have hzr := hzr.wr hq eG29 (by omega)
        have hst := (fx.rf (o := o20) (S := [lq]) (G := G19)).wr hq eG29 (List.mem_singleton.mpr rfl)
        have pszB_0 := szB.fr hst pszB_0 (by simp only [List.mem_cons, List.not_mem_nil, or_false]; omega) (by simp only [List.mem_cons, List.not_mem_nil, or_false]; omega)
        have pdnB_0 := dnB.fr hst ppaI_0 pdnB_0 (by simp only [List.mem_cons, List.not_mem_nil, or_false]; omega) (by simp only [List.mem_cons, List.not_mem_nil, or_false]; omega)
        have ppaI_0 := paI.fr hst ppaI_0 (by simp only [List.mem_cons, List.not_mem_nil, or_false]; omega) (by simp only [List.mem_cons, List.not_mem_nil, or_false]; omega) (by simp only [List.mem_cons, List.not_mem_nil, or_false]; omega) (by intro xx hx; simp only [List.mem_cons, List.not_mem_nil, or_false] at hx; omega)
        have hq30 := z_len eG29
        have hq31 := z_sl hq eG29 rfl
        have hfr := hfr.wr hq eG29 (by simp)
        have hq := hq.kept eG29
        change ab_W _ _ _ (List.set G19 q (ab_ob 5 [vR ki, vR ne, vR ot, vz cnt, vz fi, vz la, vR b21, vz ru, vz gr, vz wi, vz sz, vz fl, vz ve, vz mi, vR na, vR nl])) 66 [some (vR q), some (vR p), some (vz (↑nn : Int))] [] _
        rw [← eG29]
        refine ab_aload_n d_PR_recordOf_66 rfl ?_
        refine ab_getf (fs := [vR ki, vR ne, vR ot, vz cnt, vz fi, vz la, vR b21, vz ru, vz gr, vz wi, vz sz, vz fl, vz ve, vz mi, vR na, vR nl]) f_PR_21 d_PR_recordOf_67 hq.2.2 rfl ?_
        refine ab_aload_n d_PR_recordOf_70 rfl ?_
        refine ab_getf (fs := [vR ki, vR ne, vR ot, vz cnt, vz fi, vz la, vR b21, vz ru, vz gr, vz wi, vz sz, vz fl, vz ve, vz mi, vR na, vR nl]) f_PR_77 d_PR_recordOf_71 hq.2.2 rfl ?_
        refine ab_iload_n d_PR_recordOf_74 rfl ?_
        refine zz_iconst d_PR_recordOf_75 ?_
        refine zz_idiv d_PR_recordOf_76 (by omega) ?_
        refine zz_iast d_PR_recordOf_77 hb21 (by omega) (hb21.2.1 (by first | omega | exact (show 18 ≤ _ by omega))) ?_
        obtain ⟨G32, eG32⟩ : ∃ z : ab_G, z = List.set G29 b21 (za w18 (zu g22 ru ((↑nn : Int) / 2))) := ⟨_, rfl⟩
        have hq := hq.keep' eG32 ne_b21_q
        have hra := hra.keep' eG32 ne_b21_ra
        have hp := hp.keep' eG32 ne_b21_p
        have hb := hb.keep' eG32 ne_b21_b
        have hzr := hzr.wr hb21 eG32 (by omega)
        have hst := (fx.rf (o := o20) (S := [(lq + 4)]) (G := G29)).wr hb21 eG32 (List.mem_singleton.mpr rfl)
        have pszB_0 := szB.fr hst pszB_0 (by simp only [List.mem_cons, List.not_mem_nil, or_false]; omega) (by simp only [List.mem_cons, List.not_mem_nil, or_false]; omega)
        have pdnB_0 := dnB.fr hst ppaI_0 pdnB_0 (by simp only [List.mem_cons, List.not_mem_nil, or_false]; omega) (by simp only [List.mem_cons, List.not_mem_nil, or_false]; omega)
        have ppaI_0 := paI.fr hst ppaI_0 (by simp only [List.mem_cons, List.not_mem_nil, or_false]; omega) (by simp only [List.mem_cons, List.not_mem_nil, or_false]; omega) (by simp only [List.mem_cons, List.not_mem_nil, or_false]; omega) (by intro xx hx; simp only [List.mem_cons, List.not_mem_nil, or_false] at hx; omega)
        have hq33 := z_len eG32
        have hq34 := z_sl hb21 eG32 rfl
        have hfr := hfr.wn (show G.length ≤ b21 by have := hfr.1; omega) eG32
        have hb21 := hb21.kept eG32
        change ab_W _ _ _ (List.set G29 b21 (za w18 (zu g22 ru ((↑nn : Int) / 2)))) 78 [some (vR q), some (vR p), some (vz (↑nn : Int))] [] _
        rw [← eG32]
        refine ab_aload_n d_PR_recordOf_78 rfl ?_
        refine ab_getf (fs := [vz kp, vz vp, vR b, vz plp, vz flp, oup, lsp, bfp, vz szp, vz mbp, vz oep, vz lep, vz mop, vz lap, vz (-1)]) f_PR_179 d_PR_recordOf_79 hp.2.2 rfl ?_
        refine zz_iconst d_PR_recordOf_82 ?_
        refine ab_aload_n d_PR_recordOf_83 rfl ?_
        refine ab_getf (fs := [vR ki, vR ne, vR ot, vz cnt, vz fi, vz la, vR b21, vz ru, vz gr, vz wi, vz sz, vz fl, vz ve, vz mi, vR na, vR nl]) f_PR_21 d_PR_recordOf_84 hq.2.2 rfl ?_
        refine ab_aload_n d_PR_recordOf_87 rfl ?_
        refine ab_getf (fs := [vR ki, vR ne, vR ot, vz cnt, vz fi, vz la, vR b21, vz ru, vz gr, vz wi, vz sz, vz fl, vz ve, vz mi, vR na, vR nl]) f_PR_77 d_PR_recordOf_88 hq.2.2 rfl ?_
        refine zz_iconst d_PR_recordOf_91 ?_
        refine zz_iadd d_PR_recordOf_92 ?_
        refine ab_iload_n d_PR_recordOf_93 rfl ?_
        refine zz_copy mj_PR_68 d_PR_recordOf_94 hb hb21 (hb21.2.1 (by first | omega | exact (show 18 ≤ _ by omega))) (by omega) (Nat.le_of_ble_eq_true rfl) (by omega) ?_
        obtain ⟨G35, eG35⟩ : ∃ z : ab_G, z = List.set G32 b21 (za w18 (zcpy qq_ (zu g22 ru ((↑nn : Int) / 2)) 0 (ru + 1) (↑nn : Int))) := ⟨_, rfl⟩
        have hq := hq.keep' eG35 ne_b21_q
        have hra := hra.keep' eG35 ne_b21_ra
        have hp := hp.keep' eG35 ne_b21_p
        have hb := hb.keep' eG35 ne_b21_b
        have hzr := hzr.wr hb21 eG35 (by omega)
        have hst := (fx.rf (o := o20) (S := [(lq + 4)]) (G := G32)).wr hb21 eG35 (List.mem_singleton.mpr rfl)
        have pszB_0 := szB.fr hst pszB_0 (by simp only [List.mem_cons, List.not_mem_nil, or_false]; omega) (by simp only [List.mem_cons, List.not_mem_nil, or_false]; omega)
        have pdnB_0 := dnB.fr hst ppaI_0 pdnB_0 (by simp only [List.mem_cons, List.not_mem_nil, or_false]; omega) (by simp only [List.mem_cons, List.not_mem_nil, or_false]; omega)
        have ppaI_0 := paI.fr hst ppaI_0 (by simp only [List.mem_cons, List.not_mem_nil, or_false]; omega) (by simp only [List.mem_cons, List.not_mem_nil, or_false]; omega) (by simp only [List.mem_cons, List.not_mem_nil, or_false]; omega) (by intro xx hx; simp only [List.mem_cons, List.not_mem_nil, or_false] at hx; omega)
        have hq36 := z_len eG35
        have hq37 := z_sl hb21 eG35 rfl
        have hfr := hfr.wn (show G.length ≤ b21 by have := hfr.1; omega) eG35
        have hb21 := hb21.kept eG35
        change ab_W _ _ _ (List.set G32 b21 (za w18 (zcpy qq_ (zu g22 ru ((↑nn : Int) / 2)) 0 (ru + 1) (↑nn : Int)))) 97 [some (vR q), some (vR p), some (vz (↑nn : Int))] [] _
        rw [← eG35]
        have hmm : (↑nn : Int) / 2 = mm := by omega
        obtain ⟨F, hF⟩ : ∃ z : Int → Int, z = zcpy qq_ (zu g22 ru ((↑nn : Int) / 2)) 0 (ru + 1) (↑nn : Int) := ⟨_, rfl⟩
        have hb21 : cc o20 G35 b21 (lq + 4) (za w18 F) := by rw [← hF.symm]; exact hb21
        rw [hmm] at hF
        have hnew := rec_new (nr := ↑w18) hlb.2.1 (by omega) (by omega) hF hcan (by omega)
        have hx0 : kext RR g22 ru := fun i a b => hq26 i a (by omega) (by omega)
        have hh0 := hrr_copy hr hq26 hq27
        have hkx : kext RR F ru := (hx0.tr hnew.2 (Int.le_refl _))
        have hhr : hrr F ↑w18 := hrr_new hlb.2.1 (by omega) (by first | exact hh0 | (have t := hh0; rw [show (↑w18 : Int) = _ by omega]; exact t)) hF hcan
        have hpk : prok K N O F cnt (ru + (↑nn + 1)) wi := prok_ext hp_ hkx (by omega)
        have hrk : recok F (ru + (↑nn + 1)) ru := hnew.1 (rch_ext hch (by omega) hkx)
        have hchn : rch F (ru + (↑nn + 1)) := rch_new hch hkx hrk hlb.2.1 (by rw [hF, zcpy_out (by omega), zu_self])
        have ppaI_0 := ppaI_0.pr (Pr2 := prc F (ru + (↑nn + 1))) (fun r h => prc_ext hkx (by omega) h)
        have hst_ : ∀ x, cs_mem (fun i => F (ru + 1 + i)) (F ru) x ↔ (wt p).2 x := fun x => (rec_set hlb.2.1 (by omega) hF x).trans (hsv_ x)
        have pdnB_0 := pdnB_0.ext (ru2 := ru + (↑nn + 1)) hkx (by omega)
        change ab_W _ _ _ G35 97 [some (vR q), some (vR p), some (vz (↑nn : Int))] [] _
        refine ab_aload_n d_PR_recordOf_97 rfl ?_
        refine ab_aload_n d_PR_recordOf_98 rfl ?_
        refine ab_getf (fs := [vR ki, vR ne, vR ot, vz cnt, vz fi, vz la, vR b21, vz ru, vz gr, vz wi, vz sz, vz fl, vz ve, vz mi, vR na, vR nl]) f_PR_77 d_PR_recordOf_99 hq.2.2 rfl ?_
        refine ab_putf (fs := [vz kp, vz vp, vR b, vz plp, vz flp, oup, lsp, bfp, vz szp, vz mbp, vz oep, vz lep, vz mop, vz lap, vz (-1)]) f_PR_176 (Or.inl rfl) d_PR_recordOf_102 hp.2.2 (Nat.le_of_ble_eq_true rfl) (fun _ => ⟨rfl, rfl⟩) (hp.2.1 (by decide)) ?_
        obtain ⟨G38, eG38⟩ : ∃ z : ab_G, z = List.set G35 p (ab_ob 4 [vz kp, vz vp, vR b, vz plp, vz flp, oup, lsp, bfp, vz szp, vz mbp, vz oep, vz lep, vz mop, vz lap, vz ru]) := ⟨_, rfl⟩
        have hq := hq.keep hp eG38 (by omega)
        have hra := hra.keep hp eG38 (by omega)
        have hb21 := hb21.keep' eG38 (nq.s ne_b21_p)
        have hzr := hzr.wrec hp eG38
        have hst := (fx.rf (o := o20) (S := [90]) (G := G35)).wr hp eG38 (List.mem_singleton.mpr rfl)
        have pszB_0 := pszB_0.wrec hp eG38
        have pdnB_0 := pdnB_0.wrec hp eG38 (by omega) ⟨hrk, hst_⟩
        have ppaI_0 := ppaI_0.wrec hpp hp (by omega) eG38 (Or.inr hrk) (by omega)
        have hq39 := z_len eG38
        have hq40 := z_sl hp eG38 rfl
        have hfr := hfr.wr hp eG38 (by simp)
        have hp := hp.kept eG38
        change ab_W _ _ _ (List.set G35 p (ab_ob 4 [vz kp, vz vp, vR b, vz plp, vz flp, oup, lsp, bfp, vz szp, vz mbp, vz oep, vz lep, vz mop, vz lap, vz ru])) 105 [some (vR q), some (vR p), some (vz (↑nn : Int))] [] _
        rw [← eG38]
        refine ab_aload_n d_PR_recordOf_105 rfl ?_
        refine ab_dup d_PR_recordOf_106 rfl ?_
        refine ab_getf (fs := [vR ki, vR ne, vR ot, vz cnt, vz fi, vz la, vR b21, vz ru, vz gr, vz wi, vz sz, vz fl, vz ve, vz mi, vR na, vR nl]) f_PR_77 d_PR_recordOf_107 hq.2.2 rfl ?_
        refine ab_iload_n d_PR_recordOf_110 rfl ?_
        refine zz_iconst d_PR_recordOf_111 ?_
        refine zz_iadd d_PR_recordOf_112 ?_
        refine zz_iadd d_PR_recordOf_113 ?_
        refine ab_putf (fs := [vR ki, vR ne, vR ot, vz cnt, vz fi, vz la, vR b21, vz ru, vz gr, vz wi, vz sz, vz fl, vz ve, vz mi, vR na, vR nl]) f_PR_77 (Or.inl rfl) d_PR_recordOf_114 hq.2.2 (Nat.le_of_ble_eq_true rfl) (fun _ => ⟨rfl, rfl⟩) (hq.2.1 (by first | omega | exact (show 18 ≤ _ by omega))) ?_
        obtain ⟨G41, eG41⟩ : ∃ z : ab_G, z = List.set G38 q (ab_ob 5 [vR ki, vR ne, vR ot, vz cnt, vz fi, vz la, vR b21, vz (ru + ((↑nn : Int) + 1)), vz gr, vz wi, vz sz, vz fl, vz ve, vz mi, vR na, vR nl]) := ⟨_, rfl⟩
        have hra := hra.keep hq eG41 (by omega)
        have hp := hp.keep hq eG41 (by omega)
        have hb21 := hb21.keep' eG41 (nq.s ne_b21_q)
        have hzr := hzr.wr hq eG41 (by omega)
        have hst := (fx.rf (o := o20) (S := [lq]) (G := G38)).wr hq eG41 (List.mem_singleton.mpr rfl)
        have pszB_0 := szB.fr hst pszB_0 (by simp only [List.mem_cons, List.not_mem_nil, or_false]; omega) (by simp only [List.mem_cons, List.not_mem_nil, or_false]; omega)
        have pdnB_0 := dnB.fr hst ppaI_0 pdnB_0 (by simp only [List.mem_cons, List.not_mem_nil, or_false]; omega) (by simp only [List.mem_cons, List.not_mem_nil, or_false]; omega)
        have ppaI_0 := paI.fr hst ppaI_0 (by simp only [List.mem_cons, List.not_mem_nil, or_false]; omega) (by simp only [List.mem_cons, List.not_mem_nil, or_false]; omega) (by simp only [List.mem_cons, List.not_mem_nil, or_false]; omega) (by intro xx hx; simp only [List.mem_cons, List.not_mem_nil, or_false] at hx; omega)
        have hq42 := z_len eG41
        have hq43 := z_sl hq eG41 rfl
        have hfr := hfr.wr hq eG41 (by simp)
        have hq := hq.kept eG41
        change ab_W _ _ _ (List.set G38 q (ab_ob 5 [vR ki, vR ne, vR ot, vz cnt, vz fi, vz la, vR b21, vz (ru + ((↑nn : Int) + 1)), vz gr, vz wi, vz sz, vz fl, vz ve, vz mi, vR na, vR nl])) 117 [some (vR q), some (vR p), some (vz (↑nn : Int))] [] _
        rw [← eG41]
        refine ab_aload_n d_PR_recordOf_117 rfl ?_
        refine ab_getf (fs := [vz kp, vz vp, vR b, vz plp, vz flp, oup, lsp, bfp, vz szp, vz mbp, vz oep, vz lep, vz mop, vz lap, vz ru]) f_PR_176 d_PR_recordOf_118 hp.2.2 rfl ?_
        refine zz_iconst d_PR_recordOf_121 ?_
        refine zz_mmax mj_PR_180 d_PR_recordOf_122 (by omega) (by decide) (Nat.le_of_ble_eq_true rfl) (by omega) ?_
        obtain ⟨v44, hv44⟩ : ∃ z : Int, z = (max ru 0) := ⟨_, rfl⟩
        rw [← hv44]
        have hv44 : (ru ≤ 0 ∧ v44 = 0) ∨ (0 < ru ∧ v44 = ru) := by omega
        change ab_W _ _ _ G41 125 [some (vR q), some (vR p), some (vz (↑nn : Int))] [vz v44] _
        refine zz_iret rfl d_PR_recordOf_125 ?_
        rw [hQ]; exact ⟨_, _, _, _, _, _, _, _, rfl, hfr, hq, hb21, hp, ppaI_0, pszB_0, pdnB_0, (by rw [show v44 = ru by omega]; exact hrk), (by first | exact hkx | exact kext.rf), (by first | exact ⟨kext.rf, kext.rf, kext.rf, hkx⟩ | exact pxt.rf), (by rw [show v44 = ru by omega]; exact hst_), (by first | exact hchn | exact hch), (by first | exact hpk | exact hp_), (by first | exact hhr | exact hr), (by omega), (by omega), (by exact hzr), (by omega), (by omega)⟩
      · obtain ⟨w45, hw45⟩ : ∃ z : Nat, (z : Int) = ((ru + (↑nn : Int)) + 1) := ⟨Int.toNat ((ru + (↑nn : Int)) + 1), by omega⟩
        refine ab_callS (d' := d - 1) (as := [vR ra, vz ((ru + (↑nn : Int)) + 1)]) (st := [vR q]) (c0_AR_copyOf (o := o) (a := ra) (l := (lq + 4)) (k := (lq + 4)) (n := nr) (w := w45) (m := ((ru + (↑nn : Int)) + 1)) (f := RR) hra (by omega) (by omega) (by omega) (by have h18 : ab_n0 = 18 := rfl; omega) (by omega)) (fun oc G2 h => by rcases h with ⟨_, _, _, h, _⟩ <;> exact ⟨_, h⟩) (by omega) m_AR_copyOf ml_PR_186 st_AR_copyOf (Nat.le_of_ble_eq_true rfl) d_PR_recordOf_60 rfl ?_
        intro v G46 hq
        rcases hq with ⟨o47, b48, g49, hv, hfk, hNb48, hq50, hq51, hq52, hq53, hq54⟩
        cases hv
        have ne_b48_q : nq b48 q := by have hlt := hq.lt; unfold nq; omega
        have ne_b48_ra : nq b48 ra := by have hlt := hra.lt; unfold nq; omega
        have ne_b48_p : nq b48 p := by have hlt := hp.lt; unfold nq; omega
        have ne_b48_b : nq b48 b := by have hlt := hb.lt; unfold nq; omega
        have hzr := hzr.tr (fzr.fx hfk (by decide))
        have hq := hfk.get hq (by simp)
        have hra := hfk.get hra (by simp)
        have hp := hfk.get hp (by decide)
        have hb := hfk.get hb (by simp)
        have pszB_0 := szB.fr hfk pszB_0 (by decide) (by decide)
        have pdnB_0 := dnB.fr hfk ppaI_0 pdnB_0 (by decide) (by decide)
        have ppaI_0 := paI.fr hfk ppaI_0 (by decide) (by decide) (by decide) (by simp)
        have hfr := hfr.tr hfk (fun _ h => absurd h List.not_mem_nil)
        have hq55 := hfk.1
        have hb48 := hNb48
        change ab_W _ _ _ G46 63 [some (vR q), some (vR p), some (vz (↑nn : Int))] [vR b48, vR q] _
        refine ab_putf (fs := [vR ki, vR ne, vR ot, vz cnt, vz fi, vz la, vR ra, vz ru, vz gr, vz wi, vz sz, vz fl, vz ve, vz mi, vR na, vR nl]) f_PR_21 (Or.inl rfl) d_PR_recordOf_63 hq.2.2 (Nat.le_of_ble_eq_true rfl) (fun _ => ⟨rfl, rfl⟩) (hq.2.1 (by first | omega | exact (show 18 ≤ _ by omega))) ?_
        obtain ⟨G56, eG56⟩ : ∃ z : ab_G, z = List.set G46 q (ab_ob 5 [vR ki, vR ne, vR ot, vz cnt, vz fi, vz la, vR b48, vz ru, vz gr, vz wi, vz sz, vz fl, vz ve, vz mi, vR na, vR nl]) := ⟨_, rfl⟩
        have hra := hra.keep hq eG56 (by omega)
        have hp := hp.keep hq eG56 (by omega)
        have hb := hb.keep hq eG56 (by omega)
        have hb48 := hb48.keep' eG56 (nq.s ne_b48_q)
        have hzr := hzr.wr hq eG56 (by omega)
        have hst := (fx.rf (o := o47) (S := [lq]) (G := G46)).wr hq eG56 (List.mem_singleton.mpr rfl)
        have pszB_0 := szB.fr hst pszB_0 (by simp only [List.mem_cons, List.not_mem_nil, or_false]; omega) (by simp only [List.mem_cons, List.not_mem_nil, or_false]; omega)
        have pdnB_0 := dnB.fr hst ppaI_0 pdnB_0 (by simp only [List.mem_cons, List.not_mem_nil, or_false]; omega) (by simp only [List.mem_cons, List.not_mem_nil, or_false]; omega)
        have ppaI_0 := paI.fr hst ppaI_0 (by simp only [List.mem_cons, List.not_mem_nil, or_false]; omega) (by simp only [List.mem_cons, List.not_mem_nil, or_false]; omega) (by simp only [List.mem_cons, List.not_mem_nil, or_false]; omega) (by intro xx hx; simp only [List.mem_cons, List.not_mem_nil, or_false] at hx; omega)
        have hq57 := z_len eG56
        have hq58 := z_sl hq eG56 rfl
        have hfr := hfr.wr hq eG56 (by simp)
        have hq := hq.kept eG56
        change ab_W _ _ _ (List.set G46 q (ab_ob 5 [vR ki, vR ne, vR ot, vz cnt, vz fi, vz la, vR b48, vz ru, vz gr, vz wi, vz sz, vz fl, vz ve, vz mi, vR na, vR nl])) 66 [some (vR q), some (vR p), some (vz (↑nn : Int))] [] _
        rw [← eG56]
        refine ab_aload_n d_PR_recordOf_66 rfl ?_
        refine ab_getf (fs := [vR ki, vR ne, vR ot, vz cnt, vz fi, vz la, vR b48, vz ru, vz gr, vz wi, vz sz, vz fl, vz ve, vz mi, vR na, vR nl]) f_PR_21 d_PR_recordOf_67 hq.2.2 rfl ?_
        refine ab_aload_n d_PR_recordOf_70 rfl ?_
        refine ab_getf (fs := [vR ki, vR ne, vR ot, vz cnt, vz fi, vz la, vR b48, vz ru, vz gr, vz wi, vz sz, vz fl, vz ve, vz mi, vR na, vR nl]) f_PR_77 d_PR_recordOf_71 hq.2.2 rfl ?_
        refine ab_iload_n d_PR_recordOf_74 rfl ?_
        refine zz_iconst d_PR_recordOf_75 ?_
        refine zz_idiv d_PR_recordOf_76 (by omega) ?_
        refine zz_iast d_PR_recordOf_77 hb48 (by omega) (hb48.2.1 (by first | omega | exact (show 18 ≤ _ by omega))) ?_
        obtain ⟨G59, eG59⟩ : ∃ z : ab_G, z = List.set G56 b48 (za w45 (zu g49 ru ((↑nn : Int) / 2))) := ⟨_, rfl⟩
        have hq := hq.keep' eG59 ne_b48_q
        have hra := hra.keep' eG59 ne_b48_ra
        have hp := hp.keep' eG59 ne_b48_p
        have hb := hb.keep' eG59 ne_b48_b
        have hzr := hzr.wr hb48 eG59 (by omega)
        have hst := (fx.rf (o := o47) (S := [(lq + 4)]) (G := G56)).wr hb48 eG59 (List.mem_singleton.mpr rfl)
        have pszB_0 := szB.fr hst pszB_0 (by simp only [List.mem_cons, List.not_mem_nil, or_false]; omega) (by simp only [List.mem_cons, List.not_mem_nil, or_false]; omega)
        have pdnB_0 := dnB.fr hst ppaI_0 pdnB_0 (by simp only [List.mem_cons, List.not_mem_nil, or_false]; omega) (by simp only [List.mem_cons, List.not_mem_nil, or_false]; omega)
        have ppaI_0 := paI.fr hst ppaI_0 (by simp only [List.mem_cons, List.not_mem_nil, or_false]; omega) (by simp only [List.mem_cons, List.not_mem_nil, or_false]; omega) (by simp only [List.mem_cons, List.not_mem_nil, or_false]; omega) (by intro xx hx; simp only [List.mem_cons, List.not_mem_nil, or_false] at hx; omega)
        have hq60 := z_len eG59
        have hq61 := z_sl hb48 eG59 rfl
        have hfr := hfr.wn (show G.length ≤ b48 by have := hfr.1; omega) eG59
        have hb48 := hb48.kept eG59
        change ab_W _ _ _ (List.set G56 b48 (za w45 (zu g49 ru ((↑nn : Int) / 2)))) 78 [some (vR q), some (vR p), some (vz (↑nn : Int))] [] _
        rw [← eG59]
        refine ab_aload_n d_PR_recordOf_78 rfl ?_
        refine ab_getf (fs := [vz kp, vz vp, vR b, vz plp, vz flp, oup, lsp, bfp, vz szp, vz mbp, vz oep, vz lep, vz mop, vz lap, vz (-1)]) f_PR_179 d_PR_recordOf_79 hp.2.2 rfl ?_
        refine zz_iconst d_PR_recordOf_82 ?_
        refine ab_aload_n d_PR_recordOf_83 rfl ?_
        refine ab_getf (fs := [vR ki, vR ne, vR ot, vz cnt, vz fi, vz la, vR b48, vz ru, vz gr, vz wi, vz sz, vz fl, vz ve, vz mi, vR na, vR nl]) f_PR_21 d_PR_recordOf_84 hq.2.2 rfl ?_
        refine ab_aload_n d_PR_recordOf_87 rfl ?_
        refine ab_getf (fs := [vR ki, vR ne, vR ot, vz cnt, vz fi, vz la, vR b48, vz ru, vz gr, vz wi, vz sz, vz fl, vz ve, vz mi, vR na, vR nl]) f_PR_77 d_PR_recordOf_88 hq.2.2 rfl ?_
        refine zz_iconst d_PR_recordOf_91 ?_
        refine zz_iadd d_PR_recordOf_92 ?_
        refine ab_iload_n d_PR_recordOf_93 rfl ?_
        refine zz_copy mj_PR_68 d_PR_recordOf_94 hb hb48 (hb48.2.1 (by first | omega | exact (show 18 ≤ _ by omega))) (by omega) (Nat.le_of_ble_eq_true rfl) (by omega) ?_
        obtain ⟨G62, eG62⟩ : ∃ z : ab_G, z = List.set G59 b48 (za w45 (zcpy qq_ (zu g49 ru ((↑nn : Int) / 2)) 0 (ru + 1) (↑nn : Int))) := ⟨_, rfl⟩
        have hq := hq.keep' eG62 ne_b48_q
        have hra := hra.keep' eG62 ne_b48_ra
        have hp := hp.keep' eG62 ne_b48_p
        have hb := hb.keep' eG62 ne_b48_b
        have hzr := hzr.wr hb48 eG62 (by omega)
        have hst := (fx.rf (o := o47) (S := [(lq + 4)]) (G := G59)).wr hb48 eG62 (List.mem_singleton.mpr rfl)
        have pszB_0 := szB.fr hst pszB_0 (by simp only [List.mem_cons, List.not_mem_nil, or_false]; omega) (by simp only [List.mem_cons, List.not_mem_nil, or_false]; omega)
        have pdnB_0 := dnB.fr hst ppaI_0 pdnB_0 (by simp only [List.mem_cons, List.not_mem_nil, or_false]; omega) (by simp only [List.mem_cons, List.not_mem_nil, or_false]; omega)
        have ppaI_0 := paI.fr hst ppaI_0 (by simp only [List.mem_cons, List.not_mem_nil, or_false]; omega) (by simp only [List.mem_cons, List.not_mem_nil, or_false]; omega) (by simp only [List.mem_cons, List.not_mem_nil, or_false]; omega) (by intro xx hx; simp only [List.mem_cons, List.not_mem_nil, or_false] at hx; omega)
        have hq63 := z_len eG62
        have hq64 := z_sl hb48 eG62 rfl
        have hfr := hfr.wn (show G.length ≤ b48 by have := hfr.1; omega) eG62
        have hb48 := hb48.kept eG62
        change ab_W _ _ _ (List.set G59 b48 (za w45 (zcpy qq_ (zu g49 ru ((↑nn : Int) / 2)) 0 (ru + 1) (↑nn : Int)))) 97 [some (vR q), some (vR p), some (vz (↑nn : Int))] [] _
        rw [← eG62]
        have hmm : (↑nn : Int) / 2 = mm := by omega
        obtain ⟨F, hF⟩ : ∃ z : Int → Int, z = zcpy qq_ (zu g49 ru ((↑nn : Int) / 2)) 0 (ru + 1) (↑nn : Int) := ⟨_, rfl⟩
        have hb48 : cc o47 G62 b48 (lq + 4) (za w45 F) := by rw [← hF.symm]; exact hb48
        rw [hmm] at hF
        have hnew := rec_new (nr := ↑w45) hlb.2.1 (by omega) (by omega) hF hcan (by omega)
        have hx0 : kext RR g49 ru := fun i a b => hq53 i a (by omega) (by omega)
        have hh0 := hrr_copy hr hq53 hq54
        have hkx : kext RR F ru := (hx0.tr hnew.2 (Int.le_refl _))
        have hhr : hrr F ↑w45 := hrr_new hlb.2.1 (by omega) (by first | exact hh0 | (have t := hh0; rw [show (↑w45 : Int) = _ by omega]; exact t)) hF hcan
        have hpk : prok K N O F cnt (ru + (↑nn + 1)) wi := prok_ext hp_ hkx (by omega)
        have hrk : recok F (ru + (↑nn + 1)) ru := hnew.1 (rch_ext hch (by omega) hkx)
        have hchn : rch F (ru + (↑nn + 1)) := rch_new hch hkx hrk hlb.2.1 (by rw [hF, zcpy_out (by omega), zu_self])
        have ppaI_0 := ppaI_0.pr (Pr2 := prc F (ru + (↑nn + 1))) (fun r h => prc_ext hkx (by omega) h)
        have hst_ : ∀ x, cs_mem (fun i => F (ru + 1 + i)) (F ru) x ↔ (wt p).2 x := fun x => (rec_set hlb.2.1 (by omega) hF x).trans (hsv_ x)
        have pdnB_0 := pdnB_0.ext (ru2 := ru + (↑nn + 1)) hkx (by omega)
        change ab_W _ _ _ G62 97 [some (vR q), some (vR p), some (vz (↑nn : Int))] [] _
        refine ab_aload_n d_PR_recordOf_97 rfl ?_
        refine ab_aload_n d_PR_recordOf_98 rfl ?_
        refine ab_getf (fs := [vR ki, vR ne, vR ot, vz cnt, vz fi, vz la, vR b48, vz ru, vz gr, vz wi, vz sz, vz fl, vz ve, vz mi, vR na, vR nl]) f_PR_77 d_PR_recordOf_99 hq.2.2 rfl ?_
        refine ab_putf (fs := [vz kp, vz vp, vR b, vz plp, vz flp, oup, lsp, bfp, vz szp, vz mbp, vz oep, vz lep, vz mop, vz lap, vz (-1)]) f_PR_176 (Or.inl rfl) d_PR_recordOf_102 hp.2.2 (Nat.le_of_ble_eq_true rfl) (fun _ => ⟨rfl, rfl⟩) (hp.2.1 (by decide)) ?_
        obtain ⟨G65, eG65⟩ : ∃ z : ab_G, z = List.set G62 p (ab_ob 4 [vz kp, vz vp, vR b, vz plp, vz flp, oup, lsp, bfp, vz szp, vz mbp, vz oep, vz lep, vz mop, vz lap, vz ru]) := ⟨_, rfl⟩
        have hq := hq.keep hp eG65 (by omega)
        have hra := hra.keep hp eG65 (by omega)
        have hb48 := hb48.keep' eG65 (nq.s ne_b48_p)
        have hzr := hzr.wrec hp eG65
        have hst := (fx.rf (o := o47) (S := [90]) (G := G62)).wr hp eG65 (List.mem_singleton.mpr rfl)
        have pszB_0 := pszB_0.wrec hp eG65
        have pdnB_0 := pdnB_0.wrec hp eG65 (by omega) ⟨hrk, hst_⟩
        have ppaI_0 := ppaI_0.wrec hpp hp (by omega) eG65 (Or.inr hrk) (by omega)
        have hq66 := z_len eG65
        have hq67 := z_sl hp eG65 rfl
        have hfr := hfr.wr hp eG65 (by simp)
        have hp := hp.kept eG65
        change ab_W _ _ _ (List.set G62 p (ab_ob 4 [vz kp, vz vp, vR b, vz plp, vz flp, oup, lsp, bfp, vz szp, vz mbp, vz oep, vz lep, vz mop, vz lap, vz ru])) 105 [some (vR q), some (vR p), some (vz (↑nn : Int))] [] _
        rw [← eG65]
        refine ab_aload_n d_PR_recordOf_105 rfl ?_
        refine ab_dup d_PR_recordOf_106 rfl ?_
        refine ab_getf (fs := [vR ki, vR ne, vR ot, vz cnt, vz fi, vz la, vR b48, vz ru, vz gr, vz wi, vz sz, vz fl, vz ve, vz mi, vR na, vR nl]) f_PR_77 d_PR_recordOf_107 hq.2.2 rfl ?_
        refine ab_iload_n d_PR_recordOf_110 rfl ?_
        refine zz_iconst d_PR_recordOf_111 ?_
        refine zz_iadd d_PR_recordOf_112 ?_
        refine zz_iadd d_PR_recordOf_113 ?_
        refine ab_putf (fs := [vR ki, vR ne, vR ot, vz cnt, vz fi, vz la, vR b48, vz ru, vz gr, vz wi, vz sz, vz fl, vz ve, vz mi, vR na, vR nl]) f_PR_77 (Or.inl rfl) d_PR_recordOf_114 hq.2.2 (Nat.le_of_ble_eq_true rfl) (fun _ => ⟨rfl, rfl⟩) (hq.2.1 (by first | omega | exact (show 18 ≤ _ by omega))) ?_
        obtain ⟨G68, eG68⟩ : ∃ z : ab_G, z = List.set G65 q (ab_ob 5 [vR ki, vR ne, vR ot, vz cnt, vz fi, vz la, vR b48, vz (ru + ((↑nn : Int) + 1)), vz gr, vz wi, vz sz, vz fl, vz ve, vz mi, vR na, vR nl]) := ⟨_, rfl⟩
        have hra := hra.keep hq eG68 (by omega)
        have hp := hp.keep hq eG68 (by omega)
        have hb48 := hb48.keep' eG68 (nq.s ne_b48_q)
        have hzr := hzr.wr hq eG68 (by omega)
        have hst := (fx.rf (o := o47) (S := [lq]) (G := G65)).wr hq eG68 (List.mem_singleton.mpr rfl)
        have pszB_0 := szB.fr hst pszB_0 (by simp only [List.mem_cons, List.not_mem_nil, or_false]; omega) (by simp only [List.mem_cons, List.not_mem_nil, or_false]; omega)
        have pdnB_0 := dnB.fr hst ppaI_0 pdnB_0 (by simp only [List.mem_cons, List.not_mem_nil, or_false]; omega) (by simp only [List.mem_cons, List.not_mem_nil, or_false]; omega)
        have ppaI_0 := paI.fr hst ppaI_0 (by simp only [List.mem_cons, List.not_mem_nil, or_false]; omega) (by simp only [List.mem_cons, List.not_mem_nil, or_false]; omega) (by simp only [List.mem_cons, List.not_mem_nil, or_false]; omega) (by intro xx hx; simp only [List.mem_cons, List.not_mem_nil, or_false] at hx; omega)
        have hq69 := z_len eG68
        have hq70 := z_sl hq eG68 rfl
        have hfr := hfr.wr hq eG68 (by simp)
        have hq := hq.kept eG68
        change ab_W _ _ _ (List.set G65 q (ab_ob 5 [vR ki, vR ne, vR ot, vz cnt, vz fi, vz la, vR b48, vz (ru + ((↑nn : Int) + 1)), vz gr, vz wi, vz sz, vz fl, vz ve, vz mi, vR na, vR nl])) 117 [some (vR q), some (vR p), some (vz (↑nn : Int))] [] _
        rw [← eG68]
        refine ab_aload_n d_PR_recordOf_117 rfl ?_
        refine ab_getf (fs := [vz kp, vz vp, vR b, vz plp, vz flp, oup, lsp, bfp, vz szp, vz mbp, vz oep, vz lep, vz mop, vz lap, vz ru]) f_PR_176 d_PR_recordOf_118 hp.2.2 rfl ?_
        refine zz_iconst d_PR_recordOf_121 ?_
        refine zz_mmax mj_PR_180 d_PR_recordOf_122 (by omega) (by decide) (Nat.le_of_ble_eq_true rfl) (by omega) ?_
        obtain ⟨v71, hv71⟩ : ∃ z : Int, z = (max ru 0) := ⟨_, rfl⟩
        rw [← hv71]
        have hv71 : (ru ≤ 0 ∧ v71 = 0) ∨ (0 < ru ∧ v71 = ru) := by omega
        change ab_W _ _ _ G68 125 [some (vR q), some (vR p), some (vz (↑nn : Int))] [vz v71] _
        refine zz_iret rfl d_PR_recordOf_125 ?_
        rw [hQ]; exact ⟨_, _, _, _, _, _, _, _, rfl, hfr, hq, hb48, hp, ppaI_0, pszB_0, pdnB_0, (by rw [show v71 = ru by omega]; exact hrk), (by first | exact hkx | exact kext.rf), (by first | exact ⟨kext.rf, kext.rf, kext.rf, hkx⟩ | exact pxt.rf), (by rw [show v71 = ru by omega]; exact hst_), (by first | exact hchn | exact hch), (by first | exact hpk | exact hp_), (by first | exact hhr | exact hr), (by omega), (by omega), (by exact hzr), (by omega), (by omega)⟩
