set_option maxRecDepth 100000 in
set_option maxHeartbeats 4000000 in
theorem y_PR_build_47 {X : ab_X} {d : Nat} {Q : Outcome → ab_G → Prop} {o : Nat → Nat} {G0 : ab_G} {q : Nat} {lq : Nat} {ki : Nat} {ne : Nat} {ot : Nat} {cnt : Int} {fi : Int} {la : Int} {ra : Nat} {ru : Int} {wi : Int} {sz : Int} {fl : Int} {ve : Int} {mi : Int} {na : Nat} {nl : Nat} {d_ : Nat} {inn : Value} {dp : Int} {flg : Int} {grp : Int} {lst : Int} {mst : Int} {bh : Int} {rna : Nat} {rnl : Nat} {RNA : Int → Int} {RNL : Int → Int} {x : Nat} {se : Nat} {by_ : Nat} {m : Nat} {f : Int → Int} {n : Int} {pl : Int} {fa : Int} {fp : Int} {kd : Nat} {kn : Int} {p : Nat} (n18 : ab_n0 = 18) (cn_ : 0 ≤ n ∧ n ≤ ↑m ∧ m ≤ 2000) (hnm : nmok RNA RNL grp n) (cgr : 0 ≤ grp ∧ grp ≤ 9 ∧ 100 ≤ lq) (hd : 1 ≤ d) : ∀ (mz : Nat) {G : ab_G} {k_ : Int} {NA : Int → Int} {NL : Int → Int}, (cc o G q lq (ab_ob 5 [vR ki, vR ne, vR ot, vz cnt, vz fi, vz la, vR ra, vz ru, vz grp, vz wi, vz sz, vz fl, vz ve, vz mi, vR na, vR nl])) → (cc o G na (lq + 5) (za 120 NA)) → (cc o G nl (lq + 6) (za 10 NL)) → (cc o G d_ 25 (ab_ob 6 [vR x, inn, vz dp, vz flg, vz grp, vR rna, vR rnl, vz lst, vz mst, vz bh])) → (cc o G x 24 (ab_ob 10 [vR se, vR by_, vz n, vz pl, vz fa, vz fp, vR kd, vz kn])) → (cc o G by_ 23 (za m f)) → (cc o G rna 86 (za 10 RNA)) → (cc o G rnl 87 (za 10 RNL)) → (1 ≤ k_ ∧ k_ ≤ grp + 1) → (rgs NL 10 0 12) → (bnm f RNA RNL NA NL k_) → (fx o o [(lq + 5), (lq + 6)] G0 G) → (G.length = G0.length) → (ab_slots G = ab_slots G0) → (Int.toNat (grp + 1 - k_) < mz) → (∀ (G2 : ab_G) (NA : Int → Int) (NL : Int → Int), (cc o G2 q lq (ab_ob 5 [vR ki, vR ne, vR ot, vz cnt, vz fi, vz la, vR ra, vz ru, vz grp, vz wi, vz sz, vz fl, vz ve, vz mi, vR na, vR nl])) → (cc o G2 na (lq + 5) (za 120 NA)) → (cc o G2 nl (lq + 6) (za 10 NL)) → (cc o G2 d_ 25 (ab_ob 6 [vR x, inn, vz dp, vz flg, vz grp, vR rna, vR rnl, vz lst, vz mst, vz bh])) → (cc o G2 x 24 (ab_ob 10 [vR se, vR by_, vz n, vz pl, vz fa, vz fp, vR kd, vz kn])) → (cc o G2 by_ 23 (za m f)) → (cc o G2 rna 86 (za 10 RNA)) → (cc o G2 rnl 87 (za 10 RNL)) → (rgs NL 10 0 12) → (bnm f RNA RNL NA NL (grp + 1)) → (fx o o [(lq + 5), (lq + 6)] G0 G2) → (G2.length = G0.length) → (ab_slots G2 = ab_slots G0) → ab_W X (ab_pl y_PR_build b_PR_build 6 none) d G2 109 [some (vR q), some (vR p), some (vR d_), none, none, none] [] Q) → ab_W X (ab_pl y_PR_build b_PR_build 6 none) d G 47 [some (vR q), some (vR p), some (vR d_), none, none, some (vz k_)] [] Q := by
  intro mz
  induction mz with
  | zero => intro G k_ NA NL hq hna hnl hd_ hx hby_ hrna hrnl ck_ rgn jbn hfr hlen hsl hm hk0; exact absurd hm (Nat.not_lt_zero _)
  | succ mz ih =>
    intro G k_ NA NL hq hna hnl hd_ hx hby_ hrna hrnl ck_ rgn jbn hfr hlen hsl hm hk0
    refine ab_iload d_PR_build_47 rfl ?_
    refine ab_aload_n d_PR_build_49 rfl ?_
    refine ab_getf (fs := [vR ki, vR ne, vR ot, vz cnt, vz fi, vz la, vR ra, vz ru, vz grp, vz wi, vz sz, vz fl, vz ve, vz mi, vR na, vR nl]) f_PR_42 d_PR_build_50 hq.2.2 rfl ?_
    refine zz_icmp_gt (tgt := 109) d_PR_build_53 (by decide) (by omega) (by omega) (fun c1 => ?_) (fun c1 => ?_)
    · refine ab_less (L' := [some (vR q), some (vR p), some (vR d_), none, none, none]) (fun i v h => by rcases i with _ | _ | _ | _ | _ | _ | i <;> first | exact h | (simp at h)) ?_
      exact hk0 _ _ _ hq hna hnl hd_ hx hby_ hrna hrnl (by exact rgn) (by have t_ := jbn; rw [show k_ = grp + 1 by omega] at t_; exact t_) hfr hlen hsl
    · have hk := hnm k_ (by omega) (by omega)
      refine ab_aload_n d_PR_build_56 rfl ?_
      refine ab_getf (fs := [vR ki, vR ne, vR ot, vz cnt, vz fi, vz la, vR ra, vz ru, vz grp, vz wi, vz sz, vz fl, vz ve, vz mi, vR na, vR nl]) f_PR_27 d_PR_build_57 hq.2.2 rfl ?_
      refine ab_iload d_PR_build_60 rfl ?_
      refine ab_aload_n d_PR_build_62 rfl ?_
      refine ab_getf (fs := [vR x, inn, vz dp, vz flg, vz grp, vR rna, vR rnl, vz lst, vz mst, vz bh]) f_PR_55 d_PR_build_63 hd_.2.2 rfl ?_
      refine ab_iload d_PR_build_66 rfl ?_
      refine zz_iald d_PR_build_68 hrnl (by omega) ?_
      refine zz_iast d_PR_build_69 hnl (by omega) (hnl.2.1 (by first | omega | exact (show 18 ≤ _ by omega))) ?_
      obtain ⟨G2, eG2⟩ : ∃ z : ab_G, z = List.set G nl (za 10 (zu NL k_ (RNL k_))) := ⟨_, rfl⟩
      have hq := hq.keep hnl eG2 (by omega)
      have hna := hna.keep hnl eG2 (by omega)
      have hd_ := hd_.keep hnl eG2 (by omega)
      have hx := hx.keep hnl eG2 (by omega)
      have hby_ := hby_.keep hnl eG2 (by omega)
      have hrna := hrna.keep hnl eG2 (by omega)
      have hrnl := hrnl.keep hnl eG2 (by omega)
      have hlen := (z_len eG2).trans hlen
      have hsl := (z_sl hnl eG2 rfl).trans hsl
      have hfr := hfr.wr hnl eG2 (by simp)
      have hnl := hnl.kept eG2
      change ab_W _ _ _ (List.set G nl (za 10 (zu NL k_ (RNL k_)))) 70 [some (vR q), some (vR p), some (vR d_), none, none, some (vz k_)] [] _
      rw [← eG2]
      refine ab_aload_n d_PR_build_70 rfl ?_
      refine ab_getf (fs := [vR x, inn, vz dp, vz flg, vz grp, vR rna, vR rnl, vz lst, vz mst, vz bh]) f_PR_56 d_PR_build_71 hd_.2.2 rfl ?_
      refine ab_getf (fs := [vR se, vR by_, vz n, vz pl, vz fa, vz fp, vR kd, vz kn]) f_PR_60 d_PR_build_74 hx.2.2 rfl ?_
      refine ab_aload_n d_PR_build_77 rfl ?_
      refine ab_getf (fs := [vR x, inn, vz dp, vz flg, vz grp, vR rna, vR rnl, vz lst, vz mst, vz bh]) f_PR_65 d_PR_build_78 hd_.2.2 rfl ?_
      refine ab_iload d_PR_build_81 rfl ?_
      refine zz_iald d_PR_build_83 hrna (by omega) ?_
      refine ab_aload_n d_PR_build_84 rfl ?_
      refine ab_getf (fs := [vR ki, vR ne, vR ot, vz cnt, vz fi, vz la, vR ra, vz ru, vz grp, vz wi, vz sz, vz fl, vz ve, vz mi, vR na, vR nl]) f_PR_24 d_PR_build_85 hq.2.2 rfl ?_
      refine ab_iload d_PR_build_88 rfl ?_
      refine zz_bipush d_PR_build_90 (by decide) ?_
      refine zz_imul d_PR_build_92 ?_
      refine ab_aload_n d_PR_build_93 rfl ?_
      refine ab_getf (fs := [vR ki, vR ne, vR ot, vz cnt, vz fi, vz la, vR ra, vz ru, vz grp, vz wi, vz sz, vz fl, vz ve, vz mi, vR na, vR nl]) f_PR_27 d_PR_build_94 hq.2.2 rfl ?_
      refine ab_iload d_PR_build_97 rfl ?_
      refine zz_iald d_PR_build_99 hnl (by omega) ?_
      refine zz_top (zu_self _ _ _) ?_
      refine zz_copy mj_PR_68 d_PR_build_100 hby_ hna (hna.2.1 (by first | omega | exact (show 18 ≤ _ by omega))) (by omega) (Nat.le_of_ble_eq_true rfl) (by omega) ?_
      obtain ⟨G3, eG3⟩ : ∃ z : ab_G, z = List.set G2 na (za 120 (zcpy f NA (RNA k_) (k_ * 12) (RNL k_))) := ⟨_, rfl⟩
      have hq := hq.keep hna eG3 (by omega)
      have hnl := hnl.keep hna eG3 (by omega)
      have hd_ := hd_.keep hna eG3 (by omega)
      have hx := hx.keep hna eG3 (by omega)
      have hby_ := hby_.keep hna eG3 (by omega)
      have hrna := hrna.keep hna eG3 (by omega)
      have hrnl := hrnl.keep hna eG3 (by omega)
      have hlen := (z_len eG3).trans hlen
      have hsl := (z_sl hna eG3 rfl).trans hsl
      have hfr := hfr.wr hna eG3 (by simp)
      have hna := hna.kept eG3
      change ab_W _ _ _ (List.set G2 na (za 120 (zcpy f NA (RNA k_) (k_ * 12) (RNL k_)))) 103 [some (vR q), some (vR p), some (vR d_), none, none, some (vz k_)] [] _
      rw [← eG3]
      refine zz_iinc d_PR_build_103 rfl (Nat.le_of_ble_eq_true rfl) (Nat.le_of_ble_eq_true rfl) rfl ?_
      change ab_W _ _ _ G3 106 [some (vR q), some (vR p), some (vR d_), none, none, some (vz (k_ + 1))] [] _
      refine ab_goto (tgt := 47) d_PR_build_106 (by decide) ?_
      exact ih (k_ := (k_ + 1)) (NA := (zcpy f NA (RNA k_) (k_ * 12) (RNL k_))) (NL := (zu NL k_ (RNL k_))) hq hna hnl hd_ hx hby_ hrna hrnl (by omega) (rgs_zu rgn (by omega)) (bnm_s jbn hnm (by omega)) hfr hlen hsl (by omega) hk0
set_option maxRecDepth 100000 in
set_option maxHeartbeats 4000000 in
theorem z_PR_build {X : ab_X} {d : Nat} {o : Nat → Nat} {G : ab_G} {q : Nat} {lq : Nat} {ki : Nat} {ne : Nat} {ot : Nat} {cnt : Int} {fi : Int} {la : Int} {ra : Nat} {ru : Int} {gr : Int} {wi : Int} {sz : Int} {fl : Int} {ve : Int} {mi : Int} {na : Nat} {nl : Nat} {K : Int → Int} {N : Int → Int} {O : Int → Int} {RR : Int → Int} {NA : Int → Int} {NL : Int → Int} {nr : Nat} {d_ : Nat} {inn : Value} {dp : Int} {flg : Int} {grp : Int} {lst : Int} {mst : Int} {bh : Int} {rna : Nat} {rnl : Nat} {RNA : Int → Int} {RNL : Int → Int} {x : Nat} {se : Nat} {by_ : Nat} {m : Nat} {f : Int → Int} {n : Int} {pl : Int} {fa : Int} {fp : Int} {kd : Nat} {kn : Int} {ps : Nat → Nat} {wt : Nat → Wt} {bs : Nat} {ph : Int} {cu : Nat → Int} {cs : Nat → Sn} {v9 : Sn} {p : Nat} {fl0 : Int} {ve0 : Int} {sz9 : Int} (hq : cc o G q lq (ab_ob 5 [vR ki, vR ne, vR ot, vz cnt, vz fi, vz la, vR ra, vz ru, vz gr, vz wi, vz sz, vz fl, vz ve, vz mi, vR na, vR nl])) (hki : cc o G ki (lq + 1) (za 808 K)) (hne : cc o G ne (lq + 2) (za 808 N)) (hot : cc o G ot (lq + 3) (za 808 O)) (hra : cc o G ra (lq + 4) (za nr RR)) (hna : cc o G na (lq + 5) (za 120 NA)) (hnl : cc o G nl (lq + 6) (za 10 NL)) (hd_ : cc o G d_ 25 (ab_ob 6 [vR x, inn, vz dp, vz flg, vz grp, vR rna, vR rnl, vz lst, vz mst, vz bh])) (hx : cc o G x 24 (ab_ob 10 [vR se, vR by_, vz n, vz pl, vz fa, vz fp, vR kd, vz kn])) (hby_ : cc o G by_ 23 (za m f)) (hrna : cc o G rna 86 (za 10 RNA)) (hrnl : cc o G rnl 87 (za 10 RNL)) (ppaI_0 : paI o G 0 ps wt bs grp pr0 ph) (pszF_0 : szF o G 0 ps cu p) (pdnF_0 : dnF o G 0 ps wt cs p v9) (n18 : ab_n0 = 18) (cn_ : 0 ≤ n ∧ n ≤ ↑m ∧ m ≤ 2000) (hnm : nmok RNA RNL grp n) (cgr : 0 ≤ grp ∧ grp ≤ 9 ∧ 100 ≤ lq) (rgn : rgs NL 10 0 12) (hr : hrr RR ↑nr) (cnr : 32 ≤ nr ∧ ↑nr ≤ (100000 : Int) ∧ 0 ≤ ph ∧ ph ≤ 50000 ∧ 0 ≤ sz9 ∧ sz9 ≤ 400) (hpp : ps p = 90) (hsz : pf G p 8 = some (vz sz9)) (h30 : v9.1.2.2 ≤ 30) (rc : 32 * G.length + 103300 ≤ 32 * (ab_n0 + room_1.cells) + nr) (rs : ab_slots G + 200000 ≤ room_1.slots + 2 * nr) (hd : 210 ≤ d) : ab_F X d y_PR_build (.code y_PR_build b_PR_build 6 none) [vR q, vR p, vR d_, vz fl0, vz ve0] G (fun oc G2 => ∃ o2 : Nat → Nat, ∃ cnt2 : Int, ∃ la2 : Int, ∃ ra2 : Nat, ∃ nr2 : Nat, ∃ ru2 : Int, ∃ K2 : Int → Int, ∃ N2 : Int → Int, ∃ O2 : Int → Int, ∃ RR2 : Int → Int, ∃ fi2 : Int, ∃ NA2 : Int → Int, ∃ NL2 : Int → Int, oc = .returned none ∧ fx o o2 [lq, (lq + 1), (lq + 2), (lq + 3), (lq + 4), 90, (lq + 5), (lq + 6)] G G2 ∧ cc o2 G2 q lq (ab_ob 5 [vR ki, vR ne, vR ot, vz cnt2, vz fi2, vz la2, vR ra2, vz ru2, vz grp, vz (2 * (grp + 1)), vz sz9, vz fl0, vz ve0, vz 0, vR na, vR nl]) ∧ cc o2 G2 ki (lq + 1) (za 808 K2) ∧ cc o2 G2 ne (lq + 2) (za 808 N2) ∧ cc o2 G2 ot (lq + 3) (za 808 O2) ∧ cc o2 G2 ra2 (lq + 4) (za nr2 RR2) ∧ cc o2 G2 na (lq + 5) (za 120 NA2) ∧ cc o2 G2 nl (lq + 6) (za 10 NL2) ∧ ((cnt2 + tkn K2 cnt2) ≤ 2 * sz9 + 2) ∧ (2 ≤ cnt2 ∧ cnt2 ≤ 808 ∧ 0 ≤ la2 ∧ la2 ≤ 1 ∧ 0 ≤ fi2 ∧ fi2 < cnt2) ∧ (prM K2 N2 O2 RR2 fi2 v9) ∧ (laI la2 K2 cnt2) ∧ (32 ≤ nr2 ∧ ↑nr2 ≤ (100000 : Int) ∧ nr ≤ nr2) ∧ (prok K2 N2 O2 RR2 cnt2 ↑nr2 (2 * (grp + 1))) ∧ (prok K2 N2 O2 RR2 cnt2 ru2 (2 * (grp + 1)) ∧ ru2 ≤ 50000) ∧ (K2 0 = 9) ∧ (hrr RR2 ↑nr2) ∧ (rch RR2 ru2 ∧ 0 ≤ ru2 ∧ ru2 ≤ ↑nr2) ∧ (rgs NL2 10 0 12) ∧ (bnm f RNA RNL NA2 NL2 (grp + 1)) ∧ (32 * G2.length + nr ≤ 32 * G.length + nr2) ∧ (ab_slots G2 + 2 * nr ≤ ab_slots G + 2 * nr2)) := by
  refine ab_F_of (by decide +kernel) (Nat.le_of_ble_eq_true rfl) ?_
  obtain ⟨Q, hQ⟩ : ∃ z : Outcome → ab_G → Prop, z = (fun oc G2 => ∃ o2 : Nat → Nat, ∃ cnt2 : Int, ∃ la2 : Int, ∃ ra2 : Nat, ∃ nr2 : Nat, ∃ ru2 : Int, ∃ K2 : Int → Int, ∃ N2 : Int → Int, ∃ O2 : Int → Int, ∃ RR2 : Int → Int, ∃ fi2 : Int, ∃ NA2 : Int → Int, ∃ NL2 : Int → Int, oc = .returned none ∧ fx o o2 [lq, (lq + 1), (lq + 2), (lq + 3), (lq + 4), 90, (lq + 5), (lq + 6)] G G2 ∧ cc o2 G2 q lq (ab_ob 5 [vR ki, vR ne, vR ot, vz cnt2, vz fi2, vz la2, vR ra2, vz ru2, vz grp, vz (2 * (grp + 1)), vz sz9, vz fl0, vz ve0, vz 0, vR na, vR nl]) ∧ cc o2 G2 ki (lq + 1) (za 808 K2) ∧ cc o2 G2 ne (lq + 2) (za 808 N2) ∧ cc o2 G2 ot (lq + 3) (za 808 O2) ∧ cc o2 G2 ra2 (lq + 4) (za nr2 RR2) ∧ cc o2 G2 na (lq + 5) (za 120 NA2) ∧ cc o2 G2 nl (lq + 6) (za 10 NL2) ∧ ((cnt2 + tkn K2 cnt2) ≤ 2 * sz9 + 2) ∧ (2 ≤ cnt2 ∧ cnt2 ≤ 808 ∧ 0 ≤ la2 ∧ la2 ≤ 1 ∧ 0 ≤ fi2 ∧ fi2 < cnt2) ∧ (prM K2 N2 O2 RR2 fi2 v9) ∧ (laI la2 K2 cnt2) ∧ (32 ≤ nr2 ∧ ↑nr2 ≤ (100000 : Int) ∧ nr ≤ nr2) ∧ (prok K2 N2 O2 RR2 cnt2 ↑nr2 (2 * (grp + 1))) ∧ (prok K2 N2 O2 RR2 cnt2 ru2 (2 * (grp + 1)) ∧ ru2 ≤ 50000) ∧ (K2 0 = 9) ∧ (hrr RR2 ↑nr2) ∧ (rch RR2 ru2 ∧ 0 ≤ ru2 ∧ ru2 ≤ ↑nr2) ∧ (rgs NL2 10 0 12) ∧ (bnm f RNA RNL NA2 NL2 (grp + 1)) ∧ (32 * G2.length + nr ≤ 32 * G.length + nr2) ∧ (ab_slots G2 + 2 * nr ≤ ab_slots G + 2 * nr2)) := ⟨_, rfl⟩
  rw [← hQ]
  change ab_W X (ab_pl y_PR_build b_PR_build 6 none) d G 0 [some (vR q), some (vR p), some (vR d_), some (vz fl0), some (vz ve0), none] [] Q
  have hfr : fx o o [lq, (lq + 1), (lq + 2), (lq + 3), (lq + 4), 90, (lq + 5), (lq + 6)] G G := fx.rf
  obtain ⟨k_1, v_1, rg_1, pl_1, fl_1, ou_1, ls_1, bf_1, sz_1, mb_1, oe_1, le_1, mo_1, la_1, rc_1, hp, hn1, hb1, hg1, ho1, hl1, hf1⟩ := ppaI_0.1 p hpp
  have hB1 := hb1
  unfold pnB at hB1
  have hK1 := hn1.1
  have hse : sz_1 = sz9 := vz_inj (by omega) (by omega) (by have t := hsz; unfold pf at t; rw [hp.2.2] at t; exact Option.some.inj t)
  rw [hse] at hp
  refine ab_aload_n d_PR_build_0 rfl ?_
  refine ab_iload_n d_PR_build_1 rfl ?_
  refine ab_putf (fs := [vR ki, vR ne, vR ot, vz cnt, vz fi, vz la, vR ra, vz ru, vz gr, vz wi, vz sz, vz fl, vz ve, vz mi, vR na, vR nl]) f_PR_30 (Or.inl rfl) d_PR_build_2 hq.2.2 (Nat.le_of_ble_eq_true rfl) (fun _ => ⟨rfl, rfl⟩) (hq.2.1 (by first | omega | exact (show 18 ≤ _ by omega))) ?_
  obtain ⟨G2, eG2⟩ : ∃ z : ab_G, z = List.set G q (ab_ob 5 [vR ki, vR ne, vR ot, vz cnt, vz fi, vz la, vR ra, vz ru, vz gr, vz wi, vz sz, vz fl0, vz ve, vz mi, vR na, vR nl]) := ⟨_, rfl⟩
  have hki := hki.keep hq eG2 (by omega)
  have hne := hne.keep hq eG2 (by omega)
  have hot := hot.keep hq eG2 (by omega)
  have hra := hra.keep hq eG2 (by omega)
  have hna := hna.keep hq eG2 (by omega)
  have hnl := hnl.keep hq eG2 (by omega)
  have hd_ := hd_.keep hq eG2 (by omega)
  have hx := hx.keep hq eG2 (by omega)
  have hby_ := hby_.keep hq eG2 (by omega)
  have hrna := hrna.keep hq eG2 (by omega)
  have hrnl := hrnl.keep hq eG2 (by omega)
  have hp := hp.keep hq eG2 (by omega)
  have hst := (fx.rf (o := o) (S := [lq]) (G := G)).wr hq eG2 (List.mem_singleton.mpr rfl)
  have pszF_0 := szF.fr hst ppaI_0 pszF_0 (by simp only [List.mem_cons, List.not_mem_nil, or_false]; omega) (by simp only [List.mem_cons, List.not_mem_nil, or_false]; omega)
  have pdnF_0 := dnF.fr hst ppaI_0 pdnF_0 (by simp only [List.mem_cons, List.not_mem_nil, or_false]; omega) (by simp only [List.mem_cons, List.not_mem_nil, or_false]; omega)
  have ppaI_0 := paI.fr hst ppaI_0 (by simp only [List.mem_cons, List.not_mem_nil, or_false]; omega) (by simp only [List.mem_cons, List.not_mem_nil, or_false]; omega) (by simp only [List.mem_cons, List.not_mem_nil, or_false]; omega) (by intro xx hx; simp only [List.mem_cons, List.not_mem_nil, or_false] at hx; omega)
  have hq3 := z_len eG2
  have hq4 := z_sl hq eG2 rfl
  have hfr := hfr.wr hq eG2 (by simp)
  have hq := hq.kept eG2
  change ab_W _ _ _ (List.set G q (ab_ob 5 [vR ki, vR ne, vR ot, vz cnt, vz fi, vz la, vR ra, vz ru, vz gr, vz wi, vz sz, vz fl0, vz ve, vz mi, vR na, vR nl])) 5 [some (vR q), some (vR p), some (vR d_), some (vz fl0), some (vz ve0), none] [] _
  rw [← eG2]
  refine ab_aload_n d_PR_build_5 rfl ?_
  refine ab_iload d_PR_build_6 rfl ?_
  refine ab_putf (fs := [vR ki, vR ne, vR ot, vz cnt, vz fi, vz la, vR ra, vz ru, vz gr, vz wi, vz sz, vz fl0, vz ve, vz mi, vR na, vR nl]) f_PR_34 (Or.inl rfl) d_PR_build_8 hq.2.2 (Nat.le_of_ble_eq_true rfl) (fun _ => ⟨rfl, rfl⟩) (hq.2.1 (by first | omega | exact (show 18 ≤ _ by omega))) ?_
  obtain ⟨G5, eG5⟩ : ∃ z : ab_G, z = List.set G2 q (ab_ob 5 [vR ki, vR ne, vR ot, vz cnt, vz fi, vz la, vR ra, vz ru, vz gr, vz wi, vz sz, vz fl0, vz ve0, vz mi, vR na, vR nl]) := ⟨_, rfl⟩
  have hki := hki.keep hq eG5 (by omega)
  have hne := hne.keep hq eG5 (by omega)
  have hot := hot.keep hq eG5 (by omega)
  have hra := hra.keep hq eG5 (by omega)
  have hna := hna.keep hq eG5 (by omega)
  have hnl := hnl.keep hq eG5 (by omega)
  have hd_ := hd_.keep hq eG5 (by omega)
  have hx := hx.keep hq eG5 (by omega)
  have hby_ := hby_.keep hq eG5 (by omega)
  have hrna := hrna.keep hq eG5 (by omega)
  have hrnl := hrnl.keep hq eG5 (by omega)
  have hp := hp.keep hq eG5 (by omega)
  have hst := (fx.rf (o := o) (S := [lq]) (G := G2)).wr hq eG5 (List.mem_singleton.mpr rfl)
  have pszF_0 := szF.fr hst ppaI_0 pszF_0 (by simp only [List.mem_cons, List.not_mem_nil, or_false]; omega) (by simp only [List.mem_cons, List.not_mem_nil, or_false]; omega)
  have pdnF_0 := dnF.fr hst ppaI_0 pdnF_0 (by simp only [List.mem_cons, List.not_mem_nil, or_false]; omega) (by simp only [List.mem_cons, List.not_mem_nil, or_false]; omega)
  have ppaI_0 := paI.fr hst ppaI_0 (by simp only [List.mem_cons, List.not_mem_nil, or_false]; omega) (by simp only [List.mem_cons, List.not_mem_nil, or_false]; omega) (by simp only [List.mem_cons, List.not_mem_nil, or_false]; omega) (by intro xx hx; simp only [List.mem_cons, List.not_mem_nil, or_false] at hx; omega)
  have hq6 := z_len eG5
  have hq7 := z_sl hq eG5 rfl
  have hfr := hfr.wr hq eG5 (by simp)
  have hq := hq.kept eG5
  change ab_W _ _ _ (List.set G2 q (ab_ob 5 [vR ki, vR ne, vR ot, vz cnt, vz fi, vz la, vR ra, vz ru, vz gr, vz wi, vz sz, vz fl0, vz ve0, vz mi, vR na, vR nl])) 11 [some (vR q), some (vR p), some (vR d_), some (vz fl0), some (vz ve0), none] [] _
  rw [← eG5]
  refine ab_aload_n d_PR_build_11 rfl ?_
  refine ab_aload_n d_PR_build_12 rfl ?_
  refine ab_getf (fs := [vR x, inn, vz dp, vz flg, vz grp, vR rna, vR rnl, vz lst, vz mst, vz bh]) f_PR_37 d_PR_build_13 hd_.2.2 rfl ?_
  refine ab_putf (fs := [vR ki, vR ne, vR ot, vz cnt, vz fi, vz la, vR ra, vz ru, vz gr, vz wi, vz sz, vz fl0, vz ve0, vz mi, vR na, vR nl]) f_PR_42 (Or.inl rfl) d_PR_build_16 hq.2.2 (Nat.le_of_ble_eq_true rfl) (fun _ => ⟨rfl, rfl⟩) (hq.2.1 (by first | omega | exact (show 18 ≤ _ by omega))) ?_
  obtain ⟨G8, eG8⟩ : ∃ z : ab_G, z = List.set G5 q (ab_ob 5 [vR ki, vR ne, vR ot, vz cnt, vz fi, vz la, vR ra, vz ru, vz grp, vz wi, vz sz, vz fl0, vz ve0, vz mi, vR na, vR nl]) := ⟨_, rfl⟩
  have hki := hki.keep hq eG8 (by omega)
  have hne := hne.keep hq eG8 (by omega)
  have hot := hot.keep hq eG8 (by omega)
  have hra := hra.keep hq eG8 (by omega)
  have hna := hna.keep hq eG8 (by omega)
  have hnl := hnl.keep hq eG8 (by omega)
  have hd_ := hd_.keep hq eG8 (by omega)
  have hx := hx.keep hq eG8 (by omega)
  have hby_ := hby_.keep hq eG8 (by omega)
  have hrna := hrna.keep hq eG8 (by omega)
  have hrnl := hrnl.keep hq eG8 (by omega)
  have hp := hp.keep hq eG8 (by omega)
  have hst := (fx.rf (o := o) (S := [lq]) (G := G5)).wr hq eG8 (List.mem_singleton.mpr rfl)
  have pszF_0 := szF.fr hst ppaI_0 pszF_0 (by simp only [List.mem_cons, List.not_mem_nil, or_false]; omega) (by simp only [List.mem_cons, List.not_mem_nil, or_false]; omega)
  have pdnF_0 := dnF.fr hst ppaI_0 pdnF_0 (by simp only [List.mem_cons, List.not_mem_nil, or_false]; omega) (by simp only [List.mem_cons, List.not_mem_nil, or_false]; omega)
  have ppaI_0 := paI.fr hst ppaI_0 (by simp only [List.mem_cons, List.not_mem_nil, or_false]; omega) (by simp only [List.mem_cons, List.not_mem_nil, or_false]; omega) (by simp only [List.mem_cons, List.not_mem_nil, or_false]; omega) (by intro xx hx; simp only [List.mem_cons, List.not_mem_nil, or_false] at hx; omega)
  have hq9 := z_len eG8
  have hq10 := z_sl hq eG8 rfl
  have hfr := hfr.wr hq eG8 (by simp)
  have hq := hq.kept eG8
  change ab_W _ _ _ (List.set G5 q (ab_ob 5 [vR ki, vR ne, vR ot, vz cnt, vz fi, vz la, vR ra, vz ru, vz grp, vz wi, vz sz, vz fl0, vz ve0, vz mi, vR na, vR nl])) 19 [some (vR q), some (vR p), some (vR d_), some (vz fl0), some (vz ve0), none] [] _
  rw [← eG8]
  refine ab_aload_n d_PR_build_19 rfl ?_
  refine zz_iconst d_PR_build_20 ?_
  refine ab_aload_n d_PR_build_21 rfl ?_
  refine ab_getf (fs := [vR ki, vR ne, vR ot, vz cnt, vz fi, vz la, vR ra, vz ru, vz grp, vz wi, vz sz, vz fl0, vz ve0, vz mi, vR na, vR nl]) f_PR_42 d_PR_build_22 hq.2.2 rfl ?_
  refine zz_iconst d_PR_build_25 ?_
  refine zz_iadd d_PR_build_26 ?_
  refine zz_imul d_PR_build_27 ?_
  refine ab_putf (fs := [vR ki, vR ne, vR ot, vz cnt, vz fi, vz la, vR ra, vz ru, vz grp, vz wi, vz sz, vz fl0, vz ve0, vz mi, vR na, vR nl]) f_PR_43 (Or.inl rfl) d_PR_build_28 hq.2.2 (Nat.le_of_ble_eq_true rfl) (fun _ => ⟨rfl, rfl⟩) (hq.2.1 (by first | omega | exact (show 18 ≤ _ by omega))) ?_
  obtain ⟨G11, eG11⟩ : ∃ z : ab_G, z = List.set G8 q (ab_ob 5 [vR ki, vR ne, vR ot, vz cnt, vz fi, vz la, vR ra, vz ru, vz grp, vz (2 * (grp + 1)), vz sz, vz fl0, vz ve0, vz mi, vR na, vR nl]) := ⟨_, rfl⟩
  have hki := hki.keep hq eG11 (by omega)
  have hne := hne.keep hq eG11 (by omega)
  have hot := hot.keep hq eG11 (by omega)
  have hra := hra.keep hq eG11 (by omega)
  have hna := hna.keep hq eG11 (by omega)
  have hnl := hnl.keep hq eG11 (by omega)
  have hd_ := hd_.keep hq eG11 (by omega)
  have hx := hx.keep hq eG11 (by omega)
  have hby_ := hby_.keep hq eG11 (by omega)
  have hrna := hrna.keep hq eG11 (by omega)
  have hrnl := hrnl.keep hq eG11 (by omega)
  have hp := hp.keep hq eG11 (by omega)
  have hst := (fx.rf (o := o) (S := [lq]) (G := G8)).wr hq eG11 (List.mem_singleton.mpr rfl)
  have pszF_0 := szF.fr hst ppaI_0 pszF_0 (by simp only [List.mem_cons, List.not_mem_nil, or_false]; omega) (by simp only [List.mem_cons, List.not_mem_nil, or_false]; omega)
  have pdnF_0 := dnF.fr hst ppaI_0 pdnF_0 (by simp only [List.mem_cons, List.not_mem_nil, or_false]; omega) (by simp only [List.mem_cons, List.not_mem_nil, or_false]; omega)
  have ppaI_0 := paI.fr hst ppaI_0 (by simp only [List.mem_cons, List.not_mem_nil, or_false]; omega) (by simp only [List.mem_cons, List.not_mem_nil, or_false]; omega) (by simp only [List.mem_cons, List.not_mem_nil, or_false]; omega) (by intro xx hx; simp only [List.mem_cons, List.not_mem_nil, or_false] at hx; omega)
  have hq12 := z_len eG11
  have hq13 := z_sl hq eG11 rfl
  have hfr := hfr.wr hq eG11 (by simp)
  have hq := hq.kept eG11
  change ab_W _ _ _ (List.set G8 q (ab_ob 5 [vR ki, vR ne, vR ot, vz cnt, vz fi, vz la, vR ra, vz ru, vz grp, vz (2 * (grp + 1)), vz sz, vz fl0, vz ve0, vz mi, vR na, vR nl])) 31 [some (vR q), some (vR p), some (vR d_), some (vz fl0), some (vz ve0), none] [] _
  rw [← eG11]
  refine ab_aload_n d_PR_build_31 rfl ?_
  refine ab_aload_n d_PR_build_32 rfl ?_
  refine ab_getf (fs := [vz k_1, vz v_1, rg_1, vz pl_1, vz fl_1, ou_1, ls_1, bf_1, vz sz9, vz mb_1, vz oe_1, vz le_1, vz mo_1, vz la_1, vz rc_1]) f_PR_46 d_PR_build_33 hp.2.2 rfl ?_
  refine ab_putf (fs := [vR ki, vR ne, vR ot, vz cnt, vz fi, vz la, vR ra, vz ru, vz grp, vz (2 * (grp + 1)), vz sz, vz fl0, vz ve0, vz mi, vR na, vR nl]) f_PR_51 (Or.inl rfl) d_PR_build_36 hq.2.2 (Nat.le_of_ble_eq_true rfl) (fun _ => ⟨rfl, rfl⟩) (hq.2.1 (by first | omega | exact (show 18 ≤ _ by omega))) ?_
  obtain ⟨G14, eG14⟩ : ∃ z : ab_G, z = List.set G11 q (ab_ob 5 [vR ki, vR ne, vR ot, vz cnt, vz fi, vz la, vR ra, vz ru, vz grp, vz (2 * (grp + 1)), vz sz9, vz fl0, vz ve0, vz mi, vR na, vR nl]) := ⟨_, rfl⟩
  have hki := hki.keep hq eG14 (by omega)
  have hne := hne.keep hq eG14 (by omega)
  have hot := hot.keep hq eG14 (by omega)
  have hra := hra.keep hq eG14 (by omega)
  have hna := hna.keep hq eG14 (by omega)
  have hnl := hnl.keep hq eG14 (by omega)
  have hd_ := hd_.keep hq eG14 (by omega)
  have hx := hx.keep hq eG14 (by omega)
  have hby_ := hby_.keep hq eG14 (by omega)
  have hrna := hrna.keep hq eG14 (by omega)
  have hrnl := hrnl.keep hq eG14 (by omega)
  have hp := hp.keep hq eG14 (by omega)
  have hst := (fx.rf (o := o) (S := [lq]) (G := G11)).wr hq eG14 (List.mem_singleton.mpr rfl)
  have pszF_0 := szF.fr hst ppaI_0 pszF_0 (by simp only [List.mem_cons, List.not_mem_nil, or_false]; omega) (by simp only [List.mem_cons, List.not_mem_nil, or_false]; omega)
  have pdnF_0 := dnF.fr hst ppaI_0 pdnF_0 (by simp only [List.mem_cons, List.not_mem_nil, or_false]; omega) (by simp only [List.mem_cons, List.not_mem_nil, or_false]; omega)
  have ppaI_0 := paI.fr hst ppaI_0 (by simp only [List.mem_cons, List.not_mem_nil, or_false]; omega) (by simp only [List.mem_cons, List.not_mem_nil, or_false]; omega) (by simp only [List.mem_cons, List.not_mem_nil, or_false]; omega) (by intro xx hx; simp only [List.mem_cons, List.not_mem_nil, or_false] at hx; omega)
  have hq15 := z_len eG14
  have hq16 := z_sl hq eG14 rfl
  have hfr := hfr.wr hq eG14 (by simp)
  have hq := hq.kept eG14
  change ab_W _ _ _ (List.set G11 q (ab_ob 5 [vR ki, vR ne, vR ot, vz cnt, vz fi, vz la, vR ra, vz ru, vz grp, vz (2 * (grp + 1)), vz sz9, vz fl0, vz ve0, vz mi, vR na, vR nl])) 39 [some (vR q), some (vR p), some (vR d_), some (vz fl0), some (vz ve0), none] [] _
  rw [← eG14]
  refine ab_aload_n d_PR_build_39 rfl ?_
  refine zz_iconst d_PR_build_40 ?_
  refine ab_putf (fs := [vR ki, vR ne, vR ot, vz cnt, vz fi, vz la, vR ra, vz ru, vz grp, vz (2 * (grp + 1)), vz sz9, vz fl0, vz ve0, vz mi, vR na, vR nl]) f_PR_52 (Or.inl rfl) d_PR_build_41 hq.2.2 (Nat.le_of_ble_eq_true rfl) (fun _ => ⟨rfl, rfl⟩) (hq.2.1 (by first | omega | exact (show 18 ≤ _ by omega))) ?_
  obtain ⟨G17, eG17⟩ : ∃ z : ab_G, z = List.set G14 q (ab_ob 5 [vR ki, vR ne, vR ot, vz cnt, vz fi, vz la, vR ra, vz ru, vz grp, vz (2 * (grp + 1)), vz sz9, vz fl0, vz ve0, vz 0, vR na, vR nl]) := ⟨_, rfl⟩
  have hki := hki.keep hq eG17 (by omega)
  have hne := hne.keep hq eG17 (by omega)
  have hot := hot.keep hq eG17 (by omega)
  have hra := hra.keep hq eG17 (by omega)
  have hna := hna.keep hq eG17 (by omega)
  have hnl := hnl.keep hq eG17 (by omega)
  have hd_ := hd_.keep hq eG17 (by omega)
  have hx := hx.keep hq eG17 (by omega)
  have hby_ := hby_.keep hq eG17 (by omega)
  have hrna := hrna.keep hq eG17 (by omega)
  have hrnl := hrnl.keep hq eG17 (by omega)
  have hp := hp.keep hq eG17 (by omega)
  have hst := (fx.rf (o := o) (S := [lq]) (G := G14)).wr hq eG17 (List.mem_singleton.mpr rfl)
  have pszF_0 := szF.fr hst ppaI_0 pszF_0 (by simp only [List.mem_cons, List.not_mem_nil, or_false]; omega) (by simp only [List.mem_cons, List.not_mem_nil, or_false]; omega)
  have pdnF_0 := dnF.fr hst ppaI_0 pdnF_0 (by simp only [List.mem_cons, List.not_mem_nil, or_false]; omega) (by simp only [List.mem_cons, List.not_mem_nil, or_false]; omega)
  have ppaI_0 := paI.fr hst ppaI_0 (by simp only [List.mem_cons, List.not_mem_nil, or_false]; omega) (by simp only [List.mem_cons, List.not_mem_nil, or_false]; omega) (by simp only [List.mem_cons, List.not_mem_nil, or_false]; omega) (by intro xx hx; simp only [List.mem_cons, List.not_mem_nil, or_false] at hx; omega)
  have hq18 := z_len eG17
  have hq19 := z_sl hq eG17 rfl
  have hfr := hfr.wr hq eG17 (by simp)
  have hq := hq.kept eG17
  change ab_W _ _ _ (List.set G14 q (ab_ob 5 [vR ki, vR ne, vR ot, vz cnt, vz fi, vz la, vR ra, vz ru, vz grp, vz (2 * (grp + 1)), vz sz9, vz fl0, vz ve0, vz 0, vR na, vR nl])) 44 [some (vR q), some (vR p), some (vR d_), some (vz fl0), some (vz ve0), none] [] _
  rw [← eG17]
  refine zz_iconst d_PR_build_44 ?_
  refine ab_istore d_PR_build_45 (Nat.le_of_ble_eq_true rfl) (Nat.le_of_ble_eq_true rfl) rfl ?_
  change ab_W _ _ _ G17 47 [some (vR q), some (vR p), some (vR d_), some (vz fl0), some (vz ve0), some (vz 1)] [] _
  refine ab_less (L' := [some (vR q), some (vR p), some (vR d_), none, none, some (vz 1)]) (fun i v h => by rcases i with _ | _ | _ | _ | _ | _ | i <;> first | exact h | (simp at h)) ?_
  refine y_PR_build_47 (q := q) (lq := lq) (ki := ki) (ne := ne) (ot := ot) (cnt := cnt) (fi := fi) (la := la) (ra := ra) (ru := ru) (wi := (2 * (grp + 1))) (sz := sz9) (fl := fl0) (ve := ve0) (mi := 0) (na := na) (nl := nl) (d_ := d_) (inn := inn) (dp := dp) (flg := flg) (grp := grp) (lst := lst) (mst := mst) (bh := bh) (rna := rna) (rnl := rnl) (RNA := RNA) (RNL := RNL) (x := x) (se := se) (by_ := by_) (m := m) (f := f) (n := n) (pl := pl) (fa := fa) (fp := fp) (kd := kd) (kn := kn) (p := p) (G0 := G17) (k_ := 1) (NA := NA) (NL := NL) (by omega) (by omega) hnm (by omega) (by omega) (Int.toNat (grp + 1 - 1) + 1) hq hna hnl hd_ hx hby_ hrna hrnl (by omega) rgn bnm_0 fx.rf rfl rfl (by omega) (fun G20 NA21 NL22 hNq hNna hNnl hNd_ hNx hNby_ hNrna hNrnl hq23 hq24 hfk hlk hsk => ?_)
  · have hki := hfk.get hki (by simp only [List.mem_cons, List.not_mem_nil, or_false]; omega)
    have hne := hfk.get hne (by simp only [List.mem_cons, List.not_mem_nil, or_false]; omega)
    have hot := hfk.get hot (by simp only [List.mem_cons, List.not_mem_nil, or_false]; omega)
    have hra := hfk.get hra (by simp only [List.mem_cons, List.not_mem_nil, or_false]; omega)
    have hp := hfk.get hp (by simp only [List.mem_cons, List.not_mem_nil, or_false]; omega)
    have pszF_0 := szF.fr hfk ppaI_0 pszF_0 (by simp only [List.mem_cons, List.not_mem_nil, or_false]; omega) (by simp only [List.mem_cons, List.not_mem_nil, or_false]; omega)
    have pdnF_0 := dnF.fr hfk ppaI_0 pdnF_0 (by simp only [List.mem_cons, List.not_mem_nil, or_false]; omega) (by simp only [List.mem_cons, List.not_mem_nil, or_false]; omega)
    have ppaI_0 := paI.fr hfk ppaI_0 (by simp only [List.mem_cons, List.not_mem_nil, or_false]; omega) (by simp only [List.mem_cons, List.not_mem_nil, or_false]; omega) (by simp only [List.mem_cons, List.not_mem_nil, or_false]; omega) (by intro xx hx; simp only [List.mem_cons, List.not_mem_nil, or_false] at hx; omega)
    have hfr := hfr.tr hfk (by simp)
    have hq25 := hfk.1
    have hq26 := hlk
    have hq27 := hsk
    have hq := hNq
    have hna := hNna
    have hnl := hNnl
    have hd_ := hNd_
    have hx := hNx
    have hby_ := hNby_
    have hrna := hNrna
    have hrnl := hNrnl
    change ab_W _ _ _ G20 109 [some (vR q), some (vR p), some (vR d_), none, none, none] [] _
    refine ab_aload_n d_PR_build_109 rfl ?_
    refine zz_iconst d_PR_build_110 ?_
    refine ab_putf (fs := [vR ki, vR ne, vR ot, vz cnt, vz fi, vz la, vR ra, vz ru, vz grp, vz (2 * (grp + 1)), vz sz9, vz fl0, vz ve0, vz 0, vR na, vR nl]) f_PR_74 (Or.inl rfl) d_PR_build_111 hq.2.2 (Nat.le_of_ble_eq_true rfl) (fun _ => ⟨rfl, rfl⟩) (hq.2.1 (by first | omega | exact (show 18 ≤ _ by omega))) ?_
    obtain ⟨G28, eG28⟩ : ∃ z : ab_G, z = List.set G20 q (ab_ob 5 [vR ki, vR ne, vR ot, vz 0, vz fi, vz la, vR ra, vz ru, vz grp, vz (2 * (grp + 1)), vz sz9, vz fl0, vz ve0, vz 0, vR na, vR nl]) := ⟨_, rfl⟩
    have hki := hki.keep hq eG28 (by omega)
    have hne := hne.keep hq eG28 (by omega)
    have hot := hot.keep hq eG28 (by omega)
    have hra := hra.keep hq eG28 (by omega)
    have hna := hna.keep hq eG28 (by omega)
    have hnl := hnl.keep hq eG28 (by omega)
    have hd_ := hd_.keep hq eG28 (by omega)
    have hx := hx.keep hq eG28 (by omega)
    have hby_ := hby_.keep hq eG28 (by omega)
    have hrna := hrna.keep hq eG28 (by omega)
    have hrnl := hrnl.keep hq eG28 (by omega)
    have hp := hp.keep hq eG28 (by omega)
    have hst := (fx.rf (o := o) (S := [lq]) (G := G20)).wr hq eG28 (List.mem_singleton.mpr rfl)
    have pszF_0 := szF.fr hst ppaI_0 pszF_0 (by simp only [List.mem_cons, List.not_mem_nil, or_false]; omega) (by simp only [List.mem_cons, List.not_mem_nil, or_false]; omega)
    have pdnF_0 := dnF.fr hst ppaI_0 pdnF_0 (by simp only [List.mem_cons, List.not_mem_nil, or_false]; omega) (by simp only [List.mem_cons, List.not_mem_nil, or_false]; omega)
    have ppaI_0 := paI.fr hst ppaI_0 (by simp only [List.mem_cons, List.not_mem_nil, or_false]; omega) (by simp only [List.mem_cons, List.not_mem_nil, or_false]; omega) (by simp only [List.mem_cons, List.not_mem_nil, or_false]; omega) (by intro xx hx; simp only [List.mem_cons, List.not_mem_nil, or_false] at hx; omega)
    have hq29 := z_len eG28
    have hq30 := z_sl hq eG28 rfl
    have hfr := hfr.wr hq eG28 (by simp)
    have hq := hq.kept eG28
    change ab_W _ _ _ (List.set G20 q (ab_ob 5 [vR ki, vR ne, vR ot, vz 0, vz fi, vz la, vR ra, vz ru, vz grp, vz (2 * (grp + 1)), vz sz9, vz fl0, vz ve0, vz 0, vR na, vR nl])) 114 [some (vR q), some (vR p), some (vR d_), none, none, none] [] _
    rw [← eG28]
    refine ab_aload_n d_PR_build_114 rfl ?_
    refine zz_iconst d_PR_build_115 ?_
    refine ab_putf (fs := [vR ki, vR ne, vR ot, vz 0, vz fi, vz la, vR ra, vz ru, vz grp, vz (2 * (grp + 1)), vz sz9, vz fl0, vz ve0, vz 0, vR na, vR nl]) f_PR_77 (Or.inl rfl) d_PR_build_116 hq.2.2 (Nat.le_of_ble_eq_true rfl) (fun _ => ⟨rfl, rfl⟩) (hq.2.1 (by first | omega | exact (show 18 ≤ _ by omega))) ?_
    obtain ⟨G31, eG31⟩ : ∃ z : ab_G, z = List.set G28 q (ab_ob 5 [vR ki, vR ne, vR ot, vz 0, vz fi, vz la, vR ra, vz 0, vz grp, vz (2 * (grp + 1)), vz sz9, vz fl0, vz ve0, vz 0, vR na, vR nl]) := ⟨_, rfl⟩
    have hki := hki.keep hq eG31 (by omega)
    have hne := hne.keep hq eG31 (by omega)
    have hot := hot.keep hq eG31 (by omega)
    have hra := hra.keep hq eG31 (by omega)
    have hna := hna.keep hq eG31 (by omega)
    have hnl := hnl.keep hq eG31 (by omega)
    have hd_ := hd_.keep hq eG31 (by omega)
    have hx := hx.keep hq eG31 (by omega)
    have hby_ := hby_.keep hq eG31 (by omega)
    have hrna := hrna.keep hq eG31 (by omega)
    have hrnl := hrnl.keep hq eG31 (by omega)
    have hp := hp.keep hq eG31 (by omega)
    have hst := (fx.rf (o := o) (S := [lq]) (G := G28)).wr hq eG31 (List.mem_singleton.mpr rfl)
    have pszF_0 := szF.fr hst ppaI_0 pszF_0 (by simp only [List.mem_cons, List.not_mem_nil, or_false]; omega) (by simp only [List.mem_cons, List.not_mem_nil, or_false]; omega)
    have pdnF_0 := dnF.fr hst ppaI_0 pdnF_0 (by simp only [List.mem_cons, List.not_mem_nil, or_false]; omega) (by simp only [List.mem_cons, List.not_mem_nil, or_false]; omega)
    have ppaI_0 := paI.fr hst ppaI_0 (by simp only [List.mem_cons, List.not_mem_nil, or_false]; omega) (by simp only [List.mem_cons, List.not_mem_nil, or_false]; omega) (by simp only [List.mem_cons, List.not_mem_nil, or_false]; omega) (by intro xx hx; simp only [List.mem_cons, List.not_mem_nil, or_false] at hx; omega)
    have hq32 := z_len eG31
    have hq33 := z_sl hq eG31 rfl
    have hfr := hfr.wr hq eG31 (by simp)
    have hq := hq.kept eG31
    change ab_W _ _ _ (List.set G28 q (ab_ob 5 [vR ki, vR ne, vR ot, vz 0, vz fi, vz la, vR ra, vz 0, vz grp, vz (2 * (grp + 1)), vz sz9, vz fl0, vz ve0, vz 0, vR na, vR nl])) 119 [some (vR q), some (vR p), some (vR d_), none, none, none] [] _
    rw [← eG31]
    refine ab_aload_n d_PR_build_119 rfl ?_
    refine zz_iconst d_PR_build_120 ?_
    refine ab_putf (fs := [vR ki, vR ne, vR ot, vz 0, vz fi, vz la, vR ra, vz 0, vz grp, vz (2 * (grp + 1)), vz sz9, vz fl0, vz ve0, vz 0, vR na, vR nl]) f_PR_80 (Or.inl rfl) d_PR_build_121 hq.2.2 (Nat.le_of_ble_eq_true rfl) (ab_fbz (by decide)) (hq.2.1 (by first | omega | exact (show 18 ≤ _ by omega))) ?_
    obtain ⟨G34, eG34⟩ : ∃ z : ab_G, z = List.set G31 q (ab_ob 5 [vR ki, vR ne, vR ot, vz 0, vz fi, vz 0, vR ra, vz 0, vz grp, vz (2 * (grp + 1)), vz sz9, vz fl0, vz ve0, vz 0, vR na, vR nl]) := ⟨_, rfl⟩
    have hki := hki.keep hq eG34 (by omega)
    have hne := hne.keep hq eG34 (by omega)
    have hot := hot.keep hq eG34 (by omega)
    have hra := hra.keep hq eG34 (by omega)
    have hna := hna.keep hq eG34 (by omega)
    have hnl := hnl.keep hq eG34 (by omega)
    have hd_ := hd_.keep hq eG34 (by omega)
    have hx := hx.keep hq eG34 (by omega)
    have hby_ := hby_.keep hq eG34 (by omega)
    have hrna := hrna.keep hq eG34 (by omega)
    have hrnl := hrnl.keep hq eG34 (by omega)
    have hp := hp.keep hq eG34 (by omega)
    have hst := (fx.rf (o := o) (S := [lq]) (G := G31)).wr hq eG34 (List.mem_singleton.mpr rfl)
    have pszF_0 := szF.fr hst ppaI_0 pszF_0 (by simp only [List.mem_cons, List.not_mem_nil, or_false]; omega) (by simp only [List.mem_cons, List.not_mem_nil, or_false]; omega)
    have pdnF_0 := dnF.fr hst ppaI_0 pdnF_0 (by simp only [List.mem_cons, List.not_mem_nil, or_false]; omega) (by simp only [List.mem_cons, List.not_mem_nil, or_false]; omega)
    have ppaI_0 := paI.fr hst ppaI_0 (by simp only [List.mem_cons, List.not_mem_nil, or_false]; omega) (by simp only [List.mem_cons, List.not_mem_nil, or_false]; omega) (by simp only [List.mem_cons, List.not_mem_nil, or_false]; omega) (by intro xx hx; simp only [List.mem_cons, List.not_mem_nil, or_false] at hx; omega)
    have hq35 := z_len eG34
    have hq36 := z_sl hq eG34 rfl
    have hfr := hfr.wr hq eG34 (by simp)
    have hq := hq.kept eG34
    change ab_W _ _ _ (List.set G31 q (ab_ob 5 [vR ki, vR ne, vR ot, vz 0, vz fi, vz 0, vR ra, vz 0, vz grp, vz (2 * (grp + 1)), vz sz9, vz fl0, vz ve0, vz 0, vR na, vR nl])) 124 [some (vR q), some (vR p), some (vR d_), none, none, none] [] _
    rw [← eG34]
    have hch0 : rch RR 0 := ⟨0, rfl⟩
    have hpr0 : prok K N O RR 0 0 (2 * (grp + 1)) := prok_0
    have hla0_ : laI 0 K 0 := laI_0
    have htk0_ : tkn K 0 = 0 := rfl
    refine ab_aload_n d_PR_build_124 rfl ?_
    refine zz_bipush d_PR_build_125 (by decide) ?_
    refine zz_iconst d_PR_build_127 ?_
    refine zz_iconst d_PR_build_128 ?_
    refine ab_callV (d' := d - 1) (as := [vz 9, vz 0, vz 0]) (st := []) (r := _) (z_PR_add (o := o) (q := q) (lq := lq) (ki := ki) (ne := ne) (ot := ot) (cnt := 0) (fi := fi) (la := 0) (ra := ra) (ru := 0) (gr := grp) (wi := (2 * (grp + 1))) (sz := sz9) (fl := fl0) (ve := ve0) (mi := 0) (na := na) (nl := nl) (K := K) (N := N) (O := O) (k0 := 9) (x0 := 0) (v0 := 0) hq hki hne hot (by omega) (by omega) (by omega)) (fun oc G2 h => by rcases h with ⟨h, _⟩ | ⟨_, h, _⟩ <;> exact ⟨_, h⟩) (by omega) m_PR_add ml_PR_84 im_PR_add se_PR_add c_PR hq.2.2 (Nat.le_of_ble_eq_true rfl) d_PR_build_129 rfl ?_
    intro v G37 hq
    rcases hq with ⟨hv, hGe, hq38⟩ | ⟨la239, hv, hfk, hlk, hsk, hNq, hNki, hNne, hNot, hq40, hq41, hq42⟩
    · cases hv
      rw [hGe]
      change ab_W _ _ _ G34 132 [some (vR q), some (vR p), some (vR d_), none, none, none] [vz 0] _
      exfalso; omega
    · cases hv
      have hra := hfk.get hra (by simp only [List.mem_cons, List.not_mem_nil, or_false]; omega)
      have hna := hfk.get hna (by simp only [List.mem_cons, List.not_mem_nil, or_false]; omega)
      have hnl := hfk.get hnl (by simp only [List.mem_cons, List.not_mem_nil, or_false]; omega)
      have hd_ := hfk.get hd_ (by simp only [List.mem_cons, List.not_mem_nil, or_false]; omega)
      have hx := hfk.get hx (by simp only [List.mem_cons, List.not_mem_nil, or_false]; omega)
      have hby_ := hfk.get hby_ (by simp only [List.mem_cons, List.not_mem_nil, or_false]; omega)
      have hrna := hfk.get hrna (by simp only [List.mem_cons, List.not_mem_nil, or_false]; omega)
      have hrnl := hfk.get hrnl (by simp only [List.mem_cons, List.not_mem_nil, or_false]; omega)
      have hp := hfk.get hp (by simp only [List.mem_cons, List.not_mem_nil, or_false]; omega)
      have pszF_0 := szF.fr hfk ppaI_0 pszF_0 (by simp only [List.mem_cons, List.not_mem_nil, or_false]; omega) (by simp only [List.mem_cons, List.not_mem_nil, or_false]; omega)
      have pdnF_0 := dnF.fr hfk ppaI_0 pdnF_0 (by simp only [List.mem_cons, List.not_mem_nil, or_false]; omega) (by simp only [List.mem_cons, List.not_mem_nil, or_false]; omega)
      have ppaI_0 := paI.fr hfk ppaI_0 (by simp only [List.mem_cons, List.not_mem_nil, or_false]; omega) (by simp only [List.mem_cons, List.not_mem_nil, or_false]; omega) (by simp only [List.mem_cons, List.not_mem_nil, or_false]; omega) (by intro xx hx; simp only [List.mem_cons, List.not_mem_nil, or_false] at hx; omega)
      have hfr := hfr.tr hfk (by simp)
      have hq43 := hlk
      have hq44 := hsk
      have hq := hNq
      have hki := hNki
      have hne := hNne
      have hot := hNot
      change ab_W _ _ _ G37 132 [some (vR q), some (vR p), some (vR d_), none, none, none] [vz 0] _
      have hp45 := prok_add (k := 9) (x := 0) (v := 0) hpr0 (by omega) (by omega) (by omega) (by omega) (by omega) (fun t => absurd t (by decide)) (fun t => absurd t (by decide)) (fun t => absurd t (by decide)) (fun t => absurd t (by decide)) (fun t => absurd t (by decide))
      obtain ⟨K45, eK45⟩ : ∃ z : Int → Int, z = zu K 0 9 := ⟨_, rfl⟩
      have hki : cc o G37 ki (lq + 1) (za 808 K45) := by rw [← eK45.symm]; exact hki
      obtain ⟨N45, eN45⟩ : ∃ z : Int → Int, z = zu N 0 0 := ⟨_, rfl⟩
      have hne : cc o G37 ne (lq + 2) (za 808 N45) := by rw [← eN45.symm]; exact hne
      obtain ⟨O45, eO45⟩ : ∃ z : Int → Int, z = zu O 0 0 := ⟨_, rfl⟩
      have hot : cc o G37 ot (lq + 3) (za 808 O45) := by rw [← eO45.symm]; exact hot
      rw [← eK45, ← eN45, ← eO45] at hp45
      have hla45 : laI la239 K45 (0 + 1) := by rw [eK45]; exact laI_s hla0_ hq42 (fun q => by omega)
      have htk45 : tkn K45 (0 + 1) = tkn K 0 := by rw [eK45]; exact tkn_n (by omega) (by omega)
      have hk9 : K45 0 = 9 := by rw [eK45]; exact zu_self _ _ _
      change ab_W _ _ _ G37 132 [some (vR q), some (vR p), some (vR d_), none, none, none] [vz 0] _
      refine ab_pop d_PR_build_132 rfl ?_
      refine ab_aload_n d_PR_build_133 rfl ?_
      refine zz_bipush d_PR_build_134 (by decide) ?_
      refine zz_iconst d_PR_build_136 ?_
      refine zz_iconst d_PR_build_137 ?_
      refine ab_callV (d' := d - 1) (as := [vz 8, vz 0, vz 0]) (st := []) (r := _) (z_PR_add (o := o) (q := q) (lq := lq) (ki := ki) (ne := ne) (ot := ot) (cnt := (0 + 1)) (fi := fi) (la := la239) (ra := ra) (ru := 0) (gr := grp) (wi := (2 * (grp + 1))) (sz := sz9) (fl := fl0) (ve := ve0) (mi := 0) (na := na) (nl := nl) (K := K45) (N := N45) (O := O45) (k0 := 8) (x0 := 0) (v0 := 0) hq hki hne hot (by omega) (by omega) (by omega)) (fun oc G2 h => by rcases h with ⟨h, _⟩ | ⟨_, h, _⟩ <;> exact ⟨_, h⟩) (by omega) m_PR_add ml_PR_84 im_PR_add se_PR_add c_PR hq.2.2 (Nat.le_of_ble_eq_true rfl) d_PR_build_138 rfl ?_
      intro v G46 hq
      rcases hq with ⟨hv, hGe, hq47⟩ | ⟨la248, hv, hfk, hlk, hsk, hNq, hNki, hNne, hNot, hq49, hq50, hq51⟩
      · cases hv
        rw [hGe]
        change ab_W _ _ _ G37 141 [some (vR q), some (vR p), some (vR d_), none, none, none] [vz 0] _
        exfalso; omega
      · cases hv
        have hra := hfk.get hra (by simp only [List.mem_cons, List.not_mem_nil, or_false]; omega)
        have hna := hfk.get hna (by simp only [List.mem_cons, List.not_mem_nil, or_false]; omega)
        have hnl := hfk.get hnl (by simp only [List.mem_cons, List.not_mem_nil, or_false]; omega)
        have hd_ := hfk.get hd_ (by simp only [List.mem_cons, List.not_mem_nil, or_false]; omega)
        have hx := hfk.get hx (by simp only [List.mem_cons, List.not_mem_nil, or_false]; omega)
        have hby_ := hfk.get hby_ (by simp only [List.mem_cons, List.not_mem_nil, or_false]; omega)
        have hrna := hfk.get hrna (by simp only [List.mem_cons, List.not_mem_nil, or_false]; omega)
        have hrnl := hfk.get hrnl (by simp only [List.mem_cons, List.not_mem_nil, or_false]; omega)
        have hp := hfk.get hp (by simp only [List.mem_cons, List.not_mem_nil, or_false]; omega)
        have pszF_0 := szF.fr hfk ppaI_0 pszF_0 (by simp only [List.mem_cons, List.not_mem_nil, or_false]; omega) (by simp only [List.mem_cons, List.not_mem_nil, or_false]; omega)
        have pdnF_0 := dnF.fr hfk ppaI_0 pdnF_0 (by simp only [List.mem_cons, List.not_mem_nil, or_false]; omega) (by simp only [List.mem_cons, List.not_mem_nil, or_false]; omega)
        have ppaI_0 := paI.fr hfk ppaI_0 (by simp only [List.mem_cons, List.not_mem_nil, or_false]; omega) (by simp only [List.mem_cons, List.not_mem_nil, or_false]; omega) (by simp only [List.mem_cons, List.not_mem_nil, or_false]; omega) (by intro xx hx; simp only [List.mem_cons, List.not_mem_nil, or_false] at hx; omega)
        have hfr := hfr.tr hfk (by simp)
        have hq52 := hlk
        have hq53 := hsk
        have hq := hNq
        have hki := hNki
        have hne := hNne
        have hot := hNot
        change ab_W _ _ _ G46 141 [some (vR q), some (vR p), some (vR d_), none, none, none] [vz (0 + 1)] _
        have hp54 := prok_add (k := 8) (x := 0) (v := 0) hp45 (by omega) (by omega) (by omega) (by omega) (by omega) (fun t => absurd t (by decide)) (fun t => absurd t (by decide)) (fun t => absurd t (by decide)) (fun t => absurd t (by decide)) (fun t => absurd t (by decide))
        obtain ⟨K54, eK54⟩ : ∃ z : Int → Int, z = zu K45 (0 + 1) 8 := ⟨_, rfl⟩
        have hki : cc o G46 ki (lq + 1) (za 808 K54) := by rw [← eK54.symm]; exact hki
        obtain ⟨N54, eN54⟩ : ∃ z : Int → Int, z = zu N45 (0 + 1) 0 := ⟨_, rfl⟩
        have hne : cc o G46 ne (lq + 2) (za 808 N54) := by rw [← eN54.symm]; exact hne
        obtain ⟨O54, eO54⟩ : ∃ z : Int → Int, z = zu O45 (0 + 1) 0 := ⟨_, rfl⟩
        have hot : cc o G46 ot (lq + 3) (za 808 O54) := by rw [← eO54.symm]; exact hot
        rw [← eK54, ← eN54, ← eO54] at hp54
        have hla54 : laI la248 K54 ((0 + 1) + 1) := by rw [eK54]; exact laI_s hla45 hq51 (fun q => by omega)
        have htk54 : tkn K54 ((0 + 1) + 1) = tkn K45 (0 + 1) := by rw [eK54]; exact tkn_n (by omega) (by omega)
        have hk9 : K54 0 = 9 := by rw [eK54, zu_ne (by omega)]; exact hk9
        have hk8 : K54 1 = 8 := by rw [eK54]; exact zu_self _ _ _
        change ab_W _ _ _ G46 141 [some (vR q), some (vR p), some (vR d_), none, none, none] [vz (0 + 1)] _
        have pszB_0 := szB.of pszF_0.1 ppaI_0
        have hbq_ := pszF_0.bqr hp (by omega) (by omega) (by omega)
        obtain ⟨on, re, rg, hrp_, pdnB_0⟩ : ∃ on re rg : Nat → Sn, rg p = v9 ∧ dnB o G46 0 ps wt cs on re rg RR 0 := ⟨_, _, _, pdnF_0.2.2, dnB.mk pdnF_0 ppaI_0⟩
        have hht_ : hgt (rg p) ≤ 30 := by rw [hrp_]; unfold hgt; omega
        have ppaI_0 := ppaI_0.pr (Pr2 := prc RR 0) (fun r h => Or.inl h)
        refine ab_istore d_PR_build_141 (Nat.le_of_ble_eq_true rfl) (Nat.le_of_ble_eq_true rfl) rfl ?_
        change ab_W _ _ _ G46 143 [some (vR q), some (vR p), some (vR d_), none, none, some (vz (0 + 1))] [] _
        refine ab_aload_n d_PR_build_143 rfl ?_
        refine ab_aload_n d_PR_build_144 rfl ?_
        refine ab_aload_n d_PR_build_145 rfl ?_
        refine ab_iload d_PR_build_146 rfl ?_
        refine ab_iload d_PR_build_148 rfl ?_
        refine ab_callS (d' := d - 1) (as := [vz (0 + 1), vz (0 + 1)]) (st := [vR p, vR q, vR q]) (z_PR_pair (o := o) (f0 := (0 + 1)) (u0 := (0 + 1)) (by omega)) (fun oc G2 h => by rcases h with ⟨h, _⟩ <;> exact ⟨_, h⟩) (by omega) m_PR_pair ml_PR_88 st_PR_pair (Nat.le_of_ble_eq_true rfl) d_PR_build_150 rfl ?_
        intro v G55 hq
        rcases hq with ⟨hv, hGe⟩
        cases hv
        rw [hGe]
        change ab_W _ _ _ G46 153 [some (vR q), some (vR p), some (vR d_), none, none, some (vz (0 + 1))] [vj ((0 + 1) * 4294967296 + (0 + 1)), vR p, vR q, vR q] _
        refine zz_iconst d_PR_build_153 ?_
        refine ab_callV (d' := d - 1) (as := [vR p, vj ((0 + 1) * 4294967296 + (0 + 1)), vz 0]) (st := [vR q]) (r := _) (c_PR_rows (o := o) (q := q) (lq := lq) (ki := ki) (ne := ne) (ot := ot) (cnt := ((0 + 1) + 1)) (fi := fi) (la := la248) (ra := ra) (ru := 0) (gr := grp) (wi := (2 * (grp + 1))) (sz := sz9) (fl := fl0) (ve := ve0) (mi := 0) (na := na) (nl := nl) (K := K54) (N := N54) (O := O54) (RR := RR) (nr := nr) (ps := ps) (wt := wt) (bs := bs) (ph := ph) (gq := grp) (p := p) (w := ((0 + 1) * 4294967296 + (0 + 1))) (dd := 0) (cu := cu) (cs := cs) (on := on) (re := re) (rg := rg) (bq := sz9) hq hki hne hot hra ppaI_0 pszB_0 pdnB_0 (by omega) (by omega) hp54 hch0 hr hk9 (by omega) hla54 (by omega) hpp (by omega) (by omega) (by omega) hbq_ (by omega) (by omega) (by omega) (by omega)) (fun oc G2 h => by rcases h with ⟨_, _, _, _, _, _, _, _, _, _, _, _, h, _⟩ <;> exact ⟨_, h⟩) (by omega) m_PR_rows ml_PR_92 im_PR_rows se_PR_rows c_PR hq.2.2 (Nat.le_of_ble_eq_true rfl) d_PR_build_154 rfl ?_
        intro v G56 hq
        rcases hq with ⟨o57, w258, cnt259, la260, ra261, nr262, ru263, K264, N265, O266, RR267, ph268, hv, hfk, hNq, hNki, hNne, hNot, hNra261, pNpaI_0, pNszB_0, pNdnB_0, hq69, hq70, hq71, hq72, hq73, hq74, hq75, hq76, hq77, hq78, hq79, hq80, hq81, hq82, hq83, hq84, hq85⟩
        cases hv
        have hna := hfk.get hna (by simp only [List.mem_cons, List.not_mem_nil, or_false]; omega)
        have hnl := hfk.get hnl (by simp only [List.mem_cons, List.not_mem_nil, or_false]; omega)
        have hd_ := hfk.get hd_ (by simp only [List.mem_cons, List.not_mem_nil, or_false]; omega)
        have hx := hfk.get hx (by simp only [List.mem_cons, List.not_mem_nil, or_false]; omega)
        have hby_ := hfk.get hby_ (by simp only [List.mem_cons, List.not_mem_nil, or_false]; omega)
        have hrna := hfk.get hrna (by simp only [List.mem_cons, List.not_mem_nil, or_false]; omega)
        have hrnl := hfk.get hrnl (by simp only [List.mem_cons, List.not_mem_nil, or_false]; omega)
        have ppaI_0 := pNpaI_0
        have pszB_0 := pNszB_0
        have pdnB_0 := pNdnB_0
        have hfr := hfr.tr hfk (by simp)
        have hq86 := hfk.1
        have hq := hNq
        have hki := hNki
        have hne := hNne
        have hot := hNot
        have hra261 := hNra261
        change ab_W _ _ _ G56 157 [some (vR q), some (vR p), some (vR d_), none, none, some (vz (0 + 1))] [vj w258, vR q] _
        refine ab_callS (d' := d - 1) (as := [vj w258]) (st := [vR q]) (z_PR_fresh (o := o57) (w := w258) (by omega)) (fun oc G2 h => by rcases h with ⟨h, _⟩ <;> exact ⟨_, h⟩) (by omega) m_PR_fresh ml_PR_96 st_PR_fresh (Nat.le_of_ble_eq_true rfl) d_PR_build_157 rfl ?_
        intro v G87 hq
        rcases hq with ⟨hv, hGe⟩
        cases hv
        rw [hGe]
        change ab_W _ _ _ G56 160 [some (vR q), some (vR p), some (vR d_), none, none, some (vz (0 + 1))] [vz (w258 / 4294967296), vR q] _
        refine ab_putf (fs := [vR ki, vR ne, vR ot, vz cnt259, vz fi, vz la260, vR ra261, vz ru263, vz grp, vz (2 * (grp + 1)), vz sz9, vz fl0, vz ve0, vz 0, vR na, vR nl]) f_PR_100 (Or.inl rfl) d_PR_build_160 hq.2.2 (Nat.le_of_ble_eq_true rfl) (fun _ => ⟨rfl, rfl⟩) (hq.2.1 (by first | omega | exact (show 18 ≤ _ by omega))) ?_
        obtain ⟨G88, eG88⟩ : ∃ z : ab_G, z = List.set G56 q (ab_ob 5 [vR ki, vR ne, vR ot, vz cnt259, vz (w258 / 4294967296), vz la260, vR ra261, vz ru263, vz grp, vz (2 * (grp + 1)), vz sz9, vz fl0, vz ve0, vz 0, vR na, vR nl]) := ⟨_, rfl⟩
        have hki := hki.keep hq eG88 (by omega)
        have hne := hne.keep hq eG88 (by omega)
        have hot := hot.keep hq eG88 (by omega)
        have hna := hna.keep hq eG88 (by omega)
        have hnl := hnl.keep hq eG88 (by omega)
        have hd_ := hd_.keep hq eG88 (by omega)
        have hx := hx.keep hq eG88 (by omega)
        have hby_ := hby_.keep hq eG88 (by omega)
        have hrna := hrna.keep hq eG88 (by omega)
        have hrnl := hrnl.keep hq eG88 (by omega)
        have hra261 := hra261.keep hq eG88 (by omega)
        have hst := (fx.rf (o := o57) (S := [lq]) (G := G56)).wr hq eG88 (List.mem_singleton.mpr rfl)
        have pszB_0 := szB.fr hst pszB_0 (by simp only [List.mem_cons, List.not_mem_nil, or_false]; omega) (by simp only [List.mem_cons, List.not_mem_nil, or_false]; omega)
        have pdnB_0 := dnB.fr hst ppaI_0 pdnB_0 (by simp only [List.mem_cons, List.not_mem_nil, or_false]; omega) (by simp only [List.mem_cons, List.not_mem_nil, or_false]; omega)
        have ppaI_0 := paI.fr hst ppaI_0 (by simp only [List.mem_cons, List.not_mem_nil, or_false]; omega) (by simp only [List.mem_cons, List.not_mem_nil, or_false]; omega) (by simp only [List.mem_cons, List.not_mem_nil, or_false]; omega) (by intro xx hx; simp only [List.mem_cons, List.not_mem_nil, or_false] at hx; omega)
        have hq89 := z_len eG88
        have hq90 := z_sl hq eG88 rfl
        have hfr := hfr.wr hq eG88 (by simp)
        have hq := hq.kept eG88
        change ab_W _ _ _ (List.set G56 q (ab_ob 5 [vR ki, vR ne, vR ot, vz cnt259, vz (w258 / 4294967296), vz la260, vR ra261, vz ru263, vz grp, vz (2 * (grp + 1)), vz sz9, vz fl0, vz ve0, vz 0, vR na, vR nl])) 163 [some (vR q), some (vR p), some (vR d_), none, none, some (vz (0 + 1))] [] _
        rw [← eG88]
        refine ab_vret rfl d_PR_build_163 ?_
        rw [hQ]; exact ⟨_, _, _, _, _, _, _, _, _, _, _, _, _, rfl, hfr, hq, hki, hne, hot, hra261, hna, hnl, (by omega), (by omega), (by exact (prM.mk (hq85.e hrp_) ((hq76 0 (by omega) (by omega)).trans hk9) ((hq76 1 (by omega) (by omega)).trans hk8) (by omega))), (by exact hq80), (by omega), (by exact prok_n hq73 (by omega)), (by exact ⟨hq73, by omega⟩), (by exact (hq76 0 (by omega) (by omega)).trans hk9), (by exact hq74), (by exact ⟨hq75, by omega⟩), (by exact hq23), (by exact hq24), (by omega), (by omega)⟩
