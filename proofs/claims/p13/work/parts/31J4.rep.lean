set_option maxRecDepth 100000 in
set_option maxHeartbeats 4000000 in
theorem y_PR_repeated_41 {X : ab_X} {d : Nat} {Q : Outcome → ab_G → Prop} {o0 : Nat → Nat} {G0 : ab_G} {q : Nat} {lq : Nat} {ki : Nat} {ne : Nat} {ot : Nat} {fi : Int} {gr : Int} {wi : Int} {sz : Int} {fl : Int} {ve : Int} {mi : Int} {na : Nat} {nl : Nat} {ps : Nat → Nat} {wt : Nat → Nat} {bs : Nat} {gq : Int} {p : Nat} {w : Int} {dd : Int} {kp : Int} {vp : Int} {rgp : Value} {plp : Int} {flp : Int} {oup : Value} {lsp : Value} {bfp : Value} {szp : Int} {mbp : Int} {oep : Int} {lep : Int} {mop : Int} {lap : Int} {K9 : Int → Int} {c9 : Int} {s9 : Int} {n9 : Nat} (n18 : ab_n0 = 18) (cg_ : 0 ≤ gq ∧ gq ≤ 9 ∧ wi = 2 * (gq + 1)) (hpp : ps p = 90) (cdd : 0 ≤ dd ∧ dd ≤ 30) (hdd : 6 * (31 - dd) + 8 ≤ (↑d : Int)) (cbp : 0 ≤ lep ∧ lep ≤ 1000 ∧ 0 ≤ mop ∧ mop ≤ 1000 ∧ 0 ≤ lap ∧ lap ≤ 1) (rc : 32 * G0.length + 103300 ≤ 32 * (ab_n0 + room_1.cells) + n9) (rs : ab_slots G0 + 200000 ≤ room_1.slots + 2 * n9) (ihR : ∀ {d : Nat} {o : Nat → Nat} {G : ab_G} {q : Nat} {lq : Nat} {ki : Nat} {ne : Nat} {ot : Nat} {cnt : Int} {fi : Int} {la : Int} {ra : Nat} {ru : Int} {gr : Int} {wi : Int} {sz : Int} {fl : Int} {ve : Int} {mi : Int} {na : Nat} {nl : Nat} {K : Int → Int} {N : Int → Int} {O : Int → Int} {RR : Int → Int} {nr : Nat} {ps : Nat → Nat} {wt : Nat → Nat} {bs : Nat} {ph : Int} {gq : Int} {p : Nat} {w : Int}, (cc o G q lq (ab_ob 5 [vR ki, vR ne, vR ot, vz cnt, vz fi, vz la, vR ra, vz ru, vz gr, vz wi, vz sz, vz fl, vz ve, vz mi, vR na, vR nl])) → (cc o G ki (lq + 1) (za 808 K)) → (cc o G ne (lq + 2) (za 808 N)) → (cc o G ot (lq + 3) (za 808 O)) → (cc o G ra (lq + 4) (za nr RR)) → (paI o G 0 ps wt bs gq (prc RR ru) ph) → (ab_n0 = 18) → (100 ≤ lq ∧ 2 ≤ cnt ∧ cnt ≤ 808 ∧ 0 ≤ la ∧ la ≤ 1 ∧ 0 ≤ ru ∧ ru ≤ ↑nr ∧ ↑nr ≤ (100000 : Int) ∧ 32 ≤ nr ∧ 0 ≤ ph ∧ ru + ph ≤ 50000) → (prok K N O RR cnt ru wi) → (rch RR ru) → (hrr RR ↑nr) → (K 0 = 9) → (0 ≤ gq ∧ gq ≤ 9 ∧ wi = 2 * (gq + 1)) → (ps p = 90) → (0 ≤ w ∧ w / 4294967296 < cnt ∧ w % 4294967296 < cnt) → (0 ≤ (dd + 1) ∧ (dd + 1) ≤ 31) → (6 * (31 - (dd + 1)) + 10 ≤ (↑d : Int)) → (32 * G.length + 103300 ≤ 32 * (ab_n0 + room_1.cells) + nr) → (ab_slots G + 200000 ≤ room_1.slots + 2 * nr) → ab_F X d y_PR_rows (.code y_PR_rows b_PR_rows 8 (some (.long))) [vR q, vR p, vj w, vz (dd + 1)] G (fun oc G2 => ∃ o2 : Nat → Nat, ∃ w2 : Int, ∃ cnt2 : Int, ∃ la2 : Int, ∃ ra2 : Nat, ∃ nr2 : Nat, ∃ ru2 : Int, ∃ K2 : Int → Int, ∃ N2 : Int → Int, ∃ O2 : Int → Int, ∃ RR2 : Int → Int, ∃ ph2 : Int, oc = .returned (some (vj w2)) ∧ fx o o2 [lq, (lq + 1), (lq + 2), (lq + 3), (lq + 4), 90] G G2 ∧ cc o2 G2 q lq (ab_ob 5 [vR ki, vR ne, vR ot, vz cnt2, vz fi, vz la2, vR ra2, vz ru2, vz gr, vz wi, vz sz, vz fl, vz ve, vz mi, vR na, vR nl]) ∧ cc o2 G2 ki (lq + 1) (za 808 K2) ∧ cc o2 G2 ne (lq + 2) (za 808 N2) ∧ cc o2 G2 ot (lq + 3) (za 808 O2) ∧ cc o2 G2 ra2 (lq + 4) (za nr2 RR2) ∧ paI o2 G2 0 ps wt bs gq (prc RR2 ru2) ph2 ∧ (cnt ≤ cnt2 ∧ cnt2 ≤ 808 ∧ 0 ≤ la2 ∧ la2 ≤ 1) ∧ (0 ≤ w2 ∧ w2 / 4294967296 < cnt2 ∧ w2 % 4294967296 < cnt2) ∧ (0 ≤ ru2 ∧ ru2 ≤ ↑nr2 ∧ ↑nr2 ≤ (100000 : Int) ∧ nr ≤ nr2) ∧ (0 ≤ ph2 ∧ ru2 + ph2 ≤ ru + ph) ∧ (prok K2 N2 O2 RR2 cnt2 ru2 wi) ∧ (hrr RR2 ↑nr2) ∧ (rch RR2 ru2) ∧ (kext K K2 cnt) ∧ (fzr ps o o2 G G2) ∧ (32 * G2.length + nr ≤ 32 * G.length + nr2) ∧ (ab_slots G2 + 2 * nr ≤ ab_slots G + 2 * nr2))) : ∀ (mz : Nat) {G : ab_G} {o : Nat → Nat} {cnt : Int} {la : Int} {ra : Nat} {ru : Int} {K : Int → Int} {N : Int → Int} {O : Int → Int} {RR : Int → Int} {nr : Nat} {ph : Int} {rcp : Int} {ev : Int} {i_ : Int}, (cc o G q lq (ab_ob 5 [vR ki, vR ne, vR ot, vz cnt, vz fi, vz la, vR ra, vz ru, vz gr, vz wi, vz sz, vz fl, vz ve, vz mi, vR na, vR nl])) → (cc o G ki (lq + 1) (za 808 K)) → (cc o G ne (lq + 2) (za 808 N)) → (cc o G ot (lq + 3) (za 808 O)) → (cc o G ra (lq + 4) (za nr RR)) → (cc o G p 90 (ab_ob 4 [vz kp, vz vp, rgp, vz plp, vz flp, oup, lsp, bfp, vz szp, vz mbp, vz oep, vz lep, vz mop, vz lap, vz rcp])) → (paI o G 0 ps wt bs gq (prc RR ru) ph) → (100 ≤ lq ∧ 2 ≤ cnt ∧ cnt ≤ 808 ∧ 0 ≤ la ∧ la ≤ 1 ∧ 0 ≤ ru ∧ ru ≤ ↑nr ∧ ↑nr ≤ (100000 : Int) ∧ 32 ≤ nr ∧ 0 ≤ ph ∧ ru + ph ≤ 50000) → (prok K N O RR cnt ru wi) → (rch RR ru) → (hrr RR ↑nr) → (K 0 = 9) → (0 ≤ w ∧ w / 4294967296 < cnt ∧ w % 4294967296 < cnt) → (0 ≤ ev ∧ ev / 4294967296 < cnt ∧ ev % 4294967296 < cnt) → (kext K9 K c9) → (c9 ≤ cnt ∧ ru + ph ≤ s9 ∧ n9 ≤ nr) → (fzr ps o0 o G0 G) → (32 * G.length + n9 ≤ 32 * G0.length + nr) → (ab_slots G + 2 * n9 ≤ ab_slots G0 + 2 * nr) → (0 ≤ i_ ∧ i_ ≤ 1000) → (fx o0 o [lq, (lq + 1), (lq + 2), (lq + 3), (lq + 4), 90] G0 G) → (Int.toNat (1001 - i_) < mz) → (∀ (G2 : ab_G) (o2 : Nat → Nat) (ev2 : Int) (cnt2 : Int) (la2 : Int) (ra2 : Nat) (nr2 : Nat) (ru2 : Int) (K2 : Int → Int) (N2 : Int → Int) (O2 : Int → Int) (RR2 : Int → Int) (ph2 : Int) (rc2 : Int), (cc o2 G2 q lq (ab_ob 5 [vR ki, vR ne, vR ot, vz cnt2, vz fi, vz la2, vR ra2, vz ru2, vz gr, vz wi, vz sz, vz fl, vz ve, vz mi, vR na, vR nl])) → (cc o2 G2 ki (lq + 1) (za 808 K2)) → (cc o2 G2 ne (lq + 2) (za 808 N2)) → (cc o2 G2 ot (lq + 3) (za 808 O2)) → (cc o2 G2 ra2 (lq + 4) (za nr2 RR2)) → (cc o2 G2 p 90 (ab_ob 4 [vz kp, vz vp, rgp, vz plp, vz flp, oup, lsp, bfp, vz szp, vz mbp, vz oep, vz lep, vz mop, vz lap, vz rc2])) → (paI o2 G2 0 ps wt bs gq (prc RR2 ru2) ph2) → (c9 ≤ cnt2 ∧ cnt2 ≤ 808 ∧ 0 ≤ la2 ∧ la2 ≤ 1) → (0 ≤ ev2 ∧ ev2 / 4294967296 < cnt2 ∧ ev2 % 4294967296 < cnt2) → (0 ≤ ru2 ∧ ru2 ≤ ↑nr2 ∧ ↑nr2 ≤ (100000 : Int) ∧ n9 ≤ nr2) → (0 ≤ ph2 ∧ ru2 + ph2 ≤ s9) → (prok K2 N2 O2 RR2 cnt2 ru2 wi) → (hrr RR2 ↑nr2) → (rch RR2 ru2) → (kext K9 K2 c9) → (fzr ps o0 o2 G0 G2) → (32 * G2.length + n9 ≤ 32 * G0.length + nr2) → (ab_slots G2 + 2 * n9 ≤ ab_slots G0 + 2 * nr2) → (fx o0 o2 [lq, (lq + 1), (lq + 2), (lq + 3), (lq + 4), 90] G0 G2) → ab_W X (ab_pl y_PR_repeated b_PR_repeated 10 (some (.long))) d G2 93 [some (vR q), some (vR p), none, none, some (vz dd), some (vj ev2), none, none, none, none] [] Q) → ab_W X (ab_pl y_PR_repeated b_PR_repeated 10 (some (.long))) d G 41 [some (vR q), some (vR p), some (vj w), none, some (vz dd), some (vj ev), none, some (vz i_), none, none] [] Q := by
  intro mz
  induction mz with
  | zero => intro G o cnt la ra ru K N O RR nr ph rcp ev i_ hq hki hne hot hra hp ppaI_0 cq hp_ hch hr ck0 cw cev hkx9 c99 hzr hgl hsl9 ci hfr hm hk0; exact absurd hm (Nat.not_lt_zero _)
  | succ mz ih =>
    intro G o cnt la ra ru K N O RR nr ph rcp ev i_ hq hki hne hot hra hp ppaI_0 cq hp_ hch hr ck0 cw cev hkx9 c99 hzr hgl hsl9 ci hfr hm hk0
    refine ab_iload d_PR_repeated_41 rfl ?_
    refine ab_aload_n d_PR_repeated_43 rfl ?_
    refine ab_getf (fs := [vz kp, vz vp, rgp, vz plp, vz flp, oup, lsp, bfp, vz szp, vz mbp, vz oep, vz lep, vz mop, vz lap, vz rcp]) f_PR_144 d_PR_repeated_44 hp.2.2 rfl ?_
    refine zz_icmp_ge (tgt := 93) d_PR_repeated_47 (by decide) (by omega) (by omega) (fun c1 => ?_) (fun c1 => ?_)
    · refine ab_less (L' := [some (vR q), some (vR p), none, none, some (vz dd), some (vj ev), none, none, none, none]) (fun i v h => by rcases i with _ | _ | _ | _ | _ | _ | _ | _ | _ | _ | i <;> first | exact h | (simp at h)) ?_
      exact hk0 _ _ _ _ _ _ _ _ _ _ _ _ _ _ hq hki hne hot hra hp ppaI_0 (by omega) (by omega) (by omega) (by omega) (by exact hp_) (by exact hr) (by exact hch) (by exact hkx9) (by exact hzr) (by omega) (by omega) hfr
    · refine ab_aload_n d_PR_repeated_50 rfl ?_
      refine ab_aload_n d_PR_repeated_51 rfl ?_
      refine ab_lload d_PR_repeated_52 rfl ?_
      refine ab_iload d_PR_repeated_54 rfl ?_
      refine ab_callV (d' := d - 1) (as := [vR p, vj ev, vz dd]) (st := []) (r := _) (z_PR_once (o := o) (q := q) (lq := lq) (ki := ki) (ne := ne) (ot := ot) (cnt := cnt) (fi := fi) (la := la) (ra := ra) (ru := ru) (gr := gr) (wi := wi) (sz := sz) (fl := fl) (ve := ve) (mi := mi) (na := na) (nl := nl) (K := K) (N := N) (O := O) (RR := RR) (nr := nr) (ps := ps) (wt := wt) (bs := bs) (ph := ph) (gq := gq) (p := p) (w := ev) (dd := dd) hq hki hne hot hra ppaI_0 (by omega) (by omega) hp_ hch hr ck0 (by omega) hpp (by omega) (by omega) (by omega) (by omega) (by omega) ihR) (fun oc G2 h => by rcases h with ⟨_, _, _, _, _, _, _, _, _, _, _, _, h, _⟩ <;> exact ⟨_, h⟩) (by omega) m_PR_once ml_PR_153 im_PR_once se_PR_once c_PR hq.2.2 (Nat.le_of_ble_eq_true rfl) d_PR_repeated_56 rfl ?_
      intro v G2 hq
      rcases hq with ⟨o3, w24, cnt25, la26, ra27, nr28, ru29, K210, N211, O212, RR213, ph214, hv, hfk, hNq, hNki, hNne, hNot, hNra27, pNpaI_0, hq15, hq16, hq17, hq18, hq19, hq20, hq21, hq22, hq23, hq24, hq25⟩
      cases hv
      have hzr := hzr.tr hq23
      obtain ⟨rc26, hKp⟩ := hq23 _ _ _ _ _ _ _ _ _ _ _ _ _ _ _ _ hpp hp
      have hp := hKp
      have ppaI_0 := pNpaI_0
      have hfr := hfr.tr hfk (by simp)
      have hq27 := hfk.1
      have hq := hNq
      have hki := hNki
      have hne := hNne
      have hot := hNot
      have hra27 := hNra27
      change ab_W _ _ _ G2 59 [some (vR q), some (vR p), some (vj w), none, some (vz dd), some (vj ev), none, some (vz i_), none, none] [vj w24] _
      refine ab_lstore d_PR_repeated_59 (Nat.le_of_ble_eq_true rfl) (Nat.le_of_ble_eq_true rfl) rfl ?_
      change ab_W _ _ _ G2 61 [some (vR q), some (vR p), some (vj w), none, some (vz dd), some (vj ev), none, some (vz i_), some (vj w24), none] [] _
      refine ab_aload_n d_PR_repeated_61 rfl ?_
      refine ab_getf (fs := [vz kp, vz vp, rgp, vz plp, vz flp, oup, lsp, bfp, vz szp, vz mbp, vz oep, vz lep, vz mop, vz lap, vz rc26]) f_PR_156 d_PR_repeated_62 hp.2.2 rfl ?_
      refine zz_if_eq (tgt := 78) d_PR_repeated_65 (by decide) (by omega) (fun c28 => ?_) (fun c28 => ?_)
      · refine ab_aload_n d_PR_repeated_78 rfl ?_
        refine ab_lload d_PR_repeated_79 rfl ?_
        refine ab_lload_n d_PR_repeated_81 rfl ?_
        refine ab_callV (d' := d - 1) (as := [vj w24, vj w]) (st := []) (r := _) (z_PR_fork (o := o3) (q := q) (lq := lq) (ki := ki) (ne := ne) (ot := ot) (cnt := cnt25) (fi := fi) (la := la26) (ra := ra27) (ru := ru29) (gr := gr) (wi := wi) (sz := sz) (fl := fl) (ve := ve) (mi := mi) (na := na) (nl := nl) (K := K210) (N := N211) (O := O212) (RR := RR213) (nr := nr28) (w := w24) (u := w) hq hki hne hot hra27 (by omega) (by omega) hq19 (by omega) (by omega) (by omega)) (fun oc G2 h => by rcases h with ⟨_, _, _, _, _, _, h, _⟩ <;> exact ⟨_, h⟩) (by omega) m_PR_fork ml_PR_137 im_PR_fork se_PR_fork c_PR hq.2.2 (Nat.le_of_ble_eq_true rfl) d_PR_repeated_82 rfl ?_
        intro v G29 hq
        rcases hq with ⟨w230, cnt231, la232, K233, N234, O235, hv, hfk, hlk, hsk, hNq, hNki, hNne, hNot, hq36, hq37, hq38, hq39⟩
        cases hv
        have hzr := hzr.tr (fzr.fx hfk (by simp only [List.mem_cons, List.not_mem_nil, or_false]; omega))
        have hp := hfk.get hp (by simp only [List.mem_cons, List.not_mem_nil, or_false]; omega)
        have hra27 := hfk.get hra27 (by simp only [List.mem_cons, List.not_mem_nil, or_false]; omega)
        have ppaI_0 := paI.fr hfk ppaI_0 (by simp only [List.mem_cons, List.not_mem_nil, or_false]; omega) (by simp only [List.mem_cons, List.not_mem_nil, or_false]; omega) (by simp only [List.mem_cons, List.not_mem_nil, or_false]; omega) (by intro xx hx; simp only [List.mem_cons, List.not_mem_nil, or_false] at hx; omega)
        have hfr := hfr.tr hfk (by simp)
        have hq40 := hlk
        have hq41 := hsk
        have hq := hNq
        have hki := hNki
        have hne := hNne
        have hot := hNot
        change ab_W _ _ _ G29 85 [some (vR q), some (vR p), some (vj w), none, some (vz dd), some (vj ev), none, some (vz i_), some (vj w24), none] [vj w230] _
        refine ab_lstore d_PR_repeated_85 (Nat.le_of_ble_eq_true rfl) (Nat.le_of_ble_eq_true rfl) rfl ?_
        change ab_W _ _ _ G29 87 [some (vR q), some (vR p), some (vj w), none, some (vz dd), some (vj w230), none, some (vz i_), some (vj w24), none] [] _
        refine zz_iinc d_PR_repeated_87 rfl (Nat.le_of_ble_eq_true rfl) (Nat.le_of_ble_eq_true rfl) rfl ?_
        change ab_W _ _ _ G29 90 [some (vR q), some (vR p), some (vj w), none, some (vz dd), some (vj w230), none, some (vz (i_ + 1)), some (vj w24), none] [] _
        refine ab_goto (tgt := 41) d_PR_repeated_90 (by decide) ?_
        refine ab_less (L' := [some (vR q), some (vR p), some (vj w), none, some (vz dd), some (vj w230), none, some (vz (i_ + 1)), none, none]) (fun i v h => by rcases i with _ | _ | _ | _ | _ | _ | _ | _ | _ | _ | i <;> first | exact h | (simp at h)) ?_
        exact ih (cnt := cnt231) (la := la232) (ra := ra27) (ru := ru29) (K := K233) (N := N234) (O := O235) (RR := RR213) (nr := nr28) (ph := ph214) (rcp := rc26) (ev := w230) (i_ := (i_ + 1)) hq hki hne hot hra27 hp ppaI_0 (by omega) hq38 hq21 hq20 (((hq22.tr hq39 (by omega)) 0 (by omega) (by omega)).trans ck0) (by omega) (by omega) ((hkx9.tr hq22 (by omega)).tr hq39 (by omega)) (by omega) hzr (by omega) (by omega) (by omega) hfr (by omega) hk0
      · refine ab_aload_n d_PR_repeated_68 rfl ?_
        refine ab_lload_n d_PR_repeated_69 rfl ?_
        refine ab_lload d_PR_repeated_70 rfl ?_
        refine ab_callV (d' := d - 1) (as := [vj w, vj w24]) (st := []) (r := _) (z_PR_fork (o := o3) (q := q) (lq := lq) (ki := ki) (ne := ne) (ot := ot) (cnt := cnt25) (fi := fi) (la := la26) (ra := ra27) (ru := ru29) (gr := gr) (wi := wi) (sz := sz) (fl := fl) (ve := ve) (mi := mi) (na := na) (nl := nl) (K := K210) (N := N211) (O := O212) (RR := RR213) (nr := nr28) (w := w) (u := w24) hq hki hne hot hra27 (by omega) (by omega) hq19 (by omega) (by omega) (by omega)) (fun oc G2 h => by rcases h with ⟨_, _, _, _, _, _, h, _⟩ <;> exact ⟨_, h⟩) (by omega) m_PR_fork ml_PR_137 im_PR_fork se_PR_fork c_PR hq.2.2 (Nat.le_of_ble_eq_true rfl) d_PR_repeated_72 rfl ?_
        intro v G42 hq
        rcases hq with ⟨w243, cnt244, la245, K246, N247, O248, hv, hfk, hlk, hsk, hNq, hNki, hNne, hNot, hq49, hq50, hq51, hq52⟩
        cases hv
        have hzr := hzr.tr (fzr.fx hfk (by simp only [List.mem_cons, List.not_mem_nil, or_false]; omega))
        have hp := hfk.get hp (by simp only [List.mem_cons, List.not_mem_nil, or_false]; omega)
        have hra27 := hfk.get hra27 (by simp only [List.mem_cons, List.not_mem_nil, or_false]; omega)
        have ppaI_0 := paI.fr hfk ppaI_0 (by simp only [List.mem_cons, List.not_mem_nil, or_false]; omega) (by simp only [List.mem_cons, List.not_mem_nil, or_false]; omega) (by simp only [List.mem_cons, List.not_mem_nil, or_false]; omega) (by intro xx hx; simp only [List.mem_cons, List.not_mem_nil, or_false] at hx; omega)
        have hfr := hfr.tr hfk (by simp)
        have hq53 := hlk
        have hq54 := hsk
        have hq := hNq
        have hki := hNki
        have hne := hNne
        have hot := hNot
        change ab_W _ _ _ G42 75 [some (vR q), some (vR p), some (vj w), none, some (vz dd), some (vj ev), none, some (vz i_), some (vj w24), none] [vj w243] _
        refine ab_goto (tgt := 85) d_PR_repeated_75 (by decide) ?_
        refine ab_lstore d_PR_repeated_85 (Nat.le_of_ble_eq_true rfl) (Nat.le_of_ble_eq_true rfl) rfl ?_
        change ab_W _ _ _ G42 87 [some (vR q), some (vR p), some (vj w), none, some (vz dd), some (vj w243), none, some (vz i_), some (vj w24), none] [] _
        refine zz_iinc d_PR_repeated_87 rfl (Nat.le_of_ble_eq_true rfl) (Nat.le_of_ble_eq_true rfl) rfl ?_
        change ab_W _ _ _ G42 90 [some (vR q), some (vR p), some (vj w), none, some (vz dd), some (vj w243), none, some (vz (i_ + 1)), some (vj w24), none] [] _
        refine ab_goto (tgt := 41) d_PR_repeated_90 (by decide) ?_
        refine ab_less (L' := [some (vR q), some (vR p), some (vj w), none, some (vz dd), some (vj w243), none, some (vz (i_ + 1)), none, none]) (fun i v h => by rcases i with _ | _ | _ | _ | _ | _ | _ | _ | _ | _ | i <;> first | exact h | (simp at h)) ?_
        exact ih (cnt := cnt244) (la := la245) (ra := ra27) (ru := ru29) (K := K246) (N := N247) (O := O248) (RR := RR213) (nr := nr28) (ph := ph214) (rcp := rc26) (ev := w243) (i_ := (i_ + 1)) hq hki hne hot hra27 hp ppaI_0 (by omega) hq51 hq21 hq20 (((hq22.tr hq52 (by omega)) 0 (by omega) (by omega)).trans ck0) (by omega) (by omega) ((hkx9.tr hq22 (by omega)).tr hq52 (by omega)) (by omega) hzr (by omega) (by omega) (by omega) hfr (by omega) hk0
set_option maxRecDepth 100000 in
set_option maxHeartbeats 4000000 in
theorem y_PR_repeated_96 {X : ab_X} {d : Nat} {Q : Outcome → ab_G → Prop} {o0 : Nat → Nat} {G0 : ab_G} {q : Nat} {lq : Nat} {ki : Nat} {ne : Nat} {ot : Nat} {fi : Int} {gr : Int} {wi : Int} {sz : Int} {fl : Int} {ve : Int} {mi : Int} {na : Nat} {nl : Nat} {ps : Nat → Nat} {wt : Nat → Nat} {bs : Nat} {gq : Int} {p : Nat} {dd : Int} {kp : Int} {vp : Int} {rgp : Value} {plp : Int} {flp : Int} {oup : Value} {lsp : Value} {bfp : Value} {szp : Int} {mbp : Int} {oep : Int} {lep : Int} {mop : Int} {lap : Int} {K9 : Int → Int} {c9 : Int} {s9 : Int} {n9 : Nat} (n18 : ab_n0 = 18) (cg_ : 0 ≤ gq ∧ gq ≤ 9 ∧ wi = 2 * (gq + 1)) (hpp : ps p = 90) (cdd : 0 ≤ dd ∧ dd ≤ 30) (hdd : 6 * (31 - dd) + 8 ≤ (↑d : Int)) (cbp : 0 ≤ lep ∧ lep ≤ 1000 ∧ 0 ≤ mop ∧ mop ≤ 1000 ∧ 0 ≤ lap ∧ lap ≤ 1) (rc : 32 * G0.length + 103300 ≤ 32 * (ab_n0 + room_1.cells) + n9) (rs : ab_slots G0 + 200000 ≤ room_1.slots + 2 * n9) (ihR : ∀ {d : Nat} {o : Nat → Nat} {G : ab_G} {q : Nat} {lq : Nat} {ki : Nat} {ne : Nat} {ot : Nat} {cnt : Int} {fi : Int} {la : Int} {ra : Nat} {ru : Int} {gr : Int} {wi : Int} {sz : Int} {fl : Int} {ve : Int} {mi : Int} {na : Nat} {nl : Nat} {K : Int → Int} {N : Int → Int} {O : Int → Int} {RR : Int → Int} {nr : Nat} {ps : Nat → Nat} {wt : Nat → Nat} {bs : Nat} {ph : Int} {gq : Int} {p : Nat} {w : Int}, (cc o G q lq (ab_ob 5 [vR ki, vR ne, vR ot, vz cnt, vz fi, vz la, vR ra, vz ru, vz gr, vz wi, vz sz, vz fl, vz ve, vz mi, vR na, vR nl])) → (cc o G ki (lq + 1) (za 808 K)) → (cc o G ne (lq + 2) (za 808 N)) → (cc o G ot (lq + 3) (za 808 O)) → (cc o G ra (lq + 4) (za nr RR)) → (paI o G 0 ps wt bs gq (prc RR ru) ph) → (ab_n0 = 18) → (100 ≤ lq ∧ 2 ≤ cnt ∧ cnt ≤ 808 ∧ 0 ≤ la ∧ la ≤ 1 ∧ 0 ≤ ru ∧ ru ≤ ↑nr ∧ ↑nr ≤ (100000 : Int) ∧ 32 ≤ nr ∧ 0 ≤ ph ∧ ru + ph ≤ 50000) → (prok K N O RR cnt ru wi) → (rch RR ru) → (hrr RR ↑nr) → (K 0 = 9) → (0 ≤ gq ∧ gq ≤ 9 ∧ wi = 2 * (gq + 1)) → (ps p = 90) → (0 ≤ w ∧ w / 4294967296 < cnt ∧ w % 4294967296 < cnt) → (0 ≤ (dd + 1) ∧ (dd + 1) ≤ 31) → (6 * (31 - (dd + 1)) + 10 ≤ (↑d : Int)) → (32 * G.length + 103300 ≤ 32 * (ab_n0 + room_1.cells) + nr) → (ab_slots G + 200000 ≤ room_1.slots + 2 * nr) → ab_F X d y_PR_rows (.code y_PR_rows b_PR_rows 8 (some (.long))) [vR q, vR p, vj w, vz (dd + 1)] G (fun oc G2 => ∃ o2 : Nat → Nat, ∃ w2 : Int, ∃ cnt2 : Int, ∃ la2 : Int, ∃ ra2 : Nat, ∃ nr2 : Nat, ∃ ru2 : Int, ∃ K2 : Int → Int, ∃ N2 : Int → Int, ∃ O2 : Int → Int, ∃ RR2 : Int → Int, ∃ ph2 : Int, oc = .returned (some (vj w2)) ∧ fx o o2 [lq, (lq + 1), (lq + 2), (lq + 3), (lq + 4), 90] G G2 ∧ cc o2 G2 q lq (ab_ob 5 [vR ki, vR ne, vR ot, vz cnt2, vz fi, vz la2, vR ra2, vz ru2, vz gr, vz wi, vz sz, vz fl, vz ve, vz mi, vR na, vR nl]) ∧ cc o2 G2 ki (lq + 1) (za 808 K2) ∧ cc o2 G2 ne (lq + 2) (za 808 N2) ∧ cc o2 G2 ot (lq + 3) (za 808 O2) ∧ cc o2 G2 ra2 (lq + 4) (za nr2 RR2) ∧ paI o2 G2 0 ps wt bs gq (prc RR2 ru2) ph2 ∧ (cnt ≤ cnt2 ∧ cnt2 ≤ 808 ∧ 0 ≤ la2 ∧ la2 ≤ 1) ∧ (0 ≤ w2 ∧ w2 / 4294967296 < cnt2 ∧ w2 % 4294967296 < cnt2) ∧ (0 ≤ ru2 ∧ ru2 ≤ ↑nr2 ∧ ↑nr2 ≤ (100000 : Int) ∧ nr ≤ nr2) ∧ (0 ≤ ph2 ∧ ru2 + ph2 ≤ ru + ph) ∧ (prok K2 N2 O2 RR2 cnt2 ru2 wi) ∧ (hrr RR2 ↑nr2) ∧ (rch RR2 ru2) ∧ (kext K K2 cnt) ∧ (fzr ps o o2 G G2) ∧ (32 * G2.length + nr ≤ 32 * G.length + nr2) ∧ (ab_slots G2 + 2 * nr ≤ ab_slots G + 2 * nr2))) : ∀ (mz : Nat) {G : ab_G} {o : Nat → Nat} {cnt : Int} {la : Int} {ra : Nat} {ru : Int} {K : Int → Int} {N : Int → Int} {O : Int → Int} {RR : Int → Int} {nr : Nat} {ph : Int} {rcp : Int} {ev : Int} {i_ : Int}, (cc o G q lq (ab_ob 5 [vR ki, vR ne, vR ot, vz cnt, vz fi, vz la, vR ra, vz ru, vz gr, vz wi, vz sz, vz fl, vz ve, vz mi, vR na, vR nl])) → (cc o G ki (lq + 1) (za 808 K)) → (cc o G ne (lq + 2) (za 808 N)) → (cc o G ot (lq + 3) (za 808 O)) → (cc o G ra (lq + 4) (za nr RR)) → (cc o G p 90 (ab_ob 4 [vz kp, vz vp, rgp, vz plp, vz flp, oup, lsp, bfp, vz szp, vz mbp, vz oep, vz lep, vz mop, vz lap, vz rcp])) → (paI o G 0 ps wt bs gq (prc RR ru) ph) → (100 ≤ lq ∧ 2 ≤ cnt ∧ cnt ≤ 808 ∧ 0 ≤ la ∧ la ≤ 1 ∧ 0 ≤ ru ∧ ru ≤ ↑nr ∧ ↑nr ≤ (100000 : Int) ∧ 32 ≤ nr ∧ 0 ≤ ph ∧ ru + ph ≤ 50000) → (prok K N O RR cnt ru wi) → (rch RR ru) → (hrr RR ↑nr) → (K 0 = 9) → (0 ≤ ev ∧ ev / 4294967296 < cnt ∧ ev % 4294967296 < cnt) → (kext K9 K c9) → (c9 ≤ cnt ∧ ru + ph ≤ s9 ∧ n9 ≤ nr) → (fzr ps o0 o G0 G) → (32 * G.length + n9 ≤ 32 * G0.length + nr) → (ab_slots G + 2 * n9 ≤ ab_slots G0 + 2 * nr) → (0 ≤ i_ ∧ i_ ≤ 1000) → (fx o0 o [lq, (lq + 1), (lq + 2), (lq + 3), (lq + 4), 90] G0 G) → (Int.toNat (1001 - i_) < mz) → (∀ (G2 : ab_G) (o2 : Nat → Nat) (w2 : Int) (cnt2 : Int) (la2 : Int) (ra2 : Nat) (nr2 : Nat) (ru2 : Int) (K2 : Int → Int) (N2 : Int → Int) (O2 : Int → Int) (RR2 : Int → Int) (ph2 : Int), (cc o2 G2 q lq (ab_ob 5 [vR ki, vR ne, vR ot, vz cnt2, vz fi, vz la2, vR ra2, vz ru2, vz gr, vz wi, vz sz, vz fl, vz ve, vz mi, vR na, vR nl])) → (cc o2 G2 ki (lq + 1) (za 808 K2)) → (cc o2 G2 ne (lq + 2) (za 808 N2)) → (cc o2 G2 ot (lq + 3) (za 808 O2)) → (cc o2 G2 ra2 (lq + 4) (za nr2 RR2)) → (paI o2 G2 0 ps wt bs gq (prc RR2 ru2) ph2) → (c9 ≤ cnt2 ∧ cnt2 ≤ 808 ∧ 0 ≤ la2 ∧ la2 ≤ 1) → (0 ≤ w2 ∧ w2 / 4294967296 < cnt2 ∧ w2 % 4294967296 < cnt2) → (0 ≤ ru2 ∧ ru2 ≤ ↑nr2 ∧ ↑nr2 ≤ (100000 : Int) ∧ n9 ≤ nr2) → (0 ≤ ph2 ∧ ru2 + ph2 ≤ s9) → (prok K2 N2 O2 RR2 cnt2 ru2 wi) → (hrr RR2 ↑nr2) → (rch RR2 ru2) → (kext K9 K2 c9) → (fzr ps o0 o2 G0 G2) → (32 * G2.length + n9 ≤ 32 * G0.length + nr2) → (ab_slots G2 + 2 * n9 ≤ ab_slots G0 + 2 * nr2) → (fx o0 o2 [lq, (lq + 1), (lq + 2), (lq + 3), (lq + 4), 90] G0 G2) → Q (.returned (some (vj w2))) G2) → ab_W X (ab_pl y_PR_repeated b_PR_repeated 10 (some (.long))) d G 96 [some (vR q), some (vR p), none, none, some (vz dd), some (vj ev), none, some (vz i_), none, none] [] Q := by
  intro mz
  induction mz with
  | zero => intro G o cnt la ra ru K N O RR nr ph rcp ev i_ hq hki hne hot hra hp ppaI_0 cq hp_ hch hr ck0 cev hkx9 c99 hzr hgl hsl9 ci hfr hm hk0; exact absurd hm (Nat.not_lt_zero _)
  | succ mz ih =>
    intro G o cnt la ra ru K N O RR nr ph rcp ev i_ hq hki hne hot hra hp ppaI_0 cq hp_ hch hr ck0 cev hkx9 c99 hzr hgl hsl9 ci hfr hm hk0
    refine ab_iload d_PR_repeated_96 rfl ?_
    refine ab_aload_n d_PR_repeated_98 rfl ?_
    refine ab_getf (fs := [vz kp, vz vp, rgp, vz plp, vz flp, oup, lsp, bfp, vz szp, vz mbp, vz oep, vz lep, vz mop, vz lap, vz rcp]) f_PR_150 d_PR_repeated_99 hp.2.2 rfl ?_
    refine zz_icmp_ge (tgt := 122) d_PR_repeated_102 (by decide) (by omega) (by omega) (fun c1 => ?_) (fun c1 => ?_)
    · refine ab_lload d_PR_repeated_122 rfl ?_
      refine ab_lret rfl d_PR_repeated_124 ?_
      exact hk0 _ _ _ _ _ _ _ _ _ _ _ _ _ hq hki hne hot hra ppaI_0 (by omega) (by omega) (by omega) (by omega) (by exact hp_) (by exact hr) (by exact hch) (by exact hkx9) (by exact hzr) (by omega) (by omega) hfr
    · refine ab_aload_n d_PR_repeated_105 rfl ?_
      refine ab_aload_n d_PR_repeated_106 rfl ?_
      refine ab_lload d_PR_repeated_107 rfl ?_
      refine ab_iload d_PR_repeated_109 rfl ?_
      refine ab_callV (d' := d - 1) (as := [vR p, vj ev, vz dd]) (st := []) (r := _) (z_PR_once (o := o) (q := q) (lq := lq) (ki := ki) (ne := ne) (ot := ot) (cnt := cnt) (fi := fi) (la := la) (ra := ra) (ru := ru) (gr := gr) (wi := wi) (sz := sz) (fl := fl) (ve := ve) (mi := mi) (na := na) (nl := nl) (K := K) (N := N) (O := O) (RR := RR) (nr := nr) (ps := ps) (wt := wt) (bs := bs) (ph := ph) (gq := gq) (p := p) (w := ev) (dd := dd) hq hki hne hot hra ppaI_0 (by omega) (by omega) hp_ hch hr ck0 (by omega) hpp (by omega) (by omega) (by omega) (by omega) (by omega) ihR) (fun oc G2 h => by rcases h with ⟨_, _, _, _, _, _, _, _, _, _, _, _, h, _⟩ <;> exact ⟨_, h⟩) (by omega) m_PR_once ml_PR_153 im_PR_once se_PR_once c_PR hq.2.2 (Nat.le_of_ble_eq_true rfl) d_PR_repeated_111 rfl ?_
      intro v G2 hq
      rcases hq with ⟨o3, w24, cnt25, la26, ra27, nr28, ru29, K210, N211, O212, RR213, ph214, hv, hfk, hNq, hNki, hNne, hNot, hNra27, pNpaI_0, hq15, hq16, hq17, hq18, hq19, hq20, hq21, hq22, hq23, hq24, hq25⟩
      cases hv
      have hzr := hzr.tr hq23
      obtain ⟨rc26, hKp⟩ := hq23 _ _ _ _ _ _ _ _ _ _ _ _ _ _ _ _ hpp hp
      have hp := hKp
      have ppaI_0 := pNpaI_0
      have hfr := hfr.tr hfk (by simp)
      have hq27 := hfk.1
      have hq := hNq
      have hki := hNki
      have hne := hNne
      have hot := hNot
      have hra27 := hNra27
      change ab_W _ _ _ G2 114 [some (vR q), some (vR p), none, none, some (vz dd), some (vj ev), none, some (vz i_), none, none] [vj w24] _
      refine ab_lstore d_PR_repeated_114 (Nat.le_of_ble_eq_true rfl) (Nat.le_of_ble_eq_true rfl) rfl ?_
      change ab_W _ _ _ G2 116 [some (vR q), some (vR p), none, none, some (vz dd), some (vj w24), none, some (vz i_), none, none] [] _
      refine zz_iinc d_PR_repeated_116 rfl (Nat.le_of_ble_eq_true rfl) (Nat.le_of_ble_eq_true rfl) rfl ?_
      change ab_W _ _ _ G2 119 [some (vR q), some (vR p), none, none, some (vz dd), some (vj w24), none, some (vz (i_ + 1)), none, none] [] _
      refine ab_goto (tgt := 96) d_PR_repeated_119 (by decide) ?_
      exact ih (cnt := cnt25) (la := la26) (ra := ra27) (ru := ru29) (K := K210) (N := N211) (O := O212) (RR := RR213) (nr := nr28) (ph := ph214) (rcp := rc26) (ev := w24) (i_ := (i_ + 1)) hq hki hne hot hra27 hp ppaI_0 (by omega) hq19 hq21 hq20 ((hq22 0 (by omega) (by omega)).trans ck0) (by omega) (hkx9.tr hq22 (by omega)) (by omega) hzr (by omega) (by omega) (by omega) hfr (by omega) hk0
set_option maxRecDepth 100000 in
set_option maxHeartbeats 4000000 in
theorem z_PR_repeated {X : ab_X} {d : Nat} {o : Nat → Nat} {G : ab_G} {q : Nat} {lq : Nat} {ki : Nat} {ne : Nat} {ot : Nat} {cnt : Int} {fi : Int} {la : Int} {ra : Nat} {ru : Int} {gr : Int} {wi : Int} {sz : Int} {fl : Int} {ve : Int} {mi : Int} {na : Nat} {nl : Nat} {K : Int → Int} {N : Int → Int} {O : Int → Int} {RR : Int → Int} {nr : Nat} {ps : Nat → Nat} {wt : Nat → Nat} {bs : Nat} {ph : Int} {gq : Int} {p : Nat} {w : Int} {dd : Int} (hq : cc o G q lq (ab_ob 5 [vR ki, vR ne, vR ot, vz cnt, vz fi, vz la, vR ra, vz ru, vz gr, vz wi, vz sz, vz fl, vz ve, vz mi, vR na, vR nl])) (hki : cc o G ki (lq + 1) (za 808 K)) (hne : cc o G ne (lq + 2) (za 808 N)) (hot : cc o G ot (lq + 3) (za 808 O)) (hra : cc o G ra (lq + 4) (za nr RR)) (ppaI_0 : paI o G 0 ps wt bs gq (prc RR ru) ph) (n18 : ab_n0 = 18) (cq : 100 ≤ lq ∧ 2 ≤ cnt ∧ cnt ≤ 808 ∧ 0 ≤ la ∧ la ≤ 1 ∧ 0 ≤ ru ∧ ru ≤ ↑nr ∧ ↑nr ≤ (100000 : Int) ∧ 32 ≤ nr ∧ 0 ≤ ph ∧ ru + ph ≤ 50000) (hp_ : prok K N O RR cnt ru wi) (hch : rch RR ru) (hr : hrr RR ↑nr) (ck0 : K 0 = 9) (cg_ : 0 ≤ gq ∧ gq ≤ 9 ∧ wi = 2 * (gq + 1)) (hpp : ps p = 90) (cw : 0 ≤ w ∧ w / 4294967296 < cnt ∧ w % 4294967296 < cnt) (cdd : 0 ≤ dd ∧ dd ≤ 30) (hdd : 6 * (31 - dd) + 8 ≤ (↑d : Int)) (rc : 32 * G.length + 103300 ≤ 32 * (ab_n0 + room_1.cells) + nr) (rs : ab_slots G + 200000 ≤ room_1.slots + 2 * nr) (ihR : ∀ {d : Nat} {o : Nat → Nat} {G : ab_G} {q : Nat} {lq : Nat} {ki : Nat} {ne : Nat} {ot : Nat} {cnt : Int} {fi : Int} {la : Int} {ra : Nat} {ru : Int} {gr : Int} {wi : Int} {sz : Int} {fl : Int} {ve : Int} {mi : Int} {na : Nat} {nl : Nat} {K : Int → Int} {N : Int → Int} {O : Int → Int} {RR : Int → Int} {nr : Nat} {ps : Nat → Nat} {wt : Nat → Nat} {bs : Nat} {ph : Int} {gq : Int} {p : Nat} {w : Int}, (cc o G q lq (ab_ob 5 [vR ki, vR ne, vR ot, vz cnt, vz fi, vz la, vR ra, vz ru, vz gr, vz wi, vz sz, vz fl, vz ve, vz mi, vR na, vR nl])) → (cc o G ki (lq + 1) (za 808 K)) → (cc o G ne (lq + 2) (za 808 N)) → (cc o G ot (lq + 3) (za 808 O)) → (cc o G ra (lq + 4) (za nr RR)) → (paI o G 0 ps wt bs gq (prc RR ru) ph) → (ab_n0 = 18) → (100 ≤ lq ∧ 2 ≤ cnt ∧ cnt ≤ 808 ∧ 0 ≤ la ∧ la ≤ 1 ∧ 0 ≤ ru ∧ ru ≤ ↑nr ∧ ↑nr ≤ (100000 : Int) ∧ 32 ≤ nr ∧ 0 ≤ ph ∧ ru + ph ≤ 50000) → (prok K N O RR cnt ru wi) → (rch RR ru) → (hrr RR ↑nr) → (K 0 = 9) → (0 ≤ gq ∧ gq ≤ 9 ∧ wi = 2 * (gq + 1)) → (ps p = 90) → (0 ≤ w ∧ w / 4294967296 < cnt ∧ w % 4294967296 < cnt) → (0 ≤ (dd + 1) ∧ (dd + 1) ≤ 31) → (6 * (31 - (dd + 1)) + 10 ≤ (↑d : Int)) → (32 * G.length + 103300 ≤ 32 * (ab_n0 + room_1.cells) + nr) → (ab_slots G + 200000 ≤ room_1.slots + 2 * nr) → ab_F X d y_PR_rows (.code y_PR_rows b_PR_rows 8 (some (.long))) [vR q, vR p, vj w, vz (dd + 1)] G (fun oc G2 => ∃ o2 : Nat → Nat, ∃ w2 : Int, ∃ cnt2 : Int, ∃ la2 : Int, ∃ ra2 : Nat, ∃ nr2 : Nat, ∃ ru2 : Int, ∃ K2 : Int → Int, ∃ N2 : Int → Int, ∃ O2 : Int → Int, ∃ RR2 : Int → Int, ∃ ph2 : Int, oc = .returned (some (vj w2)) ∧ fx o o2 [lq, (lq + 1), (lq + 2), (lq + 3), (lq + 4), 90] G G2 ∧ cc o2 G2 q lq (ab_ob 5 [vR ki, vR ne, vR ot, vz cnt2, vz fi, vz la2, vR ra2, vz ru2, vz gr, vz wi, vz sz, vz fl, vz ve, vz mi, vR na, vR nl]) ∧ cc o2 G2 ki (lq + 1) (za 808 K2) ∧ cc o2 G2 ne (lq + 2) (za 808 N2) ∧ cc o2 G2 ot (lq + 3) (za 808 O2) ∧ cc o2 G2 ra2 (lq + 4) (za nr2 RR2) ∧ paI o2 G2 0 ps wt bs gq (prc RR2 ru2) ph2 ∧ (cnt ≤ cnt2 ∧ cnt2 ≤ 808 ∧ 0 ≤ la2 ∧ la2 ≤ 1) ∧ (0 ≤ w2 ∧ w2 / 4294967296 < cnt2 ∧ w2 % 4294967296 < cnt2) ∧ (0 ≤ ru2 ∧ ru2 ≤ ↑nr2 ∧ ↑nr2 ≤ (100000 : Int) ∧ nr ≤ nr2) ∧ (0 ≤ ph2 ∧ ru2 + ph2 ≤ ru + ph) ∧ (prok K2 N2 O2 RR2 cnt2 ru2 wi) ∧ (hrr RR2 ↑nr2) ∧ (rch RR2 ru2) ∧ (kext K K2 cnt) ∧ (fzr ps o o2 G G2) ∧ (32 * G2.length + nr ≤ 32 * G.length + nr2) ∧ (ab_slots G2 + 2 * nr ≤ ab_slots G + 2 * nr2))) : ab_F X d y_PR_repeated (.code y_PR_repeated b_PR_repeated 10 (some (.long))) [vR q, vR p, vj w, vz dd] G (fun oc G2 => ∃ o2 : Nat → Nat, ∃ w2 : Int, ∃ cnt2 : Int, ∃ la2 : Int, ∃ ra2 : Nat, ∃ nr2 : Nat, ∃ ru2 : Int, ∃ K2 : Int → Int, ∃ N2 : Int → Int, ∃ O2 : Int → Int, ∃ RR2 : Int → Int, ∃ ph2 : Int, oc = .returned (some (vj w2)) ∧ fx o o2 [lq, (lq + 1), (lq + 2), (lq + 3), (lq + 4), 90] G G2 ∧ cc o2 G2 q lq (ab_ob 5 [vR ki, vR ne, vR ot, vz cnt2, vz fi, vz la2, vR ra2, vz ru2, vz gr, vz wi, vz sz, vz fl, vz ve, vz mi, vR na, vR nl]) ∧ cc o2 G2 ki (lq + 1) (za 808 K2) ∧ cc o2 G2 ne (lq + 2) (za 808 N2) ∧ cc o2 G2 ot (lq + 3) (za 808 O2) ∧ cc o2 G2 ra2 (lq + 4) (za nr2 RR2) ∧ paI o2 G2 0 ps wt bs gq (prc RR2 ru2) ph2 ∧ (cnt ≤ cnt2 ∧ cnt2 ≤ 808 ∧ 0 ≤ la2 ∧ la2 ≤ 1) ∧ (0 ≤ w2 ∧ w2 / 4294967296 < cnt2 ∧ w2 % 4294967296 < cnt2) ∧ (0 ≤ ru2 ∧ ru2 ≤ ↑nr2 ∧ ↑nr2 ≤ (100000 : Int) ∧ nr ≤ nr2) ∧ (0 ≤ ph2 ∧ ru2 + ph2 ≤ ru + ph) ∧ (prok K2 N2 O2 RR2 cnt2 ru2 wi) ∧ (hrr RR2 ↑nr2) ∧ (rch RR2 ru2) ∧ (kext K K2 cnt) ∧ (fzr ps o o2 G G2) ∧ (32 * G2.length + nr ≤ 32 * G.length + nr2) ∧ (ab_slots G2 + 2 * nr ≤ ab_slots G + 2 * nr2)) := by
  refine ab_F_of (by decide +kernel) (Nat.le_of_ble_eq_true rfl) ?_
  obtain ⟨Q, hQ⟩ : ∃ z : Outcome → ab_G → Prop, z = (fun oc G2 => ∃ o2 : Nat → Nat, ∃ w2 : Int, ∃ cnt2 : Int, ∃ la2 : Int, ∃ ra2 : Nat, ∃ nr2 : Nat, ∃ ru2 : Int, ∃ K2 : Int → Int, ∃ N2 : Int → Int, ∃ O2 : Int → Int, ∃ RR2 : Int → Int, ∃ ph2 : Int, oc = .returned (some (vj w2)) ∧ fx o o2 [lq, (lq + 1), (lq + 2), (lq + 3), (lq + 4), 90] G G2 ∧ cc o2 G2 q lq (ab_ob 5 [vR ki, vR ne, vR ot, vz cnt2, vz fi, vz la2, vR ra2, vz ru2, vz gr, vz wi, vz sz, vz fl, vz ve, vz mi, vR na, vR nl]) ∧ cc o2 G2 ki (lq + 1) (za 808 K2) ∧ cc o2 G2 ne (lq + 2) (za 808 N2) ∧ cc o2 G2 ot (lq + 3) (za 808 O2) ∧ cc o2 G2 ra2 (lq + 4) (za nr2 RR2) ∧ paI o2 G2 0 ps wt bs gq (prc RR2 ru2) ph2 ∧ (cnt ≤ cnt2 ∧ cnt2 ≤ 808 ∧ 0 ≤ la2 ∧ la2 ≤ 1) ∧ (0 ≤ w2 ∧ w2 / 4294967296 < cnt2 ∧ w2 % 4294967296 < cnt2) ∧ (0 ≤ ru2 ∧ ru2 ≤ ↑nr2 ∧ ↑nr2 ≤ (100000 : Int) ∧ nr ≤ nr2) ∧ (0 ≤ ph2 ∧ ru2 + ph2 ≤ ru + ph) ∧ (prok K2 N2 O2 RR2 cnt2 ru2 wi) ∧ (hrr RR2 ↑nr2) ∧ (rch RR2 ru2) ∧ (kext K K2 cnt) ∧ (fzr ps o o2 G G2) ∧ (32 * G2.length + nr ≤ 32 * G.length + nr2) ∧ (ab_slots G2 + 2 * nr ≤ ab_slots G + 2 * nr2)) := ⟨_, rfl⟩
  rw [← hQ]
  change ab_W X (ab_pl y_PR_repeated b_PR_repeated 10 (some (.long))) d G 0 [some (vR q), some (vR p), some (vj w), none, some (vz dd), none, none, none, none, none] [] Q
  have hfr : fx o o [lq, (lq + 1), (lq + 2), (lq + 3), (lq + 4), 90] G G := fx.rf
  have hzr : fzr ps o o G G := fzr.rf
  obtain ⟨k_1, v_1, rg_1, pl_1, fl_1, ou_1, ls_1, bf_1, sz_1, mb_1, oe_1, le_1, mo_1, la_1, rc_1, hp, hn1, hb1, hg1, ho1, hl1, hf1⟩ := ppaI_0.1 p hpp
  have hB1 := hb1
  unfold pnB at hB1
  have hK1 := hn1.1
  refine ab_aload_n d_PR_repeated_0 rfl ?_
  refine ab_getf (fs := [vz k_1, vz v_1, rg_1, vz pl_1, vz fl_1, ou_1, ls_1, bf_1, vz sz_1, vz mb_1, vz oe_1, vz le_1, vz mo_1, vz la_1, vz rc_1]) f_PR_46 d_PR_repeated_1 hp.2.2 rfl ?_
  refine zz_if_ne (tgt := 9) d_PR_repeated_4 (by decide) (by omega) (fun c2 => ?_) (fun c2 => ?_)
  · refine ab_lload_n d_PR_repeated_9 rfl ?_
    refine ab_lstore d_PR_repeated_10 (Nat.le_of_ble_eq_true rfl) (Nat.le_of_ble_eq_true rfl) rfl ?_
    change ab_W _ _ _ G 12 [some (vR q), some (vR p), some (vj w), none, some (vz dd), some (vj w), none, none, none, none] [] _
    refine ab_aload_n d_PR_repeated_12 rfl ?_
    refine ab_getf (fs := [vz k_1, vz v_1, rg_1, vz pl_1, vz fl_1, ou_1, ls_1, bf_1, vz sz_1, vz mb_1, vz oe_1, vz le_1, vz mo_1, vz la_1, vz rc_1]) f_PR_144 d_PR_repeated_13 hp.2.2 rfl ?_
    refine zz_sipush d_PR_repeated_16 (by decide) ?_
    refine zz_icmp_ne (tgt := 35) d_PR_repeated_19 (by decide) (by omega) (by decide) (fun c3 => ?_) (fun c3 => ?_)
    · refine ab_aload_n d_PR_repeated_35 rfl ?_
      refine ab_getf (fs := [vz k_1, vz v_1, rg_1, vz pl_1, vz fl_1, ou_1, ls_1, bf_1, vz sz_1, vz mb_1, vz oe_1, vz le_1, vz mo_1, vz la_1, vz rc_1]) f_PR_150 d_PR_repeated_36 hp.2.2 rfl ?_
      refine ab_istore d_PR_repeated_39 (Nat.le_of_ble_eq_true rfl) (Nat.le_of_ble_eq_true rfl) rfl ?_
      change ab_W _ _ _ G 41 [some (vR q), some (vR p), some (vj w), none, some (vz dd), some (vj w), none, some (vz le_1), none, none] [] _
      refine y_PR_repeated_41 (q := q) (lq := lq) (ki := ki) (ne := ne) (ot := ot) (fi := fi) (gr := gr) (wi := wi) (sz := sz) (fl := fl) (ve := ve) (mi := mi) (na := na) (nl := nl) (ps := ps) (wt := wt) (bs := bs) (gq := gq) (p := p) (w := w) (dd := dd) (kp := k_1) (vp := v_1) (rgp := rg_1) (plp := pl_1) (flp := fl_1) (oup := ou_1) (lsp := ls_1) (bfp := bf_1) (szp := sz_1) (mbp := mb_1) (oep := oe_1) (lep := le_1) (mop := mo_1) (lap := la_1) (K9 := K) (c9 := cnt) (s9 := (ru + ph)) (n9 := nr) (G0 := G) (cnt := cnt) (la := la) (ra := ra) (ru := ru) (K := K) (N := N) (O := O) (RR := RR) (nr := nr) (ph := ph) (rcp := rc_1) (ev := w) (i_ := le_1) (by omega) (by omega) hpp (by omega) (by omega) (by omega) (by omega) (by omega) ihR (Int.toNat (1001 - le_1) + 1) hq hki hne hot hra hp ppaI_0 (by omega) hp_ hch hr ck0 (by omega) (by omega) kext.rf (by omega) fzr.rf (by omega) (by omega) (by omega) fx.rf (by omega) (fun G4 o5 ev26 cnt27 la28 ra29 nr210 ru211 K212 N213 O214 RR215 ph216 rc217 hNq hNki hNne hNot hNra29 hNp pNpaI_0 hq18 hq19 hq20 hq21 hq22 hq23 hq24 hq25 hq26 hq27 hq28 hfk => ?_)
      · have hfr := hfr.tr hfk (by simp)
        have hq29 := hfk.1
        have hq := hNq
        have hki := hNki
        have hne := hNne
        have hot := hNot
        have hra29 := hNra29
        have hp := hNp
        have ppaI_0 := pNpaI_0
        have hzr := hzr.tr hq26
        change ab_W _ _ _ G4 93 [some (vR q), some (vR p), none, none, some (vz dd), some (vj ev26), none, none, none, none] [] _
        refine zz_iconst d_PR_repeated_93 ?_
        refine ab_istore d_PR_repeated_94 (Nat.le_of_ble_eq_true rfl) (Nat.le_of_ble_eq_true rfl) rfl ?_
        change ab_W _ _ _ G4 96 [some (vR q), some (vR p), none, none, some (vz dd), some (vj ev26), none, some (vz 0), none, none] [] _
        refine y_PR_repeated_96 (q := q) (lq := lq) (ki := ki) (ne := ne) (ot := ot) (fi := fi) (gr := gr) (wi := wi) (sz := sz) (fl := fl) (ve := ve) (mi := mi) (na := na) (nl := nl) (ps := ps) (wt := wt) (bs := bs) (gq := gq) (p := p) (dd := dd) (kp := k_1) (vp := v_1) (rgp := rg_1) (plp := pl_1) (flp := fl_1) (oup := ou_1) (lsp := ls_1) (bfp := bf_1) (szp := sz_1) (mbp := mb_1) (oep := oe_1) (lep := le_1) (mop := mo_1) (lap := la_1) (K9 := K212) (c9 := cnt27) (s9 := (ru211 + ph216)) (n9 := nr210) (G0 := G4) (cnt := cnt27) (la := la28) (ra := ra29) (ru := ru211) (K := K212) (N := N213) (O := O214) (RR := RR215) (nr := nr210) (ph := ph216) (rcp := rc217) (ev := ev26) (i_ := 0) (by omega) (by omega) hpp (by omega) (by omega) (by omega) (by omega) (by omega) ihR (Int.toNat (1001 - 0) + 1) hq hki hne hot hra29 hp ppaI_0 (by omega) hq22 hq24 hq23 ((hq25 0 (by omega) (by omega)).trans ck0) (by omega) kext.rf (by omega) fzr.rf (by omega) (by omega) (by omega) fx.rf (by omega) (fun G30 o31 w232 cnt233 la234 ra235 nr236 ru237 K238 N239 O240 RR241 ph242 hNq hNki hNne hNot hNra235 pNpaI_0 hq43 hq44 hq45 hq46 hq47 hq48 hq49 hq50 hq51 hq52 hq53 hfk => ?_)
        · have hfr := hfr.tr hfk (by simp)
          have hq54 := hfk.1
          have hq := hNq
          have hki := hNki
          have hne := hNne
          have hot := hNot
          have hra235 := hNra235
          have ppaI_0 := pNpaI_0
          have hzr := hzr.tr hq51
          rw [hQ]; exact ⟨_, _, _, _, _, _, _, _, _, _, _, _, rfl, hfr, hq, hki, hne, hot, hra235, ppaI_0, (by omega), (by omega), (by omega), (by omega), (by exact hq47), (by exact hq48), (by exact hq49), (by exact (hq25.tr hq50 (by omega))), (by exact hzr), (by omega), (by omega)⟩
    · refine ab_aload_n d_PR_repeated_22 rfl ?_
      refine ab_aload_n d_PR_repeated_23 rfl ?_
      refine ab_lload_n d_PR_repeated_24 rfl ?_
      refine ab_iload d_PR_repeated_25 rfl ?_
      refine ab_callV (d' := d - 1) (as := [vR p, vj w, vz dd]) (st := []) (r := _) (z_PR_loop (o := o) (q := q) (lq := lq) (ki := ki) (ne := ne) (ot := ot) (cnt := cnt) (fi := fi) (la := la) (ra := ra) (ru := ru) (gr := gr) (wi := wi) (sz := sz) (fl := fl) (ve := ve) (mi := mi) (na := na) (nl := nl) (K := K) (N := N) (O := O) (RR := RR) (nr := nr) (ps := ps) (wt := wt) (bs := bs) (ph := ph) (gq := gq) (p := p) (w := w) (dd := dd) hq hki hne hot hra ppaI_0 (by omega) (by omega) hp_ hch hr ck0 (by omega) hpp (by omega) (by omega) (by omega) (by omega) (by omega) ihR) (fun oc G2 h => by rcases h with ⟨_, _, _, _, _, _, _, _, _, _, _, _, h, _⟩ <;> exact ⟨_, h⟩) (by omega) m_PR_loop ml_PR_147 im_PR_loop se_PR_loop c_PR hq.2.2 (Nat.le_of_ble_eq_true rfl) d_PR_repeated_27 rfl ?_
      intro v G55 hq
      rcases hq with ⟨o56, w257, cnt258, la259, ra260, nr261, ru262, K263, N264, O265, RR266, ph267, hv, hfk, hNq, hNki, hNne, hNot, hNra260, pNpaI_0, hq68, hq69, hq70, hq71, hq72, hq73, hq74, hq75, hq76, hq77, hq78⟩
      cases hv
      have hzr := hzr.tr hq76
      obtain ⟨rc79, hKp⟩ := hq76 _ _ _ _ _ _ _ _ _ _ _ _ _ _ _ _ hpp hp
      have hp := hKp
      have ppaI_0 := pNpaI_0
      have hfr := hfr.tr hfk (by simp)
      have hq80 := hfk.1
      have hq := hNq
      have hki := hNki
      have hne := hNne
      have hot := hNot
      have hra260 := hNra260
      change ab_W _ _ _ G55 30 [some (vR q), some (vR p), some (vj w), none, some (vz dd), some (vj w), none, none, none, none] [vj w257] _
      refine ab_lstore d_PR_repeated_30 (Nat.le_of_ble_eq_true rfl) (Nat.le_of_ble_eq_true rfl) rfl ?_
      change ab_W _ _ _ G55 32 [some (vR q), some (vR p), some (vj w), none, some (vz dd), some (vj w257), none, none, none, none] [] _
      refine ab_goto (tgt := 93) d_PR_repeated_32 (by decide) ?_
      refine zz_iconst d_PR_repeated_93 ?_
      refine ab_istore d_PR_repeated_94 (Nat.le_of_ble_eq_true rfl) (Nat.le_of_ble_eq_true rfl) rfl ?_
      change ab_W _ _ _ G55 96 [some (vR q), some (vR p), some (vj w), none, some (vz dd), some (vj w257), none, some (vz 0), none, none] [] _
      refine ab_less (L' := [some (vR q), some (vR p), none, none, some (vz dd), some (vj w257), none, some (vz 0), none, none]) (fun i v h => by rcases i with _ | _ | _ | _ | _ | _ | _ | _ | _ | _ | i <;> first | exact h | (simp at h)) ?_
      refine y_PR_repeated_96 (q := q) (lq := lq) (ki := ki) (ne := ne) (ot := ot) (fi := fi) (gr := gr) (wi := wi) (sz := sz) (fl := fl) (ve := ve) (mi := mi) (na := na) (nl := nl) (ps := ps) (wt := wt) (bs := bs) (gq := gq) (p := p) (dd := dd) (kp := k_1) (vp := v_1) (rgp := rg_1) (plp := pl_1) (flp := fl_1) (oup := ou_1) (lsp := ls_1) (bfp := bf_1) (szp := sz_1) (mbp := mb_1) (oep := oe_1) (lep := le_1) (mop := mo_1) (lap := la_1) (K9 := K263) (c9 := cnt258) (s9 := (ru262 + ph267)) (n9 := nr261) (G0 := G55) (cnt := cnt258) (la := la259) (ra := ra260) (ru := ru262) (K := K263) (N := N264) (O := O265) (RR := RR266) (nr := nr261) (ph := ph267) (rcp := rc79) (ev := w257) (i_ := 0) (by omega) (by omega) hpp (by omega) (by omega) (by omega) (by omega) (by omega) ihR (Int.toNat (1001 - 0) + 1) hq hki hne hot hra260 hp ppaI_0 (by omega) hq72 hq74 hq73 ((hq75 0 (by omega) (by omega)).trans ck0) (by omega) kext.rf (by omega) fzr.rf (by omega) (by omega) (by omega) fx.rf (by omega) (fun G81 o82 w283 cnt284 la285 ra286 nr287 ru288 K289 N290 O291 RR292 ph293 hNq hNki hNne hNot hNra286 pNpaI_0 hq94 hq95 hq96 hq97 hq98 hq99 hq100 hq101 hq102 hq103 hq104 hfk => ?_)
      · have hfr := hfr.tr hfk (by simp)
        have hq105 := hfk.1
        have hq := hNq
        have hki := hNki
        have hne := hNne
        have hot := hNot
        have hra286 := hNra286
        have ppaI_0 := pNpaI_0
        have hzr := hzr.tr hq102
        rw [hQ]; exact ⟨_, _, _, _, _, _, _, _, _, _, _, _, rfl, hfr, hq, hki, hne, hot, hra286, ppaI_0, (by omega), (by omega), (by omega), (by omega), (by exact hq98), (by exact hq99), (by exact hq100), (by exact (hq75.tr hq101 (by omega))), (by exact hzr), (by omega), (by omega)⟩
  · refine ab_lload_n d_PR_repeated_7 rfl ?_
    refine ab_lret rfl d_PR_repeated_8 ?_
    rw [hQ]; exact ⟨_, _, _, _, _, _, _, _, _, _, _, _, rfl, hfr, hq, hki, hne, hot, hra, ppaI_0, (by omega), (by omega), (by omega), (by omega), (by exact hp_), (by exact hr), (by exact hch), (by exact kext.rf), (by exact hzr), (by omega), (by omega)⟩
set_option maxRecDepth 100000 in
set_option maxHeartbeats 4000000 in
theorem y_PR_row_9 {X : ab_X} {d : Nat} {Q : Outcome → ab_G → Prop} {o0 : Nat → Nat} {G0 : ab_G} {q : Nat} {lq : Nat} {ki : Nat} {ne : Nat} {ot : Nat} {fi : Int} {gr : Int} {wi : Int} {sz : Int} {fl : Int} {ve : Int} {mi : Int} {na : Nat} {nl : Nat} {ps : Nat → Nat} {wt : Nat → Nat} {bs : Nat} {gq : Int} {dd : Int} {K9 : Int → Int} {c9 : Int} {s9 : Int} {n9 : Nat} (n18 : ab_n0 = 18) (cg_ : 0 ≤ gq ∧ gq ≤ 9 ∧ wi = 2 * (gq + 1)) (cdd : 0 ≤ dd ∧ dd ≤ 30) (hdd : 6 * (31 - dd) + 9 ≤ (↑d : Int)) (rc : 32 * G0.length + 103300 ≤ 32 * (ab_n0 + room_1.cells) + n9) (rs : ab_slots G0 + 200000 ≤ room_1.slots + 2 * n9) (ihR : ∀ {d : Nat} {o : Nat → Nat} {G : ab_G} {q : Nat} {lq : Nat} {ki : Nat} {ne : Nat} {ot : Nat} {cnt : Int} {fi : Int} {la : Int} {ra : Nat} {ru : Int} {gr : Int} {wi : Int} {sz : Int} {fl : Int} {ve : Int} {mi : Int} {na : Nat} {nl : Nat} {K : Int → Int} {N : Int → Int} {O : Int → Int} {RR : Int → Int} {nr : Nat} {ps : Nat → Nat} {wt : Nat → Nat} {bs : Nat} {ph : Int} {gq : Int} {p : Nat} {w : Int}, (cc o G q lq (ab_ob 5 [vR ki, vR ne, vR ot, vz cnt, vz fi, vz la, vR ra, vz ru, vz gr, vz wi, vz sz, vz fl, vz ve, vz mi, vR na, vR nl])) → (cc o G ki (lq + 1) (za 808 K)) → (cc o G ne (lq + 2) (za 808 N)) → (cc o G ot (lq + 3) (za 808 O)) → (cc o G ra (lq + 4) (za nr RR)) → (paI o G 0 ps wt bs gq (prc RR ru) ph) → (ab_n0 = 18) → (100 ≤ lq ∧ 2 ≤ cnt ∧ cnt ≤ 808 ∧ 0 ≤ la ∧ la ≤ 1 ∧ 0 ≤ ru ∧ ru ≤ ↑nr ∧ ↑nr ≤ (100000 : Int) ∧ 32 ≤ nr ∧ 0 ≤ ph ∧ ru + ph ≤ 50000) → (prok K N O RR cnt ru wi) → (rch RR ru) → (hrr RR ↑nr) → (K 0 = 9) → (0 ≤ gq ∧ gq ≤ 9 ∧ wi = 2 * (gq + 1)) → (ps p = 90) → (0 ≤ w ∧ w / 4294967296 < cnt ∧ w % 4294967296 < cnt) → (0 ≤ (dd + 1) ∧ (dd + 1) ≤ 31) → (6 * (31 - (dd + 1)) + 10 ≤ (↑d : Int)) → (32 * G.length + 103300 ≤ 32 * (ab_n0 + room_1.cells) + nr) → (ab_slots G + 200000 ≤ room_1.slots + 2 * nr) → ab_F X d y_PR_rows (.code y_PR_rows b_PR_rows 8 (some (.long))) [vR q, vR p, vj w, vz (dd + 1)] G (fun oc G2 => ∃ o2 : Nat → Nat, ∃ w2 : Int, ∃ cnt2 : Int, ∃ la2 : Int, ∃ ra2 : Nat, ∃ nr2 : Nat, ∃ ru2 : Int, ∃ K2 : Int → Int, ∃ N2 : Int → Int, ∃ O2 : Int → Int, ∃ RR2 : Int → Int, ∃ ph2 : Int, oc = .returned (some (vj w2)) ∧ fx o o2 [lq, (lq + 1), (lq + 2), (lq + 3), (lq + 4), 90] G G2 ∧ cc o2 G2 q lq (ab_ob 5 [vR ki, vR ne, vR ot, vz cnt2, vz fi, vz la2, vR ra2, vz ru2, vz gr, vz wi, vz sz, vz fl, vz ve, vz mi, vR na, vR nl]) ∧ cc o2 G2 ki (lq + 1) (za 808 K2) ∧ cc o2 G2 ne (lq + 2) (za 808 N2) ∧ cc o2 G2 ot (lq + 3) (za 808 O2) ∧ cc o2 G2 ra2 (lq + 4) (za nr2 RR2) ∧ paI o2 G2 0 ps wt bs gq (prc RR2 ru2) ph2 ∧ (cnt ≤ cnt2 ∧ cnt2 ≤ 808 ∧ 0 ≤ la2 ∧ la2 ≤ 1) ∧ (0 ≤ w2 ∧ w2 / 4294967296 < cnt2 ∧ w2 % 4294967296 < cnt2) ∧ (0 ≤ ru2 ∧ ru2 ≤ ↑nr2 ∧ ↑nr2 ≤ (100000 : Int) ∧ nr ≤ nr2) ∧ (0 ≤ ph2 ∧ ru2 + ph2 ≤ ru + ph) ∧ (prok K2 N2 O2 RR2 cnt2 ru2 wi) ∧ (hrr RR2 ↑nr2) ∧ (rch RR2 ru2) ∧ (kext K K2 cnt) ∧ (fzr ps o o2 G G2) ∧ (32 * G2.length + nr ≤ 32 * G.length + nr2) ∧ (ab_slots G2 + 2 * nr ≤ ab_slots G + 2 * nr2))) : ∀ (mz : Nat) {G : ab_G} {o : Nat → Nat} {cnt : Int} {la : Int} {ra : Nat} {ru : Int} {K : Int → Int} {N : Int → Int} {O : Int → Int} {RR : Int → Int} {nr : Nat} {ph : Int} {pt_ : Value} {hb_ : Nat} {ev : Int}, (cc o G q lq (ab_ob 5 [vR ki, vR ne, vR ot, vz cnt, vz fi, vz la, vR ra, vz ru, vz gr, vz wi, vz sz, vz fl, vz ve, vz mi, vR na, vR nl])) → (cc o G ki (lq + 1) (za 808 K)) → (cc o G ne (lq + 2) (za 808 N)) → (cc o G ot (lq + 3) (za 808 O)) → (cc o G ra (lq + 4) (za nr RR)) → (paI o G 0 ps wt bs gq (prc RR ru) ph) → (100 ≤ lq ∧ 2 ≤ cnt ∧ cnt ≤ 808 ∧ 0 ≤ la ∧ la ≤ 1 ∧ 0 ≤ ru ∧ ru ≤ ↑nr ∧ ↑nr ≤ (100000 : Int) ∧ 32 ≤ nr ∧ 0 ≤ ph ∧ ru + ph ≤ 50000) → (prok K N O RR cnt ru wi) → (rch RR ru) → (hrr RR ↑nr) → (K 0 = 9) → (0 ≤ ev ∧ ev / 4294967296 < cnt ∧ ev % 4294967296 < cnt) → (kext K9 K c9) → (c9 ≤ cnt ∧ ru + ph ≤ s9 ∧ n9 ≤ nr) → (fzr ps o0 o G0 G) → (32 * G.length + n9 ≤ 32 * G0.length + nr) → (ab_slots G + 2 * n9 ≤ ab_slots G0 + 2 * nr) → (plk ps 90 hb_ pt_) → (fx o0 o [lq, (lq + 1), (lq + 2), (lq + 3), (lq + 4), 90] G0 G) → (Int.toNat (↑hb_ : Int) < mz) → (∀ (G2 : ab_G) (o2 : Nat → Nat) (w2 : Int) (cnt2 : Int) (la2 : Int) (ra2 : Nat) (nr2 : Nat) (ru2 : Int) (K2 : Int → Int) (N2 : Int → Int) (O2 : Int → Int) (RR2 : Int → Int) (ph2 : Int), (cc o2 G2 q lq (ab_ob 5 [vR ki, vR ne, vR ot, vz cnt2, vz fi, vz la2, vR ra2, vz ru2, vz gr, vz wi, vz sz, vz fl, vz ve, vz mi, vR na, vR nl])) → (cc o2 G2 ki (lq + 1) (za 808 K2)) → (cc o2 G2 ne (lq + 2) (za 808 N2)) → (cc o2 G2 ot (lq + 3) (za 808 O2)) → (cc o2 G2 ra2 (lq + 4) (za nr2 RR2)) → (paI o2 G2 0 ps wt bs gq (prc RR2 ru2) ph2) → (c9 ≤ cnt2 ∧ cnt2 ≤ 808 ∧ 0 ≤ la2 ∧ la2 ≤ 1) → (0 ≤ w2 ∧ w2 / 4294967296 < cnt2 ∧ w2 % 4294967296 < cnt2) → (0 ≤ ru2 ∧ ru2 ≤ ↑nr2 ∧ ↑nr2 ≤ (100000 : Int) ∧ n9 ≤ nr2) → (0 ≤ ph2 ∧ ru2 + ph2 ≤ s9) → (prok K2 N2 O2 RR2 cnt2 ru2 wi) → (hrr RR2 ↑nr2) → (rch RR2 ru2) → (kext K9 K2 c9) → (fzr ps o0 o2 G0 G2) → (32 * G2.length + n9 ≤ 32 * G0.length + nr2) → (ab_slots G2 + 2 * n9 ≤ ab_slots G0 + 2 * nr2) → (fx o0 o2 [lq, (lq + 1), (lq + 2), (lq + 3), (lq + 4), 90] G0 G2) → Q (.returned (some (vj w2))) G2) → ab_W X (ab_pl y_PR_row b_PR_row 8 (some (.long))) d G 9 [some (vR q), none, none, none, some (vz dd), some (vj ev), none, some (pt_)] [] Q := by
  intro mz
  induction mz with
  | zero => intro G o cnt la ra ru K N O RR nr ph pt_ hb_ ev hq hki hne hot hra ppaI_0 cq hp_ hch hr ck0 cev hkx9 c99 hzr hgl hsl9 hpt hfr hm hk0; exact absurd hm (Nat.not_lt_zero _)
  | succ mz ih =>
    intro G o cnt la ra ru K N O RR nr ph pt_ hb_ ev hq hki hne hot hra ppaI_0 cq hp_ hch hr ck0 cev hkx9 c99 hzr hgl hsl9 hpt hfr hm hk0
    rcases hpt with hz2 | ⟨b1, hz2, hp3, hl4⟩
    · subst hz2
      change ab_W _ _ _ G 9 [some (vR q), none, none, none, some (vz dd), some (vj ev), none, some (vN)] [] _
      refine ab_aloadN d_PR_row_9 rfl ?_
      refine ab_ifnullN (tgt := 36) d_PR_row_11 (by decide) ?_
      refine ab_lload d_PR_row_36 rfl ?_
      refine ab_lret rfl d_PR_row_38 ?_
      exact hk0 _ _ _ _ _ _ _ _ _ _ _ _ _ hq hki hne hot hra ppaI_0 (by omega) (by omega) (by omega) (by omega) (by exact hp_) (by exact hr) (by exact hch) (by exact hkx9) (by exact hzr) (by omega) (by omega) hfr
    · subst hz2
      change ab_W _ _ _ G 9 [some (vR q), none, none, none, some (vz dd), some (vj ev), none, some (vR b1)] [] _
      refine ab_aload d_PR_row_9 rfl ?_
      refine ab_ifnull d_PR_row_11 ?_
      refine ab_aload_n d_PR_row_14 rfl ?_
      refine ab_aload d_PR_row_15 rfl ?_
      refine ab_lload d_PR_row_17 rfl ?_
      refine ab_iload d_PR_row_19 rfl ?_
      refine ab_callV (d' := d - 1) (as := [vR b1, vj ev, vz dd]) (st := []) (r := _) (z_PR_repeated (o := o) (q := q) (lq := lq) (ki := ki) (ne := ne) (ot := ot) (cnt := cnt) (fi := fi) (la := la) (ra := ra) (ru := ru) (gr := gr) (wi := wi) (sz := sz) (fl := fl) (ve := ve) (mi := mi) (na := na) (nl := nl) (K := K) (N := N) (O := O) (RR := RR) (nr := nr) (ps := ps) (wt := wt) (bs := bs) (ph := ph) (gq := gq) (p := b1) (w := ev) (dd := dd) hq hki hne hot hra ppaI_0 (by omega) (by omega) hp_ hch hr ck0 (by omega) hp3 (by omega) (by omega) (by omega) (by omega) (by omega) ihR) (fun oc G2 h => by rcases h with ⟨_, _, _, _, _, _, _, _, _, _, _, _, h, _⟩ <;> exact ⟨_, h⟩) (by omega) m_PR_repeated ml_PR_141 im_PR_repeated se_PR_repeated c_PR hq.2.2 (Nat.le_of_ble_eq_true rfl) d_PR_row_21 rfl ?_
      intro v G5 hq
      rcases hq with ⟨o6, w27, cnt28, la29, ra210, nr211, ru212, K213, N214, O215, RR216, ph217, hv, hfk, hNq, hNki, hNne, hNot, hNra210, pNpaI_0, hq18, hq19, hq20, hq21, hq22, hq23, hq24, hq25, hq26, hq27, hq28⟩
      cases hv
      have hzr := hzr.tr hq26
      have ppaI_0 := pNpaI_0
      have hfr := hfr.tr hfk (by simp)
      have hq29 := hfk.1
      have hq := hNq
      have hki := hNki
      have hne := hNne
      have hot := hNot
      have hra210 := hNra210
      change ab_W _ _ _ G5 24 [some (vR q), none, none, none, some (vz dd), some (vj ev), none, some (vR b1)] [vj w27] _
      refine ab_lstore d_PR_row_24 (Nat.le_of_ble_eq_true rfl) (Nat.le_of_ble_eq_true rfl) rfl ?_
      change ab_W _ _ _ G5 26 [some (vR q), none, none, none, some (vz dd), some (vj w27), none, some (vR b1)] [] _
      obtain ⟨k_30, v_30, rg_30, pl_30, fl_30, ou_30, ls_30, bf_30, sz_30, mb_30, oe_30, le_30, mo_30, la_30, rc_30, hb1, hn30, hb30, hg30, ho30, hl30, hf30⟩ := ppaI_0.1 b1 hp3
      have hB30 := hb30
      unfold pnB at hB30
      have hK30 := hn30.1
      refine ab_aload d_PR_row_26 rfl ?_
      refine ab_getf (fs := [vz k_30, vz v_30, rg_30, vz pl_30, vz fl_30, ou_30, ls_30, bf_30, vz sz_30, vz mb_30, vz oe_30, vz le_30, vz mo_30, vz la_30, vz rc_30]) f_PR_134 d_PR_row_28 hb1.2.2 rfl ?_
      change ab_W _ _ _ G5 31 [some (vR q), none, none, none, some (vz dd), some (vj w27), none, some (vR b1)] [bf_30] _
      rcases hf30 with hz32 | ⟨b31, hz32, hp33, hl34⟩
      · subst hz32
        change ab_W _ _ _ G5 31 [some (vR q), none, none, none, some (vz dd), some (vj w27), none, some (vR b1)] [vN] _
        refine ab_astoreN d_PR_row_31 (Nat.le_of_ble_eq_true rfl) (Nat.le_of_ble_eq_true rfl) rfl ?_
        change ab_W _ _ _ G5 33 [some (vR q), none, none, none, some (vz dd), some (vj w27), none, some (vN)] [] _
        refine ab_goto (tgt := 9) d_PR_row_33 (by decide) ?_
        exact ih (cnt := cnt28) (la := la29) (ra := ra210) (ru := ru212) (K := K213) (N := N214) (O := O215) (RR := RR216) (nr := nr211) (ph := ph217) (pt_ := vN) (hb_ := b1) (ev := w27) hq hki hne hot hra210 ppaI_0 (by omega) hq22 hq24 hq23 ((hq25 0 (by omega) (by omega)).trans ck0) (by omega) (hkx9.tr hq25 (by omega)) (by omega) hzr (by omega) (by omega) (Or.inl rfl) hfr (by omega) hk0
      · subst hz32
        change ab_W _ _ _ G5 31 [some (vR q), none, none, none, some (vz dd), some (vj w27), none, some (vR b1)] [vR b31] _
        refine ab_astore d_PR_row_31 (Nat.le_of_ble_eq_true rfl) (Nat.le_of_ble_eq_true rfl) rfl ?_
        change ab_W _ _ _ G5 33 [some (vR q), none, none, none, some (vz dd), some (vj w27), none, some (vR b31)] [] _
        refine ab_goto (tgt := 9) d_PR_row_33 (by decide) ?_
        exact ih (cnt := cnt28) (la := la29) (ra := ra210) (ru := ru212) (K := K213) (N := N214) (O := O215) (RR := RR216) (nr := nr211) (ph := ph217) (pt_ := vR b31) (hb_ := b1) (ev := w27) hq hki hne hot hra210 ppaI_0 (by omega) hq22 hq24 hq23 ((hq25 0 (by omega) (by omega)).trans ck0) (by omega) (hkx9.tr hq25 (by omega)) (by omega) hzr (by omega) (by omega) (Or.inr ⟨_, rfl, hp33, by omega⟩) hfr (by omega) hk0
set_option maxRecDepth 100000 in
set_option maxHeartbeats 4000000 in
theorem z_PR_row {X : ab_X} {d : Nat} {o : Nat → Nat} {G : ab_G} {q : Nat} {lq : Nat} {ki : Nat} {ne : Nat} {ot : Nat} {cnt : Int} {fi : Int} {la : Int} {ra : Nat} {ru : Int} {gr : Int} {wi : Int} {sz : Int} {fl : Int} {ve : Int} {mi : Int} {na : Nat} {nl : Nat} {K : Int → Int} {N : Int → Int} {O : Int → Int} {RR : Int → Int} {nr : Nat} {ps : Nat → Nat} {wt : Nat → Nat} {bs : Nat} {ph : Int} {gq : Int} {w : Int} {dd : Int} {rwx : Nat} (hq : cc o G q lq (ab_ob 5 [vR ki, vR ne, vR ot, vz cnt, vz fi, vz la, vR ra, vz ru, vz gr, vz wi, vz sz, vz fl, vz ve, vz mi, vR na, vR nl])) (hki : cc o G ki (lq + 1) (za 808 K)) (hne : cc o G ne (lq + 2) (za 808 N)) (hot : cc o G ot (lq + 3) (za 808 O)) (hra : cc o G ra (lq + 4) (za nr RR)) (ppaI_0 : paI o G 0 ps wt bs gq (prc RR ru) ph) (n18 : ab_n0 = 18) (cq : 100 ≤ lq ∧ 2 ≤ cnt ∧ cnt ≤ 808 ∧ 0 ≤ la ∧ la ≤ 1 ∧ 0 ≤ ru ∧ ru ≤ ↑nr ∧ ↑nr ≤ (100000 : Int) ∧ 32 ≤ nr ∧ 0 ≤ ph ∧ ru + ph ≤ 50000) (hp_ : prok K N O RR cnt ru wi) (hch : rch RR ru) (hr : hrr RR ↑nr) (ck0 : K 0 = 9) (cg_ : 0 ≤ gq ∧ gq ≤ 9 ∧ wi = 2 * (gq + 1)) (hpr : ps rwx = 94) (cw : 0 ≤ w ∧ w / 4294967296 < cnt ∧ w % 4294967296 < cnt) (cdd : 0 ≤ dd ∧ dd ≤ 30) (hdd : 6 * (31 - dd) + 9 ≤ (↑d : Int)) (rc : 32 * G.length + 103300 ≤ 32 * (ab_n0 + room_1.cells) + nr) (rs : ab_slots G + 200000 ≤ room_1.slots + 2 * nr) (ihR : ∀ {d : Nat} {o : Nat → Nat} {G : ab_G} {q : Nat} {lq : Nat} {ki : Nat} {ne : Nat} {ot : Nat} {cnt : Int} {fi : Int} {la : Int} {ra : Nat} {ru : Int} {gr : Int} {wi : Int} {sz : Int} {fl : Int} {ve : Int} {mi : Int} {na : Nat} {nl : Nat} {K : Int → Int} {N : Int → Int} {O : Int → Int} {RR : Int → Int} {nr : Nat} {ps : Nat → Nat} {wt : Nat → Nat} {bs : Nat} {ph : Int} {gq : Int} {p : Nat} {w : Int}, (cc o G q lq (ab_ob 5 [vR ki, vR ne, vR ot, vz cnt, vz fi, vz la, vR ra, vz ru, vz gr, vz wi, vz sz, vz fl, vz ve, vz mi, vR na, vR nl])) → (cc o G ki (lq + 1) (za 808 K)) → (cc o G ne (lq + 2) (za 808 N)) → (cc o G ot (lq + 3) (za 808 O)) → (cc o G ra (lq + 4) (za nr RR)) → (paI o G 0 ps wt bs gq (prc RR ru) ph) → (ab_n0 = 18) → (100 ≤ lq ∧ 2 ≤ cnt ∧ cnt ≤ 808 ∧ 0 ≤ la ∧ la ≤ 1 ∧ 0 ≤ ru ∧ ru ≤ ↑nr ∧ ↑nr ≤ (100000 : Int) ∧ 32 ≤ nr ∧ 0 ≤ ph ∧ ru + ph ≤ 50000) → (prok K N O RR cnt ru wi) → (rch RR ru) → (hrr RR ↑nr) → (K 0 = 9) → (0 ≤ gq ∧ gq ≤ 9 ∧ wi = 2 * (gq + 1)) → (ps p = 90) → (0 ≤ w ∧ w / 4294967296 < cnt ∧ w % 4294967296 < cnt) → (0 ≤ (dd + 1) ∧ (dd + 1) ≤ 31) → (6 * (31 - (dd + 1)) + 10 ≤ (↑d : Int)) → (32 * G.length + 103300 ≤ 32 * (ab_n0 + room_1.cells) + nr) → (ab_slots G + 200000 ≤ room_1.slots + 2 * nr) → ab_F X d y_PR_rows (.code y_PR_rows b_PR_rows 8 (some (.long))) [vR q, vR p, vj w, vz (dd + 1)] G (fun oc G2 => ∃ o2 : Nat → Nat, ∃ w2 : Int, ∃ cnt2 : Int, ∃ la2 : Int, ∃ ra2 : Nat, ∃ nr2 : Nat, ∃ ru2 : Int, ∃ K2 : Int → Int, ∃ N2 : Int → Int, ∃ O2 : Int → Int, ∃ RR2 : Int → Int, ∃ ph2 : Int, oc = .returned (some (vj w2)) ∧ fx o o2 [lq, (lq + 1), (lq + 2), (lq + 3), (lq + 4), 90] G G2 ∧ cc o2 G2 q lq (ab_ob 5 [vR ki, vR ne, vR ot, vz cnt2, vz fi, vz la2, vR ra2, vz ru2, vz gr, vz wi, vz sz, vz fl, vz ve, vz mi, vR na, vR nl]) ∧ cc o2 G2 ki (lq + 1) (za 808 K2) ∧ cc o2 G2 ne (lq + 2) (za 808 N2) ∧ cc o2 G2 ot (lq + 3) (za 808 O2) ∧ cc o2 G2 ra2 (lq + 4) (za nr2 RR2) ∧ paI o2 G2 0 ps wt bs gq (prc RR2 ru2) ph2 ∧ (cnt ≤ cnt2 ∧ cnt2 ≤ 808 ∧ 0 ≤ la2 ∧ la2 ≤ 1) ∧ (0 ≤ w2 ∧ w2 / 4294967296 < cnt2 ∧ w2 % 4294967296 < cnt2) ∧ (0 ≤ ru2 ∧ ru2 ≤ ↑nr2 ∧ ↑nr2 ≤ (100000 : Int) ∧ nr ≤ nr2) ∧ (0 ≤ ph2 ∧ ru2 + ph2 ≤ ru + ph) ∧ (prok K2 N2 O2 RR2 cnt2 ru2 wi) ∧ (hrr RR2 ↑nr2) ∧ (rch RR2 ru2) ∧ (kext K K2 cnt) ∧ (fzr ps o o2 G G2) ∧ (32 * G2.length + nr ≤ 32 * G.length + nr2) ∧ (ab_slots G2 + 2 * nr ≤ ab_slots G + 2 * nr2))) : ab_F X d y_PR_row (.code y_PR_row b_PR_row 8 (some (.long))) [vR q, vR rwx, vj w, vz dd] G (fun oc G2 => ∃ o2 : Nat → Nat, ∃ w2 : Int, ∃ cnt2 : Int, ∃ la2 : Int, ∃ ra2 : Nat, ∃ nr2 : Nat, ∃ ru2 : Int, ∃ K2 : Int → Int, ∃ N2 : Int → Int, ∃ O2 : Int → Int, ∃ RR2 : Int → Int, ∃ ph2 : Int, oc = .returned (some (vj w2)) ∧ fx o o2 [lq, (lq + 1), (lq + 2), (lq + 3), (lq + 4), 90] G G2 ∧ cc o2 G2 q lq (ab_ob 5 [vR ki, vR ne, vR ot, vz cnt2, vz fi, vz la2, vR ra2, vz ru2, vz gr, vz wi, vz sz, vz fl, vz ve, vz mi, vR na, vR nl]) ∧ cc o2 G2 ki (lq + 1) (za 808 K2) ∧ cc o2 G2 ne (lq + 2) (za 808 N2) ∧ cc o2 G2 ot (lq + 3) (za 808 O2) ∧ cc o2 G2 ra2 (lq + 4) (za nr2 RR2) ∧ paI o2 G2 0 ps wt bs gq (prc RR2 ru2) ph2 ∧ (cnt ≤ cnt2 ∧ cnt2 ≤ 808 ∧ 0 ≤ la2 ∧ la2 ≤ 1) ∧ (0 ≤ w2 ∧ w2 / 4294967296 < cnt2 ∧ w2 % 4294967296 < cnt2) ∧ (0 ≤ ru2 ∧ ru2 ≤ ↑nr2 ∧ ↑nr2 ≤ (100000 : Int) ∧ nr ≤ nr2) ∧ (0 ≤ ph2 ∧ ru2 + ph2 ≤ ru + ph) ∧ (prok K2 N2 O2 RR2 cnt2 ru2 wi) ∧ (hrr RR2 ↑nr2) ∧ (rch RR2 ru2) ∧ (kext K K2 cnt) ∧ (fzr ps o o2 G G2) ∧ (32 * G2.length + nr ≤ 32 * G.length + nr2) ∧ (ab_slots G2 + 2 * nr ≤ ab_slots G + 2 * nr2)) := by
  refine ab_F_of (by decide +kernel) (Nat.le_of_ble_eq_true rfl) ?_
  obtain ⟨Q, hQ⟩ : ∃ z : Outcome → ab_G → Prop, z = (fun oc G2 => ∃ o2 : Nat → Nat, ∃ w2 : Int, ∃ cnt2 : Int, ∃ la2 : Int, ∃ ra2 : Nat, ∃ nr2 : Nat, ∃ ru2 : Int, ∃ K2 : Int → Int, ∃ N2 : Int → Int, ∃ O2 : Int → Int, ∃ RR2 : Int → Int, ∃ ph2 : Int, oc = .returned (some (vj w2)) ∧ fx o o2 [lq, (lq + 1), (lq + 2), (lq + 3), (lq + 4), 90] G G2 ∧ cc o2 G2 q lq (ab_ob 5 [vR ki, vR ne, vR ot, vz cnt2, vz fi, vz la2, vR ra2, vz ru2, vz gr, vz wi, vz sz, vz fl, vz ve, vz mi, vR na, vR nl]) ∧ cc o2 G2 ki (lq + 1) (za 808 K2) ∧ cc o2 G2 ne (lq + 2) (za 808 N2) ∧ cc o2 G2 ot (lq + 3) (za 808 O2) ∧ cc o2 G2 ra2 (lq + 4) (za nr2 RR2) ∧ paI o2 G2 0 ps wt bs gq (prc RR2 ru2) ph2 ∧ (cnt ≤ cnt2 ∧ cnt2 ≤ 808 ∧ 0 ≤ la2 ∧ la2 ≤ 1) ∧ (0 ≤ w2 ∧ w2 / 4294967296 < cnt2 ∧ w2 % 4294967296 < cnt2) ∧ (0 ≤ ru2 ∧ ru2 ≤ ↑nr2 ∧ ↑nr2 ≤ (100000 : Int) ∧ nr ≤ nr2) ∧ (0 ≤ ph2 ∧ ru2 + ph2 ≤ ru + ph) ∧ (prok K2 N2 O2 RR2 cnt2 ru2 wi) ∧ (hrr RR2 ↑nr2) ∧ (rch RR2 ru2) ∧ (kext K K2 cnt) ∧ (fzr ps o o2 G G2) ∧ (32 * G2.length + nr ≤ 32 * G.length + nr2) ∧ (ab_slots G2 + 2 * nr ≤ ab_slots G + 2 * nr2)) := ⟨_, rfl⟩
  rw [← hQ]
  change ab_W X (ab_pl y_PR_row b_PR_row 8 (some (.long))) d G 0 [some (vR q), some (vR rwx), some (vj w), none, some (vz dd), none, none, none] [] Q
  have hfr : fx o o [lq, (lq + 1), (lq + 2), (lq + 3), (lq + 4), 90] G G := fx.rf
  have hzr : fzr ps o o G G := fzr.rf
  obtain ⟨ls1, bf1, sz1, mb1, hrwx, hB1, hl1, hf1⟩ := ppaI_0.2.1 rwx hpr
  refine ab_lload_n d_PR_row_0 rfl ?_
  refine ab_lstore d_PR_row_1 (Nat.le_of_ble_eq_true rfl) (Nat.le_of_ble_eq_true rfl) rfl ?_
  change ab_W _ _ _ G 3 [some (vR q), some (vR rwx), some (vj w), none, some (vz dd), some (vj w), none, none] [] _
  refine ab_aload_n d_PR_row_3 rfl ?_
  refine ab_getf (fs := [vz 5, vz 0, vN, vz (-1), vz 0, vN, ls1, bf1, vz sz1, vz mb1, vz 0, vz 0, vz 0, vz 0, vz (-1)]) f_PR_127 d_PR_row_4 hrwx.2.2 rfl ?_
  change ab_W _ _ _ G 7 [some (vR q), some (vR rwx), some (vj w), none, some (vz dd), some (vj w), none, none] [ls1] _
  rcases hl1 with hz3 | ⟨b2, hz3, hp4, hl5⟩
  · subst hz3
    change ab_W _ _ _ G 7 [some (vR q), some (vR rwx), some (vj w), none, some (vz dd), some (vj w), none, none] [vN] _
    refine ab_astoreN d_PR_row_7 (Nat.le_of_ble_eq_true rfl) (Nat.le_of_ble_eq_true rfl) rfl ?_
    change ab_W _ _ _ G 9 [some (vR q), some (vR rwx), some (vj w), none, some (vz dd), some (vj w), none, some (vN)] [] _
    refine ab_less (L' := [some (vR q), none, none, none, some (vz dd), some (vj w), none, some (vN)]) (fun i v h => by rcases i with _ | _ | _ | _ | _ | _ | _ | _ | i <;> first | exact h | (simp at h)) ?_
    refine y_PR_row_9 (q := q) (lq := lq) (ki := ki) (ne := ne) (ot := ot) (fi := fi) (gr := gr) (wi := wi) (sz := sz) (fl := fl) (ve := ve) (mi := mi) (na := na) (nl := nl) (ps := ps) (wt := wt) (bs := bs) (gq := gq) (dd := dd) (K9 := K) (c9 := cnt) (s9 := (ru + ph)) (n9 := nr) (G0 := G) (cnt := cnt) (la := la) (ra := ra) (ru := ru) (K := K) (N := N) (O := O) (RR := RR) (nr := nr) (ph := ph) (pt_ := vN) (hb_ := G.length) (ev := w) (by omega) (by omega) (by omega) (by omega) (by omega) (by omega) ihR (Int.toNat (↑G.length : Int) + 1) hq hki hne hot hra ppaI_0 (by omega) hp_ hch hr ck0 (by omega) kext.rf (by omega) fzr.rf (by omega) (by omega) (Or.inl rfl) fx.rf (by omega) (fun G6 o7 w28 cnt29 la210 ra211 nr212 ru213 K214 N215 O216 RR217 ph218 hNq hNki hNne hNot hNra211 pNpaI_0 hq19 hq20 hq21 hq22 hq23 hq24 hq25 hq26 hq27 hq28 hq29 hfk => ?_)
    · have hrwx := hfk.get hrwx (by simp only [List.mem_cons, List.not_mem_nil, or_false]; omega)
      have hfr := hfr.tr hfk (by simp)
      have hq30 := hfk.1
      have hq := hNq
      have hki := hNki
      have hne := hNne
      have hot := hNot
      have hra211 := hNra211
      have ppaI_0 := pNpaI_0
      have hzr := hzr.tr hq27
      rw [hQ]; exact ⟨_, _, _, _, _, _, _, _, _, _, _, _, rfl, hfr, hq, hki, hne, hot, hra211, ppaI_0, (by omega), (by omega), (by omega), (by omega), (by exact hq23), (by exact hq24), (by exact hq25), (by exact hq26), (by exact hzr), (by omega), (by omega)⟩
  · subst hz3
    change ab_W _ _ _ G 7 [some (vR q), some (vR rwx), some (vj w), none, some (vz dd), some (vj w), none, none] [vR b2] _
    refine ab_astore d_PR_row_7 (Nat.le_of_ble_eq_true rfl) (Nat.le_of_ble_eq_true rfl) rfl ?_
    change ab_W _ _ _ G 9 [some (vR q), some (vR rwx), some (vj w), none, some (vz dd), some (vj w), none, some (vR b2)] [] _
    refine ab_less (L' := [some (vR q), none, none, none, some (vz dd), some (vj w), none, some (vR b2)]) (fun i v h => by rcases i with _ | _ | _ | _ | _ | _ | _ | _ | i <;> first | exact h | (simp at h)) ?_
    refine y_PR_row_9 (q := q) (lq := lq) (ki := ki) (ne := ne) (ot := ot) (fi := fi) (gr := gr) (wi := wi) (sz := sz) (fl := fl) (ve := ve) (mi := mi) (na := na) (nl := nl) (ps := ps) (wt := wt) (bs := bs) (gq := gq) (dd := dd) (K9 := K) (c9 := cnt) (s9 := (ru + ph)) (n9 := nr) (G0 := G) (cnt := cnt) (la := la) (ra := ra) (ru := ru) (K := K) (N := N) (O := O) (RR := RR) (nr := nr) (ph := ph) (pt_ := vR b2) (hb_ := G.length) (ev := w) (by omega) (by omega) (by omega) (by omega) (by omega) (by omega) ihR (Int.toNat (↑G.length : Int) + 1) hq hki hne hot hra ppaI_0 (by omega) hp_ hch hr ck0 (by omega) kext.rf (by omega) fzr.rf (by omega) (by omega) (Or.inr ⟨_, rfl, hp4, by omega⟩) fx.rf (by omega) (fun G31 o32 w233 cnt234 la235 ra236 nr237 ru238 K239 N240 O241 RR242 ph243 hNq hNki hNne hNot hNra236 pNpaI_0 hq44 hq45 hq46 hq47 hq48 hq49 hq50 hq51 hq52 hq53 hq54 hfk => ?_)
    · have hrwx := hfk.get hrwx (by simp only [List.mem_cons, List.not_mem_nil, or_false]; omega)
      have hfr := hfr.tr hfk (by simp)
      have hq55 := hfk.1
      have hq := hNq
      have hki := hNki
      have hne := hNne
      have hot := hNot
      have hra236 := hNra236
      have ppaI_0 := pNpaI_0
      have hzr := hzr.tr hq52
      rw [hQ]; exact ⟨_, _, _, _, _, _, _, _, _, _, _, _, rfl, hfr, hq, hki, hne, hot, hra236, ppaI_0, (by omega), (by omega), (by omega), (by omega), (by exact hq48), (by exact hq49), (by exact hq50), (by exact hq51), (by exact hzr), (by omega), (by omega)⟩
set_option maxRecDepth 100000 in
set_option maxHeartbeats 4000000 in
theorem y_PR_rows_38 {X : ab_X} {d : Nat} {Q : Outcome → ab_G → Prop} {o0 : Nat → Nat} {G0 : ab_G} {q : Nat} {lq : Nat} {ki : Nat} {ne : Nat} {ot : Nat} {fi : Int} {gr : Int} {wi : Int} {sz : Int} {fl : Int} {ve : Int} {mi : Int} {na : Nat} {nl : Nat} {ps : Nat → Nat} {wt : Nat → Nat} {bs : Nat} {gq : Int} {w : Int} {dd : Int} {K9 : Int → Int} {c9 : Int} {s9 : Int} {n9 : Nat} (n18 : ab_n0 = 18) (cg_ : 0 ≤ gq ∧ gq ≤ 9 ∧ wi = 2 * (gq + 1)) (cdd : 0 ≤ dd ∧ dd ≤ 30) (hdd : 6 * (31 - dd) + 10 ≤ (↑d : Int)) (rc : 32 * G0.length + 103300 ≤ 32 * (ab_n0 + room_1.cells) + n9) (rs : ab_slots G0 + 200000 ≤ room_1.slots + 2 * n9) (ihR : ∀ {d : Nat} {o : Nat → Nat} {G : ab_G} {q : Nat} {lq : Nat} {ki : Nat} {ne : Nat} {ot : Nat} {cnt : Int} {fi : Int} {la : Int} {ra : Nat} {ru : Int} {gr : Int} {wi : Int} {sz : Int} {fl : Int} {ve : Int} {mi : Int} {na : Nat} {nl : Nat} {K : Int → Int} {N : Int → Int} {O : Int → Int} {RR : Int → Int} {nr : Nat} {ps : Nat → Nat} {wt : Nat → Nat} {bs : Nat} {ph : Int} {gq : Int} {p : Nat} {w : Int}, (cc o G q lq (ab_ob 5 [vR ki, vR ne, vR ot, vz cnt, vz fi, vz la, vR ra, vz ru, vz gr, vz wi, vz sz, vz fl, vz ve, vz mi, vR na, vR nl])) → (cc o G ki (lq + 1) (za 808 K)) → (cc o G ne (lq + 2) (za 808 N)) → (cc o G ot (lq + 3) (za 808 O)) → (cc o G ra (lq + 4) (za nr RR)) → (paI o G 0 ps wt bs gq (prc RR ru) ph) → (ab_n0 = 18) → (100 ≤ lq ∧ 2 ≤ cnt ∧ cnt ≤ 808 ∧ 0 ≤ la ∧ la ≤ 1 ∧ 0 ≤ ru ∧ ru ≤ ↑nr ∧ ↑nr ≤ (100000 : Int) ∧ 32 ≤ nr ∧ 0 ≤ ph ∧ ru + ph ≤ 50000) → (prok K N O RR cnt ru wi) → (rch RR ru) → (hrr RR ↑nr) → (K 0 = 9) → (0 ≤ gq ∧ gq ≤ 9 ∧ wi = 2 * (gq + 1)) → (ps p = 90) → (0 ≤ w ∧ w / 4294967296 < cnt ∧ w % 4294967296 < cnt) → (0 ≤ (dd + 1) ∧ (dd + 1) ≤ 31) → (6 * (31 - (dd + 1)) + 10 ≤ (↑d : Int)) → (32 * G.length + 103300 ≤ 32 * (ab_n0 + room_1.cells) + nr) → (ab_slots G + 200000 ≤ room_1.slots + 2 * nr) → ab_F X d y_PR_rows (.code y_PR_rows b_PR_rows 8 (some (.long))) [vR q, vR p, vj w, vz (dd + 1)] G (fun oc G2 => ∃ o2 : Nat → Nat, ∃ w2 : Int, ∃ cnt2 : Int, ∃ la2 : Int, ∃ ra2 : Nat, ∃ nr2 : Nat, ∃ ru2 : Int, ∃ K2 : Int → Int, ∃ N2 : Int → Int, ∃ O2 : Int → Int, ∃ RR2 : Int → Int, ∃ ph2 : Int, oc = .returned (some (vj w2)) ∧ fx o o2 [lq, (lq + 1), (lq + 2), (lq + 3), (lq + 4), 90] G G2 ∧ cc o2 G2 q lq (ab_ob 5 [vR ki, vR ne, vR ot, vz cnt2, vz fi, vz la2, vR ra2, vz ru2, vz gr, vz wi, vz sz, vz fl, vz ve, vz mi, vR na, vR nl]) ∧ cc o2 G2 ki (lq + 1) (za 808 K2) ∧ cc o2 G2 ne (lq + 2) (za 808 N2) ∧ cc o2 G2 ot (lq + 3) (za 808 O2) ∧ cc o2 G2 ra2 (lq + 4) (za nr2 RR2) ∧ paI o2 G2 0 ps wt bs gq (prc RR2 ru2) ph2 ∧ (cnt ≤ cnt2 ∧ cnt2 ≤ 808 ∧ 0 ≤ la2 ∧ la2 ≤ 1) ∧ (0 ≤ w2 ∧ w2 / 4294967296 < cnt2 ∧ w2 % 4294967296 < cnt2) ∧ (0 ≤ ru2 ∧ ru2 ≤ ↑nr2 ∧ ↑nr2 ≤ (100000 : Int) ∧ nr ≤ nr2) ∧ (0 ≤ ph2 ∧ ru2 + ph2 ≤ ru + ph) ∧ (prok K2 N2 O2 RR2 cnt2 ru2 wi) ∧ (hrr RR2 ↑nr2) ∧ (rch RR2 ru2) ∧ (kext K K2 cnt) ∧ (fzr ps o o2 G G2) ∧ (32 * G2.length + nr ≤ 32 * G.length + nr2) ∧ (ab_slots G2 + 2 * nr ≤ ab_slots G + 2 * nr2))) : ∀ (mz : Nat) {G : ab_G} {o : Nat → Nat} {cnt : Int} {la : Int} {ra : Nat} {ru : Int} {K : Int → Int} {N : Int → Int} {O : Int → Int} {RR : Int → Int} {nr : Nat} {ph : Int} {pt_ : Value} {hb_ : Nat} {ev : Int}, (cc o G q lq (ab_ob 5 [vR ki, vR ne, vR ot, vz cnt, vz fi, vz la, vR ra, vz ru, vz gr, vz wi, vz sz, vz fl, vz ve, vz mi, vR na, vR nl])) → (cc o G ki (lq + 1) (za 808 K)) → (cc o G ne (lq + 2) (za 808 N)) → (cc o G ot (lq + 3) (za 808 O)) → (cc o G ra (lq + 4) (za nr RR)) → (paI o G 0 ps wt bs gq (prc RR ru) ph) → (100 ≤ lq ∧ 2 ≤ cnt ∧ cnt ≤ 808 ∧ 0 ≤ la ∧ la ≤ 1 ∧ 0 ≤ ru ∧ ru ≤ ↑nr ∧ ↑nr ≤ (100000 : Int) ∧ 32 ≤ nr ∧ 0 ≤ ph ∧ ru + ph ≤ 50000) → (prok K N O RR cnt ru wi) → (rch RR ru) → (hrr RR ↑nr) → (K 0 = 9) → (0 ≤ w ∧ w / 4294967296 < cnt ∧ w % 4294967296 < cnt) → (0 ≤ ev ∧ ev / 4294967296 < cnt ∧ ev % 4294967296 < cnt) → (kext K9 K c9) → (c9 ≤ cnt ∧ ru + ph ≤ s9 ∧ n9 ≤ nr) → (fzr ps o0 o G0 G) → (32 * G.length + n9 ≤ 32 * G0.length + nr) → (ab_slots G + 2 * n9 ≤ ab_slots G0 + 2 * nr) → (plk ps 94 hb_ pt_) → (fx o0 o [lq, (lq + 1), (lq + 2), (lq + 3), (lq + 4), 90] G0 G) → (Int.toNat (↑hb_ : Int) < mz) → (∀ (G2 : ab_G) (o2 : Nat → Nat) (w2 : Int) (cnt2 : Int) (la2 : Int) (ra2 : Nat) (nr2 : Nat) (ru2 : Int) (K2 : Int → Int) (N2 : Int → Int) (O2 : Int → Int) (RR2 : Int → Int) (ph2 : Int), (cc o2 G2 q lq (ab_ob 5 [vR ki, vR ne, vR ot, vz cnt2, vz fi, vz la2, vR ra2, vz ru2, vz gr, vz wi, vz sz, vz fl, vz ve, vz mi, vR na, vR nl])) → (cc o2 G2 ki (lq + 1) (za 808 K2)) → (cc o2 G2 ne (lq + 2) (za 808 N2)) → (cc o2 G2 ot (lq + 3) (za 808 O2)) → (cc o2 G2 ra2 (lq + 4) (za nr2 RR2)) → (paI o2 G2 0 ps wt bs gq (prc RR2 ru2) ph2) → (c9 ≤ cnt2 ∧ cnt2 ≤ 808 ∧ 0 ≤ la2 ∧ la2 ≤ 1) → (0 ≤ w2 ∧ w2 / 4294967296 < cnt2 ∧ w2 % 4294967296 < cnt2) → (0 ≤ ru2 ∧ ru2 ≤ ↑nr2 ∧ ↑nr2 ≤ (100000 : Int) ∧ n9 ≤ nr2) → (0 ≤ ph2 ∧ ru2 + ph2 ≤ s9) → (prok K2 N2 O2 RR2 cnt2 ru2 wi) → (hrr RR2 ↑nr2) → (rch RR2 ru2) → (kext K9 K2 c9) → (fzr ps o0 o2 G0 G2) → (32 * G2.length + n9 ≤ 32 * G0.length + nr2) → (ab_slots G2 + 2 * n9 ≤ ab_slots G0 + 2 * nr2) → (fx o0 o2 [lq, (lq + 1), (lq + 2), (lq + 3), (lq + 4), 90] G0 G2) → Q (.returned (some (vj w2))) G2) → ab_W X (ab_pl y_PR_rows b_PR_rows 8 (some (.long))) d G 38 [some (vR q), none, some (vj w), none, some (vz dd), some (vj ev), none, some (pt_)] [] Q := by
  intro mz
  induction mz with
  | zero => intro G o cnt la ra ru K N O RR nr ph pt_ hb_ ev hq hki hne hot hra ppaI_0 cq hp_ hch hr ck0 cw cev hkx9 c99 hzr hgl hsl9 hpt hfr hm hk0; exact absurd hm (Nat.not_lt_zero _)
  | succ mz ih =>
    intro G o cnt la ra ru K N O RR nr ph pt_ hb_ ev hq hki hne hot hra ppaI_0 cq hp_ hch hr ck0 cw cev hkx9 c99 hzr hgl hsl9 hpt hfr hm hk0
    rcases hpt with hz2 | ⟨b1, hz2, hp3, hl4⟩
    · subst hz2
      change ab_W _ _ _ G 38 [some (vR q), none, some (vj w), none, some (vz dd), some (vj ev), none, some (vN)] [] _
      refine ab_aloadN d_PR_rows_38 rfl ?_
      refine ab_ifnullN (tgt := 70) d_PR_rows_40 (by decide) ?_
      refine ab_lload d_PR_rows_70 rfl ?_
      refine ab_lret rfl d_PR_rows_72 ?_
      exact hk0 _ _ _ _ _ _ _ _ _ _ _ _ _ hq hki hne hot hra ppaI_0 (by omega) (by omega) (by omega) (by omega) (by exact hp_) (by exact hr) (by exact hch) (by exact hkx9) (by exact hzr) (by omega) (by omega) hfr
    · subst hz2
      change ab_W _ _ _ G 38 [some (vR q), none, some (vj w), none, some (vz dd), some (vj ev), none, some (vR b1)] [] _
      refine ab_aload d_PR_rows_38 rfl ?_
      refine ab_ifnull d_PR_rows_40 ?_
      refine ab_aload_n d_PR_rows_43 rfl ?_
      refine ab_aload_n d_PR_rows_44 rfl ?_
      refine ab_aload d_PR_rows_45 rfl ?_
      refine ab_lload_n d_PR_rows_47 rfl ?_
      refine ab_iload d_PR_rows_48 rfl ?_
      refine ab_callV (d' := d - 1) (as := [vR b1, vj w, vz dd]) (st := [vR q]) (r := _) (z_PR_row (o := o) (q := q) (lq := lq) (ki := ki) (ne := ne) (ot := ot) (cnt := cnt) (fi := fi) (la := la) (ra := ra) (ru := ru) (gr := gr) (wi := wi) (sz := sz) (fl := fl) (ve := ve) (mi := mi) (na := na) (nl := nl) (K := K) (N := N) (O := O) (RR := RR) (nr := nr) (ps := ps) (wt := wt) (bs := bs) (ph := ph) (gq := gq) (w := w) (dd := dd) (rwx := b1) hq hki hne hot hra ppaI_0 (by omega) (by omega) hp_ hch hr ck0 (by omega) hp3 (by omega) (by omega) (by omega) (by omega) (by omega) ihR) (fun oc G2 h => by rcases h with ⟨_, _, _, _, _, _, _, _, _, _, _, _, h, _⟩ <;> exact ⟨_, h⟩) (by omega) m_PR_row ml_PR_131 im_PR_row se_PR_row c_PR hq.2.2 (Nat.le_of_ble_eq_true rfl) d_PR_rows_50 rfl ?_
      intro v G5 hq
      rcases hq with ⟨o6, w27, cnt28, la29, ra210, nr211, ru212, K213, N214, O215, RR216, ph217, hv, hfk, hNq, hNki, hNne, hNot, hNra210, pNpaI_0, hq18, hq19, hq20, hq21, hq22, hq23, hq24, hq25, hq26, hq27, hq28⟩
      cases hv
      have hzr := hzr.tr hq26
      have ppaI_0 := pNpaI_0
      have hfr := hfr.tr hfk (by simp)
      have hq29 := hfk.1
      have hq := hNq
      have hki := hNki
      have hne := hNne
      have hot := hNot
      have hra210 := hNra210
      change ab_W _ _ _ G5 53 [some (vR q), none, some (vj w), none, some (vz dd), some (vj ev), none, some (vR b1)] [vj w27, vR q] _
      refine ab_lload d_PR_rows_53 rfl ?_
      refine ab_callV (d' := d - 1) (as := [vj w27, vj ev]) (st := []) (r := _) (z_PR_fork (o := o6) (q := q) (lq := lq) (ki := ki) (ne := ne) (ot := ot) (cnt := cnt28) (fi := fi) (la := la29) (ra := ra210) (ru := ru212) (gr := gr) (wi := wi) (sz := sz) (fl := fl) (ve := ve) (mi := mi) (na := na) (nl := nl) (K := K213) (N := N214) (O := O215) (RR := RR216) (nr := nr211) (w := w27) (u := ev) hq hki hne hot hra210 (by omega) (by omega) hq22 (by omega) (by omega) (by omega)) (fun oc G2 h => by rcases h with ⟨_, _, _, _, _, _, h, _⟩ <;> exact ⟨_, h⟩) (by omega) m_PR_fork ml_PR_137 im_PR_fork se_PR_fork c_PR hq.2.2 (Nat.le_of_ble_eq_true rfl) d_PR_rows_55 rfl ?_
      intro v G30 hq
      rcases hq with ⟨w231, cnt232, la233, K234, N235, O236, hv, hfk, hlk, hsk, hNq, hNki, hNne, hNot, hq37, hq38, hq39, hq40⟩
      cases hv
      have hzr := hzr.tr (fzr.fx hfk (by simp only [List.mem_cons, List.not_mem_nil, or_false]; omega))
      have hra210 := hfk.get hra210 (by simp only [List.mem_cons, List.not_mem_nil, or_false]; omega)
      have ppaI_0 := paI.fr hfk ppaI_0 (by simp only [List.mem_cons, List.not_mem_nil, or_false]; omega) (by simp only [List.mem_cons, List.not_mem_nil, or_false]; omega) (by simp only [List.mem_cons, List.not_mem_nil, or_false]; omega) (by intro xx hx; simp only [List.mem_cons, List.not_mem_nil, or_false] at hx; omega)
      have hfr := hfr.tr hfk (by simp)
      have hq41 := hlk
      have hq42 := hsk
      have hq := hNq
      have hki := hNki
      have hne := hNne
      have hot := hNot
      change ab_W _ _ _ G30 58 [some (vR q), none, some (vj w), none, some (vz dd), some (vj ev), none, some (vR b1)] [vj w231] _
      refine ab_lstore d_PR_rows_58 (Nat.le_of_ble_eq_true rfl) (Nat.le_of_ble_eq_true rfl) rfl ?_
      change ab_W _ _ _ G30 60 [some (vR q), none, some (vj w), none, some (vz dd), some (vj w231), none, some (vR b1)] [] _
      obtain ⟨ls43, bf43, sz43, mb43, hb1, hB43, hl43, hf43⟩ := ppaI_0.2.1 b1 hp3
      refine ab_aload d_PR_rows_60 rfl ?_
      refine ab_getf (fs := [vz 5, vz 0, vN, vz (-1), vz 0, vN, ls43, bf43, vz sz43, vz mb43, vz 0, vz 0, vz 0, vz 0, vz (-1)]) f_PR_134 d_PR_rows_62 hb1.2.2 rfl ?_
      change ab_W _ _ _ G30 65 [some (vR q), none, some (vj w), none, some (vz dd), some (vj w231), none, some (vR b1)] [bf43] _
      rcases hf43 with hz45 | ⟨b44, hz45, hp46, hl47⟩
      · subst hz45
        change ab_W _ _ _ G30 65 [some (vR q), none, some (vj w), none, some (vz dd), some (vj w231), none, some (vR b1)] [vN] _
        refine ab_astoreN d_PR_rows_65 (Nat.le_of_ble_eq_true rfl) (Nat.le_of_ble_eq_true rfl) rfl ?_
        change ab_W _ _ _ G30 67 [some (vR q), none, some (vj w), none, some (vz dd), some (vj w231), none, some (vN)] [] _
        refine ab_goto (tgt := 38) d_PR_rows_67 (by decide) ?_
        exact ih (cnt := cnt232) (la := la233) (ra := ra210) (ru := ru212) (K := K234) (N := N235) (O := O236) (RR := RR216) (nr := nr211) (ph := ph217) (pt_ := vN) (hb_ := b1) (ev := w231) hq hki hne hot hra210 ppaI_0 (by omega) hq39 hq24 hq23 (((hq25.tr hq40 (by omega)) 0 (by omega) (by omega)).trans ck0) (by omega) (by omega) ((hkx9.tr hq25 (by omega)).tr hq40 (by omega)) (by omega) hzr (by omega) (by omega) (Or.inl rfl) hfr (by omega) hk0
      · subst hz45
        change ab_W _ _ _ G30 65 [some (vR q), none, some (vj w), none, some (vz dd), some (vj w231), none, some (vR b1)] [vR b44] _
        refine ab_astore d_PR_rows_65 (Nat.le_of_ble_eq_true rfl) (Nat.le_of_ble_eq_true rfl) rfl ?_
        change ab_W _ _ _ G30 67 [some (vR q), none, some (vj w), none, some (vz dd), some (vj w231), none, some (vR b44)] [] _
        refine ab_goto (tgt := 38) d_PR_rows_67 (by decide) ?_
        exact ih (cnt := cnt232) (la := la233) (ra := ra210) (ru := ru212) (K := K234) (N := N235) (O := O236) (RR := RR216) (nr := nr211) (ph := ph217) (pt_ := vR b44) (hb_ := b1) (ev := w231) hq hki hne hot hra210 ppaI_0 (by omega) hq39 hq24 hq23 (((hq25.tr hq40 (by omega)) 0 (by omega) (by omega)).trans ck0) (by omega) (by omega) ((hkx9.tr hq25 (by omega)).tr hq40 (by omega)) (by omega) hzr (by omega) (by omega) (Or.inr ⟨_, rfl, hp46, by omega⟩) hfr (by omega) hk0
set_option maxRecDepth 100000 in
set_option maxHeartbeats 4000000 in
theorem z_PR_rows {X : ab_X} {d : Nat} {o : Nat → Nat} {G : ab_G} {q : Nat} {lq : Nat} {ki : Nat} {ne : Nat} {ot : Nat} {cnt : Int} {fi : Int} {la : Int} {ra : Nat} {ru : Int} {gr : Int} {wi : Int} {sz : Int} {fl : Int} {ve : Int} {mi : Int} {na : Nat} {nl : Nat} {K : Int → Int} {N : Int → Int} {O : Int → Int} {RR : Int → Int} {nr : Nat} {ps : Nat → Nat} {wt : Nat → Nat} {bs : Nat} {ph : Int} {gq : Int} {p : Nat} {w : Int} {dd : Int} (hq : cc o G q lq (ab_ob 5 [vR ki, vR ne, vR ot, vz cnt, vz fi, vz la, vR ra, vz ru, vz gr, vz wi, vz sz, vz fl, vz ve, vz mi, vR na, vR nl])) (hki : cc o G ki (lq + 1) (za 808 K)) (hne : cc o G ne (lq + 2) (za 808 N)) (hot : cc o G ot (lq + 3) (za 808 O)) (hra : cc o G ra (lq + 4) (za nr RR)) (ppaI_0 : paI o G 0 ps wt bs gq (prc RR ru) ph) (n18 : ab_n0 = 18) (cq : 100 ≤ lq ∧ 2 ≤ cnt ∧ cnt ≤ 808 ∧ 0 ≤ la ∧ la ≤ 1 ∧ 0 ≤ ru ∧ ru ≤ ↑nr ∧ ↑nr ≤ (100000 : Int) ∧ 32 ≤ nr ∧ 0 ≤ ph ∧ ru + ph ≤ 50000) (hp_ : prok K N O RR cnt ru wi) (hch : rch RR ru) (hr : hrr RR ↑nr) (ck0 : K 0 = 9) (cg_ : 0 ≤ gq ∧ gq ≤ 9 ∧ wi = 2 * (gq + 1)) (hpp : ps p = 90) (cw : 0 ≤ w ∧ w / 4294967296 < cnt ∧ w % 4294967296 < cnt) (cdd : 0 ≤ dd ∧ dd ≤ 31) (hdd : 6 * (31 - dd) + 10 ≤ (↑d : Int)) (rc : 32 * G.length + 103300 ≤ 32 * (ab_n0 + room_1.cells) + nr) (rs : ab_slots G + 200000 ≤ room_1.slots + 2 * nr) (ihR : ∀ {d : Nat} {o : Nat → Nat} {G : ab_G} {q : Nat} {lq : Nat} {ki : Nat} {ne : Nat} {ot : Nat} {cnt : Int} {fi : Int} {la : Int} {ra : Nat} {ru : Int} {gr : Int} {wi : Int} {sz : Int} {fl : Int} {ve : Int} {mi : Int} {na : Nat} {nl : Nat} {K : Int → Int} {N : Int → Int} {O : Int → Int} {RR : Int → Int} {nr : Nat} {ps : Nat → Nat} {wt : Nat → Nat} {bs : Nat} {ph : Int} {gq : Int} {p : Nat} {w : Int}, (cc o G q lq (ab_ob 5 [vR ki, vR ne, vR ot, vz cnt, vz fi, vz la, vR ra, vz ru, vz gr, vz wi, vz sz, vz fl, vz ve, vz mi, vR na, vR nl])) → (cc o G ki (lq + 1) (za 808 K)) → (cc o G ne (lq + 2) (za 808 N)) → (cc o G ot (lq + 3) (za 808 O)) → (cc o G ra (lq + 4) (za nr RR)) → (paI o G 0 ps wt bs gq (prc RR ru) ph) → (ab_n0 = 18) → (100 ≤ lq ∧ 2 ≤ cnt ∧ cnt ≤ 808 ∧ 0 ≤ la ∧ la ≤ 1 ∧ 0 ≤ ru ∧ ru ≤ ↑nr ∧ ↑nr ≤ (100000 : Int) ∧ 32 ≤ nr ∧ 0 ≤ ph ∧ ru + ph ≤ 50000) → (prok K N O RR cnt ru wi) → (rch RR ru) → (hrr RR ↑nr) → (K 0 = 9) → (0 ≤ gq ∧ gq ≤ 9 ∧ wi = 2 * (gq + 1)) → (ps p = 90) → (0 ≤ w ∧ w / 4294967296 < cnt ∧ w % 4294967296 < cnt) → (0 ≤ (dd + 1) ∧ (dd + 1) ≤ 31) → (6 * (31 - (dd + 1)) + 10 ≤ (↑d : Int)) → (32 * G.length + 103300 ≤ 32 * (ab_n0 + room_1.cells) + nr) → (ab_slots G + 200000 ≤ room_1.slots + 2 * nr) → ab_F X d y_PR_rows (.code y_PR_rows b_PR_rows 8 (some (.long))) [vR q, vR p, vj w, vz (dd + 1)] G (fun oc G2 => ∃ o2 : Nat → Nat, ∃ w2 : Int, ∃ cnt2 : Int, ∃ la2 : Int, ∃ ra2 : Nat, ∃ nr2 : Nat, ∃ ru2 : Int, ∃ K2 : Int → Int, ∃ N2 : Int → Int, ∃ O2 : Int → Int, ∃ RR2 : Int → Int, ∃ ph2 : Int, oc = .returned (some (vj w2)) ∧ fx o o2 [lq, (lq + 1), (lq + 2), (lq + 3), (lq + 4), 90] G G2 ∧ cc o2 G2 q lq (ab_ob 5 [vR ki, vR ne, vR ot, vz cnt2, vz fi, vz la2, vR ra2, vz ru2, vz gr, vz wi, vz sz, vz fl, vz ve, vz mi, vR na, vR nl]) ∧ cc o2 G2 ki (lq + 1) (za 808 K2) ∧ cc o2 G2 ne (lq + 2) (za 808 N2) ∧ cc o2 G2 ot (lq + 3) (za 808 O2) ∧ cc o2 G2 ra2 (lq + 4) (za nr2 RR2) ∧ paI o2 G2 0 ps wt bs gq (prc RR2 ru2) ph2 ∧ (cnt ≤ cnt2 ∧ cnt2 ≤ 808 ∧ 0 ≤ la2 ∧ la2 ≤ 1) ∧ (0 ≤ w2 ∧ w2 / 4294967296 < cnt2 ∧ w2 % 4294967296 < cnt2) ∧ (0 ≤ ru2 ∧ ru2 ≤ ↑nr2 ∧ ↑nr2 ≤ (100000 : Int) ∧ nr ≤ nr2) ∧ (0 ≤ ph2 ∧ ru2 + ph2 ≤ ru + ph) ∧ (prok K2 N2 O2 RR2 cnt2 ru2 wi) ∧ (hrr RR2 ↑nr2) ∧ (rch RR2 ru2) ∧ (kext K K2 cnt) ∧ (fzr ps o o2 G G2) ∧ (32 * G2.length + nr ≤ 32 * G.length + nr2) ∧ (ab_slots G2 + 2 * nr ≤ ab_slots G + 2 * nr2))) : ab_F X d y_PR_rows (.code y_PR_rows b_PR_rows 8 (some (.long))) [vR q, vR p, vj w, vz dd] G (fun oc G2 => ∃ o2 : Nat → Nat, ∃ w2 : Int, ∃ cnt2 : Int, ∃ la2 : Int, ∃ ra2 : Nat, ∃ nr2 : Nat, ∃ ru2 : Int, ∃ K2 : Int → Int, ∃ N2 : Int → Int, ∃ O2 : Int → Int, ∃ RR2 : Int → Int, ∃ ph2 : Int, oc = .returned (some (vj w2)) ∧ fx o o2 [lq, (lq + 1), (lq + 2), (lq + 3), (lq + 4), 90] G G2 ∧ cc o2 G2 q lq (ab_ob 5 [vR ki, vR ne, vR ot, vz cnt2, vz fi, vz la2, vR ra2, vz ru2, vz gr, vz wi, vz sz, vz fl, vz ve, vz mi, vR na, vR nl]) ∧ cc o2 G2 ki (lq + 1) (za 808 K2) ∧ cc o2 G2 ne (lq + 2) (za 808 N2) ∧ cc o2 G2 ot (lq + 3) (za 808 O2) ∧ cc o2 G2 ra2 (lq + 4) (za nr2 RR2) ∧ paI o2 G2 0 ps wt bs gq (prc RR2 ru2) ph2 ∧ (cnt ≤ cnt2 ∧ cnt2 ≤ 808 ∧ 0 ≤ la2 ∧ la2 ≤ 1) ∧ (0 ≤ w2 ∧ w2 / 4294967296 < cnt2 ∧ w2 % 4294967296 < cnt2) ∧ (0 ≤ ru2 ∧ ru2 ≤ ↑nr2 ∧ ↑nr2 ≤ (100000 : Int) ∧ nr ≤ nr2) ∧ (0 ≤ ph2 ∧ ru2 + ph2 ≤ ru + ph) ∧ (prok K2 N2 O2 RR2 cnt2 ru2 wi) ∧ (hrr RR2 ↑nr2) ∧ (rch RR2 ru2) ∧ (kext K K2 cnt) ∧ (fzr ps o o2 G G2) ∧ (32 * G2.length + nr ≤ 32 * G.length + nr2) ∧ (ab_slots G2 + 2 * nr ≤ ab_slots G + 2 * nr2)) := by
  refine ab_F_of (by decide +kernel) (Nat.le_of_ble_eq_true rfl) ?_
  obtain ⟨Q, hQ⟩ : ∃ z : Outcome → ab_G → Prop, z = (fun oc G2 => ∃ o2 : Nat → Nat, ∃ w2 : Int, ∃ cnt2 : Int, ∃ la2 : Int, ∃ ra2 : Nat, ∃ nr2 : Nat, ∃ ru2 : Int, ∃ K2 : Int → Int, ∃ N2 : Int → Int, ∃ O2 : Int → Int, ∃ RR2 : Int → Int, ∃ ph2 : Int, oc = .returned (some (vj w2)) ∧ fx o o2 [lq, (lq + 1), (lq + 2), (lq + 3), (lq + 4), 90] G G2 ∧ cc o2 G2 q lq (ab_ob 5 [vR ki, vR ne, vR ot, vz cnt2, vz fi, vz la2, vR ra2, vz ru2, vz gr, vz wi, vz sz, vz fl, vz ve, vz mi, vR na, vR nl]) ∧ cc o2 G2 ki (lq + 1) (za 808 K2) ∧ cc o2 G2 ne (lq + 2) (za 808 N2) ∧ cc o2 G2 ot (lq + 3) (za 808 O2) ∧ cc o2 G2 ra2 (lq + 4) (za nr2 RR2) ∧ paI o2 G2 0 ps wt bs gq (prc RR2 ru2) ph2 ∧ (cnt ≤ cnt2 ∧ cnt2 ≤ 808 ∧ 0 ≤ la2 ∧ la2 ≤ 1) ∧ (0 ≤ w2 ∧ w2 / 4294967296 < cnt2 ∧ w2 % 4294967296 < cnt2) ∧ (0 ≤ ru2 ∧ ru2 ≤ ↑nr2 ∧ ↑nr2 ≤ (100000 : Int) ∧ nr ≤ nr2) ∧ (0 ≤ ph2 ∧ ru2 + ph2 ≤ ru + ph) ∧ (prok K2 N2 O2 RR2 cnt2 ru2 wi) ∧ (hrr RR2 ↑nr2) ∧ (rch RR2 ru2) ∧ (kext K K2 cnt) ∧ (fzr ps o o2 G G2) ∧ (32 * G2.length + nr ≤ 32 * G.length + nr2) ∧ (ab_slots G2 + 2 * nr ≤ ab_slots G + 2 * nr2)) := ⟨_, rfl⟩
  rw [← hQ]
  change ab_W X (ab_pl y_PR_rows b_PR_rows 8 (some (.long))) d G 0 [some (vR q), some (vR p), some (vj w), none, some (vz dd), none, none, none] [] Q
  have hfr : fx o o [lq, (lq + 1), (lq + 2), (lq + 3), (lq + 4), 90] G G := fx.rf
  have hzr : fzr ps o o G G := fzr.rf
  obtain ⟨k_1, v_1, rg_1, pl_1, fl_1, ou_1, ls_1, bf_1, sz_1, mb_1, oe_1, le_1, mo_1, la_1, rc_1, hp, hn1, hb1, hg1, ho1, hl1, hf1⟩ := ppaI_0.1 p hpp
  have hB1 := hb1
  unfold pnB at hB1
  have hK1 := hn1.1
  refine ab_aload_n d_PR_rows_0 rfl ?_
  refine ab_getf (fs := [vz k_1, vz v_1, rg_1, vz pl_1, vz fl_1, ou_1, ls_1, bf_1, vz sz_1, vz mb_1, vz oe_1, vz le_1, vz mo_1, vz la_1, vz rc_1]) f_PR_127 d_PR_rows_1 hp.2.2 rfl ?_
  change ab_W _ _ _ G 4 [some (vR q), some (vR p), some (vj w), none, some (vz dd), none, none, none] [ls_1] _
  rcases hl1 with hz3 | ⟨b2, hz3, hp4, hl5⟩
  · subst hz3
    change ab_W _ _ _ G 4 [some (vR q), some (vR p), some (vj w), none, some (vz dd), none, none, none] [vN] _
    refine ab_ifnullN (tgt := 14) d_PR_rows_4 (by decide) ?_
    refine ab_lload_n d_PR_rows_14 rfl ?_
    refine ab_lret rfl d_PR_rows_15 ?_
    rw [hQ]; exact ⟨_, _, _, _, _, _, _, _, _, _, _, _, rfl, hfr, hq, hki, hne, hot, hra, ppaI_0, (by omega), (by omega), (by omega), (by omega), (by exact hp_), (by exact hr), (by exact hch), (by exact kext.rf), (by exact hzr), (by omega), (by omega)⟩
  · subst hz3
    change ab_W _ _ _ G 4 [some (vR q), some (vR p), some (vj w), none, some (vz dd), none, none, none] [vR b2] _
    refine ab_ifnull d_PR_rows_4 ?_
    refine ab_iload d_PR_rows_7 rfl ?_
    refine zz_bipush d_PR_rows_9 (by decide) ?_
    refine zz_icmp_le (tgt := 16) d_PR_rows_11 (by decide) (by omega) (by decide) (fun c6 => ?_) (fun c6 => ?_)
    · refine ab_aload_n d_PR_rows_16 rfl ?_
      refine ab_aload_n d_PR_rows_17 rfl ?_
      refine ab_getf (fs := [vz k_1, vz v_1, rg_1, vz pl_1, vz fl_1, ou_1, vR b2, bf_1, vz sz_1, vz mb_1, vz oe_1, vz le_1, vz mo_1, vz la_1, vz rc_1]) f_PR_127 d_PR_rows_18 hp.2.2 rfl ?_
      refine ab_lload_n d_PR_rows_21 rfl ?_
      refine ab_iload d_PR_rows_22 rfl ?_
      refine ab_callV (d' := d - 1) (as := [vR b2, vj w, vz dd]) (st := []) (r := _) (z_PR_row (o := o) (q := q) (lq := lq) (ki := ki) (ne := ne) (ot := ot) (cnt := cnt) (fi := fi) (la := la) (ra := ra) (ru := ru) (gr := gr) (wi := wi) (sz := sz) (fl := fl) (ve := ve) (mi := mi) (na := na) (nl := nl) (K := K) (N := N) (O := O) (RR := RR) (nr := nr) (ps := ps) (wt := wt) (bs := bs) (ph := ph) (gq := gq) (w := w) (dd := dd) (rwx := b2) hq hki hne hot hra ppaI_0 (by omega) (by omega) hp_ hch hr ck0 (by omega) hp4 (by omega) (by omega) (by omega) (by omega) (by omega) ihR) (fun oc G2 h => by rcases h with ⟨_, _, _, _, _, _, _, _, _, _, _, _, h, _⟩ <;> exact ⟨_, h⟩) (by omega) m_PR_row ml_PR_131 im_PR_row se_PR_row c_PR hq.2.2 (Nat.le_of_ble_eq_true rfl) d_PR_rows_24 rfl ?_
      intro v G7 hq
      rcases hq with ⟨o8, w29, cnt210, la211, ra212, nr213, ru214, K215, N216, O217, RR218, ph219, hv, hfk, hNq, hNki, hNne, hNot, hNra212, pNpaI_0, hq20, hq21, hq22, hq23, hq24, hq25, hq26, hq27, hq28, hq29, hq30⟩
      cases hv
      have hzr := hzr.tr hq28
      obtain ⟨rc31, hKp⟩ := hq28 _ _ _ _ _ _ _ _ _ _ _ _ _ _ _ _ hpp hp
      have hp := hKp
      have ppaI_0 := pNpaI_0
      have hfr := hfr.tr hfk (by simp)
      have hq32 := hfk.1
      have hq := hNq
      have hki := hNki
      have hne := hNne
      have hot := hNot
      have hra212 := hNra212
      change ab_W _ _ _ G7 27 [some (vR q), some (vR p), some (vj w), none, some (vz dd), none, none, none] [vj w29] _
      refine ab_lstore d_PR_rows_27 (Nat.le_of_ble_eq_true rfl) (Nat.le_of_ble_eq_true rfl) rfl ?_
      change ab_W _ _ _ G7 29 [some (vR q), some (vR p), some (vj w), none, some (vz dd), some (vj w29), none, none] [] _
      refine ab_aload_n d_PR_rows_29 rfl ?_
      refine ab_getf (fs := [vz k_1, vz v_1, rg_1, vz pl_1, vz fl_1, ou_1, vR b2, bf_1, vz sz_1, vz mb_1, vz oe_1, vz le_1, vz mo_1, vz la_1, vz rc31]) f_PR_127 d_PR_rows_30 hp.2.2 rfl ?_
      obtain ⟨ls33, bf33, sz33, mb33, hb2, hB33, hl33, hf33⟩ := ppaI_0.2.1 b2 hp4
      refine ab_getf (fs := [vz 5, vz 0, vN, vz (-1), vz 0, vN, ls33, bf33, vz sz33, vz mb33, vz 0, vz 0, vz 0, vz 0, vz (-1)]) f_PR_134 d_PR_rows_33 hb2.2.2 rfl ?_
      change ab_W _ _ _ G7 36 [some (vR q), some (vR p), some (vj w), none, some (vz dd), some (vj w29), none, none] [bf33] _
      rcases hf33 with hz35 | ⟨b34, hz35, hp36, hl37⟩
      · subst hz35
        change ab_W _ _ _ G7 36 [some (vR q), some (vR p), some (vj w), none, some (vz dd), some (vj w29), none, none] [vN] _
        refine ab_astoreN d_PR_rows_36 (Nat.le_of_ble_eq_true rfl) (Nat.le_of_ble_eq_true rfl) rfl ?_
        change ab_W _ _ _ G7 38 [some (vR q), some (vR p), some (vj w), none, some (vz dd), some (vj w29), none, some (vN)] [] _
        refine ab_less (L' := [some (vR q), none, some (vj w), none, some (vz dd), some (vj w29), none, some (vN)]) (fun i v h => by rcases i with _ | _ | _ | _ | _ | _ | _ | _ | i <;> first | exact h | (simp at h)) ?_
        refine y_PR_rows_38 (q := q) (lq := lq) (ki := ki) (ne := ne) (ot := ot) (fi := fi) (gr := gr) (wi := wi) (sz := sz) (fl := fl) (ve := ve) (mi := mi) (na := na) (nl := nl) (ps := ps) (wt := wt) (bs := bs) (gq := gq) (w := w) (dd := dd) (K9 := K215) (c9 := cnt210) (s9 := (ru214 + ph219)) (n9 := nr213) (G0 := G7) (cnt := cnt210) (la := la211) (ra := ra212) (ru := ru214) (K := K215) (N := N216) (O := O217) (RR := RR218) (nr := nr213) (ph := ph219) (pt_ := vN) (hb_ := G7.length) (ev := w29) (by omega) (by omega) (by omega) (by omega) (by omega) (by omega) ihR (Int.toNat (↑G7.length : Int) + 1) hq hki hne hot hra212 ppaI_0 (by omega) hq24 hq26 hq25 ((hq27 0 (by omega) (by omega)).trans ck0) (by omega) (by omega) kext.rf (by omega) fzr.rf (by omega) (by omega) (Or.inl rfl) fx.rf (by omega) (fun G38 o39 w240 cnt241 la242 ra243 nr244 ru245 K246 N247 O248 RR249 ph250 hNq hNki hNne hNot hNra243 pNpaI_0 hq51 hq52 hq53 hq54 hq55 hq56 hq57 hq58 hq59 hq60 hq61 hfk => ?_)
        · have hb2 := hfk.get hb2 (by simp only [List.mem_cons, List.not_mem_nil, or_false]; omega)
          have hfr := hfr.tr hfk (by simp)
          have hq62 := hfk.1
          have hq := hNq
          have hki := hNki
          have hne := hNne
          have hot := hNot
          have hra243 := hNra243
          have ppaI_0 := pNpaI_0
          have hzr := hzr.tr hq59
          rw [hQ]; exact ⟨_, _, _, _, _, _, _, _, _, _, _, _, rfl, hfr, hq, hki, hne, hot, hra243, ppaI_0, (by omega), (by omega), (by omega), (by omega), (by exact hq55), (by exact hq56), (by exact hq57), (by exact (hq27.tr hq58 (by omega))), (by exact hzr), (by omega), (by omega)⟩
      · subst hz35
        change ab_W _ _ _ G7 36 [some (vR q), some (vR p), some (vj w), none, some (vz dd), some (vj w29), none, none] [vR b34] _
        refine ab_astore d_PR_rows_36 (Nat.le_of_ble_eq_true rfl) (Nat.le_of_ble_eq_true rfl) rfl ?_
        change ab_W _ _ _ G7 38 [some (vR q), some (vR p), some (vj w), none, some (vz dd), some (vj w29), none, some (vR b34)] [] _
        refine ab_less (L' := [some (vR q), none, some (vj w), none, some (vz dd), some (vj w29), none, some (vR b34)]) (fun i v h => by rcases i with _ | _ | _ | _ | _ | _ | _ | _ | i <;> first | exact h | (simp at h)) ?_
        refine y_PR_rows_38 (q := q) (lq := lq) (ki := ki) (ne := ne) (ot := ot) (fi := fi) (gr := gr) (wi := wi) (sz := sz) (fl := fl) (ve := ve) (mi := mi) (na := na) (nl := nl) (ps := ps) (wt := wt) (bs := bs) (gq := gq) (w := w) (dd := dd) (K9 := K215) (c9 := cnt210) (s9 := (ru214 + ph219)) (n9 := nr213) (G0 := G7) (cnt := cnt210) (la := la211) (ra := ra212) (ru := ru214) (K := K215) (N := N216) (O := O217) (RR := RR218) (nr := nr213) (ph := ph219) (pt_ := vR b34) (hb_ := G7.length) (ev := w29) (by omega) (by omega) (by omega) (by omega) (by omega) (by omega) ihR (Int.toNat (↑G7.length : Int) + 1) hq hki hne hot hra212 ppaI_0 (by omega) hq24 hq26 hq25 ((hq27 0 (by omega) (by omega)).trans ck0) (by omega) (by omega) kext.rf (by omega) fzr.rf (by omega) (by omega) (Or.inr ⟨_, rfl, hp36, by omega⟩) fx.rf (by omega) (fun G63 o64 w265 cnt266 la267 ra268 nr269 ru270 K271 N272 O273 RR274 ph275 hNq hNki hNne hNot hNra268 pNpaI_0 hq76 hq77 hq78 hq79 hq80 hq81 hq82 hq83 hq84 hq85 hq86 hfk => ?_)
        · have hb2 := hfk.get hb2 (by simp only [List.mem_cons, List.not_mem_nil, or_false]; omega)
          have hfr := hfr.tr hfk (by simp)
          have hq87 := hfk.1
          have hq := hNq
          have hki := hNki
          have hne := hNne
          have hot := hNot
          have hra268 := hNra268
          have ppaI_0 := pNpaI_0
          have hzr := hzr.tr hq84
          rw [hQ]; exact ⟨_, _, _, _, _, _, _, _, _, _, _, _, rfl, hfr, hq, hki, hne, hot, hra268, ppaI_0, (by omega), (by omega), (by omega), (by omega), (by exact hq80), (by exact hq81), (by exact hq82), (by exact (hq27.tr hq83 (by omega))), (by exact hzr), (by omega), (by omega)⟩
    · refine ab_lload_n d_PR_rows_14 rfl ?_
      refine ab_lret rfl d_PR_rows_15 ?_
      rw [hQ]; exact ⟨_, _, _, _, _, _, _, _, _, _, _, _, rfl, hfr, hq, hki, hne, hot, hra, ppaI_0, (by omega), (by omega), (by omega), (by omega), (by exact hp_), (by exact hr), (by exact hch), (by exact kext.rf), (by exact hzr), (by omega), (by omega)⟩
set_option maxRecDepth 100000 in
set_option maxHeartbeats 4000000 in
theorem i_PR_rows {X : ab_X} : ∀ (fuel : Nat) {dd : Int}, 31 - dd ≤ (↑fuel : Int) → ∀ {d : Nat} {o : Nat → Nat} {G : ab_G} {q : Nat} {lq : Nat} {ki : Nat} {ne : Nat} {ot : Nat} {cnt : Int} {fi : Int} {la : Int} {ra : Nat} {ru : Int} {gr : Int} {wi : Int} {sz : Int} {fl : Int} {ve : Int} {mi : Int} {na : Nat} {nl : Nat} {K : Int → Int} {N : Int → Int} {O : Int → Int} {RR : Int → Int} {nr : Nat} {ps : Nat → Nat} {wt : Nat → Nat} {bs : Nat} {ph : Int} {gq : Int} {p : Nat} {w : Int}, (cc o G q lq (ab_ob 5 [vR ki, vR ne, vR ot, vz cnt, vz fi, vz la, vR ra, vz ru, vz gr, vz wi, vz sz, vz fl, vz ve, vz mi, vR na, vR nl])) → (cc o G ki (lq + 1) (za 808 K)) → (cc o G ne (lq + 2) (za 808 N)) → (cc o G ot (lq + 3) (za 808 O)) → (cc o G ra (lq + 4) (za nr RR)) → (paI o G 0 ps wt bs gq (prc RR ru) ph) → (ab_n0 = 18) → (100 ≤ lq ∧ 2 ≤ cnt ∧ cnt ≤ 808 ∧ 0 ≤ la ∧ la ≤ 1 ∧ 0 ≤ ru ∧ ru ≤ ↑nr ∧ ↑nr ≤ (100000 : Int) ∧ 32 ≤ nr ∧ 0 ≤ ph ∧ ru + ph ≤ 50000) → (prok K N O RR cnt ru wi) → (rch RR ru) → (hrr RR ↑nr) → (K 0 = 9) → (0 ≤ gq ∧ gq ≤ 9 ∧ wi = 2 * (gq + 1)) → (ps p = 90) → (0 ≤ w ∧ w / 4294967296 < cnt ∧ w % 4294967296 < cnt) → (0 ≤ dd ∧ dd ≤ 31) → (6 * (31 - dd) + 10 ≤ (↑d : Int)) → (32 * G.length + 103300 ≤ 32 * (ab_n0 + room_1.cells) + nr) → (ab_slots G + 200000 ≤ room_1.slots + 2 * nr) → ab_F X d y_PR_rows (.code y_PR_rows b_PR_rows 8 (some (.long))) [vR q, vR p, vj w, vz dd] G (fun oc G2 => ∃ o2 : Nat → Nat, ∃ w2 : Int, ∃ cnt2 : Int, ∃ la2 : Int, ∃ ra2 : Nat, ∃ nr2 : Nat, ∃ ru2 : Int, ∃ K2 : Int → Int, ∃ N2 : Int → Int, ∃ O2 : Int → Int, ∃ RR2 : Int → Int, ∃ ph2 : Int, oc = .returned (some (vj w2)) ∧ fx o o2 [lq, (lq + 1), (lq + 2), (lq + 3), (lq + 4), 90] G G2 ∧ cc o2 G2 q lq (ab_ob 5 [vR ki, vR ne, vR ot, vz cnt2, vz fi, vz la2, vR ra2, vz ru2, vz gr, vz wi, vz sz, vz fl, vz ve, vz mi, vR na, vR nl]) ∧ cc o2 G2 ki (lq + 1) (za 808 K2) ∧ cc o2 G2 ne (lq + 2) (za 808 N2) ∧ cc o2 G2 ot (lq + 3) (za 808 O2) ∧ cc o2 G2 ra2 (lq + 4) (za nr2 RR2) ∧ paI o2 G2 0 ps wt bs gq (prc RR2 ru2) ph2 ∧ (cnt ≤ cnt2 ∧ cnt2 ≤ 808 ∧ 0 ≤ la2 ∧ la2 ≤ 1) ∧ (0 ≤ w2 ∧ w2 / 4294967296 < cnt2 ∧ w2 % 4294967296 < cnt2) ∧ (0 ≤ ru2 ∧ ru2 ≤ ↑nr2 ∧ ↑nr2 ≤ (100000 : Int) ∧ nr ≤ nr2) ∧ (0 ≤ ph2 ∧ ru2 + ph2 ≤ ru + ph) ∧ (prok K2 N2 O2 RR2 cnt2 ru2 wi) ∧ (hrr RR2 ↑nr2) ∧ (rch RR2 ru2) ∧ (kext K K2 cnt) ∧ (fzr ps o o2 G G2) ∧ (32 * G2.length + nr ≤ 32 * G.length + nr2) ∧ (ab_slots G2 + 2 * nr ≤ ab_slots G + 2 * nr2)) := by
  intro fuel
  induction fuel with
  | zero =>
    intro dd hfu d o G q lq ki ne ot cnt fi la ra ru gr wi sz fl ve mi na nl K N O RR nr ps wt bs ph gq p w hq hki hne hot hra ppaI_0 n18 cq hp_ hch hr ck0 cg_ hpp cw cdd hdd rc rs
    exact z_PR_rows hq hki hne hot hra ppaI_0 n18 cq hp_ hch hr ck0 cg_ hpp cw cdd hdd rc rs (by intros; exfalso; omega)
  | succ fuel ih =>
    intro dd hfu d o G q lq ki ne ot cnt fi la ra ru gr wi sz fl ve mi na nl K N O RR nr ps wt bs ph gq p w hq hki hne hot hra ppaI_0 n18 cq hp_ hch hr ck0 cg_ hpp cw cdd hdd rc rs
    exact z_PR_rows hq hki hne hot hra ppaI_0 n18 cq hp_ hch hr ck0 cg_ hpp cw cdd hdd rc rs (ih (dd := dd + 1) (by omega))
set_option maxRecDepth 100000 in
set_option maxHeartbeats 4000000 in
theorem c_PR_rows {X : ab_X} {d : Nat} {o : Nat → Nat} {G : ab_G} {q : Nat} {lq : Nat} {ki : Nat} {ne : Nat} {ot : Nat} {cnt : Int} {fi : Int} {la : Int} {ra : Nat} {ru : Int} {gr : Int} {wi : Int} {sz : Int} {fl : Int} {ve : Int} {mi : Int} {na : Nat} {nl : Nat} {K : Int → Int} {N : Int → Int} {O : Int → Int} {RR : Int → Int} {nr : Nat} {ps : Nat → Nat} {wt : Nat → Nat} {bs : Nat} {ph : Int} {gq : Int} {p : Nat} {w : Int} {dd : Int} (hq : cc o G q lq (ab_ob 5 [vR ki, vR ne, vR ot, vz cnt, vz fi, vz la, vR ra, vz ru, vz gr, vz wi, vz sz, vz fl, vz ve, vz mi, vR na, vR nl])) (hki : cc o G ki (lq + 1) (za 808 K)) (hne : cc o G ne (lq + 2) (za 808 N)) (hot : cc o G ot (lq + 3) (za 808 O)) (hra : cc o G ra (lq + 4) (za nr RR)) (ppaI_0 : paI o G 0 ps wt bs gq (prc RR ru) ph) (n18 : ab_n0 = 18) (cq : 100 ≤ lq ∧ 2 ≤ cnt ∧ cnt ≤ 808 ∧ 0 ≤ la ∧ la ≤ 1 ∧ 0 ≤ ru ∧ ru ≤ ↑nr ∧ ↑nr ≤ (100000 : Int) ∧ 32 ≤ nr ∧ 0 ≤ ph ∧ ru + ph ≤ 50000) (hp_ : prok K N O RR cnt ru wi) (hch : rch RR ru) (hr : hrr RR ↑nr) (ck0 : K 0 = 9) (cg_ : 0 ≤ gq ∧ gq ≤ 9 ∧ wi = 2 * (gq + 1)) (hpp : ps p = 90) (cw : 0 ≤ w ∧ w / 4294967296 < cnt ∧ w % 4294967296 < cnt) (cdd : 0 ≤ dd ∧ dd ≤ 31) (hdd : 6 * (31 - dd) + 10 ≤ (↑d : Int)) (rc : 32 * G.length + 103300 ≤ 32 * (ab_n0 + room_1.cells) + nr) (rs : ab_slots G + 200000 ≤ room_1.slots + 2 * nr) : ab_F X d y_PR_rows (.code y_PR_rows b_PR_rows 8 (some (.long))) [vR q, vR p, vj w, vz dd] G (fun oc G2 => ∃ o2 : Nat → Nat, ∃ w2 : Int, ∃ cnt2 : Int, ∃ la2 : Int, ∃ ra2 : Nat, ∃ nr2 : Nat, ∃ ru2 : Int, ∃ K2 : Int → Int, ∃ N2 : Int → Int, ∃ O2 : Int → Int, ∃ RR2 : Int → Int, ∃ ph2 : Int, oc = .returned (some (vj w2)) ∧ fx o o2 [lq, (lq + 1), (lq + 2), (lq + 3), (lq + 4), 90] G G2 ∧ cc o2 G2 q lq (ab_ob 5 [vR ki, vR ne, vR ot, vz cnt2, vz fi, vz la2, vR ra2, vz ru2, vz gr, vz wi, vz sz, vz fl, vz ve, vz mi, vR na, vR nl]) ∧ cc o2 G2 ki (lq + 1) (za 808 K2) ∧ cc o2 G2 ne (lq + 2) (za 808 N2) ∧ cc o2 G2 ot (lq + 3) (za 808 O2) ∧ cc o2 G2 ra2 (lq + 4) (za nr2 RR2) ∧ paI o2 G2 0 ps wt bs gq (prc RR2 ru2) ph2 ∧ (cnt ≤ cnt2 ∧ cnt2 ≤ 808 ∧ 0 ≤ la2 ∧ la2 ≤ 1) ∧ (0 ≤ w2 ∧ w2 / 4294967296 < cnt2 ∧ w2 % 4294967296 < cnt2) ∧ (0 ≤ ru2 ∧ ru2 ≤ ↑nr2 ∧ ↑nr2 ≤ (100000 : Int) ∧ nr ≤ nr2) ∧ (0 ≤ ph2 ∧ ru2 + ph2 ≤ ru + ph) ∧ (prok K2 N2 O2 RR2 cnt2 ru2 wi) ∧ (hrr RR2 ↑nr2) ∧ (rch RR2 ru2) ∧ (kext K K2 cnt) ∧ (fzr ps o o2 G G2) ∧ (32 * G2.length + nr ≤ 32 * G.length + nr2) ∧ (ab_slots G2 + 2 * nr ≤ ab_slots G + 2 * nr2)) := i_PR_rows (31 - dd).toNat (by omega) hq hki hne hot hra ppaI_0 n18 cq hp_ hch hr ck0 cg_ hpp cw cdd hdd rc rs
