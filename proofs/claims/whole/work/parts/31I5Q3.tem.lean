set_option maxRecDepth 100000 in
set_option maxHeartbeats 4000000 in
theorem y_PR_groupNamed_40 {X : ab_X} {d : Nat} {Q : Outcome → ab_G → Prop} {o : Nat → Nat} {G0 : ab_G} {q : Nat} {lq : Nat} {ki : Nat} {ne : Nat} {ot : Nat} {cnt : Int} {fi : Int} {la : Int} {ra : Nat} {ru : Int} {gr : Int} {wi : Int} {sz : Int} {fl : Int} {ve : Int} {mi : Int} {na : Nat} {nl : Nat} {NA : Int → Int} {NL : Int → Int} {t : Nat} {it : Nat} {mt : Nat} {ft : Int → Int} {n1 : Int} {bg_ : Int} {ln_ : Int} {kk : Int} {fd : Int} (ct : 0 ≤ n1 ∧ n1 ≤ ↑mt ∧ ↑mt ≤ (2000 : Int) ∧ 1 ≤ mt) (cg : 0 ≤ gr ∧ gr ≤ 9) (cb : 0 ≤ bg_ ∧ bg_ ≤ 10000 ∧ -10 ≤ ln_ ∧ ln_ ≤ 10000 ∧ bg_ + ln_ ≤ n1) (jnl : rgs NL 10 0 12) (ck : 1 ≤ kk ∧ kk ≤ gr) (cln : 0 < ln_) (jna : nmB NL NA gr) (hft : bytes ft n1) (hd : 1 ≤ d) : ∀ (mz : Nat) {G : ab_G} {eq_ : Int} {j_ : Int}, (cc o G q lq (ab_ob 5 [vR ki, vR ne, vR ot, vz cnt, vz fi, vz la, vR ra, vz ru, vz gr, vz wi, vz sz, vz fl, vz ve, vz mi, vR na, vR nl])) → (cc o G na (lq + 5) (za 120 NA)) → (cc o G nl (lq + 6) (za 10 NL)) → (cc o G t 22 (ab_ob 7 [vz 2000, vR it, vz n1])) → (cc o G it 23 (za mt ft)) → (0 ≤ j_ ∧ j_ ≤ 20000 ∧ 0 ≤ eq_ ∧ eq_ ≤ 1) → (eq_ = 1 → NL kk = ln_ ∧ ln_ ≤ 12) → (gqI NL NA ft bg_ ln_ kk eq_ j_) → (fx o o [] G0 G) → (G.length = G0.length) → (ab_slots G = ab_slots G0) → (Int.toNat (ln_ - j_) < mz) → (∀ (G2 : ab_G) (e2 : Int), (0 ≤ e2 ∧ e2 ≤ 1) → (gqI NL NA ft bg_ ln_ kk e2 ln_) → (fx o o [] G0 G2) → (G2.length = G0.length) → (ab_slots G2 = ab_slots G0) → ab_W X (ab_pl y_PR_groupNamed b_PR_groupNamed 8 (some (.int))) d G2 88 [some (vR q), some (vR t), some (vz bg_), some (vz ln_), some (vz fd), some (vz kk), some (vz e2), none] [] Q) → ab_W X (ab_pl y_PR_groupNamed b_PR_groupNamed 8 (some (.int))) d G 40 [some (vR q), some (vR t), some (vz bg_), some (vz ln_), some (vz fd), some (vz kk), some (vz eq_), some (vz j_)] [] Q := by
  intro mz
  induction mz with
  | zero => intro G eq_ j_ hq hna hnl ht hit ci ceq jq hfr hlen hsl hm hk0; exact absurd hm (Nat.not_lt_zero _)
  | succ mz ih =>
    intro G eq_ j_ hq hna hnl ht hit ci ceq jq hfr hlen hsl hm hk0
    refine ab_iload d_PR_groupNamed_40 rfl ?_
    refine ab_iload_n d_PR_groupNamed_42 rfl ?_
    refine zz_icmp_ge (tgt := 88) d_PR_groupNamed_43 (by decide) (by omega) (by omega) (fun c1 => ?_) (fun c1 => ?_)
    · refine ab_less (L' := [some (vR q), some (vR t), some (vz bg_), some (vz ln_), some (vz fd), some (vz kk), some (vz eq_), none]) (fun i v h => by rcases i with _ | _ | _ | _ | _ | _ | _ | _ | i <;> first | exact h | (simp at h)) ?_
      exact hk0 _ _ (by omega) (by exact gqI_e jq (by first | (left; omega) | (right; omega))) hfr hlen hsl
    · refine ab_iload d_PR_groupNamed_46 rfl ?_
      refine zz_if_eq (tgt := 88) d_PR_groupNamed_48 (by decide) (by omega) (fun c2 => ?_) (fun c2 => ?_)
      · refine ab_less (L' := [some (vR q), some (vR t), some (vz bg_), some (vz ln_), some (vz fd), some (vz kk), some (vz eq_), none]) (fun i v h => by rcases i with _ | _ | _ | _ | _ | _ | _ | _ | i <;> first | exact h | (simp at h)) ?_
        exact hk0 _ _ (by omega) (by exact gqI_e jq (by first | (left; omega) | (right; omega))) hfr hlen hsl
      · have hce_ := ceq (by omega)
        refine ab_aload_n d_PR_groupNamed_51 rfl ?_
        refine ab_getf (fs := [vR ki, vR ne, vR ot, vz cnt, vz fi, vz la, vR ra, vz ru, vz gr, vz wi, vz sz, vz fl, vz ve, vz mi, vR na, vR nl]) f_PR_24 d_PR_groupNamed_52 hq.2.2 rfl ?_
        refine ab_iload d_PR_groupNamed_55 rfl ?_
        refine zz_bipush d_PR_groupNamed_57 (by decide) ?_
        refine zz_imul d_PR_groupNamed_59 ?_
        refine ab_iload d_PR_groupNamed_60 rfl ?_
        refine zz_iadd d_PR_groupNamed_62 ?_
        refine zz_iald d_PR_groupNamed_63 hna (by omega) ?_
        refine ab_aload_n d_PR_groupNamed_64 rfl ?_
        refine ab_iload_n d_PR_groupNamed_65 rfl ?_
        refine ab_iload d_PR_groupNamed_66 rfl ?_
        refine zz_iadd d_PR_groupNamed_68 ?_
        refine ab_callV (d' := d - 1) (as := [vz (bg_ + j_)]) (st := [vz (NA ((kk * 12) + j_))]) (r := _) (z_RW_at (o := o) (r := t) (b := it) (lr := 22) (lb := 23) (n := mt) (lim := 2000) (sz := n1) (f := ft) (i := (bg_ + j_)) ht hit (by omega) (by omega)) (fun oc G2 h => by rcases h with ⟨h, _⟩ | ⟨h, _⟩ <;> exact ⟨_, h⟩) (by omega) m_RW_at ml_PR_103 im_RW_at se_RW_at c_RW ht.2.2 (Nat.le_of_ble_eq_true rfl) d_PR_groupNamed_69 rfl ?_
        intro v G3 hq
        rcases hq with ⟨hv, hGe, hq4⟩ | ⟨hv, hGe, hq5⟩
        · cases hv
          rw [hGe]
          change ab_W _ _ _ G 72 [some (vR q), some (vR t), some (vz bg_), some (vz ln_), some (vz fd), some (vz kk), some (vz eq_), some (vz j_)] [vz (ft (bg_ + j_)), vz (NA ((kk * 12) + j_))] _
          have hb1_ := jna kk (by omega) (by omega) j_ (by omega) (by omega)
          have hb2_ := hft (bg_ + j_) (by omega) (by omega)
          refine zz_icmp_ne (tgt := 79) d_PR_groupNamed_72 (by decide) (by omega) (by omega) (fun c6 => ?_) (fun c6 => ?_)
          · refine zz_iconst d_PR_groupNamed_79 ?_
            refine ab_istore d_PR_groupNamed_80 (Nat.le_of_ble_eq_true rfl) (Nat.le_of_ble_eq_true rfl) rfl ?_
            change ab_W _ _ _ G 82 [some (vR q), some (vR t), some (vz bg_), some (vz ln_), some (vz fd), some (vz kk), some (vz 0), some (vz j_)] [] _
            refine zz_iinc d_PR_groupNamed_82 rfl (Nat.le_of_ble_eq_true rfl) (Nat.le_of_ble_eq_true rfl) rfl ?_
            change ab_W _ _ _ G 85 [some (vR q), some (vR t), some (vz bg_), some (vz ln_), some (vz fd), some (vz kk), some (vz 0), some (vz (j_ + 1))] [] _
            refine ab_goto (tgt := 40) d_PR_groupNamed_85 (by decide) ?_
            exact ih (eq_ := 0) (j_ := (j_ + 1)) hq hna hnl ht hit (by omega) (fun h => absurd h (by decide)) (gqI_s0 (by omega) (by omega)) hfr hlen hsl (by omega) hk0
          · refine zz_iconst d_PR_groupNamed_75 ?_
            refine ab_goto (tgt := 80) d_PR_groupNamed_76 (by decide) ?_
            refine ab_istore d_PR_groupNamed_80 (Nat.le_of_ble_eq_true rfl) (Nat.le_of_ble_eq_true rfl) rfl ?_
            change ab_W _ _ _ G 82 [some (vR q), some (vR t), some (vz bg_), some (vz ln_), some (vz fd), some (vz kk), some (vz 1), some (vz j_)] [] _
            refine zz_iinc d_PR_groupNamed_82 rfl (Nat.le_of_ble_eq_true rfl) (Nat.le_of_ble_eq_true rfl) rfl ?_
            change ab_W _ _ _ G 85 [some (vR q), some (vR t), some (vz bg_), some (vz ln_), some (vz fd), some (vz kk), some (vz 1), some (vz (j_ + 1))] [] _
            refine ab_goto (tgt := 40) d_PR_groupNamed_85 (by decide) ?_
            exact ih (eq_ := 1) (j_ := (j_ + 1)) hq hna hnl ht hit (by omega) (fun _ => hce_) (gqI_s1 jq (by omega) (by omega)) hfr hlen hsl (by omega) hk0
        · cases hv
          rw [hGe]
          change ab_W _ _ _ G 72 [some (vR q), some (vR t), some (vz bg_), some (vz ln_), some (vz fd), some (vz kk), some (vz eq_), some (vz j_)] [vz (-1), vz (NA ((kk * 12) + j_))] _
          exfalso; omega
set_option maxRecDepth 100000 in
set_option maxHeartbeats 4000000 in
theorem y_PR_groupNamed_6 {X : ab_X} {d : Nat} {Q : Outcome → ab_G → Prop} {o : Nat → Nat} {G0 : ab_G} {q : Nat} {lq : Nat} {ki : Nat} {ne : Nat} {ot : Nat} {cnt : Int} {fi : Int} {la : Int} {ra : Nat} {ru : Int} {gr : Int} {wi : Int} {sz : Int} {fl : Int} {ve : Int} {mi : Int} {na : Nat} {nl : Nat} {NA : Int → Int} {NL : Int → Int} {t : Nat} {it : Nat} {mt : Nat} {ft : Int → Int} {n1 : Int} {bg_ : Int} {ln_ : Int} (ct : 0 ≤ n1 ∧ n1 ≤ ↑mt ∧ ↑mt ≤ (2000 : Int) ∧ 1 ≤ mt) (cg : 0 ≤ gr ∧ gr ≤ 9) (cb : 0 ≤ bg_ ∧ bg_ ≤ 10000 ∧ -10 ≤ ln_ ∧ ln_ ≤ 10000 ∧ bg_ + ln_ ≤ n1) (jnl : rgs NL 10 0 12) (jna : nmB NL NA gr) (hft : bytes ft n1) (hd : 2 ≤ d) : ∀ (mz : Nat) {G : ab_G} {kk : Int} {fd : Int}, (cc o G q lq (ab_ob 5 [vR ki, vR ne, vR ot, vz cnt, vz fi, vz la, vR ra, vz ru, vz gr, vz wi, vz sz, vz fl, vz ve, vz mi, vR na, vR nl])) → (cc o G na (lq + 5) (za 120 NA)) → (cc o G nl (lq + 6) (za 10 NL)) → (cc o G t 22 (ab_ob 7 [vz 2000, vR it, vz n1])) → (cc o G it 23 (za mt ft)) → (1 ≤ kk ∧ kk ≤ gr + 1 ∧ -1 ≤ fd ∧ fd ≤ gr) → (gqF NL NA ft bg_ ln_ kk fd) → (fx o o [] G0 G) → (G.length = G0.length) → (ab_slots G = ab_slots G0) → (Int.toNat (gr + 1 - kk) < mz) → (∀ (G2 : ab_G) (f2 : Int), (-1 ≤ f2 ∧ f2 ≤ gr) → (gqO NL NA ft bg_ ln_ gr f2) → (fx o o [] G0 G2) → (G2.length = G0.length) → (ab_slots G2 = ab_slots G0) → ab_W X (ab_pl y_PR_groupNamed b_PR_groupNamed 8 (some (.int))) d G2 108 [none, none, none, none, some (vz f2), none, none, none] [] Q) → ab_W X (ab_pl y_PR_groupNamed b_PR_groupNamed 8 (some (.int))) d G 6 [some (vR q), some (vR t), some (vz bg_), some (vz ln_), some (vz fd), some (vz kk), none, none] [] Q := by
  intro mz
  induction mz with
  | zero => intro G kk fd hq hna hnl ht hit ci jf hfr hlen hsl hm hk0; exact absurd hm (Nat.not_lt_zero _)
  | succ mz ih =>
    intro G kk fd hq hna hnl ht hit ci jf hfr hlen hsl hm hk0
    refine ab_iload d_PR_groupNamed_6 rfl ?_
    refine ab_aload_n d_PR_groupNamed_8 rfl ?_
    refine ab_getf (fs := [vR ki, vR ne, vR ot, vz cnt, vz fi, vz la, vR ra, vz ru, vz gr, vz wi, vz sz, vz fl, vz ve, vz mi, vR na, vR nl]) f_PR_42 d_PR_groupNamed_9 hq.2.2 rfl ?_
    refine zz_icmp_gt (tgt := 108) d_PR_groupNamed_12 (by decide) (by omega) (by omega) (fun c1 => ?_) (fun c1 => ?_)
    · refine ab_less (L' := [none, none, none, none, some (vz fd), none, none, none]) (fun i v h => by rcases i with _ | _ | _ | _ | _ | _ | _ | _ | i <;> first | exact h | (simp at h)) ?_
      exact hk0 _ _ (by omega) (by exact gqO_of jf (by omega) (by first | (left; omega) | (right; omega))) hfr hlen hsl
    · refine ab_iload_n d_PR_groupNamed_15 rfl ?_
      refine zz_if_le (tgt := 108) d_PR_groupNamed_16 (by decide) (by omega) (fun c2 => ?_) (fun c2 => ?_)
      · refine ab_less (L' := [none, none, none, none, some (vz fd), none, none, none]) (fun i v h => by rcases i with _ | _ | _ | _ | _ | _ | _ | _ | i <;> first | exact h | (simp at h)) ?_
        exact hk0 _ _ (by omega) (by exact gqO_of jf (by omega) (by first | (left; omega) | (right; omega))) hfr hlen hsl
      · refine ab_aload_n d_PR_groupNamed_19 rfl ?_
        have hn_ := jnl kk (by omega) (by omega)
        refine ab_getf (fs := [vR ki, vR ne, vR ot, vz cnt, vz fi, vz la, vR ra, vz ru, vz gr, vz wi, vz sz, vz fl, vz ve, vz mi, vR na, vR nl]) f_PR_27 d_PR_groupNamed_20 hq.2.2 rfl ?_
        refine ab_iload d_PR_groupNamed_23 rfl ?_
        refine zz_iald d_PR_groupNamed_25 hnl (by omega) ?_
        refine ab_iload_n d_PR_groupNamed_26 rfl ?_
        refine zz_icmp_ne (tgt := 34) d_PR_groupNamed_27 (by decide) (by omega) (by omega) (fun c3 => ?_) (fun c3 => ?_)
        · refine zz_iconst d_PR_groupNamed_34 ?_
          refine ab_istore d_PR_groupNamed_35 (Nat.le_of_ble_eq_true rfl) (Nat.le_of_ble_eq_true rfl) rfl ?_
          change ab_W _ _ _ G 37 [some (vR q), some (vR t), some (vz bg_), some (vz ln_), some (vz fd), some (vz kk), some (vz 0), none] [] _
          refine zz_iconst d_PR_groupNamed_37 ?_
          refine ab_istore d_PR_groupNamed_38 (Nat.le_of_ble_eq_true rfl) (Nat.le_of_ble_eq_true rfl) rfl ?_
          change ab_W _ _ _ G 40 [some (vR q), some (vR t), some (vz bg_), some (vz ln_), some (vz fd), some (vz kk), some (vz 0), some (vz 0)] [] _
          refine y_PR_groupNamed_40 (q := q) (lq := lq) (ki := ki) (ne := ne) (ot := ot) (cnt := cnt) (fi := fi) (la := la) (ra := ra) (ru := ru) (gr := gr) (wi := wi) (sz := sz) (fl := fl) (ve := ve) (mi := mi) (na := na) (nl := nl) (NA := NA) (NL := NL) (t := t) (it := it) (mt := mt) (ft := ft) (n1 := n1) (bg_ := bg_) (ln_ := ln_) (kk := kk) (fd := fd) (G0 := G) (eq_ := 0) (j_ := 0) (by omega) (by omega) (by omega) jnl (by omega) (by omega) jna hft (by omega) (Int.toNat (ln_ - 0) + 1) hq hna hnl ht hit (by omega) (fun h => absurd h (by decide)) (gqI_0 (by omega)) fx.rf rfl rfl (by omega) (fun G4 e25 hq6 hq7 hfk hlk hsk => ?_)
          · have hq := hfk.get hq (by simp)
            have hna := hfk.get hna (by simp)
            have hnl := hfk.get hnl (by simp)
            have ht := hfk.get ht (by decide)
            have hit := hfk.get hit (by decide)
            have hfr := hfr.tr hfk (by decide)
            have hlen := hlk.trans hlen
            have hsl := hsk.trans hsl
            change ab_W _ _ _ G4 88 [some (vR q), some (vR t), some (vz bg_), some (vz ln_), some (vz fd), some (vz kk), some (vz e25), none] [] _
            refine ab_iload d_PR_groupNamed_88 rfl ?_
            refine zz_if_eq (tgt := 98) d_PR_groupNamed_90 (by decide) (by omega) (fun c8 => ?_) (fun c8 => ?_)
            · refine ab_iload d_PR_groupNamed_98 rfl ?_
              refine ab_istore d_PR_groupNamed_100 (Nat.le_of_ble_eq_true rfl) (Nat.le_of_ble_eq_true rfl) rfl ?_
              change ab_W _ _ _ G4 102 [some (vR q), some (vR t), some (vz bg_), some (vz ln_), some (vz fd), some (vz kk), some (vz e25), none] [] _
              refine zz_iinc d_PR_groupNamed_102 rfl (Nat.le_of_ble_eq_true rfl) (Nat.le_of_ble_eq_true rfl) rfl ?_
              change ab_W _ _ _ G4 105 [some (vR q), some (vR t), some (vz bg_), some (vz ln_), some (vz fd), some (vz (kk + 1)), some (vz e25), none] [] _
              refine ab_goto (tgt := 6) d_PR_groupNamed_105 (by decide) ?_
              refine ab_less (L' := [some (vR q), some (vR t), some (vz bg_), some (vz ln_), some (vz fd), some (vz (kk + 1)), none, none]) (fun i v h => by rcases i with _ | _ | _ | _ | _ | _ | _ | _ | i <;> first | exact h | (simp at h)) ?_
              exact ih (kk := (kk + 1)) (fd := fd) hq hna hnl ht hit (by omega) (gqF_n jf hq7 (by omega)) hfr hlen hsl (by omega) hk0
            · refine ab_iload d_PR_groupNamed_93 rfl ?_
              refine ab_goto (tgt := 100) d_PR_groupNamed_95 (by decide) ?_
              refine ab_istore d_PR_groupNamed_100 (Nat.le_of_ble_eq_true rfl) (Nat.le_of_ble_eq_true rfl) rfl ?_
              change ab_W _ _ _ G4 102 [some (vR q), some (vR t), some (vz bg_), some (vz ln_), some (vz kk), some (vz kk), some (vz e25), none] [] _
              refine zz_iinc d_PR_groupNamed_102 rfl (Nat.le_of_ble_eq_true rfl) (Nat.le_of_ble_eq_true rfl) rfl ?_
              change ab_W _ _ _ G4 105 [some (vR q), some (vR t), some (vz bg_), some (vz ln_), some (vz kk), some (vz (kk + 1)), some (vz e25), none] [] _
              refine ab_goto (tgt := 6) d_PR_groupNamed_105 (by decide) ?_
              refine ab_less (L' := [some (vR q), some (vR t), some (vz bg_), some (vz ln_), some (vz kk), some (vz (kk + 1)), none, none]) (fun i v h => by rcases i with _ | _ | _ | _ | _ | _ | _ | _ | i <;> first | exact h | (simp at h)) ?_
              exact ih (kk := (kk + 1)) (fd := kk) hq hna hnl ht hit (by omega) (gqF_y hq7 (by omega) (by omega) (by omega)) hfr hlen hsl (by omega) hk0
        · refine zz_iconst d_PR_groupNamed_30 ?_
          refine ab_goto (tgt := 35) d_PR_groupNamed_31 (by decide) ?_
          refine ab_istore d_PR_groupNamed_35 (Nat.le_of_ble_eq_true rfl) (Nat.le_of_ble_eq_true rfl) rfl ?_
          change ab_W _ _ _ G 37 [some (vR q), some (vR t), some (vz bg_), some (vz ln_), some (vz fd), some (vz kk), some (vz 1), none] [] _
          refine zz_iconst d_PR_groupNamed_37 ?_
          refine ab_istore d_PR_groupNamed_38 (Nat.le_of_ble_eq_true rfl) (Nat.le_of_ble_eq_true rfl) rfl ?_
          change ab_W _ _ _ G 40 [some (vR q), some (vR t), some (vz bg_), some (vz ln_), some (vz fd), some (vz kk), some (vz 1), some (vz 0)] [] _
          refine y_PR_groupNamed_40 (q := q) (lq := lq) (ki := ki) (ne := ne) (ot := ot) (cnt := cnt) (fi := fi) (la := la) (ra := ra) (ru := ru) (gr := gr) (wi := wi) (sz := sz) (fl := fl) (ve := ve) (mi := mi) (na := na) (nl := nl) (NA := NA) (NL := NL) (t := t) (it := it) (mt := mt) (ft := ft) (n1 := n1) (bg_ := bg_) (ln_ := ln_) (kk := kk) (fd := fd) (G0 := G) (eq_ := 1) (j_ := 0) (by omega) (by omega) (by omega) jnl (by omega) (by omega) jna hft (by omega) (Int.toNat (ln_ - 0) + 1) hq hna hnl ht hit (by omega) (fun _ => by omega) (gqI_1 (by omega)) fx.rf rfl rfl (by omega) (fun G9 e210 hq11 hq12 hfk hlk hsk => ?_)
          · have hq := hfk.get hq (by simp)
            have hna := hfk.get hna (by simp)
            have hnl := hfk.get hnl (by simp)
            have ht := hfk.get ht (by decide)
            have hit := hfk.get hit (by decide)
            have hfr := hfr.tr hfk (by decide)
            have hlen := hlk.trans hlen
            have hsl := hsk.trans hsl
            change ab_W _ _ _ G9 88 [some (vR q), some (vR t), some (vz bg_), some (vz ln_), some (vz fd), some (vz kk), some (vz e210), none] [] _
            refine ab_iload d_PR_groupNamed_88 rfl ?_
            refine zz_if_eq (tgt := 98) d_PR_groupNamed_90 (by decide) (by omega) (fun c13 => ?_) (fun c13 => ?_)
            · refine ab_iload d_PR_groupNamed_98 rfl ?_
              refine ab_istore d_PR_groupNamed_100 (Nat.le_of_ble_eq_true rfl) (Nat.le_of_ble_eq_true rfl) rfl ?_
              change ab_W _ _ _ G9 102 [some (vR q), some (vR t), some (vz bg_), some (vz ln_), some (vz fd), some (vz kk), some (vz e210), none] [] _
              refine zz_iinc d_PR_groupNamed_102 rfl (Nat.le_of_ble_eq_true rfl) (Nat.le_of_ble_eq_true rfl) rfl ?_
              change ab_W _ _ _ G9 105 [some (vR q), some (vR t), some (vz bg_), some (vz ln_), some (vz fd), some (vz (kk + 1)), some (vz e210), none] [] _
              refine ab_goto (tgt := 6) d_PR_groupNamed_105 (by decide) ?_
              refine ab_less (L' := [some (vR q), some (vR t), some (vz bg_), some (vz ln_), some (vz fd), some (vz (kk + 1)), none, none]) (fun i v h => by rcases i with _ | _ | _ | _ | _ | _ | _ | _ | i <;> first | exact h | (simp at h)) ?_
              exact ih (kk := (kk + 1)) (fd := fd) hq hna hnl ht hit (by omega) (gqF_n jf hq12 (by omega)) hfr hlen hsl (by omega) hk0
            · refine ab_iload d_PR_groupNamed_93 rfl ?_
              refine ab_goto (tgt := 100) d_PR_groupNamed_95 (by decide) ?_
              refine ab_istore d_PR_groupNamed_100 (Nat.le_of_ble_eq_true rfl) (Nat.le_of_ble_eq_true rfl) rfl ?_
              change ab_W _ _ _ G9 102 [some (vR q), some (vR t), some (vz bg_), some (vz ln_), some (vz kk), some (vz kk), some (vz e210), none] [] _
              refine zz_iinc d_PR_groupNamed_102 rfl (Nat.le_of_ble_eq_true rfl) (Nat.le_of_ble_eq_true rfl) rfl ?_
              change ab_W _ _ _ G9 105 [some (vR q), some (vR t), some (vz bg_), some (vz ln_), some (vz kk), some (vz (kk + 1)), some (vz e210), none] [] _
              refine ab_goto (tgt := 6) d_PR_groupNamed_105 (by decide) ?_
              refine ab_less (L' := [some (vR q), some (vR t), some (vz bg_), some (vz ln_), some (vz kk), some (vz (kk + 1)), none, none]) (fun i v h => by rcases i with _ | _ | _ | _ | _ | _ | _ | _ | i <;> first | exact h | (simp at h)) ?_
              exact ih (kk := (kk + 1)) (fd := kk) hq hna hnl ht hit (by omega) (gqF_y hq12 (by omega) (by omega) (by omega)) hfr hlen hsl (by omega) hk0
set_option maxRecDepth 100000 in
set_option maxHeartbeats 4000000 in
theorem z_PR_groupNamed {X : ab_X} {d : Nat} {o : Nat → Nat} {G : ab_G} {q : Nat} {lq : Nat} {ki : Nat} {ne : Nat} {ot : Nat} {cnt : Int} {fi : Int} {la : Int} {ra : Nat} {ru : Int} {gr : Int} {wi : Int} {sz : Int} {fl : Int} {ve : Int} {mi : Int} {na : Nat} {nl : Nat} {NA : Int → Int} {NL : Int → Int} {t : Nat} {it : Nat} {mt : Nat} {ft : Int → Int} {n1 : Int} {bg_ : Int} {ln_ : Int} (hq : cc o G q lq (ab_ob 5 [vR ki, vR ne, vR ot, vz cnt, vz fi, vz la, vR ra, vz ru, vz gr, vz wi, vz sz, vz fl, vz ve, vz mi, vR na, vR nl])) (hna : cc o G na (lq + 5) (za 120 NA)) (hnl : cc o G nl (lq + 6) (za 10 NL)) (ht : cc o G t 22 (ab_ob 7 [vz 2000, vR it, vz n1])) (hit : cc o G it 23 (za mt ft)) (ct : 0 ≤ n1 ∧ n1 ≤ ↑mt ∧ ↑mt ≤ (2000 : Int) ∧ 1 ≤ mt) (cg : 0 ≤ gr ∧ gr ≤ 9) (cb : 0 ≤ bg_ ∧ bg_ ≤ 10000 ∧ -10 ≤ ln_ ∧ ln_ ≤ 10000 ∧ bg_ + ln_ ≤ n1) (jnl : rgs NL 10 0 12) (jna : nmB NL NA gr) (hft : bytes ft n1) (hd : 3 ≤ d) : ab_F X d y_PR_groupNamed (.code y_PR_groupNamed b_PR_groupNamed 8 (some (.int))) [vR q, vR t, vz bg_, vz ln_] G (fun oc G2 => ∃ v : Int, oc = .returned (some (vz v)) ∧ fx o o [] G G2 ∧ G2.length = G.length ∧ ab_slots G2 = ab_slots G ∧ (-1 ≤ v ∧ v ≤ gr) ∧ (gqO NL NA ft bg_ ln_ gr v)) := by
  refine ab_F_of (by decide +kernel) (Nat.le_of_ble_eq_true rfl) ?_
  obtain ⟨Q, hQ⟩ : ∃ z : Outcome → ab_G → Prop, z = (fun oc G2 => ∃ v : Int, oc = .returned (some (vz v)) ∧ fx o o [] G G2 ∧ G2.length = G.length ∧ ab_slots G2 = ab_slots G ∧ (-1 ≤ v ∧ v ≤ gr) ∧ (gqO NL NA ft bg_ ln_ gr v)) := ⟨_, rfl⟩
  rw [← hQ]
  change ab_W X (ab_pl y_PR_groupNamed b_PR_groupNamed 8 (some (.int))) d G 0 [some (vR q), some (vR t), some (vz bg_), some (vz ln_), none, none, none, none] [] Q
  have hfr : fx o o [] G G := fx.rf
  have hlen : G.length = G.length := rfl
  have hsl : ab_slots G = ab_slots G := rfl
  refine zz_iconst d_PR_groupNamed_0 ?_
  refine ab_istore d_PR_groupNamed_1 (Nat.le_of_ble_eq_true rfl) (Nat.le_of_ble_eq_true rfl) rfl ?_
  change ab_W _ _ _ G 3 [some (vR q), some (vR t), some (vz bg_), some (vz ln_), some (vz (-1)), none, none, none] [] _
  refine zz_iconst d_PR_groupNamed_3 ?_
  refine ab_istore d_PR_groupNamed_4 (Nat.le_of_ble_eq_true rfl) (Nat.le_of_ble_eq_true rfl) rfl ?_
  change ab_W _ _ _ G 6 [some (vR q), some (vR t), some (vz bg_), some (vz ln_), some (vz (-1)), some (vz 1), none, none] [] _
  refine y_PR_groupNamed_6 (q := q) (lq := lq) (ki := ki) (ne := ne) (ot := ot) (cnt := cnt) (fi := fi) (la := la) (ra := ra) (ru := ru) (gr := gr) (wi := wi) (sz := sz) (fl := fl) (ve := ve) (mi := mi) (na := na) (nl := nl) (NA := NA) (NL := NL) (t := t) (it := it) (mt := mt) (ft := ft) (n1 := n1) (bg_ := bg_) (ln_ := ln_) (G0 := G) (kk := 1) (fd := (-1)) (by omega) (by omega) (by omega) jnl jna hft (by omega) (Int.toNat (gr + 1 - 1) + 1) hq hna hnl ht hit (by omega) gqF_0 fx.rf rfl rfl (by omega) (fun G1 f22 hq3 hq4 hfk hlk hsk => ?_)
  · have hq := hfk.get hq (by simp)
    have hna := hfk.get hna (by simp)
    have hnl := hfk.get hnl (by simp)
    have ht := hfk.get ht (by decide)
    have hit := hfk.get hit (by decide)
    have hfr := hfr.tr hfk (by decide)
    have hlen := hlk.trans hlen
    have hsl := hsk.trans hsl
    change ab_W _ _ _ G1 108 [none, none, none, none, some (vz f22), none, none, none] [] _
    refine ab_iload d_PR_groupNamed_108 rfl ?_
    refine zz_iret rfl d_PR_groupNamed_110 ?_
    rw [hQ]; exact ⟨_, rfl, hfr, hlen, hsl, (by omega), (by exact hq4)⟩
set_option maxRecDepth 100000 in
set_option maxHeartbeats 4000000 in
theorem y_PW_dollarLength_23 {X : ab_X} {d : Nat} {Q : Outcome → ab_G → Prop} {o : Nat → Nat} {G0 : ab_G} {w_ : Nat} {f_ready : Nat} {f_tape : Nat} {f_reader : Nat} {f_programs : Nat} {f_subject : Nat} {f_spans : Nat} {f_threads : Nat} {f_marks : Nat} {f_oneMind : Nat} {f_states : Nat} {f_latest : Nat} {f_matches : Nat} {f_pieces : Nat} {f_template : Nat} {f_result : Nat} {f_spare : Nat} {cmp : Int} {ovs : Int} {it_t : Nat} {sz_t : Int} {mr_t : Nat} {F_t : Int → Int} {at_ : Int} (crw_t : 0 ≤ sz_t ∧ sz_t ≤ ↑mr_t ∧ ↑mr_t ≤ (2000 : Int) ∧ 32 ≤ mr_t) (hbt : bytes F_t sz_t) (ca : 0 ≤ at_ ∧ at_ ≤ 2000) (cnx : at_ + 1 < sz_t) (cx3 : F_t (at_ + 1) = 123) (hd : 1 ≤ d) : ∀ (mz : Nat) {G : ab_G} {ln_ : Int} {i_ : Int}, (cc o G w_ 18 (ab_ob 0 [vR f_ready, vR f_tape, vR f_reader, vR f_programs, vR f_subject, vR f_spans, vR f_threads, vR f_marks, vR f_oneMind, vR f_states, vR f_latest, vR f_matches, vR f_pieces, vR f_template, vR f_result, vR f_spare, vz cmp, vz ovs])) → (cc o G f_tape 22 (ab_ob 7 [vz 2000, vR it_t, vz sz_t])) → (cc o G it_t 23 (za mr_t F_t)) → (ln_ = i_ - at_ ∧ at_ + 2 ≤ i_ ∧ i_ ≤ 2002) → (dlJ F_t sz_t at_ ln_) → (fx o o [] G0 G) → (G.length = G0.length) → (ab_slots G = ab_slots G0) → (Int.toNat (sz_t - i_) < mz) → (∀ (G2 : ab_G) (l2 : Int), (2 ≤ l2 ∧ l2 ≤ 2002) → (gwd F_t sz_t at_ (l2 + 1)) → (fx o o [] G0 G2) → (G2.length = G0.length) → (ab_slots G2 = ab_slots G0) → ab_W X (ab_pl y_PW_dollarLength b_PW_dollarLength 4 (some (.int))) d G2 56 [none, none, some (vz l2), none] [] Q) → ab_W X (ab_pl y_PW_dollarLength b_PW_dollarLength 4 (some (.int))) d G 23 [some (vR w_), none, some (vz ln_), some (vz i_)] [] Q := by
  intro mz
  induction mz with
  | zero => intro G ln_ i_ hw_ hf_tape hit_t ci jl hfr hlen hsl hm hk0; exact absurd hm (Nat.not_lt_zero _)
  | succ mz ih =>
    intro G ln_ i_ hw_ hf_tape hit_t ci jl hfr hlen hsl hm hk0
    refine ab_iload_n d_PW_dollarLength_23 rfl ?_
    refine ab_aload_n d_PW_dollarLength_24 rfl ?_
    refine ab_getf (fs := [vR f_ready, vR f_tape, vR f_reader, vR f_programs, vR f_subject, vR f_spans, vR f_threads, vR f_marks, vR f_oneMind, vR f_states, vR f_latest, vR f_matches, vR f_pieces, vR f_template, vR f_result, vR f_spare, vz cmp, vz ovs]) f_PW_18 d_PW_dollarLength_25 hw_.2.2 rfl ?_
    refine ab_getf (fs := [vz 2000, vR it_t, vz sz_t]) f_PW_101 d_PW_dollarLength_28 hf_tape.2.2 rfl ?_
    refine zz_icmp_ge (tgt := 56) d_PW_dollarLength_31 (by decide) (by omega) (by omega) (fun c1 => ?_) (fun c1 => ?_)
    · refine ab_less (L' := [none, none, some (vz ln_), none]) (fun i v h => by rcases i with _ | _ | _ | _ | i <;> first | exact h | (simp at h)) ?_
      exact hk0 _ _ (by omega) (by exact dl_y jl (by omega) cnx cx3 (by first | (left; omega) | (right; rw [show at_ + ln_ = i_ by omega]; omega))) hfr hlen hsl
    · refine ab_aload_n d_PW_dollarLength_34 rfl ?_
      refine ab_getf (fs := [vR f_ready, vR f_tape, vR f_reader, vR f_programs, vR f_subject, vR f_spans, vR f_threads, vR f_marks, vR f_oneMind, vR f_states, vR f_latest, vR f_matches, vR f_pieces, vR f_template, vR f_result, vR f_spare, vz cmp, vz ovs]) f_PW_18 d_PW_dollarLength_35 hw_.2.2 rfl ?_
      refine ab_iload_n d_PW_dollarLength_38 rfl ?_
      refine ab_callV (d' := d - 1) (as := [vz i_]) (st := []) (r := _) (z_RW_at (o := o) (r := f_tape) (b := it_t) (lr := 22) (lb := 23) (n := mr_t) (lim := 2000) (sz := sz_t) (f := F_t) (i := i_) hf_tape hit_t (by omega) (by omega)) (fun oc G2 h => by rcases h with ⟨h, _⟩ | ⟨h, _⟩ <;> exact ⟨_, h⟩) (by omega) m_RW_at ml_PW_228 im_RW_at se_RW_at c_RW hf_tape.2.2 (Nat.le_of_ble_eq_true rfl) d_PW_dollarLength_39 rfl ?_
      intro v G2 hq
      rcases hq with ⟨hv, hGe, hq3⟩ | ⟨hv, hGe, hq4⟩
      · cases hv
        rw [hGe]
        change ab_W _ _ _ G 42 [some (vR w_), none, some (vz ln_), some (vz i_)] [vz (F_t i_)] _
        have hby_ := hbt i_ (by omega) (by omega)
        refine zz_bipush d_PW_dollarLength_42 (by decide) ?_
        refine zz_icmp_eq (tgt := 56) d_PW_dollarLength_44 (by decide) (by omega) (by decide) (fun c5 => ?_) (fun c5 => ?_)
        · refine ab_less (L' := [none, none, some (vz ln_), none]) (fun i v h => by rcases i with _ | _ | _ | _ | i <;> first | exact h | (simp at h)) ?_
          exact hk0 _ _ (by omega) (by exact dl_y jl (by omega) cnx cx3 (by first | (left; omega) | (right; rw [show at_ + ln_ = i_ by omega]; omega))) hfr hlen hsl
        · refine zz_iinc d_PW_dollarLength_47 rfl (Nat.le_of_ble_eq_true rfl) (Nat.le_of_ble_eq_true rfl) rfl ?_
          change ab_W _ _ _ G 50 [some (vR w_), none, some (vz (ln_ + 1)), some (vz i_)] [] _
          refine zz_iinc d_PW_dollarLength_50 rfl (Nat.le_of_ble_eq_true rfl) (Nat.le_of_ble_eq_true rfl) rfl ?_
          change ab_W _ _ _ G 53 [some (vR w_), none, some (vz (ln_ + 1)), some (vz (i_ + 1))] [] _
          refine ab_goto (tgt := 23) d_PW_dollarLength_53 (by decide) ?_
          exact ih (ln_ := (ln_ + 1)) (i_ := (i_ + 1)) hw_ hf_tape hit_t (by omega) (dlJ_s jl (by omega) (by rw [show at_ + ln_ = i_ by omega]; omega) (by omega)) hfr hlen hsl (by omega) hk0
      · cases hv
        rw [hGe]
        change ab_W _ _ _ G 42 [some (vR w_), none, some (vz ln_), some (vz i_)] [vz (-1)] _
        exfalso; omega
set_option maxRecDepth 100000 in
set_option maxHeartbeats 4000000 in
theorem z_PW_dollarLength {X : ab_X} {d : Nat} {o : Nat → Nat} {G : ab_G} {w_ : Nat} {f_ready : Nat} {f_tape : Nat} {f_reader : Nat} {f_programs : Nat} {f_subject : Nat} {f_spans : Nat} {f_threads : Nat} {f_marks : Nat} {f_oneMind : Nat} {f_states : Nat} {f_latest : Nat} {f_matches : Nat} {f_pieces : Nat} {f_template : Nat} {f_result : Nat} {f_spare : Nat} {cmp : Int} {ovs : Int} {it_t : Nat} {sz_t : Int} {mr_t : Nat} {F_t : Int → Int} {at_ : Int} (hw_ : cc o G w_ 18 (ab_ob 0 [vR f_ready, vR f_tape, vR f_reader, vR f_programs, vR f_subject, vR f_spans, vR f_threads, vR f_marks, vR f_oneMind, vR f_states, vR f_latest, vR f_matches, vR f_pieces, vR f_template, vR f_result, vR f_spare, vz cmp, vz ovs])) (hf_tape : cc o G f_tape 22 (ab_ob 7 [vz 2000, vR it_t, vz sz_t])) (hit_t : cc o G it_t 23 (za mr_t F_t)) (crw_t : 0 ≤ sz_t ∧ sz_t ≤ ↑mr_t ∧ ↑mr_t ≤ (2000 : Int) ∧ 32 ≤ mr_t) (hbt : bytes F_t sz_t) (ca : 0 ≤ at_ ∧ at_ ≤ 2000) (hd : 2 ≤ d) : ab_F X d y_PW_dollarLength (.code y_PW_dollarLength b_PW_dollarLength 4 (some (.int))) [vR w_, vz at_] G (fun oc G2 => ∃ v : Int, oc = .returned (some (vz v)) ∧ fx o o [] G G2 ∧ G2.length = G.length ∧ ab_slots G2 = ab_slots G ∧ (2 ≤ v ∧ v ≤ 2003) ∧ (gwd F_t sz_t at_ v)) := by
  refine ab_F_of (by decide +kernel) (Nat.le_of_ble_eq_true rfl) ?_
  obtain ⟨Q, hQ⟩ : ∃ z : Outcome → ab_G → Prop, z = (fun oc G2 => ∃ v : Int, oc = .returned (some (vz v)) ∧ fx o o [] G G2 ∧ G2.length = G.length ∧ ab_slots G2 = ab_slots G ∧ (2 ≤ v ∧ v ≤ 2003) ∧ (gwd F_t sz_t at_ v)) := ⟨_, rfl⟩
  rw [← hQ]
  change ab_W X (ab_pl y_PW_dollarLength b_PW_dollarLength 4 (some (.int))) d G 0 [some (vR w_), some (vz at_), none, none] [] Q
  have hfr : fx o o [] G G := fx.rf
  have hlen : G.length = G.length := rfl
  have hsl : ab_slots G = ab_slots G := rfl
  refine ab_aload_n d_PW_dollarLength_0 rfl ?_
  refine ab_getf (fs := [vR f_ready, vR f_tape, vR f_reader, vR f_programs, vR f_subject, vR f_spans, vR f_threads, vR f_marks, vR f_oneMind, vR f_states, vR f_latest, vR f_matches, vR f_pieces, vR f_template, vR f_result, vR f_spare, vz cmp, vz ovs]) f_PW_18 d_PW_dollarLength_1 hw_.2.2 rfl ?_
  refine ab_iload_n d_PW_dollarLength_4 rfl ?_
  refine zz_iconst d_PW_dollarLength_5 ?_
  refine zz_iadd d_PW_dollarLength_6 ?_
  refine ab_callV (d' := d - 1) (as := [vz (at_ + 1)]) (st := []) (r := _) (z_RW_at (o := o) (r := f_tape) (b := it_t) (lr := 22) (lb := 23) (n := mr_t) (lim := 2000) (sz := sz_t) (f := F_t) (i := (at_ + 1)) hf_tape hit_t (by omega) (by omega)) (fun oc G2 h => by rcases h with ⟨h, _⟩ | ⟨h, _⟩ <;> exact ⟨_, h⟩) (by omega) m_RW_at ml_PW_228 im_RW_at se_RW_at c_RW hf_tape.2.2 (Nat.le_of_ble_eq_true rfl) d_PW_dollarLength_7 rfl ?_
  intro v G1 hq
  rcases hq with ⟨hv, hGe, hq2⟩ | ⟨hv, hGe, hq3⟩
  · cases hv
    rw [hGe]
    change ab_W _ _ _ G 10 [some (vR w_), some (vz at_), none, none] [vz (F_t (at_ + 1))] _
    have hby_ := hbt (at_ + 1) (by omega) (by omega)
    refine zz_bipush d_PW_dollarLength_10 (by decide) ?_
    refine zz_icmp_eq (tgt := 17) d_PW_dollarLength_12 (by decide) (by omega) (by decide) (fun c4 => ?_) (fun c4 => ?_)
    · refine zz_iconst d_PW_dollarLength_17 ?_
      refine ab_istore_n d_PW_dollarLength_18 (Nat.le_of_ble_eq_true rfl) (Nat.le_of_ble_eq_true rfl) rfl ?_
      change ab_W _ _ _ G 19 [some (vR w_), some (vz at_), some (vz 2), none] [] _
      refine ab_iload_n d_PW_dollarLength_19 rfl ?_
      refine zz_iconst d_PW_dollarLength_20 ?_
      refine zz_iadd d_PW_dollarLength_21 ?_
      refine ab_istore_n d_PW_dollarLength_22 (Nat.le_of_ble_eq_true rfl) (Nat.le_of_ble_eq_true rfl) rfl ?_
      change ab_W _ _ _ G 23 [some (vR w_), some (vz at_), some (vz 2), some (vz (at_ + 2))] [] _
      refine ab_less (L' := [some (vR w_), none, some (vz 2), some (vz (at_ + 2))]) (fun i v h => by rcases i with _ | _ | _ | _ | i <;> first | exact h | (simp at h)) ?_
      refine y_PW_dollarLength_23 (w_ := w_) (f_ready := f_ready) (f_tape := f_tape) (f_reader := f_reader) (f_programs := f_programs) (f_subject := f_subject) (f_spans := f_spans) (f_threads := f_threads) (f_marks := f_marks) (f_oneMind := f_oneMind) (f_states := f_states) (f_latest := f_latest) (f_matches := f_matches) (f_pieces := f_pieces) (f_template := f_template) (f_result := f_result) (f_spare := f_spare) (cmp := cmp) (ovs := ovs) (it_t := it_t) (sz_t := sz_t) (mr_t := mr_t) (F_t := F_t) (G0 := G) (ln_ := 2) (i_ := (at_ + 2)) (by omega) hbt (by omega) (by omega) (by omega) (by omega) (Int.toNat (sz_t - (at_ + 2)) + 1) hw_ hf_tape hit_t (by omega) dlJ_0 fx.rf rfl rfl (by omega) (fun G5 l26 hq7 hq8 hfk hlk hsk => ?_)
      · have hw_ := hfk.get hw_ (by decide)
        have hf_tape := hfk.get hf_tape (by decide)
        have hit_t := hfk.get hit_t (by decide)
        have hfr := hfr.tr hfk (by decide)
        have hlen := hlk.trans hlen
        have hsl := hsk.trans hsl
        change ab_W _ _ _ G5 56 [none, none, some (vz l26), none] [] _
        refine ab_iload_n d_PW_dollarLength_56 rfl ?_
        refine zz_iconst d_PW_dollarLength_57 ?_
        refine zz_iadd d_PW_dollarLength_58 ?_
        refine zz_iret rfl d_PW_dollarLength_59 ?_
        rw [hQ]; exact ⟨_, rfl, hfr, hlen, hsl, (by omega), (by exact hq8)⟩
    · refine zz_iconst d_PW_dollarLength_15 ?_
      refine zz_iret rfl d_PW_dollarLength_16 ?_
      rw [hQ]; exact ⟨_, rfl, hfr, hlen, hsl, (by omega), (by exact dl_n (by first | (left; omega) | (right; omega)))⟩
  · cases hv
    rw [hGe]
    change ab_W _ _ _ G 10 [some (vR w_), some (vz at_), none, none] [vz (-1)] _
    refine zz_bipush d_PW_dollarLength_10 (by decide) ?_
    refine zz_icmp_eq (tgt := 17) d_PW_dollarLength_12 (by decide) (by decide) (by decide) (fun c9 => absurd c9 (by decide)) (fun c9 => ?_)
    refine zz_iconst d_PW_dollarLength_15 ?_
    refine zz_iret rfl d_PW_dollarLength_16 ?_
    rw [hQ]; exact ⟨_, rfl, hfr, hlen, hsl, (by omega), (by exact dl_n (by first | (left; omega) | (right; omega)))⟩
set_option maxRecDepth 100000 in
set_option maxHeartbeats 4000000 in
theorem z_PW_dollarItem {X : ab_X} {d : Nat} {o : Nat → Nat} {G : ab_G} {w_ : Nat} {f_ready : Nat} {f_tape : Nat} {f_reader : Nat} {f_programs : Nat} {f_subject : Nat} {f_spans : Nat} {f_threads : Nat} {f_marks : Nat} {f_oneMind : Nat} {f_states : Nat} {f_latest : Nat} {f_matches : Nat} {f_pieces : Nat} {f_template : Nat} {f_result : Nat} {f_spare : Nat} {cmp : Int} {ovs : Int} {it_t : Nat} {sz_t : Int} {mr_t : Nat} {F_t : Int → Int} {q : Nat} {lq : Nat} {ki : Nat} {ne : Nat} {ot : Nat} {cnt : Int} {fi : Int} {la : Int} {ra : Nat} {ru : Int} {gr : Int} {wi : Int} {sz : Int} {fl : Int} {ve : Int} {mi : Int} {na : Nat} {nl : Nat} {NA : Int → Int} {NL : Int → Int} {at_ : Int} {ln_ : Int} (hw_ : cc o G w_ 18 (ab_ob 0 [vR f_ready, vR f_tape, vR f_reader, vR f_programs, vR f_subject, vR f_spans, vR f_threads, vR f_marks, vR f_oneMind, vR f_states, vR f_latest, vR f_matches, vR f_pieces, vR f_template, vR f_result, vR f_spare, vz cmp, vz ovs])) (hf_tape : cc o G f_tape 22 (ab_ob 7 [vz 2000, vR it_t, vz sz_t])) (hit_t : cc o G it_t 23 (za mr_t F_t)) (hq : cc o G q lq (ab_ob 5 [vR ki, vR ne, vR ot, vz cnt, vz fi, vz la, vR ra, vz ru, vz gr, vz wi, vz sz, vz fl, vz ve, vz mi, vR na, vR nl])) (hna : cc o G na (lq + 5) (za 120 NA)) (hnl : cc o G nl (lq + 6) (za 10 NL)) (crw_t : 0 ≤ sz_t ∧ sz_t ≤ ↑mr_t ∧ ↑mr_t ≤ (2000 : Int) ∧ 32 ≤ mr_t) (hbt : bytes F_t sz_t) (cg : 0 ≤ gr ∧ gr ≤ 9) (jnl : rgs NL 10 0 12) (jna : nmB NL NA gr) (ca : 0 ≤ at_ ∧ at_ ≤ 2000 ∧ 2 ≤ ln_ ∧ ln_ ≤ 2003) (ct36 : F_t at_ = 36) (cgw : gwd F_t sz_t at_ ln_) (hd : 4 ≤ d) : ab_F X d y_PW_dollarItem (.code y_PW_dollarItem b_PW_dollarItem 6 (some (.int))) [vR w_, vR q, vz at_, vz ln_] G (fun oc G2 => (oc = .returned (some (vz 36)) ∧ fx o o [] G G2 ∧ G2.length = G.length ∧ ab_slots G2 = ab_slots G ∧ (diR F_t sz_t gr NL (cNM NA) at_ ln_ 36)) ∨ (oc = .returned (some (vz (-100))) ∧ fx o o [] G G2 ∧ G2.length = G.length ∧ ab_slots G2 = ab_slots G ∧ (diR F_t sz_t gr NL (cNM NA) at_ ln_ (-100))) ∨ (∃ v : Int, oc = .returned (some (vz v)) ∧ fx o o [] G G2 ∧ G2.length = G.length ∧ ab_slots G2 = ab_slots G ∧ (-1 - gr ≤ v ∧ v ≤ -1) ∧ (diR F_t sz_t gr NL (cNM NA) at_ ln_ v))) := by
  refine ab_F_of (by decide +kernel) (Nat.le_of_ble_eq_true rfl) ?_
  obtain ⟨Q, hQ⟩ : ∃ z : Outcome → ab_G → Prop, z = (fun oc G2 => (oc = .returned (some (vz 36)) ∧ fx o o [] G G2 ∧ G2.length = G.length ∧ ab_slots G2 = ab_slots G ∧ (diR F_t sz_t gr NL (cNM NA) at_ ln_ 36)) ∨ (oc = .returned (some (vz (-100))) ∧ fx o o [] G G2 ∧ G2.length = G.length ∧ ab_slots G2 = ab_slots G ∧ (diR F_t sz_t gr NL (cNM NA) at_ ln_ (-100))) ∨ (∃ v : Int, oc = .returned (some (vz v)) ∧ fx o o [] G G2 ∧ G2.length = G.length ∧ ab_slots G2 = ab_slots G ∧ (-1 - gr ≤ v ∧ v ≤ -1) ∧ (diR F_t sz_t gr NL (cNM NA) at_ ln_ v))) := ⟨_, rfl⟩
  rw [← hQ]
  change ab_W X (ab_pl y_PW_dollarItem b_PW_dollarItem 6 (some (.int))) d G 0 [some (vR w_), some (vR q), some (vz at_), some (vz ln_), none, none] [] Q
  have hfr : fx o o [] G G := fx.rf
  have hlen : G.length = G.length := rfl
  have hsl : ab_slots G = ab_slots G := rfl
  refine ab_aload_n d_PW_dollarItem_0 rfl ?_
  refine ab_getf (fs := [vR f_ready, vR f_tape, vR f_reader, vR f_programs, vR f_subject, vR f_spans, vR f_threads, vR f_marks, vR f_oneMind, vR f_states, vR f_latest, vR f_matches, vR f_pieces, vR f_template, vR f_result, vR f_spare, vz cmp, vz ovs]) f_PW_18 d_PW_dollarItem_1 hw_.2.2 rfl ?_
  refine ab_iload_n d_PW_dollarItem_4 rfl ?_
  refine zz_iconst d_PW_dollarItem_5 ?_
  refine zz_iadd d_PW_dollarItem_6 ?_
  refine ab_callV (d' := d - 1) (as := [vz (at_ + 1)]) (st := []) (r := _) (z_RW_at (o := o) (r := f_tape) (b := it_t) (lr := 22) (lb := 23) (n := mr_t) (lim := 2000) (sz := sz_t) (f := F_t) (i := (at_ + 1)) hf_tape hit_t (by omega) (by omega)) (fun oc G2 h => by rcases h with ⟨h, _⟩ | ⟨h, _⟩ <;> exact ⟨_, h⟩) (by omega) m_RW_at ml_PW_228 im_RW_at se_RW_at c_RW hf_tape.2.2 (Nat.le_of_ble_eq_true rfl) d_PW_dollarItem_7 rfl ?_
  intro v G1 hq
  rcases hq with ⟨hv, hGe, hq2⟩ | ⟨hv, hGe, hq3⟩
  · cases hv
    rw [hGe]
    change ab_W _ _ _ G 10 [some (vR w_), some (vR q), some (vz at_), some (vz ln_), none, none] [vz (F_t (at_ + 1))] _
    have hby_ := hbt (at_ + 1) (by omega) (by omega)
    refine ab_istore d_PW_dollarItem_10 (Nat.le_of_ble_eq_true rfl) (Nat.le_of_ble_eq_true rfl) rfl ?_
    change ab_W _ _ _ G 12 [some (vR w_), some (vR q), some (vz at_), some (vz ln_), some (vz (F_t (at_ + 1))), none] [] _
    refine ab_iload d_PW_dollarItem_12 rfl ?_
    refine zz_bipush d_PW_dollarItem_14 (by decide) ?_
    refine zz_icmp_ne (tgt := 22) d_PW_dollarItem_16 (by decide) (by omega) (by decide) (fun c4 => ?_) (fun c4 => ?_)
    · refine zz_iconst d_PW_dollarItem_22 ?_
      refine ab_istore d_PW_dollarItem_23 (Nat.le_of_ble_eq_true rfl) (Nat.le_of_ble_eq_true rfl) rfl ?_
      change ab_W _ _ _ G 25 [some (vR w_), some (vR q), some (vz at_), some (vz ln_), some (vz (F_t (at_ + 1))), some (vz (-1))] [] _
      refine ab_iload d_PW_dollarItem_25 rfl ?_
      refine zz_bipush d_PW_dollarItem_27 (by decide) ?_
      refine zz_icmp_lt (tgt := 61) d_PW_dollarItem_29 (by decide) (by omega) (by decide) (fun c5 => ?_) (fun c5 => ?_)
      · refine ab_iload d_PW_dollarItem_61 rfl ?_
        refine zz_bipush d_PW_dollarItem_63 (by decide) ?_
        refine zz_icmp_ne (tgt := 97) d_PW_dollarItem_65 (by decide) (by omega) (by decide) (fun c6 => ?_) (fun c6 => absurd c6 (by omega))
        refine ab_iload d_PW_dollarItem_97 rfl ?_
        refine zz_iconst d_PW_dollarItem_99 ?_
        refine zz_icmp_ne (tgt := 108) d_PW_dollarItem_100 (by decide) (by decide) (by decide) (fun c7 => absurd c7 (by decide)) (fun c7 => ?_)
        refine zz_bipush d_PW_dollarItem_103 (by decide) ?_
        refine ab_goto (tgt := 112) d_PW_dollarItem_105 (by decide) ?_
        refine zz_iret rfl d_PW_dollarItem_112 ?_
        rw [hQ]; exact (Or.inr (Or.inl ⟨rfl, hfr, hlen, hsl, (by exact di_o ct36 (by omega) (by omega) (by omega) cgw)⟩))
      · refine ab_iload d_PW_dollarItem_32 rfl ?_
        refine zz_bipush d_PW_dollarItem_34 (by decide) ?_
        refine zz_icmp_gt (tgt := 61) d_PW_dollarItem_36 (by decide) (by omega) (by decide) (fun c8 => ?_) (fun c8 => ?_)
        · refine ab_iload d_PW_dollarItem_61 rfl ?_
          refine zz_bipush d_PW_dollarItem_63 (by decide) ?_
          refine zz_icmp_ne (tgt := 97) d_PW_dollarItem_65 (by decide) (by omega) (by decide) (fun c9 => ?_) (fun c9 => ?_)
          · refine ab_iload d_PW_dollarItem_97 rfl ?_
            refine zz_iconst d_PW_dollarItem_99 ?_
            refine zz_icmp_ne (tgt := 108) d_PW_dollarItem_100 (by decide) (by decide) (by decide) (fun c10 => absurd c10 (by decide)) (fun c10 => ?_)
            refine zz_bipush d_PW_dollarItem_103 (by decide) ?_
            refine ab_goto (tgt := 112) d_PW_dollarItem_105 (by decide) ?_
            refine zz_iret rfl d_PW_dollarItem_112 ?_
            rw [hQ]; exact (Or.inr (Or.inl ⟨rfl, hfr, hlen, hsl, (by exact di_o ct36 (by omega) (by omega) (by omega) cgw)⟩))
          · refine ab_iload_n d_PW_dollarItem_68 rfl ?_
            refine ab_iload_n d_PW_dollarItem_69 rfl ?_
            refine zz_iadd d_PW_dollarItem_70 ?_
            refine ab_aload_n d_PW_dollarItem_71 rfl ?_
            refine ab_getf (fs := [vR f_ready, vR f_tape, vR f_reader, vR f_programs, vR f_subject, vR f_spans, vR f_threads, vR f_marks, vR f_oneMind, vR f_states, vR f_latest, vR f_matches, vR f_pieces, vR f_template, vR f_result, vR f_spare, vz cmp, vz ovs]) f_PW_18 d_PW_dollarItem_72 hw_.2.2 rfl ?_
            refine ab_getf (fs := [vz 2000, vR it_t, vz sz_t]) f_PW_101 d_PW_dollarItem_75 hf_tape.2.2 rfl ?_
            refine zz_icmp_gt (tgt := 97) d_PW_dollarItem_78 (by decide) (by omega) (by omega) (fun c11 => ?_) (fun c11 => ?_)
            · refine ab_iload d_PW_dollarItem_97 rfl ?_
              refine zz_iconst d_PW_dollarItem_99 ?_
              refine zz_icmp_ne (tgt := 108) d_PW_dollarItem_100 (by decide) (by decide) (by decide) (fun c12 => absurd c12 (by decide)) (fun c12 => ?_)
              refine zz_bipush d_PW_dollarItem_103 (by decide) ?_
              refine ab_goto (tgt := 112) d_PW_dollarItem_105 (by decide) ?_
              refine zz_iret rfl d_PW_dollarItem_112 ?_
              rw [hQ]; exact (Or.inr (Or.inl ⟨rfl, hfr, hlen, hsl, (by exact di_o ct36 (by omega) (by omega) (by omega) cgw)⟩))
            · refine ab_aload_n d_PW_dollarItem_81 rfl ?_
              refine ab_aload_n d_PW_dollarItem_82 rfl ?_
              refine ab_getf (fs := [vR f_ready, vR f_tape, vR f_reader, vR f_programs, vR f_subject, vR f_spans, vR f_threads, vR f_marks, vR f_oneMind, vR f_states, vR f_latest, vR f_matches, vR f_pieces, vR f_template, vR f_result, vR f_spare, vz cmp, vz ovs]) f_PW_18 d_PW_dollarItem_83 hw_.2.2 rfl ?_
              refine ab_iload_n d_PW_dollarItem_86 rfl ?_
              refine zz_iconst d_PW_dollarItem_87 ?_
              refine zz_iadd d_PW_dollarItem_88 ?_
              refine ab_iload_n d_PW_dollarItem_89 rfl ?_
              refine zz_iconst d_PW_dollarItem_90 ?_
              refine zz_isub d_PW_dollarItem_91 ?_
              refine ab_callV (d' := d - 1) (as := [vR f_tape, vz (at_ + 2), vz (ln_ - 3)]) (st := []) (r := _) (z_PR_groupNamed (o := o) (q := q) (lq := lq) (ki := ki) (ne := ne) (ot := ot) (cnt := cnt) (fi := fi) (la := la) (ra := ra) (ru := ru) (gr := gr) (wi := wi) (sz := sz) (fl := fl) (ve := ve) (mi := mi) (na := na) (nl := nl) (NA := NA) (NL := NL) (t := f_tape) (it := it_t) (mt := mr_t) (ft := F_t) (n1 := sz_t) (bg_ := (at_ + 2)) (ln_ := (ln_ - 3)) hq hna hnl hf_tape hit_t (by omega) (by omega) (by omega) jnl jna hbt (by omega)) (fun oc G2 h => by rcases h with ⟨_, h, _⟩ <;> exact ⟨_, h⟩) (by omega) m_PR_groupNamed ml_PW_269 im_PR_groupNamed se_PR_groupNamed c_PR hq.2.2 (Nat.le_of_ble_eq_true rfl) d_PW_dollarItem_92 rfl ?_
              intro v G13 hq
              rcases hq with ⟨v14, hv, hfk, hlk, hsk, hq15, hq16⟩
              cases hv
              have hw_ := hfk.get hw_ (by decide)
              have hf_tape := hfk.get hf_tape (by decide)
              have hit_t := hfk.get hit_t (by decide)
              have hq := hfk.get hq (by simp)
              have hna := hfk.get hna (by simp)
              have hnl := hfk.get hnl (by simp)
              have hfr := hfr.tr hfk (by decide)
              have hlen := hlk.trans hlen
              have hsl := hsk.trans hsl
              change ab_W _ _ _ G13 95 [some (vR w_), some (vR q), some (vz at_), some (vz ln_), some (vz (F_t (at_ + 1))), some (vz (-1))] [vz v14] _
              refine ab_istore d_PW_dollarItem_95 (Nat.le_of_ble_eq_true rfl) (Nat.le_of_ble_eq_true rfl) rfl ?_
              change ab_W _ _ _ G13 97 [some (vR w_), some (vR q), some (vz at_), some (vz ln_), some (vz (F_t (at_ + 1))), some (vz v14)] [] _
              refine ab_iload d_PW_dollarItem_97 rfl ?_
              refine zz_iconst d_PW_dollarItem_99 ?_
              refine zz_icmp_ne (tgt := 108) d_PW_dollarItem_100 (by decide) (by omega) (by decide) (fun c17 => ?_) (fun c17 => ?_)
              · refine zz_iconst d_PW_dollarItem_108 ?_
                refine ab_iload d_PW_dollarItem_109 rfl ?_
                refine zz_isub d_PW_dollarItem_111 ?_
                refine zz_iret rfl d_PW_dollarItem_112 ?_
                rw [hQ]; exact (Or.inr (Or.inr ⟨_, rfl, hfr, hlen, hsl, (by omega), (by exact di_m ct36 (by omega) (by omega) cgw (by omega) hq16 (by omega) (by omega) (by omega))⟩))
              · refine zz_bipush d_PW_dollarItem_103 (by decide) ?_
                refine ab_goto (tgt := 112) d_PW_dollarItem_105 (by decide) ?_
                refine zz_iret rfl d_PW_dollarItem_112 ?_
                rw [hQ]; exact (Or.inr (Or.inl ⟨rfl, hfr, hlen, hsl, (by exact di_x ct36 (by omega) cgw hq16 (by omega))⟩))
        · refine ab_iload d_PW_dollarItem_39 rfl ?_
          refine zz_bipush d_PW_dollarItem_41 (by decide) ?_
          refine zz_isub d_PW_dollarItem_43 ?_
          refine ab_aload_n d_PW_dollarItem_44 rfl ?_
          refine ab_getf (fs := [vR ki, vR ne, vR ot, vz cnt, vz fi, vz la, vR ra, vz ru, vz gr, vz wi, vz sz, vz fl, vz ve, vz mi, vR na, vR nl]) f_PW_133 d_PW_dollarItem_45 hq.2.2 rfl ?_
          refine zz_icmp_gt (tgt := 61) d_PW_dollarItem_48 (by decide) (by omega) (by omega) (fun c18 => ?_) (fun c18 => ?_)
          · refine ab_iload d_PW_dollarItem_61 rfl ?_
            refine zz_bipush d_PW_dollarItem_63 (by decide) ?_
            refine zz_icmp_ne (tgt := 97) d_PW_dollarItem_65 (by decide) (by omega) (by decide) (fun c19 => ?_) (fun c19 => absurd c19 (by omega))
            refine ab_iload d_PW_dollarItem_97 rfl ?_
            refine zz_iconst d_PW_dollarItem_99 ?_
            refine zz_icmp_ne (tgt := 108) d_PW_dollarItem_100 (by decide) (by decide) (by decide) (fun c20 => absurd c20 (by decide)) (fun c20 => ?_)
            refine zz_bipush d_PW_dollarItem_103 (by decide) ?_
            refine ab_goto (tgt := 112) d_PW_dollarItem_105 (by decide) ?_
            refine zz_iret rfl d_PW_dollarItem_112 ?_
            rw [hQ]; exact (Or.inr (Or.inl ⟨rfl, hfr, hlen, hsl, (by exact di_o ct36 (by omega) (by omega) (by omega) cgw)⟩))
          · refine ab_iload d_PW_dollarItem_51 rfl ?_
            refine zz_bipush d_PW_dollarItem_53 (by decide) ?_
            refine zz_isub d_PW_dollarItem_55 ?_
            refine ab_istore d_PW_dollarItem_56 (Nat.le_of_ble_eq_true rfl) (Nat.le_of_ble_eq_true rfl) rfl ?_
            change ab_W _ _ _ G 58 [some (vR w_), some (vR q), some (vz at_), some (vz ln_), some (vz (F_t (at_ + 1))), some (vz ((F_t (at_ + 1)) - 48))] [] _
            refine ab_goto (tgt := 97) d_PW_dollarItem_58 (by decide) ?_
            refine ab_iload d_PW_dollarItem_97 rfl ?_
            refine zz_iconst d_PW_dollarItem_99 ?_
            refine zz_icmp_ne (tgt := 108) d_PW_dollarItem_100 (by decide) (by omega) (by decide) (fun c21 => ?_) (fun c21 => absurd c21 (by omega))
            refine zz_iconst d_PW_dollarItem_108 ?_
            refine ab_iload d_PW_dollarItem_109 rfl ?_
            refine zz_isub d_PW_dollarItem_111 ?_
            refine zz_iret rfl d_PW_dollarItem_112 ?_
            rw [hQ]; exact (Or.inr (Or.inr ⟨_, rfl, hfr, hlen, hsl, (by omega), (by exact di_g ct36 (by omega) (by omega) cgw (by omega))⟩))
    · refine zz_bipush d_PW_dollarItem_19 (by decide) ?_
      refine zz_iret rfl d_PW_dollarItem_21 ?_
      rw [hQ]; exact (Or.inl ⟨rfl, hfr, hlen, hsl, (by exact di_d ct36 (by omega) (by omega) cgw)⟩)
  · cases hv
    rw [hGe]
    change ab_W _ _ _ G 10 [some (vR w_), some (vR q), some (vz at_), some (vz ln_), none, none] [vz (-1)] _
    refine ab_istore d_PW_dollarItem_10 (Nat.le_of_ble_eq_true rfl) (Nat.le_of_ble_eq_true rfl) rfl ?_
    change ab_W _ _ _ G 12 [some (vR w_), some (vR q), some (vz at_), some (vz ln_), some (vz (-1)), none] [] _
    refine ab_iload d_PW_dollarItem_12 rfl ?_
    refine zz_bipush d_PW_dollarItem_14 (by decide) ?_
    refine zz_icmp_ne (tgt := 22) d_PW_dollarItem_16 (by decide) (by decide) (by decide) (fun c22 => ?_) (fun c22 => absurd c22 (by decide))
    refine zz_iconst d_PW_dollarItem_22 ?_
    refine ab_istore d_PW_dollarItem_23 (Nat.le_of_ble_eq_true rfl) (Nat.le_of_ble_eq_true rfl) rfl ?_
    change ab_W _ _ _ G 25 [some (vR w_), some (vR q), some (vz at_), some (vz ln_), some (vz (-1)), some (vz (-1))] [] _
    refine ab_iload d_PW_dollarItem_25 rfl ?_
    refine zz_bipush d_PW_dollarItem_27 (by decide) ?_
    refine zz_icmp_lt (tgt := 61) d_PW_dollarItem_29 (by decide) (by decide) (by decide) (fun c23 => ?_) (fun c23 => absurd c23 (by decide))
    refine ab_iload d_PW_dollarItem_61 rfl ?_
    refine zz_bipush d_PW_dollarItem_63 (by decide) ?_
    refine zz_icmp_ne (tgt := 97) d_PW_dollarItem_65 (by decide) (by decide) (by decide) (fun c24 => ?_) (fun c24 => absurd c24 (by decide))
    refine ab_iload d_PW_dollarItem_97 rfl ?_
    refine zz_iconst d_PW_dollarItem_99 ?_
    refine zz_icmp_ne (tgt := 108) d_PW_dollarItem_100 (by decide) (by decide) (by decide) (fun c25 => absurd c25 (by decide)) (fun c25 => ?_)
    refine zz_bipush d_PW_dollarItem_103 (by decide) ?_
    refine ab_goto (tgt := 112) d_PW_dollarItem_105 (by decide) ?_
    refine zz_iret rfl d_PW_dollarItem_112 ?_
    rw [hQ]; exact (Or.inr (Or.inl ⟨rfl, hfr, hlen, hsl, (by exact di_o ct36 (by omega) (by omega) (by omega) cgw)⟩))
set_option maxRecDepth 100000 in
set_option maxHeartbeats 4000000 in
theorem y_PW_readTemplate_11 {X : ab_X} {d : Nat} {Q : Outcome → ab_G → Prop} {o0 : Nat → Nat} {G0 : ab_G} {w_ : Nat} {f_ready : Nat} {f_tape : Nat} {f_reader : Nat} {f_programs : Nat} {f_subject : Nat} {f_spans : Nat} {f_threads : Nat} {f_marks : Nat} {f_oneMind : Nat} {f_states : Nat} {f_latest : Nat} {f_matches : Nat} {f_pieces : Nat} {f_template : Nat} {f_result : Nat} {f_spare : Nat} {cmp : Int} {ovs : Int} {it_t : Nat} {sz_t : Int} {mr_t : Nat} {F_t : Int → Int} {q : Nat} {lq : Nat} {ki : Nat} {ne : Nat} {ot : Nat} {cnt : Int} {fi : Int} {la : Int} {ra : Nat} {ru : Int} {gr : Int} {wi : Int} {sz : Int} {fl : Int} {ve : Int} {mi : Int} {na : Nat} {nl : Nat} {NA : Int → Int} {NL : Int → Int} {mr0 : Nat} (n18 : ab_n0 = 18) (clq : 100 ≤ lq) (crw_t : 0 ≤ sz_t ∧ sz_t ≤ ↑mr_t ∧ ↑mr_t ≤ (2000 : Int) ∧ 32 ≤ mr_t) (hbt : bytes F_t sz_t) (cg : 0 ≤ gr ∧ gr ≤ 9) (jnl : rgs NL 10 0 12) (jna : nmB NL NA gr) (rc : G0.length + 2001 ≤ ab_n0 + room_1.cells) (rs : ab_slots G0 + 8000 ≤ room_1.slots + zT mr0 2000) (hd : 6 ≤ d) : ∀ (mz : Nat) {G : ab_G} {o : Nat → Nat} {it_p : Nat} {sz_p : Int} {mr_p : Nat} {F_p : Int → Int} {at_ : Int} {tu : Int}, (cc o G w_ 18 (ab_ob 0 [vR f_ready, vR f_tape, vR f_reader, vR f_programs, vR f_subject, vR f_spans, vR f_threads, vR f_marks, vR f_oneMind, vR f_states, vR f_latest, vR f_matches, vR f_pieces, vR f_template, vR f_result, vR f_spare, vz cmp, vz ovs])) → (cc o G f_tape 22 (ab_ob 7 [vz 2000, vR it_t, vz sz_t])) → (cc o G it_t 23 (za mr_t F_t)) → (cc o G f_template 75 (ab_ob 7 [vz 2000, vR it_p, vz sz_p])) → (cc o G it_p 76 (za mr_p F_p)) → (cc o G q lq (ab_ob 5 [vR ki, vR ne, vR ot, vz cnt, vz fi, vz la, vR ra, vz ru, vz gr, vz wi, vz sz, vz fl, vz ve, vz mi, vR na, vR nl])) → (cc o G na (lq + 5) (za 120 NA)) → (cc o G nl (lq + 6) (za 10 NL)) → (0 ≤ at_ ∧ at_ ≤ 10000 ∧ 0 ≤ tu ∧ tu ≤ 2000 ∧ tu ≤ at_ ∧ sz_p ≤ tu) → (0 ≤ sz_p ∧ sz_p ≤ ↑mr_p ∧ ↑mr_p ≤ (2000 : Int) ∧ 32 ≤ mr_p) → (rgs F_p sz_p (-1 - gr) 255) → (rtI F_t sz_t gr NL (cNM NA) at_ F_p sz_p) → (G.length + mr0 ≤ G0.length + mr_p) → (ab_slots G + zT mr0 2000 ≤ ab_slots G0 + zT mr_p 2000) → (fx o0 o [75, 76] G0 G) → (Int.toNat (2000 - tu) < mz) → (∀ (G2 : ab_G) (o2 : Nat → Nat) (v : Int) (it2 : Nat) (sz2 : Int) (mr2 : Nat) (F2 : Int → Int), (cc o2 G2 f_template 75 (ab_ob 7 [vz 2000, vR it2, vz sz2])) → (cc o2 G2 it2 76 (za mr2 F2)) → (0 ≤ v ∧ v ≤ 1) → (0 ≤ sz2 ∧ sz2 ≤ ↑mr2 ∧ ↑mr2 ≤ (2000 : Int) ∧ 32 ≤ mr2) → (rgs F2 sz2 (-1 - gr) 255) → (rtE F_t sz_t gr NL (cNM NA) v F2 sz2) → (G2.length + mr0 ≤ G0.length + mr2) → (ab_slots G2 + zT mr0 2000 ≤ ab_slots G0 + zT mr2 2000) → (fx o0 o2 [75, 76] G0 G2) → Q (.returned (some (vz v))) G2) → ab_W X (ab_pl y_PW_readTemplate b_PW_readTemplate 6 (some (.boolean))) d G 11 [some (vR w_), some (vR q), some (vz at_), some (vz tu), none, none] [] Q := by
  intro mz
  induction mz with
  | zero => intro G o it_p sz_p mr_p F_p at_ tu hw_ hf_tape hit_t hf_template hit_p hq hna hnl ci crw_p jt jr hg hs hfr hm hk0; exact absurd hm (Nat.not_lt_zero _)
  | succ mz ih =>
    intro G o it_p sz_p mr_p F_p at_ tu hw_ hf_tape hit_t hf_template hit_p hq hna hnl ci crw_p jt jr hg hs hfr hm hk0
    refine ab_iload_n d_PW_readTemplate_11 rfl ?_
    refine zz_sipush d_PW_readTemplate_12 (by decide) ?_
    refine zz_icmp_ge (tgt := 96) d_PW_readTemplate_15 (by decide) (by omega) (by decide) (fun c1 => ?_) (fun c1 => ?_)
    · refine zz_iconst d_PW_readTemplate_96 ?_
      refine zz_bret rfl (by decide) d_PW_readTemplate_97 ?_
      exact hk0 _ _ _ _ _ _ _ hf_template hit_p (by omega) (by omega) (by exact jt) (by exact rtE_y jr (by omega)) (by omega) (by omega) hfr
    · refine ab_iload_n d_PW_readTemplate_18 rfl ?_
      refine ab_aload_n d_PW_readTemplate_19 rfl ?_
      refine ab_getf (fs := [vR f_ready, vR f_tape, vR f_reader, vR f_programs, vR f_subject, vR f_spans, vR f_threads, vR f_marks, vR f_oneMind, vR f_states, vR f_latest, vR f_matches, vR f_pieces, vR f_template, vR f_result, vR f_spare, vz cmp, vz ovs]) f_PW_18 d_PW_readTemplate_20 hw_.2.2 rfl ?_
      refine ab_getf (fs := [vz 2000, vR it_t, vz sz_t]) f_PW_101 d_PW_readTemplate_23 hf_tape.2.2 rfl ?_
      refine zz_icmp_ge (tgt := 96) d_PW_readTemplate_26 (by decide) (by omega) (by omega) (fun c2 => ?_) (fun c2 => ?_)
      · refine zz_iconst d_PW_readTemplate_96 ?_
        refine zz_bret rfl (by decide) d_PW_readTemplate_97 ?_
        exact hk0 _ _ _ _ _ _ _ hf_template hit_p (by omega) (by omega) (by exact jt) (by exact rtE_y jr (by omega)) (by omega) (by omega) hfr
      · have hz9 : zT mr_p 2000 ≤ 6000 := zT_le (c := 2000) (by omega) rfl
        refine ab_aload_n d_PW_readTemplate_29 rfl ?_
        refine ab_getf (fs := [vR f_ready, vR f_tape, vR f_reader, vR f_programs, vR f_subject, vR f_spans, vR f_threads, vR f_marks, vR f_oneMind, vR f_states, vR f_latest, vR f_matches, vR f_pieces, vR f_template, vR f_result, vR f_spare, vz cmp, vz ovs]) f_PW_18 d_PW_readTemplate_30 hw_.2.2 rfl ?_
        refine ab_iload_n d_PW_readTemplate_33 rfl ?_
        refine ab_callV (d' := d - 1) (as := [vz at_]) (st := []) (r := _) (z_RW_at (o := o) (r := f_tape) (b := it_t) (lr := 22) (lb := 23) (n := mr_t) (lim := 2000) (sz := sz_t) (f := F_t) (i := at_) hf_tape hit_t (by omega) (by omega)) (fun oc G2 h => by rcases h with ⟨h, _⟩ | ⟨h, _⟩ <;> exact ⟨_, h⟩) (by omega) m_RW_at ml_PW_228 im_RW_at se_RW_at c_RW hf_tape.2.2 (Nat.le_of_ble_eq_true rfl) d_PW_readTemplate_34 rfl ?_
        intro v G3 hq
        rcases hq with ⟨hv, hGe, hq4⟩ | ⟨hv, hGe, hq5⟩
        · cases hv
          rw [hGe]
          change ab_W _ _ _ G 37 [some (vR w_), some (vR q), some (vz at_), some (vz tu), none, none] [vz (F_t at_)] _
          have hby_ := hbt at_ (by omega) (by omega)
          refine ab_istore d_PW_readTemplate_37 (Nat.le_of_ble_eq_true rfl) (Nat.le_of_ble_eq_true rfl) rfl ?_
          change ab_W _ _ _ G 39 [some (vR w_), some (vR q), some (vz at_), some (vz tu), some (vz (F_t at_)), none] [] _
          refine zz_iconst d_PW_readTemplate_39 ?_
          refine ab_istore d_PW_readTemplate_40 (Nat.le_of_ble_eq_true rfl) (Nat.le_of_ble_eq_true rfl) rfl ?_
          change ab_W _ _ _ G 42 [some (vR w_), some (vR q), some (vz at_), some (vz tu), some (vz (F_t at_)), some (vz 1)] [] _
          refine ab_iload d_PW_readTemplate_42 rfl ?_
          refine zz_bipush d_PW_readTemplate_44 (by decide) ?_
          refine zz_icmp_ne (tgt := 66) d_PW_readTemplate_46 (by decide) (by omega) (by decide) (fun c6 => ?_) (fun c6 => ?_)
          · refine ab_iload d_PW_readTemplate_66 rfl ?_
            refine zz_bipush d_PW_readTemplate_68 (by decide) ?_
            refine zz_icmp_ne (tgt := 75) d_PW_readTemplate_70 (by decide) (by omega) (by decide) (fun c7 => ?_) (fun c7 => absurd c7 (by omega))
            refine ab_aload_n d_PW_readTemplate_75 rfl ?_
            refine ab_getf (fs := [vR f_ready, vR f_tape, vR f_reader, vR f_programs, vR f_subject, vR f_spans, vR f_threads, vR f_marks, vR f_oneMind, vR f_states, vR f_latest, vR f_matches, vR f_pieces, vR f_template, vR f_result, vR f_spare, vz cmp, vz ovs]) f_PW_82 d_PW_readTemplate_76 hw_.2.2 rfl ?_
            refine ab_iload d_PW_readTemplate_79 rfl ?_
            refine ab_callV (d' := d - 1) (as := [vz (F_t at_)]) (st := []) (r := _) (z_RW_add (o := o) (r := f_template) (b := it_p) (lr := 75) (lb := 76) (n := mr_p) (lim := 2000) (sz := sz_p) (f := F_p) (x := (F_t at_)) hf_template hit_p (by omega) (by have h18 : ab_n0 = 18 := rfl; omega) (by omega) (by omega) (by omega)) (fun oc G2 h => by rcases h with ⟨h, _⟩ | ⟨_, _, _, _, h, _⟩ <;> exact ⟨_, h⟩) (by omega) m_RW_add ml_PW_197 im_RW_add se_RW_add c_RW hf_template.2.2 (Nat.le_of_ble_eq_true rfl) d_PW_readTemplate_81 rfl ?_
            intro v G8 hq
            rcases hq with ⟨hv, hGe, hq9⟩ | ⟨o10, b211, n212, f213, hv, hfk, hNf_template, hNb211, hq14, hq15, hq16, hq17, hq18, hq19⟩
            · cases hv
              rw [hGe]
              change ab_W _ _ _ G 84 [some (vR w_), some (vR q), some (vz at_), some (vz tu), some (vz (F_t at_)), some (vz 1)] [vz 0] _
              exfalso; omega
            · cases hv
              have hw_ := hfk.get hw_ (by decide)
              have hf_tape := hfk.get hf_tape (by decide)
              have hit_t := hfk.get hit_t (by decide)
              have hq := hfk.get hq (by simp only [List.mem_cons, List.not_mem_nil, or_false]; omega)
              have hna := hfk.get hna (by simp only [List.mem_cons, List.not_mem_nil, or_false]; omega)
              have hnl := hfk.get hnl (by simp only [List.mem_cons, List.not_mem_nil, or_false]; omega)
              have hfr := hfr.tr hfk (by decide)
              have hq20 := hfk.1
              have hf_template := hNf_template
              have hb211 := hNb211
              change ab_W _ _ _ G8 84 [some (vR w_), some (vR q), some (vz at_), some (vz tu), some (vz (F_t at_)), some (vz 1)] [vz 1] _
              refine ab_pop d_PW_readTemplate_84 rfl ?_
              refine ab_iload_n d_PW_readTemplate_85 rfl ?_
              refine ab_iload d_PW_readTemplate_86 rfl ?_
              refine zz_iadd d_PW_readTemplate_88 ?_
              refine ab_istore_n d_PW_readTemplate_89 (Nat.le_of_ble_eq_true rfl) (Nat.le_of_ble_eq_true rfl) rfl ?_
              change ab_W _ _ _ G8 90 [some (vR w_), some (vR q), some (vz (at_ + 1)), some (vz tu), some (vz (F_t at_)), some (vz 1)] [] _
              refine zz_iinc d_PW_readTemplate_90 rfl (Nat.le_of_ble_eq_true rfl) (Nat.le_of_ble_eq_true rfl) rfl ?_
              change ab_W _ _ _ G8 93 [some (vR w_), some (vR q), some (vz (at_ + 1)), some (vz (tu + 1)), some (vz (F_t at_)), some (vz 1)] [] _
              refine ab_goto (tgt := 11) d_PW_readTemplate_93 (by decide) ?_
              refine ab_less (L' := [some (vR w_), some (vR q), some (vz (at_ + 1)), some (vz (tu + 1)), none, none]) (fun i v h => by rcases i with _ | _ | _ | _ | _ | _ | i <;> first | exact h | (simp at h)) ?_
              exact ih (it_p := b211) (sz_p := (sz_p + 1)) (mr_p := n212) (F_p := f213) (at_ := (at_ + 1)) (tu := (tu + 1)) hw_ hf_tape hit_t hf_template hb211 hq hna hnl (by omega) (by omega) (rgs_add jt hq18 hq19 (by omega)) (rtI_s jr (by omega) (tmI_1 (by omega)) (by omega) (by omega) hq18 hq19) (by omega) (by omega) hfr (by omega) hk0
          · refine ab_aload_n d_PW_readTemplate_49 rfl ?_
            refine ab_iload_n d_PW_readTemplate_50 rfl ?_
            refine ab_callV (d' := d - 1) (as := [vz at_]) (st := []) (r := _) (z_PW_dollarLength (o := o) (w_ := w_) (f_ready := f_ready) (f_tape := f_tape) (f_reader := f_reader) (f_programs := f_programs) (f_subject := f_subject) (f_spans := f_spans) (f_threads := f_threads) (f_marks := f_marks) (f_oneMind := f_oneMind) (f_states := f_states) (f_latest := f_latest) (f_matches := f_matches) (f_pieces := f_pieces) (f_template := f_template) (f_result := f_result) (f_spare := f_spare) (cmp := cmp) (ovs := ovs) (it_t := it_t) (sz_t := sz_t) (mr_t := mr_t) (F_t := F_t) (at_ := at_) hw_ hf_tape hit_t (by omega) hbt (by omega) (by omega)) (fun oc G2 h => by rcases h with ⟨_, h, _⟩ <;> exact ⟨_, h⟩) (by omega) m_PW_dollarLength ml_PW_262 im_PW_dollarLength se_PW_dollarLength c_PW hw_.2.2 (Nat.le_of_ble_eq_true rfl) d_PW_readTemplate_51 rfl ?_
            intro v G21 hq
            rcases hq with ⟨v22, hv, hfk, hlk, hsk, hq23, hq24⟩
            cases hv
            have hw_ := hfk.get hw_ (by decide)
            have hf_tape := hfk.get hf_tape (by decide)
            have hit_t := hfk.get hit_t (by decide)
            have hf_template := hfk.get hf_template (by decide)
            have hit_p := hfk.get hit_p (by decide)
            have hq := hfk.get hq (by simp)
            have hna := hfk.get hna (by simp)
            have hnl := hfk.get hnl (by simp)
            have hfr := hfr.tr hfk (by decide)
            have hq25 := hlk
            have hq26 := hsk
            change ab_W _ _ _ G21 54 [some (vR w_), some (vR q), some (vz at_), some (vz tu), some (vz (F_t at_)), some (vz 1)] [vz v22] _
            refine ab_istore d_PW_readTemplate_54 (Nat.le_of_ble_eq_true rfl) (Nat.le_of_ble_eq_true rfl) rfl ?_
            change ab_W _ _ _ G21 56 [some (vR w_), some (vR q), some (vz at_), some (vz tu), some (vz (F_t at_)), some (vz v22)] [] _
            refine ab_aload_n d_PW_readTemplate_56 rfl ?_
            refine ab_aload_n d_PW_readTemplate_57 rfl ?_
            refine ab_iload_n d_PW_readTemplate_58 rfl ?_
            refine ab_iload d_PW_readTemplate_59 rfl ?_
            refine ab_callV (d' := d - 1) (as := [vR q, vz at_, vz v22]) (st := []) (r := _) (z_PW_dollarItem (o := o) (w_ := w_) (f_ready := f_ready) (f_tape := f_tape) (f_reader := f_reader) (f_programs := f_programs) (f_subject := f_subject) (f_spans := f_spans) (f_threads := f_threads) (f_marks := f_marks) (f_oneMind := f_oneMind) (f_states := f_states) (f_latest := f_latest) (f_matches := f_matches) (f_pieces := f_pieces) (f_template := f_template) (f_result := f_result) (f_spare := f_spare) (cmp := cmp) (ovs := ovs) (it_t := it_t) (sz_t := sz_t) (mr_t := mr_t) (F_t := F_t) (q := q) (lq := lq) (ki := ki) (ne := ne) (ot := ot) (cnt := cnt) (fi := fi) (la := la) (ra := ra) (ru := ru) (gr := gr) (wi := wi) (sz := sz) (fl := fl) (ve := ve) (mi := mi) (na := na) (nl := nl) (NA := NA) (NL := NL) (at_ := at_) (ln_ := v22) hw_ hf_tape hit_t hq hna hnl (by omega) hbt (by omega) jnl jna (by omega) (by omega) hq24 (by omega)) (fun oc G2 h => by rcases h with ⟨h, _⟩ | ⟨h, _⟩ | ⟨_, h, _⟩ <;> exact ⟨_, h⟩) (by omega) m_PW_dollarItem ml_PW_265 im_PW_dollarItem se_PW_dollarItem c_PW hw_.2.2 (Nat.le_of_ble_eq_true rfl) d_PW_readTemplate_61 rfl ?_
            intro v G27 hq
            rcases hq with ⟨hv, hfk, hlk, hsk, hq28⟩ | ⟨hv, hfk, hlk, hsk, hq29⟩ | ⟨v30, hv, hfk, hlk, hsk, hq31, hq32⟩
            · cases hv
              have hw_ := hfk.get hw_ (by decide)
              have hf_tape := hfk.get hf_tape (by decide)
              have hit_t := hfk.get hit_t (by decide)
              have hf_template := hfk.get hf_template (by decide)
              have hit_p := hfk.get hit_p (by decide)
              have hq := hfk.get hq (by simp)
              have hna := hfk.get hna (by simp)
              have hnl := hfk.get hnl (by simp)
              have hfr := hfr.tr hfk (by decide)
              have hq33 := hlk
              have hq34 := hsk
              change ab_W _ _ _ G27 64 [some (vR w_), some (vR q), some (vz at_), some (vz tu), some (vz (F_t at_)), some (vz v22)] [vz 36] _
              refine ab_istore d_PW_readTemplate_64 (Nat.le_of_ble_eq_true rfl) (Nat.le_of_ble_eq_true rfl) rfl ?_
              change ab_W _ _ _ G27 66 [some (vR w_), some (vR q), some (vz at_), some (vz tu), some (vz 36), some (vz v22)] [] _
              refine ab_iload d_PW_readTemplate_66 rfl ?_
              refine zz_bipush d_PW_readTemplate_68 (by decide) ?_
              refine zz_icmp_ne (tgt := 75) d_PW_readTemplate_70 (by decide) (by decide) (by decide) (fun c39 => ?_) (fun c39 => absurd c39 (by decide))
              refine ab_aload_n d_PW_readTemplate_75 rfl ?_
              refine ab_getf (fs := [vR f_ready, vR f_tape, vR f_reader, vR f_programs, vR f_subject, vR f_spans, vR f_threads, vR f_marks, vR f_oneMind, vR f_states, vR f_latest, vR f_matches, vR f_pieces, vR f_template, vR f_result, vR f_spare, vz cmp, vz ovs]) f_PW_82 d_PW_readTemplate_76 hw_.2.2 rfl ?_
              refine ab_iload d_PW_readTemplate_79 rfl ?_
              refine ab_callV (d' := d - 1) (as := [vz 36]) (st := []) (r := _) (z_RW_add (o := o) (r := f_template) (b := it_p) (lr := 75) (lb := 76) (n := mr_p) (lim := 2000) (sz := sz_p) (f := F_p) (x := 36) hf_template hit_p (by omega) (by have h18 : ab_n0 = 18 := rfl; omega) (by omega) (by omega) (by omega)) (fun oc G2 h => by rcases h with ⟨h, _⟩ | ⟨_, _, _, _, h, _⟩ <;> exact ⟨_, h⟩) (by omega) m_RW_add ml_PW_197 im_RW_add se_RW_add c_RW hf_template.2.2 (Nat.le_of_ble_eq_true rfl) d_PW_readTemplate_81 rfl ?_
              intro v G40 hq
              rcases hq with ⟨hv, hGe, hq41⟩ | ⟨o42, b243, n244, f245, hv, hfk, hNf_template, hNb243, hq46, hq47, hq48, hq49, hq50, hq51⟩
              · cases hv
                rw [hGe]
                change ab_W _ _ _ G27 84 [some (vR w_), some (vR q), some (vz at_), some (vz tu), some (vz 36), some (vz v22)] [vz 0] _
                exfalso; omega
              · cases hv
                have hw_ := hfk.get hw_ (by decide)
                have hf_tape := hfk.get hf_tape (by decide)
                have hit_t := hfk.get hit_t (by decide)
                have hq := hfk.get hq (by simp only [List.mem_cons, List.not_mem_nil, or_false]; omega)
                have hna := hfk.get hna (by simp only [List.mem_cons, List.not_mem_nil, or_false]; omega)
                have hnl := hfk.get hnl (by simp only [List.mem_cons, List.not_mem_nil, or_false]; omega)
                have hfr := hfr.tr hfk (by decide)
                have hq52 := hfk.1
                have hf_template := hNf_template
                have hb243 := hNb243
                change ab_W _ _ _ G40 84 [some (vR w_), some (vR q), some (vz at_), some (vz tu), some (vz 36), some (vz v22)] [vz 1] _
                refine ab_pop d_PW_readTemplate_84 rfl ?_
                refine ab_iload_n d_PW_readTemplate_85 rfl ?_
                refine ab_iload d_PW_readTemplate_86 rfl ?_
                refine zz_iadd d_PW_readTemplate_88 ?_
                refine ab_istore_n d_PW_readTemplate_89 (Nat.le_of_ble_eq_true rfl) (Nat.le_of_ble_eq_true rfl) rfl ?_
                change ab_W _ _ _ G40 90 [some (vR w_), some (vR q), some (vz (at_ + v22)), some (vz tu), some (vz 36), some (vz v22)] [] _
                refine zz_iinc d_PW_readTemplate_90 rfl (Nat.le_of_ble_eq_true rfl) (Nat.le_of_ble_eq_true rfl) rfl ?_
                change ab_W _ _ _ G40 93 [some (vR w_), some (vR q), some (vz (at_ + v22)), some (vz (tu + 1)), some (vz 36), some (vz v22)] [] _
                refine ab_goto (tgt := 11) d_PW_readTemplate_93 (by decide) ?_
                refine ab_less (L' := [some (vR w_), some (vR q), some (vz (at_ + v22)), some (vz (tu + 1)), none, none]) (fun i v h => by rcases i with _ | _ | _ | _ | _ | _ | i <;> first | exact h | (simp at h)) ?_
                exact ih (it_p := b243) (sz_p := (sz_p + 1)) (mr_p := n244) (F_p := f245) (at_ := (at_ + v22)) (tu := (tu + 1)) hw_ hf_tape hit_t hf_template hb243 hq hna hnl (by omega) (by omega) (rgs_add jt hq50 hq51 (by omega)) (rtI_s jr (by omega) (di_y hq28 (by omega)) (by omega) (by omega) hq50 hq51) (by omega) (by omega) hfr (by omega) hk0
            · cases hv
              have hw_ := hfk.get hw_ (by decide)
              have hf_tape := hfk.get hf_tape (by decide)
              have hit_t := hfk.get hit_t (by decide)
              have hf_template := hfk.get hf_template (by decide)
              have hit_p := hfk.get hit_p (by decide)
              have hq := hfk.get hq (by simp)
              have hna := hfk.get hna (by simp)
              have hnl := hfk.get hnl (by simp)
              have hfr := hfr.tr hfk (by decide)
              have hq35 := hlk
              have hq36 := hsk
              change ab_W _ _ _ G27 64 [some (vR w_), some (vR q), some (vz at_), some (vz tu), some (vz (F_t at_)), some (vz v22)] [vz (-100)] _
              refine ab_istore d_PW_readTemplate_64 (Nat.le_of_ble_eq_true rfl) (Nat.le_of_ble_eq_true rfl) rfl ?_
              change ab_W _ _ _ G27 66 [some (vR w_), some (vR q), some (vz at_), some (vz tu), some (vz (-100)), some (vz v22)] [] _
              refine ab_iload d_PW_readTemplate_66 rfl ?_
              refine zz_bipush d_PW_readTemplate_68 (by decide) ?_
              refine zz_icmp_ne (tgt := 75) d_PW_readTemplate_70 (by decide) (by decide) (by decide) (fun c53 => absurd c53 (by decide)) (fun c53 => ?_)
              refine zz_iconst d_PW_readTemplate_73 ?_
              refine zz_bret rfl (by decide) d_PW_readTemplate_74 ?_
              exact hk0 _ _ _ _ _ _ _ hf_template hit_p (by omega) (by omega) (by exact jt) (by exact rtE_n jr (by omega) (di_n hq29 rfl)) (by omega) (by omega) hfr
            · cases hv
              have hw_ := hfk.get hw_ (by decide)
              have hf_tape := hfk.get hf_tape (by decide)
              have hit_t := hfk.get hit_t (by decide)
              have hf_template := hfk.get hf_template (by decide)
              have hit_p := hfk.get hit_p (by decide)
              have hq := hfk.get hq (by simp)
              have hna := hfk.get hna (by simp)
              have hnl := hfk.get hnl (by simp)
              have hfr := hfr.tr hfk (by decide)
              have hq37 := hlk
              have hq38 := hsk
              change ab_W _ _ _ G27 64 [some (vR w_), some (vR q), some (vz at_), some (vz tu), some (vz (F_t at_)), some (vz v22)] [vz v30] _
              refine ab_istore d_PW_readTemplate_64 (Nat.le_of_ble_eq_true rfl) (Nat.le_of_ble_eq_true rfl) rfl ?_
              change ab_W _ _ _ G27 66 [some (vR w_), some (vR q), some (vz at_), some (vz tu), some (vz v30), some (vz v22)] [] _
              refine ab_iload d_PW_readTemplate_66 rfl ?_
              refine zz_bipush d_PW_readTemplate_68 (by decide) ?_
              refine zz_icmp_ne (tgt := 75) d_PW_readTemplate_70 (by decide) (by omega) (by decide) (fun c54 => ?_) (fun c54 => absurd c54 (by omega))
              refine ab_aload_n d_PW_readTemplate_75 rfl ?_
              refine ab_getf (fs := [vR f_ready, vR f_tape, vR f_reader, vR f_programs, vR f_subject, vR f_spans, vR f_threads, vR f_marks, vR f_oneMind, vR f_states, vR f_latest, vR f_matches, vR f_pieces, vR f_template, vR f_result, vR f_spare, vz cmp, vz ovs]) f_PW_82 d_PW_readTemplate_76 hw_.2.2 rfl ?_
              refine ab_iload d_PW_readTemplate_79 rfl ?_
              refine ab_callV (d' := d - 1) (as := [vz v30]) (st := []) (r := _) (z_RW_add (o := o) (r := f_template) (b := it_p) (lr := 75) (lb := 76) (n := mr_p) (lim := 2000) (sz := sz_p) (f := F_p) (x := v30) hf_template hit_p (by omega) (by have h18 : ab_n0 = 18 := rfl; omega) (by omega) (by omega) (by omega)) (fun oc G2 h => by rcases h with ⟨h, _⟩ | ⟨_, _, _, _, h, _⟩ <;> exact ⟨_, h⟩) (by omega) m_RW_add ml_PW_197 im_RW_add se_RW_add c_RW hf_template.2.2 (Nat.le_of_ble_eq_true rfl) d_PW_readTemplate_81 rfl ?_
              intro v G55 hq
              rcases hq with ⟨hv, hGe, hq56⟩ | ⟨o57, b258, n259, f260, hv, hfk, hNf_template, hNb258, hq61, hq62, hq63, hq64, hq65, hq66⟩
              · cases hv
                rw [hGe]
                change ab_W _ _ _ G27 84 [some (vR w_), some (vR q), some (vz at_), some (vz tu), some (vz v30), some (vz v22)] [vz 0] _
                exfalso; omega
              · cases hv
                have hw_ := hfk.get hw_ (by decide)
                have hf_tape := hfk.get hf_tape (by decide)
                have hit_t := hfk.get hit_t (by decide)
                have hq := hfk.get hq (by simp only [List.mem_cons, List.not_mem_nil, or_false]; omega)
                have hna := hfk.get hna (by simp only [List.mem_cons, List.not_mem_nil, or_false]; omega)
                have hnl := hfk.get hnl (by simp only [List.mem_cons, List.not_mem_nil, or_false]; omega)
                have hfr := hfr.tr hfk (by decide)
                have hq67 := hfk.1
                have hf_template := hNf_template
                have hb258 := hNb258
                change ab_W _ _ _ G55 84 [some (vR w_), some (vR q), some (vz at_), some (vz tu), some (vz v30), some (vz v22)] [vz 1] _
                refine ab_pop d_PW_readTemplate_84 rfl ?_
                refine ab_iload_n d_PW_readTemplate_85 rfl ?_
                refine ab_iload d_PW_readTemplate_86 rfl ?_
                refine zz_iadd d_PW_readTemplate_88 ?_
                refine ab_istore_n d_PW_readTemplate_89 (Nat.le_of_ble_eq_true rfl) (Nat.le_of_ble_eq_true rfl) rfl ?_
                change ab_W _ _ _ G55 90 [some (vR w_), some (vR q), some (vz (at_ + v22)), some (vz tu), some (vz v30), some (vz v22)] [] _
                refine zz_iinc d_PW_readTemplate_90 rfl (Nat.le_of_ble_eq_true rfl) (Nat.le_of_ble_eq_true rfl) rfl ?_
                change ab_W _ _ _ G55 93 [some (vR w_), some (vR q), some (vz (at_ + v22)), some (vz (tu + 1)), some (vz v30), some (vz v22)] [] _
                refine ab_goto (tgt := 11) d_PW_readTemplate_93 (by decide) ?_
                refine ab_less (L' := [some (vR w_), some (vR q), some (vz (at_ + v22)), some (vz (tu + 1)), none, none]) (fun i v h => by rcases i with _ | _ | _ | _ | _ | _ | i <;> first | exact h | (simp at h)) ?_
                exact ih (it_p := b258) (sz_p := (sz_p + 1)) (mr_p := n259) (F_p := f260) (at_ := (at_ + v22)) (tu := (tu + 1)) hw_ hf_tape hit_t hf_template hb258 hq hna hnl (by omega) (by omega) (rgs_add jt hq65 hq66 (by omega)) (rtI_s jr (by omega) (di_y hq32 (by omega)) (by omega) (by omega) hq65 hq66) (by omega) (by omega) hfr (by omega) hk0
        · cases hv
          rw [hGe]
          change ab_W _ _ _ G 37 [some (vR w_), some (vR q), some (vz at_), some (vz tu), none, none] [vz (-1)] _
          exfalso; omega
set_option maxRecDepth 100000 in
set_option maxHeartbeats 4000000 in
theorem z_PW_readTemplate {X : ab_X} {d : Nat} {o : Nat → Nat} {G : ab_G} {w_ : Nat} {f_ready : Nat} {f_tape : Nat} {f_reader : Nat} {f_programs : Nat} {f_subject : Nat} {f_spans : Nat} {f_threads : Nat} {f_marks : Nat} {f_oneMind : Nat} {f_states : Nat} {f_latest : Nat} {f_matches : Nat} {f_pieces : Nat} {f_template : Nat} {f_result : Nat} {f_spare : Nat} {cmp : Int} {ovs : Int} {it_t : Nat} {sz_t : Int} {mr_t : Nat} {F_t : Int → Int} {it_p : Nat} {sz_p : Int} {mr_p : Nat} {F_p : Int → Int} {q : Nat} {lq : Nat} {ki : Nat} {ne : Nat} {ot : Nat} {cnt : Int} {fi : Int} {la : Int} {ra : Nat} {ru : Int} {gr : Int} {wi : Int} {sz : Int} {fl : Int} {ve : Int} {mi : Int} {na : Nat} {nl : Nat} {NA : Int → Int} {NL : Int → Int} (hw_ : cc o G w_ 18 (ab_ob 0 [vR f_ready, vR f_tape, vR f_reader, vR f_programs, vR f_subject, vR f_spans, vR f_threads, vR f_marks, vR f_oneMind, vR f_states, vR f_latest, vR f_matches, vR f_pieces, vR f_template, vR f_result, vR f_spare, vz cmp, vz ovs])) (hf_tape : cc o G f_tape 22 (ab_ob 7 [vz 2000, vR it_t, vz sz_t])) (hit_t : cc o G it_t 23 (za mr_t F_t)) (hf_template : cc o G f_template 75 (ab_ob 7 [vz 2000, vR it_p, vz sz_p])) (hit_p : cc o G it_p 76 (za mr_p F_p)) (hq : cc o G q lq (ab_ob 5 [vR ki, vR ne, vR ot, vz cnt, vz fi, vz la, vR ra, vz ru, vz gr, vz wi, vz sz, vz fl, vz ve, vz mi, vR na, vR nl])) (hna : cc o G na (lq + 5) (za 120 NA)) (hnl : cc o G nl (lq + 6) (za 10 NL)) (n18 : ab_n0 = 18) (clq : 100 ≤ lq) (crw_t : 0 ≤ sz_t ∧ sz_t ≤ ↑mr_t ∧ ↑mr_t ≤ (2000 : Int) ∧ 32 ≤ mr_t) (hbt : bytes F_t sz_t) (cg : 0 ≤ gr ∧ gr ≤ 9) (jnl : rgs NL 10 0 12) (jna : nmB NL NA gr) (crw_p : 0 ≤ sz_p ∧ sz_p ≤ ↑mr_p ∧ ↑mr_p ≤ (2000 : Int) ∧ 32 ≤ mr_p) (rc : G.length + 2001 ≤ ab_n0 + room_1.cells) (rs : ab_slots G + 8000 ≤ room_1.slots + zT mr_p 2000) (hd : 7 ≤ d) : ab_F X d y_PW_readTemplate (.code y_PW_readTemplate b_PW_readTemplate 6 (some (.boolean))) [vR w_, vR q] G (fun oc G2 => ∃ o2 : Nat → Nat, ∃ v : Int, ∃ it2 : Nat, ∃ sz2 : Int, ∃ mr2 : Nat, ∃ F2 : Int → Int, oc = .returned (some (vz v)) ∧ fx o o2 [75, 76] G G2 ∧ cc o2 G2 f_template 75 (ab_ob 7 [vz 2000, vR it2, vz sz2]) ∧ cc o2 G2 it2 76 (za mr2 F2) ∧ (0 ≤ v ∧ v ≤ 1) ∧ (0 ≤ sz2 ∧ sz2 ≤ ↑mr2 ∧ ↑mr2 ≤ (2000 : Int) ∧ 32 ≤ mr2) ∧ (rgs F2 sz2 (-1 - gr) 255) ∧ (rtE F_t sz_t gr NL (cNM NA) v F2 sz2) ∧ (G2.length + mr_p ≤ G.length + mr2) ∧ (ab_slots G2 + zT mr_p 2000 ≤ ab_slots G + zT mr2 2000)) := by
  refine ab_F_of (by decide +kernel) (Nat.le_of_ble_eq_true rfl) ?_
  obtain ⟨Q, hQ⟩ : ∃ z : Outcome → ab_G → Prop, z = (fun oc G2 => ∃ o2 : Nat → Nat, ∃ v : Int, ∃ it2 : Nat, ∃ sz2 : Int, ∃ mr2 : Nat, ∃ F2 : Int → Int, oc = .returned (some (vz v)) ∧ fx o o2 [75, 76] G G2 ∧ cc o2 G2 f_template 75 (ab_ob 7 [vz 2000, vR it2, vz sz2]) ∧ cc o2 G2 it2 76 (za mr2 F2) ∧ (0 ≤ v ∧ v ≤ 1) ∧ (0 ≤ sz2 ∧ sz2 ≤ ↑mr2 ∧ ↑mr2 ≤ (2000 : Int) ∧ 32 ≤ mr2) ∧ (rgs F2 sz2 (-1 - gr) 255) ∧ (rtE F_t sz_t gr NL (cNM NA) v F2 sz2) ∧ (G2.length + mr_p ≤ G.length + mr2) ∧ (ab_slots G2 + zT mr_p 2000 ≤ ab_slots G + zT mr2 2000)) := ⟨_, rfl⟩
  rw [← hQ]
  change ab_W X (ab_pl y_PW_readTemplate b_PW_readTemplate 6 (some (.boolean))) d G 0 [some (vR w_), some (vR q), none, none, none, none] [] Q
  have hfr : fx o o [75, 76] G G := fx.rf
  refine ab_aload_n d_PW_readTemplate_0 rfl ?_
  refine ab_getf (fs := [vR f_ready, vR f_tape, vR f_reader, vR f_programs, vR f_subject, vR f_spans, vR f_threads, vR f_marks, vR f_oneMind, vR f_states, vR f_latest, vR f_matches, vR f_pieces, vR f_template, vR f_result, vR f_spare, vz cmp, vz ovs]) f_PW_82 d_PW_readTemplate_1 hw_.2.2 rfl ?_
  refine ab_callV (d' := d - 1) (as := []) (st := []) (r := _) (z_RW_clear (o := o) (r := f_template) (b := it_p) (lr := 75) (lim := 2000) (sz := sz_p) hf_template (by have h18 : ab_n0 = 18 := rfl; omega)) (fun oc G2 h => by rcases h with ⟨h, _⟩ <;> exact ⟨_, h⟩) (by omega) m_RW_clear ml_PW_120 im_RW_clear se_RW_clear c_RW hf_template.2.2 (Nat.le_of_ble_eq_true rfl) d_PW_readTemplate_4 rfl ?_
  intro v G1 hq
  rcases hq with ⟨hv, hfk, hlk, hsk, hNf_template⟩
  cases hv
  have hw_ := hfk.get hw_ (by decide)
  have hf_tape := hfk.get hf_tape (by decide)
  have hit_t := hfk.get hit_t (by decide)
  have hit_p := hfk.get hit_p (by decide)
  have hq := hfk.get hq (by simp only [List.mem_cons, List.not_mem_nil, or_false]; omega)
  have hna := hfk.get hna (by simp only [List.mem_cons, List.not_mem_nil, or_false]; omega)
  have hnl := hfk.get hnl (by simp only [List.mem_cons, List.not_mem_nil, or_false]; omega)
  have hfr := hfr.tr hfk (by decide)
  have hq2 := hlk
  have hq3 := hsk
  have hf_template := hNf_template
  change ab_W _ _ _ G1 7 [some (vR w_), some (vR q), none, none, none, none] [] _
  refine zz_iconst d_PW_readTemplate_7 ?_
  refine ab_istore_n d_PW_readTemplate_8 (Nat.le_of_ble_eq_true rfl) (Nat.le_of_ble_eq_true rfl) rfl ?_
  change ab_W _ _ _ G1 9 [some (vR w_), some (vR q), some (vz 0), none, none, none] [] _
  refine zz_iconst d_PW_readTemplate_9 ?_
  refine ab_istore_n d_PW_readTemplate_10 (Nat.le_of_ble_eq_true rfl) (Nat.le_of_ble_eq_true rfl) rfl ?_
  change ab_W _ _ _ G1 11 [some (vR w_), some (vR q), some (vz 0), some (vz 0), none, none] [] _
  refine y_PW_readTemplate_11 (w_ := w_) (f_ready := f_ready) (f_tape := f_tape) (f_reader := f_reader) (f_programs := f_programs) (f_subject := f_subject) (f_spans := f_spans) (f_threads := f_threads) (f_marks := f_marks) (f_oneMind := f_oneMind) (f_states := f_states) (f_latest := f_latest) (f_matches := f_matches) (f_pieces := f_pieces) (f_template := f_template) (f_result := f_result) (f_spare := f_spare) (cmp := cmp) (ovs := ovs) (it_t := it_t) (sz_t := sz_t) (mr_t := mr_t) (F_t := F_t) (q := q) (lq := lq) (ki := ki) (ne := ne) (ot := ot) (cnt := cnt) (fi := fi) (la := la) (ra := ra) (ru := ru) (gr := gr) (wi := wi) (sz := sz) (fl := fl) (ve := ve) (mi := mi) (na := na) (nl := nl) (NA := NA) (NL := NL) (mr0 := mr_p) (G0 := G1) (it_p := it_p) (sz_p := 0) (mr_p := mr_p) (F_p := F_p) (at_ := 0) (tu := 0) (by omega) (by omega) (by omega) hbt (by omega) jnl jna (by omega) (by omega) (by omega) (Int.toNat (2000 - 0) + 1) hw_ hf_tape hit_t hf_template hit_p hq hna hnl (by omega) (by omega) (fun k h0 h1 => absurd h1 (by omega)) (rtI_0 rfl) (by omega) (by omega) fx.rf (by omega) (fun G4 o5 v6 it27 sz28 mr29 F210 hNf_template hNit27 hq11 hq12 hq13 hq14 hq15 hq16 hfk => ?_)
  · have hw_ := hfk.get hw_ (by decide)
    have hf_tape := hfk.get hf_tape (by decide)
    have hit_t := hfk.get hit_t (by decide)
    have hq := hfk.get hq (by simp only [List.mem_cons, List.not_mem_nil, or_false]; omega)
    have hna := hfk.get hna (by simp only [List.mem_cons, List.not_mem_nil, or_false]; omega)
    have hnl := hfk.get hnl (by simp only [List.mem_cons, List.not_mem_nil, or_false]; omega)
    have hfr := hfr.tr hfk (by decide)
    have hq17 := hfk.1
    have hf_template := hNf_template
    have hit27 := hNit27
    rw [hQ]; exact ⟨_, _, _, _, _, _, rfl, hfr, hf_template, hit27, (by omega), (by omega), (by exact hq13), (by exact hq14), (by omega), (by omega)⟩
