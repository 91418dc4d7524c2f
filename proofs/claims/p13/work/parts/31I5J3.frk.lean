set_option maxRecDepth 100000 in
set_option maxHeartbeats 4000000 in
theorem zs_PR_addPair {X : ab_X} {d : Nat} {o : Nat → Nat} {G : ab_G} {q : Nat} {lq : Nat} {ki : Nat} {ne : Nat} {ot : Nat} {cnt : Int} {fi : Int} {la : Int} {ra : Nat} {ru : Int} {gr : Int} {wi : Int} {sz : Int} {fl : Int} {ve : Int} {mi : Int} {na : Nat} {nl : Nat} {K : Int → Int} {N : Int → Int} {O : Int → Int} {RR : Int → Int} {nr : Nat} {w : Int} {vl : Int} (hq : cc o G q lq (ab_ob 5 [vR ki, vR ne, vR ot, vz cnt, vz fi, vz la, vR ra, vz ru, vz gr, vz wi, vz sz, vz fl, vz ve, vz mi, vR na, vR nl])) (hki : cc o G ki (lq + 1) (za 808 K)) (hne : cc o G ne (lq + 2) (za 808 N)) (hot : cc o G ot (lq + 3) (za 808 O)) (hra : cc o G ra (lq + 4) (za nr RR)) (n18 : ab_n0 = 18) (cq : 100 ≤ lq ∧ 2 ≤ cnt ∧ cnt ≤ 808 ∧ 0 ≤ la ∧ la ≤ 1) (hp_ : prok K N O RR cnt ru wi) (cw : 0 ≤ w ∧ w / 4294967296 < cnt ∧ w % 4294967296 < cnt) (cv : 2 ≤ vl ∧ vl < wi) (cc8 : cnt + 2 ≤ 808) (hd : 1 ≤ d) : ab_F X d y_PR_addPair (.code y_PR_addPair b_PR_addPair 7 (some (.long))) [vR q, vz 7, vj w, vz vl] G (fun oc G2 => ∃ w2 : Int, ∃ cnt2 : Int, ∃ la2 : Int, ∃ K2 : Int → Int, ∃ N2 : Int → Int, ∃ O2 : Int → Int, oc = .returned (some (vj w2)) ∧ fx o o [lq, (lq + 1), (lq + 2), (lq + 3)] G G2 ∧ G2.length = G.length ∧ ab_slots G2 = ab_slots G ∧ cc o G2 q lq (ab_ob 5 [vR ki, vR ne, vR ot, vz cnt2, vz fi, vz la2, vR ra, vz ru, vz gr, vz wi, vz sz, vz fl, vz ve, vz mi, vR na, vR nl]) ∧ cc o G2 ki (lq + 1) (za 808 K2) ∧ cc o G2 ne (lq + 2) (za 808 N2) ∧ cc o G2 ot (lq + 3) (za 808 O2) ∧ (cnt ≤ cnt2 ∧ cnt2 ≤ 808 ∧ 0 ≤ la2 ∧ la2 ≤ 1) ∧ (0 ≤ w2 ∧ w2 / 4294967296 < cnt2 ∧ w2 % 4294967296 < cnt2) ∧ (prok K2 N2 O2 RR cnt2 ru wi) ∧ (kext K K2 cnt) ∧ (cnt2 ≤ cnt + 2) ∧ (pxt K N O RR cnt ru K2 N2 O2 RR) ∧ (prCb K2 N2 O2 cnt cnt2 w2 7 w vl)) := by
  refine ab_F_of (by decide +kernel) (Nat.le_of_ble_eq_true rfl) ?_
  obtain ⟨Q, hQ⟩ : ∃ z : Outcome → ab_G → Prop, z = (fun oc G2 => ∃ w2 : Int, ∃ cnt2 : Int, ∃ la2 : Int, ∃ K2 : Int → Int, ∃ N2 : Int → Int, ∃ O2 : Int → Int, oc = .returned (some (vj w2)) ∧ fx o o [lq, (lq + 1), (lq + 2), (lq + 3)] G G2 ∧ G2.length = G.length ∧ ab_slots G2 = ab_slots G ∧ cc o G2 q lq (ab_ob 5 [vR ki, vR ne, vR ot, vz cnt2, vz fi, vz la2, vR ra, vz ru, vz gr, vz wi, vz sz, vz fl, vz ve, vz mi, vR na, vR nl]) ∧ cc o G2 ki (lq + 1) (za 808 K2) ∧ cc o G2 ne (lq + 2) (za 808 N2) ∧ cc o G2 ot (lq + 3) (za 808 O2) ∧ (cnt ≤ cnt2 ∧ cnt2 ≤ 808 ∧ 0 ≤ la2 ∧ la2 ≤ 1) ∧ (0 ≤ w2 ∧ w2 / 4294967296 < cnt2 ∧ w2 % 4294967296 < cnt2) ∧ (prok K2 N2 O2 RR cnt2 ru wi) ∧ (kext K K2 cnt) ∧ (cnt2 ≤ cnt + 2) ∧ (pxt K N O RR cnt ru K2 N2 O2 RR) ∧ (prCb K2 N2 O2 cnt cnt2 w2 7 w vl)) := ⟨_, rfl⟩
  rw [← hQ]
  change ab_W X (ab_pl y_PR_addPair b_PR_addPair 7 (some (.long))) d G 0 [some (vR q), some (vz 7), some (vj w), none, some (vz vl), none, none] [] Q
  have hfr : fx o o [lq, (lq + 1), (lq + 2), (lq + 3)] G G := fx.rf
  have hlen : G.length = G.length := rfl
  have hsl : ab_slots G = ab_slots G := rfl
  refine ab_aload_n d_PR_addPair_0 rfl ?_
  refine ab_iload_n d_PR_addPair_1 rfl ?_
  refine ab_lload_n d_PR_addPair_2 rfl ?_
  refine ab_callS (d' := d - 1) (as := [vj w]) (st := [vz 7, vR q]) (z_PR_fresh (o := o) (w := w) (by omega)) (fun oc G2 h => by rcases h with ⟨h, _⟩ <;> exact ⟨_, h⟩) (by omega) m_PR_fresh ml_PR_96 st_PR_fresh (Nat.le_of_ble_eq_true rfl) d_PR_addPair_3 rfl ?_
  intro v G1 hq
  rcases hq with ⟨hv, hGe⟩
  cases hv
  rw [hGe]
  change ab_W _ _ _ G 6 [some (vR q), some (vz 7), some (vj w), none, some (vz vl), none, none] [vz (w / 4294967296), vz 7, vR q] _
  refine ab_iload d_PR_addPair_6 rfl ?_
  refine ab_callV (d' := d - 1) (as := [vz 7, vz (w / 4294967296), vz vl]) (st := []) (r := _) (z_PR_add (o := o) (q := q) (lq := lq) (ki := ki) (ne := ne) (ot := ot) (cnt := cnt) (fi := fi) (la := la) (ra := ra) (ru := ru) (gr := gr) (wi := wi) (sz := sz) (fl := fl) (ve := ve) (mi := mi) (na := na) (nl := nl) (K := K) (N := N) (O := O) (k0 := 7) (x0 := (w / 4294967296)) (v0 := vl) hq hki hne hot (by omega) (by omega) (by omega)) (fun oc G2 h => by rcases h with ⟨h, _⟩ | ⟨_, h, _⟩ <;> exact ⟨_, h⟩) (by omega) m_PR_add ml_PR_84 im_PR_add se_PR_add c_PR hq.2.2 (Nat.le_of_ble_eq_true rfl) d_PR_addPair_8 rfl ?_
  intro v G2 hq
  rcases hq with ⟨hv, hGe, hq3⟩ | ⟨la24, hv, hfk, hlk, hsk, hNq, hNki, hNne, hNot, hq5, hq6, hq7⟩
  · cases hv
    rw [hGe]
    change ab_W _ _ _ G 11 [some (vR q), some (vz 7), some (vj w), none, some (vz vl), none, none] [vz 0] _
    exfalso; omega
  · cases hv
    have hra := hfk.get hra (by simp only [List.mem_cons, List.not_mem_nil, or_false]; omega)
    have hfr := hfr.tr hfk (by simp)
    have hlen := hlk.trans hlen
    have hsl := hsk.trans hsl
    have hq := hNq
    have hki := hNki
    have hne := hNne
    have hot := hNot
    change ab_W _ _ _ G2 11 [some (vR q), some (vz 7), some (vj w), none, some (vz vl), none, none] [vz cnt] _
    have hp8 := prok_add (k := 7) (x := (w / 4294967296)) (v := vl) hp_ (by omega) (by omega) (by omega) (by omega) (by omega) (fun t => absurd t (by decide)) (fun t => by omega) (fun t => absurd t (by decide)) (fun t => absurd t (by decide)) (fun t => absurd t (by decide))
    obtain ⟨K8, eK8⟩ : ∃ z : Int → Int, z = zu K cnt 7 := ⟨_, rfl⟩
    have hki : cc o G2 ki (lq + 1) (za 808 K8) := by rw [← eK8.symm]; exact hki
    obtain ⟨N8, eN8⟩ : ∃ z : Int → Int, z = zu N cnt (w / 4294967296) := ⟨_, rfl⟩
    have hne : cc o G2 ne (lq + 2) (za 808 N8) := by rw [← eN8.symm]; exact hne
    obtain ⟨O8, eO8⟩ : ∃ z : Int → Int, z = zu O cnt vl := ⟨_, rfl⟩
    have hot : cc o G2 ot (lq + 3) (za 808 O8) := by rw [← eO8.symm]; exact hot
    rw [← eK8, ← eN8, ← eO8] at hp8
    have hkx8 : kext K K8 cnt := by rw [eK8]; exact kext.zu (Int.le_refl _)
    have hks8 : K8 cnt = 7 := by rw [eK8]; exact zu_self _ _ _
    have hsd8 : sdC K8 N8 O8 cnt (cnt + 1) cnt 7 (w / 4294967296) vl := ⟨⟨by omega, by omega⟩, by rw [eK8]; exact zu_self _ _ _, by rw [eN8]; exact zu_self _ _ _, by rw [eO8]; exact zu_self _ _ _⟩
    have hpx8 : pxt K N O RR cnt ru K8 N8 O8 RR := by rw [eK8, eN8, eO8]; exact pxt.add (Int.le_refl _)
    change ab_W _ _ _ G2 11 [some (vR q), some (vz 7), some (vj w), none, some (vz vl), none, none] [vz cnt] _
    refine ab_istore d_PR_addPair_11 (Nat.le_of_ble_eq_true rfl) (Nat.le_of_ble_eq_true rfl) rfl ?_
    change ab_W _ _ _ G2 13 [some (vR q), some (vz 7), some (vj w), none, some (vz vl), some (vz cnt), none] [] _
    refine ab_lload_n d_PR_addPair_13 rfl ?_
    refine ab_callS (d' := d - 1) (as := [vj w]) (st := []) (z_PR_fresh (o := o) (w := w) (by omega)) (fun oc G2 h => by rcases h with ⟨h, _⟩ <;> exact ⟨_, h⟩) (by omega) m_PR_fresh ml_PR_96 st_PR_fresh (Nat.le_of_ble_eq_true rfl) d_PR_addPair_14 rfl ?_
    intro v G9 hq
    rcases hq with ⟨hv, hGe⟩
    cases hv
    rw [hGe]
    change ab_W _ _ _ G2 17 [some (vR q), some (vz 7), some (vj w), none, some (vz vl), some (vz cnt), none] [vz (w / 4294967296)] _
    refine ab_lload_n d_PR_addPair_17 rfl ?_
    refine ab_callS (d' := d - 1) (as := [vj w]) (st := [vz (w / 4294967296)]) (z_PR_used (o := o) (w := w) (by omega)) (fun oc G2 h => by rcases h with ⟨h, _⟩ <;> exact ⟨_, h⟩) (by omega) m_PR_used ml_PR_124 st_PR_used (Nat.le_of_ble_eq_true rfl) d_PR_addPair_18 rfl ?_
    intro v G10 hq
    rcases hq with ⟨hv, hGe⟩
    cases hv
    rw [hGe]
    change ab_W _ _ _ G2 21 [some (vR q), some (vz 7), some (vj w), none, some (vz vl), some (vz cnt), none] [vz (w % 4294967296), vz (w / 4294967296)] _
    refine zz_icmp_ne (tgt := 29) d_PR_addPair_21 (by decide) (by omega) (by omega) (fun c11 => ?_) (fun c11 => ?_)
    · refine ab_aload_n d_PR_addPair_29 rfl ?_
      refine ab_iload_n d_PR_addPair_30 rfl ?_
      refine ab_lload_n d_PR_addPair_31 rfl ?_
      refine ab_callS (d' := d - 1) (as := [vj w]) (st := [vz 7, vR q]) (z_PR_used (o := o) (w := w) (by omega)) (fun oc G2 h => by rcases h with ⟨h, _⟩ <;> exact ⟨_, h⟩) (by omega) m_PR_used ml_PR_124 st_PR_used (Nat.le_of_ble_eq_true rfl) d_PR_addPair_32 rfl ?_
      intro v G12 hq
      rcases hq with ⟨hv, hGe⟩
      cases hv
      rw [hGe]
      change ab_W _ _ _ G2 35 [some (vR q), some (vz 7), some (vj w), none, some (vz vl), some (vz cnt), none] [vz (w % 4294967296), vz 7, vR q] _
      refine ab_iload d_PR_addPair_35 rfl ?_
      refine ab_callV (d' := d - 1) (as := [vz 7, vz (w % 4294967296), vz vl]) (st := []) (r := _) (z_PR_add (o := o) (q := q) (lq := lq) (ki := ki) (ne := ne) (ot := ot) (cnt := (cnt + 1)) (fi := fi) (la := la24) (ra := ra) (ru := ru) (gr := gr) (wi := wi) (sz := sz) (fl := fl) (ve := ve) (mi := mi) (na := na) (nl := nl) (K := K8) (N := N8) (O := O8) (k0 := 7) (x0 := (w % 4294967296)) (v0 := vl) hq hki hne hot (by omega) (by omega) (by omega)) (fun oc G2 h => by rcases h with ⟨h, _⟩ | ⟨_, h, _⟩ <;> exact ⟨_, h⟩) (by omega) m_PR_add ml_PR_84 im_PR_add se_PR_add c_PR hq.2.2 (Nat.le_of_ble_eq_true rfl) d_PR_addPair_37 rfl ?_
      intro v G13 hq
      rcases hq with ⟨hv, hGe, hq14⟩ | ⟨la215, hv, hfk, hlk, hsk, hNq, hNki, hNne, hNot, hq16, hq17, hq18⟩
      · cases hv
        rw [hGe]
        change ab_W _ _ _ G2 40 [some (vR q), some (vz 7), some (vj w), none, some (vz vl), some (vz cnt), none] [vz 0] _
        exfalso; omega
      · cases hv
        have hra := hfk.get hra (by simp only [List.mem_cons, List.not_mem_nil, or_false]; omega)
        have hfr := hfr.tr hfk (by simp)
        have hlen := hlk.trans hlen
        have hsl := hsk.trans hsl
        have hq := hNq
        have hki := hNki
        have hne := hNne
        have hot := hNot
        change ab_W _ _ _ G13 40 [some (vR q), some (vz 7), some (vj w), none, some (vz vl), some (vz cnt), none] [vz (cnt + 1)] _
        have hp19 := prok_add (k := 7) (x := (w % 4294967296)) (v := vl) hp8 (by omega) (by omega) (by omega) (by omega) (by omega) (fun t => absurd t (by decide)) (fun t => by omega) (fun t => absurd t (by decide)) (fun t => absurd t (by decide)) (fun t => absurd t (by decide))
        obtain ⟨K19, eK19⟩ : ∃ z : Int → Int, z = zu K8 (cnt + 1) 7 := ⟨_, rfl⟩
        have hki : cc o G13 ki (lq + 1) (za 808 K19) := by rw [← eK19.symm]; exact hki
        obtain ⟨N19, eN19⟩ : ∃ z : Int → Int, z = zu N8 (cnt + 1) (w % 4294967296) := ⟨_, rfl⟩
        have hne : cc o G13 ne (lq + 2) (za 808 N19) := by rw [← eN19.symm]; exact hne
        obtain ⟨O19, eO19⟩ : ∃ z : Int → Int, z = zu O8 (cnt + 1) vl := ⟨_, rfl⟩
        have hot : cc o G13 ot (lq + 3) (za 808 O19) := by rw [← eO19.symm]; exact hot
        rw [← eK19, ← eN19, ← eO19] at hp19
        have hkx19 : kext K8 K19 (cnt + 1) := by rw [eK19]; exact kext.zu (Int.le_refl _)
        have hks19 : K19 (cnt + 1) = 7 := by rw [eK19]; exact zu_self _ _ _
        have hsd19 : sdC K19 N19 O19 (cnt + 1) ((cnt + 1) + 1) (cnt + 1) 7 (w % 4294967296) vl := ⟨⟨by omega, by omega⟩, by rw [eK19]; exact zu_self _ _ _, by rw [eN19]; exact zu_self _ _ _, by rw [eO19]; exact zu_self _ _ _⟩
        have hpx19 : pxt K8 N8 O8 RR (cnt + 1) ru K19 N19 O19 RR := by rw [eK19, eN19, eO19]; exact pxt.add (Int.le_refl _)
        change ab_W _ _ _ G13 40 [some (vR q), some (vz 7), some (vj w), none, some (vz vl), some (vz cnt), none] [vz (cnt + 1)] _
        refine ab_istore d_PR_addPair_40 (Nat.le_of_ble_eq_true rfl) (Nat.le_of_ble_eq_true rfl) rfl ?_
        change ab_W _ _ _ G13 42 [some (vR q), some (vz 7), some (vj w), none, some (vz vl), some (vz cnt), some (vz (cnt + 1))] [] _
        refine ab_iload d_PR_addPair_42 rfl ?_
        refine ab_iload d_PR_addPair_44 rfl ?_
        refine ab_callS (d' := d - 1) (as := [vz cnt, vz (cnt + 1)]) (st := []) (z_PR_pair (o := o) (f0 := cnt) (u0 := (cnt + 1)) (by omega)) (fun oc G2 h => by rcases h with ⟨h, _⟩ <;> exact ⟨_, h⟩) (by omega) m_PR_pair ml_PR_88 st_PR_pair (Nat.le_of_ble_eq_true rfl) d_PR_addPair_46 rfl ?_
        intro v G20 hq
        rcases hq with ⟨hv, hGe⟩
        cases hv
        rw [hGe]
        change ab_W _ _ _ G13 49 [some (vR q), some (vz 7), some (vj w), none, some (vz vl), some (vz cnt), some (vz (cnt + 1))] [vj (cnt * 4294967296 + (cnt + 1))] _
        refine ab_lret rfl d_PR_addPair_49 ?_
        rw [hQ]; exact ⟨_, _, _, _, _, _, rfl, hfr, hlen, hsl, hq, hki, hne, hot, (by omega), (by omega), (by exact hp19), (by exact (hkx8.tr hkx19 (by omega))), (by omega), (by exact (hpx8.tr hpx19 (by omega) (by omega)).lt (by omega) (by omega)), (by exact prCb.mk2 (hsd8.ex hpx19 (by omega) (by omega) (by omega) (by omega)) (hsd19.wd (by omega) (by omega)) (by omega) (by omega) (by omega) (by omega))⟩
    · refine ab_iload d_PR_addPair_24 rfl ?_
      refine ab_goto (tgt := 40) d_PR_addPair_26 (by decide) ?_
      refine ab_istore d_PR_addPair_40 (Nat.le_of_ble_eq_true rfl) (Nat.le_of_ble_eq_true rfl) rfl ?_
      change ab_W _ _ _ G2 42 [some (vR q), some (vz 7), some (vj w), none, some (vz vl), some (vz cnt), some (vz cnt)] [] _
      refine ab_iload d_PR_addPair_42 rfl ?_
      refine ab_iload d_PR_addPair_44 rfl ?_
      refine ab_callS (d' := d - 1) (as := [vz cnt, vz cnt]) (st := []) (z_PR_pair (o := o) (f0 := cnt) (u0 := cnt) (by omega)) (fun oc G2 h => by rcases h with ⟨h, _⟩ <;> exact ⟨_, h⟩) (by omega) m_PR_pair ml_PR_88 st_PR_pair (Nat.le_of_ble_eq_true rfl) d_PR_addPair_46 rfl ?_
      intro v G21 hq
      rcases hq with ⟨hv, hGe⟩
      cases hv
      rw [hGe]
      change ab_W _ _ _ G2 49 [some (vR q), some (vz 7), some (vj w), none, some (vz vl), some (vz cnt), some (vz cnt)] [vj (cnt * 4294967296 + cnt)] _
      refine ab_lret rfl d_PR_addPair_49 ?_
      rw [hQ]; exact ⟨_, _, _, _, _, _, rfl, hfr, hlen, hsl, hq, hki, hne, hot, (by omega), (by omega), (by exact hp8), (by exact hkx8), (by omega), (by exact hpx8.lt (by omega) (by omega)), (by exact prCb.mk1 (hsd8.wd (by omega) (by omega)) (by omega) (by omega) (by omega) (by omega))⟩
set_option maxRecDepth 100000 in
set_option maxHeartbeats 4000000 in
theorem za_PR_addPair {X : ab_X} {d : Nat} {o : Nat → Nat} {G : ab_G} {q : Nat} {lq : Nat} {ki : Nat} {ne : Nat} {ot : Nat} {cnt : Int} {fi : Int} {la : Int} {ra : Nat} {ru : Int} {gr : Int} {wi : Int} {sz : Int} {fl : Int} {ve : Int} {mi : Int} {na : Nat} {nl : Nat} {K : Int → Int} {N : Int → Int} {O : Int → Int} {RR : Int → Int} {nr : Nat} {w : Int} {vl : Int} (hq : cc o G q lq (ab_ob 5 [vR ki, vR ne, vR ot, vz cnt, vz fi, vz la, vR ra, vz ru, vz gr, vz wi, vz sz, vz fl, vz ve, vz mi, vR na, vR nl])) (hki : cc o G ki (lq + 1) (za 808 K)) (hne : cc o G ne (lq + 2) (za 808 N)) (hot : cc o G ot (lq + 3) (za 808 O)) (hra : cc o G ra (lq + 4) (za nr RR)) (n18 : ab_n0 = 18) (cq : 100 ≤ lq ∧ 2 ≤ cnt ∧ cnt ≤ 808 ∧ 0 ≤ la ∧ la ≤ 1) (hp_ : prok K N O RR cnt ru wi) (cw : 0 ≤ w ∧ w / 4294967296 < cnt ∧ w % 4294967296 < cnt) (cv : 0 ≤ vl ∧ vl ≤ 5) (cc8 : cnt + 2 ≤ 808) (hd : 1 ≤ d) : ab_F X d y_PR_addPair (.code y_PR_addPair b_PR_addPair 7 (some (.long))) [vR q, vz 3, vj w, vz vl] G (fun oc G2 => ∃ w2 : Int, ∃ cnt2 : Int, ∃ la2 : Int, ∃ K2 : Int → Int, ∃ N2 : Int → Int, ∃ O2 : Int → Int, oc = .returned (some (vj w2)) ∧ fx o o [lq, (lq + 1), (lq + 2), (lq + 3)] G G2 ∧ G2.length = G.length ∧ ab_slots G2 = ab_slots G ∧ cc o G2 q lq (ab_ob 5 [vR ki, vR ne, vR ot, vz cnt2, vz fi, vz la2, vR ra, vz ru, vz gr, vz wi, vz sz, vz fl, vz ve, vz mi, vR na, vR nl]) ∧ cc o G2 ki (lq + 1) (za 808 K2) ∧ cc o G2 ne (lq + 2) (za 808 N2) ∧ cc o G2 ot (lq + 3) (za 808 O2) ∧ (cnt ≤ cnt2 ∧ cnt2 ≤ 808 ∧ 0 ≤ la2 ∧ la2 ≤ 1) ∧ (0 ≤ w2 ∧ w2 / 4294967296 < cnt2 ∧ w2 % 4294967296 < cnt2) ∧ (prok K2 N2 O2 RR cnt2 ru wi) ∧ (kext K K2 cnt) ∧ (cnt2 ≤ cnt + 2) ∧ (pxt K N O RR cnt ru K2 N2 O2 RR) ∧ (prCb K2 N2 O2 cnt cnt2 w2 3 w vl)) := by
  refine ab_F_of (by decide +kernel) (Nat.le_of_ble_eq_true rfl) ?_
  obtain ⟨Q, hQ⟩ : ∃ z : Outcome → ab_G → Prop, z = (fun oc G2 => ∃ w2 : Int, ∃ cnt2 : Int, ∃ la2 : Int, ∃ K2 : Int → Int, ∃ N2 : Int → Int, ∃ O2 : Int → Int, oc = .returned (some (vj w2)) ∧ fx o o [lq, (lq + 1), (lq + 2), (lq + 3)] G G2 ∧ G2.length = G.length ∧ ab_slots G2 = ab_slots G ∧ cc o G2 q lq (ab_ob 5 [vR ki, vR ne, vR ot, vz cnt2, vz fi, vz la2, vR ra, vz ru, vz gr, vz wi, vz sz, vz fl, vz ve, vz mi, vR na, vR nl]) ∧ cc o G2 ki (lq + 1) (za 808 K2) ∧ cc o G2 ne (lq + 2) (za 808 N2) ∧ cc o G2 ot (lq + 3) (za 808 O2) ∧ (cnt ≤ cnt2 ∧ cnt2 ≤ 808 ∧ 0 ≤ la2 ∧ la2 ≤ 1) ∧ (0 ≤ w2 ∧ w2 / 4294967296 < cnt2 ∧ w2 % 4294967296 < cnt2) ∧ (prok K2 N2 O2 RR cnt2 ru wi) ∧ (kext K K2 cnt) ∧ (cnt2 ≤ cnt + 2) ∧ (pxt K N O RR cnt ru K2 N2 O2 RR) ∧ (prCb K2 N2 O2 cnt cnt2 w2 3 w vl)) := ⟨_, rfl⟩
  rw [← hQ]
  change ab_W X (ab_pl y_PR_addPair b_PR_addPair 7 (some (.long))) d G 0 [some (vR q), some (vz 3), some (vj w), none, some (vz vl), none, none] [] Q
  have hfr : fx o o [lq, (lq + 1), (lq + 2), (lq + 3)] G G := fx.rf
  have hlen : G.length = G.length := rfl
  have hsl : ab_slots G = ab_slots G := rfl
  refine ab_aload_n d_PR_addPair_0 rfl ?_
  refine ab_iload_n d_PR_addPair_1 rfl ?_
  refine ab_lload_n d_PR_addPair_2 rfl ?_
  refine ab_callS (d' := d - 1) (as := [vj w]) (st := [vz 3, vR q]) (z_PR_fresh (o := o) (w := w) (by omega)) (fun oc G2 h => by rcases h with ⟨h, _⟩ <;> exact ⟨_, h⟩) (by omega) m_PR_fresh ml_PR_96 st_PR_fresh (Nat.le_of_ble_eq_true rfl) d_PR_addPair_3 rfl ?_
  intro v G1 hq
  rcases hq with ⟨hv, hGe⟩
  cases hv
  rw [hGe]
  change ab_W _ _ _ G 6 [some (vR q), some (vz 3), some (vj w), none, some (vz vl), none, none] [vz (w / 4294967296), vz 3, vR q] _
  refine ab_iload d_PR_addPair_6 rfl ?_
  refine ab_callV (d' := d - 1) (as := [vz 3, vz (w / 4294967296), vz vl]) (st := []) (r := _) (z_PR_add (o := o) (q := q) (lq := lq) (ki := ki) (ne := ne) (ot := ot) (cnt := cnt) (fi := fi) (la := la) (ra := ra) (ru := ru) (gr := gr) (wi := wi) (sz := sz) (fl := fl) (ve := ve) (mi := mi) (na := na) (nl := nl) (K := K) (N := N) (O := O) (k0 := 3) (x0 := (w / 4294967296)) (v0 := vl) hq hki hne hot (by omega) (by omega) (by omega)) (fun oc G2 h => by rcases h with ⟨h, _⟩ | ⟨_, h, _⟩ <;> exact ⟨_, h⟩) (by omega) m_PR_add ml_PR_84 im_PR_add se_PR_add c_PR hq.2.2 (Nat.le_of_ble_eq_true rfl) d_PR_addPair_8 rfl ?_
  intro v G2 hq
  rcases hq with ⟨hv, hGe, hq3⟩ | ⟨la24, hv, hfk, hlk, hsk, hNq, hNki, hNne, hNot, hq5, hq6, hq7⟩
  · cases hv
    rw [hGe]
    change ab_W _ _ _ G 11 [some (vR q), some (vz 3), some (vj w), none, some (vz vl), none, none] [vz 0] _
    exfalso; omega
  · cases hv
    have hra := hfk.get hra (by simp only [List.mem_cons, List.not_mem_nil, or_false]; omega)
    have hfr := hfr.tr hfk (by simp)
    have hlen := hlk.trans hlen
    have hsl := hsk.trans hsl
    have hq := hNq
    have hki := hNki
    have hne := hNne
    have hot := hNot
    change ab_W _ _ _ G2 11 [some (vR q), some (vz 3), some (vj w), none, some (vz vl), none, none] [vz cnt] _
    have hp8 := prok_add (k := 3) (x := (w / 4294967296)) (v := vl) hp_ (by omega) (by omega) (by omega) (by omega) (by omega) (fun t => absurd t (by decide)) (fun t => absurd t (by decide)) (fun t => by omega) (fun t => absurd t (by decide)) (fun t => absurd t (by decide))
    obtain ⟨K8, eK8⟩ : ∃ z : Int → Int, z = zu K cnt 3 := ⟨_, rfl⟩
    have hki : cc o G2 ki (lq + 1) (za 808 K8) := by rw [← eK8.symm]; exact hki
    obtain ⟨N8, eN8⟩ : ∃ z : Int → Int, z = zu N cnt (w / 4294967296) := ⟨_, rfl⟩
    have hne : cc o G2 ne (lq + 2) (za 808 N8) := by rw [← eN8.symm]; exact hne
    obtain ⟨O8, eO8⟩ : ∃ z : Int → Int, z = zu O cnt vl := ⟨_, rfl⟩
    have hot : cc o G2 ot (lq + 3) (za 808 O8) := by rw [← eO8.symm]; exact hot
    rw [← eK8, ← eN8, ← eO8] at hp8
    have hkx8 : kext K K8 cnt := by rw [eK8]; exact kext.zu (Int.le_refl _)
    have hks8 : K8 cnt = 3 := by rw [eK8]; exact zu_self _ _ _
    have hsd8 : sdC K8 N8 O8 cnt (cnt + 1) cnt 3 (w / 4294967296) vl := ⟨⟨by omega, by omega⟩, by rw [eK8]; exact zu_self _ _ _, by rw [eN8]; exact zu_self _ _ _, by rw [eO8]; exact zu_self _ _ _⟩
    have hpx8 : pxt K N O RR cnt ru K8 N8 O8 RR := by rw [eK8, eN8, eO8]; exact pxt.add (Int.le_refl _)
    change ab_W _ _ _ G2 11 [some (vR q), some (vz 3), some (vj w), none, some (vz vl), none, none] [vz cnt] _
    refine ab_istore d_PR_addPair_11 (Nat.le_of_ble_eq_true rfl) (Nat.le_of_ble_eq_true rfl) rfl ?_
    change ab_W _ _ _ G2 13 [some (vR q), some (vz 3), some (vj w), none, some (vz vl), some (vz cnt), none] [] _
    refine ab_lload_n d_PR_addPair_13 rfl ?_
    refine ab_callS (d' := d - 1) (as := [vj w]) (st := []) (z_PR_fresh (o := o) (w := w) (by omega)) (fun oc G2 h => by rcases h with ⟨h, _⟩ <;> exact ⟨_, h⟩) (by omega) m_PR_fresh ml_PR_96 st_PR_fresh (Nat.le_of_ble_eq_true rfl) d_PR_addPair_14 rfl ?_
    intro v G9 hq
    rcases hq with ⟨hv, hGe⟩
    cases hv
    rw [hGe]
    change ab_W _ _ _ G2 17 [some (vR q), some (vz 3), some (vj w), none, some (vz vl), some (vz cnt), none] [vz (w / 4294967296)] _
    refine ab_lload_n d_PR_addPair_17 rfl ?_
    refine ab_callS (d' := d - 1) (as := [vj w]) (st := [vz (w / 4294967296)]) (z_PR_used (o := o) (w := w) (by omega)) (fun oc G2 h => by rcases h with ⟨h, _⟩ <;> exact ⟨_, h⟩) (by omega) m_PR_used ml_PR_124 st_PR_used (Nat.le_of_ble_eq_true rfl) d_PR_addPair_18 rfl ?_
    intro v G10 hq
    rcases hq with ⟨hv, hGe⟩
    cases hv
    rw [hGe]
    change ab_W _ _ _ G2 21 [some (vR q), some (vz 3), some (vj w), none, some (vz vl), some (vz cnt), none] [vz (w % 4294967296), vz (w / 4294967296)] _
    refine zz_icmp_ne (tgt := 29) d_PR_addPair_21 (by decide) (by omega) (by omega) (fun c11 => ?_) (fun c11 => ?_)
    · refine ab_aload_n d_PR_addPair_29 rfl ?_
      refine ab_iload_n d_PR_addPair_30 rfl ?_
      refine ab_lload_n d_PR_addPair_31 rfl ?_
      refine ab_callS (d' := d - 1) (as := [vj w]) (st := [vz 3, vR q]) (z_PR_used (o := o) (w := w) (by omega)) (fun oc G2 h => by rcases h with ⟨h, _⟩ <;> exact ⟨_, h⟩) (by omega) m_PR_used ml_PR_124 st_PR_used (Nat.le_of_ble_eq_true rfl) d_PR_addPair_32 rfl ?_
      intro v G12 hq
      rcases hq with ⟨hv, hGe⟩
      cases hv
      rw [hGe]
      change ab_W _ _ _ G2 35 [some (vR q), some (vz 3), some (vj w), none, some (vz vl), some (vz cnt), none] [vz (w % 4294967296), vz 3, vR q] _
      refine ab_iload d_PR_addPair_35 rfl ?_
      refine ab_callV (d' := d - 1) (as := [vz 3, vz (w % 4294967296), vz vl]) (st := []) (r := _) (z_PR_add (o := o) (q := q) (lq := lq) (ki := ki) (ne := ne) (ot := ot) (cnt := (cnt + 1)) (fi := fi) (la := la24) (ra := ra) (ru := ru) (gr := gr) (wi := wi) (sz := sz) (fl := fl) (ve := ve) (mi := mi) (na := na) (nl := nl) (K := K8) (N := N8) (O := O8) (k0 := 3) (x0 := (w % 4294967296)) (v0 := vl) hq hki hne hot (by omega) (by omega) (by omega)) (fun oc G2 h => by rcases h with ⟨h, _⟩ | ⟨_, h, _⟩ <;> exact ⟨_, h⟩) (by omega) m_PR_add ml_PR_84 im_PR_add se_PR_add c_PR hq.2.2 (Nat.le_of_ble_eq_true rfl) d_PR_addPair_37 rfl ?_
      intro v G13 hq
      rcases hq with ⟨hv, hGe, hq14⟩ | ⟨la215, hv, hfk, hlk, hsk, hNq, hNki, hNne, hNot, hq16, hq17, hq18⟩
      · cases hv
        rw [hGe]
        change ab_W _ _ _ G2 40 [some (vR q), some (vz 3), some (vj w), none, some (vz vl), some (vz cnt), none] [vz 0] _
        exfalso; omega
      · cases hv
        have hra := hfk.get hra (by simp only [List.mem_cons, List.not_mem_nil, or_false]; omega)
        have hfr := hfr.tr hfk (by simp)
        have hlen := hlk.trans hlen
        have hsl := hsk.trans hsl
        have hq := hNq
        have hki := hNki
        have hne := hNne
        have hot := hNot
        change ab_W _ _ _ G13 40 [some (vR q), some (vz 3), some (vj w), none, some (vz vl), some (vz cnt), none] [vz (cnt + 1)] _
        have hp19 := prok_add (k := 3) (x := (w % 4294967296)) (v := vl) hp8 (by omega) (by omega) (by omega) (by omega) (by omega) (fun t => absurd t (by decide)) (fun t => absurd t (by decide)) (fun t => by omega) (fun t => absurd t (by decide)) (fun t => absurd t (by decide))
        obtain ⟨K19, eK19⟩ : ∃ z : Int → Int, z = zu K8 (cnt + 1) 3 := ⟨_, rfl⟩
        have hki : cc o G13 ki (lq + 1) (za 808 K19) := by rw [← eK19.symm]; exact hki
        obtain ⟨N19, eN19⟩ : ∃ z : Int → Int, z = zu N8 (cnt + 1) (w % 4294967296) := ⟨_, rfl⟩
        have hne : cc o G13 ne (lq + 2) (za 808 N19) := by rw [← eN19.symm]; exact hne
        obtain ⟨O19, eO19⟩ : ∃ z : Int → Int, z = zu O8 (cnt + 1) vl := ⟨_, rfl⟩
        have hot : cc o G13 ot (lq + 3) (za 808 O19) := by rw [← eO19.symm]; exact hot
        rw [← eK19, ← eN19, ← eO19] at hp19
        have hkx19 : kext K8 K19 (cnt + 1) := by rw [eK19]; exact kext.zu (Int.le_refl _)
        have hks19 : K19 (cnt + 1) = 3 := by rw [eK19]; exact zu_self _ _ _
        have hsd19 : sdC K19 N19 O19 (cnt + 1) ((cnt + 1) + 1) (cnt + 1) 3 (w % 4294967296) vl := ⟨⟨by omega, by omega⟩, by rw [eK19]; exact zu_self _ _ _, by rw [eN19]; exact zu_self _ _ _, by rw [eO19]; exact zu_self _ _ _⟩
        have hpx19 : pxt K8 N8 O8 RR (cnt + 1) ru K19 N19 O19 RR := by rw [eK19, eN19, eO19]; exact pxt.add (Int.le_refl _)
        change ab_W _ _ _ G13 40 [some (vR q), some (vz 3), some (vj w), none, some (vz vl), some (vz cnt), none] [vz (cnt + 1)] _
        refine ab_istore d_PR_addPair_40 (Nat.le_of_ble_eq_true rfl) (Nat.le_of_ble_eq_true rfl) rfl ?_
        change ab_W _ _ _ G13 42 [some (vR q), some (vz 3), some (vj w), none, some (vz vl), some (vz cnt), some (vz (cnt + 1))] [] _
        refine ab_iload d_PR_addPair_42 rfl ?_
        refine ab_iload d_PR_addPair_44 rfl ?_
        refine ab_callS (d' := d - 1) (as := [vz cnt, vz (cnt + 1)]) (st := []) (z_PR_pair (o := o) (f0 := cnt) (u0 := (cnt + 1)) (by omega)) (fun oc G2 h => by rcases h with ⟨h, _⟩ <;> exact ⟨_, h⟩) (by omega) m_PR_pair ml_PR_88 st_PR_pair (Nat.le_of_ble_eq_true rfl) d_PR_addPair_46 rfl ?_
        intro v G20 hq
        rcases hq with ⟨hv, hGe⟩
        cases hv
        rw [hGe]
        change ab_W _ _ _ G13 49 [some (vR q), some (vz 3), some (vj w), none, some (vz vl), some (vz cnt), some (vz (cnt + 1))] [vj (cnt * 4294967296 + (cnt + 1))] _
        refine ab_lret rfl d_PR_addPair_49 ?_
        rw [hQ]; exact ⟨_, _, _, _, _, _, rfl, hfr, hlen, hsl, hq, hki, hne, hot, (by omega), (by omega), (by exact hp19), (by exact (hkx8.tr hkx19 (by omega))), (by omega), (by exact (hpx8.tr hpx19 (by omega) (by omega)).lt (by omega) (by omega)), (by exact prCb.mk2 (hsd8.ex hpx19 (by omega) (by omega) (by omega) (by omega)) (hsd19.wd (by omega) (by omega)) (by omega) (by omega) (by omega) (by omega))⟩
    · refine ab_iload d_PR_addPair_24 rfl ?_
      refine ab_goto (tgt := 40) d_PR_addPair_26 (by decide) ?_
      refine ab_istore d_PR_addPair_40 (Nat.le_of_ble_eq_true rfl) (Nat.le_of_ble_eq_true rfl) rfl ?_
      change ab_W _ _ _ G2 42 [some (vR q), some (vz 3), some (vj w), none, some (vz vl), some (vz cnt), some (vz cnt)] [] _
      refine ab_iload d_PR_addPair_42 rfl ?_
      refine ab_iload d_PR_addPair_44 rfl ?_
      refine ab_callS (d' := d - 1) (as := [vz cnt, vz cnt]) (st := []) (z_PR_pair (o := o) (f0 := cnt) (u0 := cnt) (by omega)) (fun oc G2 h => by rcases h with ⟨h, _⟩ <;> exact ⟨_, h⟩) (by omega) m_PR_pair ml_PR_88 st_PR_pair (Nat.le_of_ble_eq_true rfl) d_PR_addPair_46 rfl ?_
      intro v G21 hq
      rcases hq with ⟨hv, hGe⟩
      cases hv
      rw [hGe]
      change ab_W _ _ _ G2 49 [some (vR q), some (vz 3), some (vj w), none, some (vz vl), some (vz cnt), some (vz cnt)] [vj (cnt * 4294967296 + cnt)] _
      refine ab_lret rfl d_PR_addPair_49 ?_
      rw [hQ]; exact ⟨_, _, _, _, _, _, rfl, hfr, hlen, hsl, hq, hki, hne, hot, (by omega), (by omega), (by exact hp8), (by exact hkx8), (by omega), (by exact hpx8.lt (by omega) (by omega)), (by exact prCb.mk1 (hsd8.wd (by omega) (by omega)) (by omega) (by omega) (by omega) (by omega))⟩
set_option maxRecDepth 100000 in
set_option maxHeartbeats 4000000 in
theorem z_PR_fork {X : ab_X} {d : Nat} {o : Nat → Nat} {G : ab_G} {q : Nat} {lq : Nat} {ki : Nat} {ne : Nat} {ot : Nat} {cnt : Int} {fi : Int} {la : Int} {ra : Nat} {ru : Int} {gr : Int} {wi : Int} {sz : Int} {fl : Int} {ve : Int} {mi : Int} {na : Nat} {nl : Nat} {K : Int → Int} {N : Int → Int} {O : Int → Int} {RR : Int → Int} {nr : Nat} {w : Int} {u : Int} (hq : cc o G q lq (ab_ob 5 [vR ki, vR ne, vR ot, vz cnt, vz fi, vz la, vR ra, vz ru, vz gr, vz wi, vz sz, vz fl, vz ve, vz mi, vR na, vR nl])) (hki : cc o G ki (lq + 1) (za 808 K)) (hne : cc o G ne (lq + 2) (za 808 N)) (hot : cc o G ot (lq + 3) (za 808 O)) (hra : cc o G ra (lq + 4) (za nr RR)) (n18 : ab_n0 = 18) (cq : 100 ≤ lq ∧ 2 ≤ cnt ∧ cnt ≤ 808 ∧ 0 ≤ la ∧ la ≤ 1) (hp_ : prok K N O RR cnt ru wi) (cw : 0 ≤ w ∧ w / 4294967296 < cnt ∧ w % 4294967296 < cnt) (cu : 0 ≤ u ∧ u / 4294967296 < cnt ∧ u % 4294967296 < cnt) (cc8 : cnt + 2 ≤ 808) (hd : 1 ≤ d) : ab_F X d y_PR_fork (.code y_PR_fork b_PR_fork 7 (some (.long))) [vR q, vj w, vj u] G (fun oc G2 => ∃ w2 : Int, ∃ cnt2 : Int, ∃ la2 : Int, ∃ K2 : Int → Int, ∃ N2 : Int → Int, ∃ O2 : Int → Int, oc = .returned (some (vj w2)) ∧ fx o o [lq, (lq + 1), (lq + 2), (lq + 3)] G G2 ∧ G2.length = G.length ∧ ab_slots G2 = ab_slots G ∧ cc o G2 q lq (ab_ob 5 [vR ki, vR ne, vR ot, vz cnt2, vz fi, vz la2, vR ra, vz ru, vz gr, vz wi, vz sz, vz fl, vz ve, vz mi, vR na, vR nl]) ∧ cc o G2 ki (lq + 1) (za 808 K2) ∧ cc o G2 ne (lq + 2) (za 808 N2) ∧ cc o G2 ot (lq + 3) (za 808 O2) ∧ (cnt ≤ cnt2 ∧ cnt2 ≤ 808 ∧ 0 ≤ la2 ∧ la2 ≤ 1) ∧ (0 ≤ w2 ∧ w2 / 4294967296 < cnt2 ∧ w2 % 4294967296 < cnt2) ∧ (prok K2 N2 O2 RR cnt2 ru wi) ∧ (kext K K2 cnt) ∧ (cnt2 ≤ cnt + 2) ∧ (pxt K N O RR cnt ru K2 N2 O2 RR) ∧ (foC K2 N2 O2 cnt cnt2 w2 w u)) := by
  refine ab_F_of (by decide +kernel) (Nat.le_of_ble_eq_true rfl) ?_
  obtain ⟨Q, hQ⟩ : ∃ z : Outcome → ab_G → Prop, z = (fun oc G2 => ∃ w2 : Int, ∃ cnt2 : Int, ∃ la2 : Int, ∃ K2 : Int → Int, ∃ N2 : Int → Int, ∃ O2 : Int → Int, oc = .returned (some (vj w2)) ∧ fx o o [lq, (lq + 1), (lq + 2), (lq + 3)] G G2 ∧ G2.length = G.length ∧ ab_slots G2 = ab_slots G ∧ cc o G2 q lq (ab_ob 5 [vR ki, vR ne, vR ot, vz cnt2, vz fi, vz la2, vR ra, vz ru, vz gr, vz wi, vz sz, vz fl, vz ve, vz mi, vR na, vR nl]) ∧ cc o G2 ki (lq + 1) (za 808 K2) ∧ cc o G2 ne (lq + 2) (za 808 N2) ∧ cc o G2 ot (lq + 3) (za 808 O2) ∧ (cnt ≤ cnt2 ∧ cnt2 ≤ 808 ∧ 0 ≤ la2 ∧ la2 ≤ 1) ∧ (0 ≤ w2 ∧ w2 / 4294967296 < cnt2 ∧ w2 % 4294967296 < cnt2) ∧ (prok K2 N2 O2 RR cnt2 ru wi) ∧ (kext K K2 cnt) ∧ (cnt2 ≤ cnt + 2) ∧ (pxt K N O RR cnt ru K2 N2 O2 RR) ∧ (foC K2 N2 O2 cnt cnt2 w2 w u)) := ⟨_, rfl⟩
  rw [← hQ]
  change ab_W X (ab_pl y_PR_fork b_PR_fork 7 (some (.long))) d G 0 [some (vR q), some (vj w), none, some (vj u), none, none, none] [] Q
  have hfr : fx o o [lq, (lq + 1), (lq + 2), (lq + 3)] G G := fx.rf
  have hlen : G.length = G.length := rfl
  have hsl : ab_slots G = ab_slots G := rfl
  refine ab_aload_n d_PR_fork_0 rfl ?_
  refine zz_bipush d_PR_fork_1 (by decide) ?_
  refine ab_lload_n d_PR_fork_3 rfl ?_
  refine ab_callS (d' := d - 1) (as := [vj w]) (st := [vz 6, vR q]) (z_PR_fresh (o := o) (w := w) (by omega)) (fun oc G2 h => by rcases h with ⟨h, _⟩ <;> exact ⟨_, h⟩) (by omega) m_PR_fresh ml_PR_96 st_PR_fresh (Nat.le_of_ble_eq_true rfl) d_PR_fork_4 rfl ?_
  intro v G1 hq
  rcases hq with ⟨hv, hGe⟩
  cases hv
  rw [hGe]
  change ab_W _ _ _ G 7 [some (vR q), some (vj w), none, some (vj u), none, none, none] [vz (w / 4294967296), vz 6, vR q] _
  refine ab_lload_n d_PR_fork_7 rfl ?_
  refine ab_callS (d' := d - 1) (as := [vj u]) (st := [vz (w / 4294967296), vz 6, vR q]) (z_PR_fresh (o := o) (w := u) (by omega)) (fun oc G2 h => by rcases h with ⟨h, _⟩ <;> exact ⟨_, h⟩) (by omega) m_PR_fresh ml_PR_96 st_PR_fresh (Nat.le_of_ble_eq_true rfl) d_PR_fork_8 rfl ?_
  intro v G2 hq
  rcases hq with ⟨hv, hGe⟩
  cases hv
  rw [hGe]
  change ab_W _ _ _ G 11 [some (vR q), some (vj w), none, some (vj u), none, none, none] [vz (u / 4294967296), vz (w / 4294967296), vz 6, vR q] _
  refine ab_callV (d' := d - 1) (as := [vz 6, vz (w / 4294967296), vz (u / 4294967296)]) (st := []) (r := _) (z_PR_add (o := o) (q := q) (lq := lq) (ki := ki) (ne := ne) (ot := ot) (cnt := cnt) (fi := fi) (la := la) (ra := ra) (ru := ru) (gr := gr) (wi := wi) (sz := sz) (fl := fl) (ve := ve) (mi := mi) (na := na) (nl := nl) (K := K) (N := N) (O := O) (k0 := 6) (x0 := (w / 4294967296)) (v0 := (u / 4294967296)) hq hki hne hot (by omega) (by omega) (by omega)) (fun oc G2 h => by rcases h with ⟨h, _⟩ | ⟨_, h, _⟩ <;> exact ⟨_, h⟩) (by omega) m_PR_add ml_PR_84 im_PR_add se_PR_add c_PR hq.2.2 (Nat.le_of_ble_eq_true rfl) d_PR_fork_11 rfl ?_
  intro v G3 hq
  rcases hq with ⟨hv, hGe, hq4⟩ | ⟨la25, hv, hfk, hlk, hsk, hNq, hNki, hNne, hNot, hq6, hq7, hq8⟩
  · cases hv
    rw [hGe]
    change ab_W _ _ _ G 14 [some (vR q), some (vj w), none, some (vj u), none, none, none] [vz 0] _
    exfalso; omega
  · cases hv
    have hra := hfk.get hra (by simp only [List.mem_cons, List.not_mem_nil, or_false]; omega)
    have hfr := hfr.tr hfk (by simp)
    have hlen := hlk.trans hlen
    have hsl := hsk.trans hsl
    have hq := hNq
    have hki := hNki
    have hne := hNne
    have hot := hNot
    change ab_W _ _ _ G3 14 [some (vR q), some (vj w), none, some (vj u), none, none, none] [vz cnt] _
    have hp9 := prok_add (k := 6) (x := (w / 4294967296)) (v := (u / 4294967296)) hp_ (by omega) (by omega) (by omega) (by omega) (by omega) (fun t => by omega) (fun t => absurd t (by decide)) (fun t => absurd t (by decide)) (fun t => absurd t (by decide)) (fun t => absurd t (by decide))
    obtain ⟨K9, eK9⟩ : ∃ z : Int → Int, z = zu K cnt 6 := ⟨_, rfl⟩
    have hki : cc o G3 ki (lq + 1) (za 808 K9) := by rw [← eK9.symm]; exact hki
    obtain ⟨N9, eN9⟩ : ∃ z : Int → Int, z = zu N cnt (w / 4294967296) := ⟨_, rfl⟩
    have hne : cc o G3 ne (lq + 2) (za 808 N9) := by rw [← eN9.symm]; exact hne
    obtain ⟨O9, eO9⟩ : ∃ z : Int → Int, z = zu O cnt (u / 4294967296) := ⟨_, rfl⟩
    have hot : cc o G3 ot (lq + 3) (za 808 O9) := by rw [← eO9.symm]; exact hot
    rw [← eK9, ← eN9, ← eO9] at hp9
    have hkx9 : kext K K9 cnt := by rw [eK9]; exact kext.zu (Int.le_refl _)
    have hks9 : K9 cnt = 6 := by rw [eK9]; exact zu_self _ _ _
    have hsd9 : sdC K9 N9 O9 cnt (cnt + 1) cnt 6 (w / 4294967296) (u / 4294967296) := ⟨⟨by omega, by omega⟩, by rw [eK9]; exact zu_self _ _ _, by rw [eN9]; exact zu_self _ _ _, by rw [eO9]; exact zu_self _ _ _⟩
    have hpx9 : pxt K N O RR cnt ru K9 N9 O9 RR := by rw [eK9, eN9, eO9]; exact pxt.add (Int.le_refl _)
    change ab_W _ _ _ G3 14 [some (vR q), some (vj w), none, some (vj u), none, none, none] [vz cnt] _
    refine ab_istore d_PR_fork_14 (Nat.le_of_ble_eq_true rfl) (Nat.le_of_ble_eq_true rfl) rfl ?_
    change ab_W _ _ _ G3 16 [some (vR q), some (vj w), none, some (vj u), none, some (vz cnt), none] [] _
    refine ab_lload_n d_PR_fork_16 rfl ?_
    refine ab_callS (d' := d - 1) (as := [vj w]) (st := []) (z_PR_fresh (o := o) (w := w) (by omega)) (fun oc G2 h => by rcases h with ⟨h, _⟩ <;> exact ⟨_, h⟩) (by omega) m_PR_fresh ml_PR_96 st_PR_fresh (Nat.le_of_ble_eq_true rfl) d_PR_fork_17 rfl ?_
    intro v G10 hq
    rcases hq with ⟨hv, hGe⟩
    cases hv
    rw [hGe]
    change ab_W _ _ _ G3 20 [some (vR q), some (vj w), none, some (vj u), none, some (vz cnt), none] [vz (w / 4294967296)] _
    refine ab_lload_n d_PR_fork_20 rfl ?_
    refine ab_callS (d' := d - 1) (as := [vj w]) (st := [vz (w / 4294967296)]) (z_PR_used (o := o) (w := w) (by omega)) (fun oc G2 h => by rcases h with ⟨h, _⟩ <;> exact ⟨_, h⟩) (by omega) m_PR_used ml_PR_124 st_PR_used (Nat.le_of_ble_eq_true rfl) d_PR_fork_21 rfl ?_
    intro v G11 hq
    rcases hq with ⟨hv, hGe⟩
    cases hv
    rw [hGe]
    change ab_W _ _ _ G3 24 [some (vR q), some (vj w), none, some (vj u), none, some (vz cnt), none] [vz (w % 4294967296), vz (w / 4294967296)] _
    refine zz_icmp_ne (tgt := 42) d_PR_fork_24 (by decide) (by omega) (by omega) (fun c12 => ?_) (fun c12 => ?_)
    · refine zz_iconst d_PR_fork_42 ?_
      refine ab_istore d_PR_fork_43 (Nat.le_of_ble_eq_true rfl) (Nat.le_of_ble_eq_true rfl) rfl ?_
      change ab_W _ _ _ G3 45 [some (vR q), some (vj w), none, some (vj u), none, some (vz cnt), some (vz 0)] [] _
      refine ab_iload d_PR_fork_45 rfl ?_
      refine ab_iload d_PR_fork_47 rfl ?_
      refine zz_if_eq (tgt := 57) d_PR_fork_49 (by decide) (by decide) (fun c13 => ?_) (fun c13 => absurd c13 (by decide))
      refine ab_aload_n d_PR_fork_57 rfl ?_
      refine zz_bipush d_PR_fork_58 (by decide) ?_
      refine ab_lload_n d_PR_fork_60 rfl ?_
      refine ab_callS (d' := d - 1) (as := [vj w]) (st := [vz 6, vR q, vz cnt]) (z_PR_used (o := o) (w := w) (by omega)) (fun oc G2 h => by rcases h with ⟨h, _⟩ <;> exact ⟨_, h⟩) (by omega) m_PR_used ml_PR_124 st_PR_used (Nat.le_of_ble_eq_true rfl) d_PR_fork_61 rfl ?_
      intro v G14 hq
      rcases hq with ⟨hv, hGe⟩
      cases hv
      rw [hGe]
      change ab_W _ _ _ G3 64 [some (vR q), some (vj w), none, some (vj u), none, some (vz cnt), some (vz 0)] [vz (w % 4294967296), vz 6, vR q, vz cnt] _
      refine ab_lload_n d_PR_fork_64 rfl ?_
      refine ab_callS (d' := d - 1) (as := [vj u]) (st := [vz (w % 4294967296), vz 6, vR q, vz cnt]) (z_PR_used (o := o) (w := u) (by omega)) (fun oc G2 h => by rcases h with ⟨h, _⟩ <;> exact ⟨_, h⟩) (by omega) m_PR_used ml_PR_124 st_PR_used (Nat.le_of_ble_eq_true rfl) d_PR_fork_65 rfl ?_
      intro v G15 hq
      rcases hq with ⟨hv, hGe⟩
      cases hv
      rw [hGe]
      change ab_W _ _ _ G3 68 [some (vR q), some (vj w), none, some (vj u), none, some (vz cnt), some (vz 0)] [vz (u % 4294967296), vz (w % 4294967296), vz 6, vR q, vz cnt] _
      refine ab_callV (d' := d - 1) (as := [vz 6, vz (w % 4294967296), vz (u % 4294967296)]) (st := [vz cnt]) (r := _) (z_PR_add (o := o) (q := q) (lq := lq) (ki := ki) (ne := ne) (ot := ot) (cnt := (cnt + 1)) (fi := fi) (la := la25) (ra := ra) (ru := ru) (gr := gr) (wi := wi) (sz := sz) (fl := fl) (ve := ve) (mi := mi) (na := na) (nl := nl) (K := K9) (N := N9) (O := O9) (k0 := 6) (x0 := (w % 4294967296)) (v0 := (u % 4294967296)) hq hki hne hot (by omega) (by omega) (by omega)) (fun oc G2 h => by rcases h with ⟨h, _⟩ | ⟨_, h, _⟩ <;> exact ⟨_, h⟩) (by omega) m_PR_add ml_PR_84 im_PR_add se_PR_add c_PR hq.2.2 (Nat.le_of_ble_eq_true rfl) d_PR_fork_68 rfl ?_
      intro v G16 hq
      rcases hq with ⟨hv, hGe, hq17⟩ | ⟨la218, hv, hfk, hlk, hsk, hNq, hNki, hNne, hNot, hq19, hq20, hq21⟩
      · cases hv
        rw [hGe]
        change ab_W _ _ _ G3 71 [some (vR q), some (vj w), none, some (vj u), none, some (vz cnt), some (vz 0)] [vz 0, vz cnt] _
        exfalso; omega
      · cases hv
        have hra := hfk.get hra (by simp only [List.mem_cons, List.not_mem_nil, or_false]; omega)
        have hfr := hfr.tr hfk (by simp)
        have hlen := hlk.trans hlen
        have hsl := hsk.trans hsl
        have hq := hNq
        have hki := hNki
        have hne := hNne
        have hot := hNot
        change ab_W _ _ _ G16 71 [some (vR q), some (vj w), none, some (vj u), none, some (vz cnt), some (vz 0)] [vz (cnt + 1), vz cnt] _
        have hp22 := prok_add (k := 6) (x := (w % 4294967296)) (v := (u % 4294967296)) hp9 (by omega) (by omega) (by omega) (by omega) (by omega) (fun t => by omega) (fun t => absurd t (by decide)) (fun t => absurd t (by decide)) (fun t => absurd t (by decide)) (fun t => absurd t (by decide))
        obtain ⟨K22, eK22⟩ : ∃ z : Int → Int, z = zu K9 (cnt + 1) 6 := ⟨_, rfl⟩
        have hki : cc o G16 ki (lq + 1) (za 808 K22) := by rw [← eK22.symm]; exact hki
        obtain ⟨N22, eN22⟩ : ∃ z : Int → Int, z = zu N9 (cnt + 1) (w % 4294967296) := ⟨_, rfl⟩
        have hne : cc o G16 ne (lq + 2) (za 808 N22) := by rw [← eN22.symm]; exact hne
        obtain ⟨O22, eO22⟩ : ∃ z : Int → Int, z = zu O9 (cnt + 1) (u % 4294967296) := ⟨_, rfl⟩
        have hot : cc o G16 ot (lq + 3) (za 808 O22) := by rw [← eO22.symm]; exact hot
        rw [← eK22, ← eN22, ← eO22] at hp22
        have hkx22 : kext K9 K22 (cnt + 1) := by rw [eK22]; exact kext.zu (Int.le_refl _)
        have hks22 : K22 (cnt + 1) = 6 := by rw [eK22]; exact zu_self _ _ _
        have hsd22 : sdC K22 N22 O22 (cnt + 1) ((cnt + 1) + 1) (cnt + 1) 6 (w % 4294967296) (u % 4294967296) := ⟨⟨by omega, by omega⟩, by rw [eK22]; exact zu_self _ _ _, by rw [eN22]; exact zu_self _ _ _, by rw [eO22]; exact zu_self _ _ _⟩
        have hpx22 : pxt K9 N9 O9 RR (cnt + 1) ru K22 N22 O22 RR := by rw [eK22, eN22, eO22]; exact pxt.add (Int.le_refl _)
        change ab_W _ _ _ G16 71 [some (vR q), some (vj w), none, some (vj u), none, some (vz cnt), some (vz 0)] [vz (cnt + 1), vz cnt] _
        refine ab_callS (d' := d - 1) (as := [vz cnt, vz (cnt + 1)]) (st := []) (z_PR_pair (o := o) (f0 := cnt) (u0 := (cnt + 1)) (by omega)) (fun oc G2 h => by rcases h with ⟨h, _⟩ <;> exact ⟨_, h⟩) (by omega) m_PR_pair ml_PR_88 st_PR_pair (Nat.le_of_ble_eq_true rfl) d_PR_fork_71 rfl ?_
        intro v G23 hq
        rcases hq with ⟨hv, hGe⟩
        cases hv
        rw [hGe]
        change ab_W _ _ _ G16 74 [some (vR q), some (vj w), none, some (vj u), none, some (vz cnt), some (vz 0)] [vj (cnt * 4294967296 + (cnt + 1))] _
        refine ab_lret rfl d_PR_fork_74 ?_
        rw [hQ]; exact ⟨_, _, _, _, _, _, rfl, hfr, hlen, hsl, hq, hki, hne, hot, (by omega), (by omega), (by exact hp22), (by exact (hkx9.tr hkx22 (by omega))), (by omega), (by exact (hpx9.tr hpx22 (by omega) (by omega)).lt (by omega) (by omega)), (by exact foC.mk2 (hsd9.ex hpx22 (by omega) (by omega) (by omega) (by omega)) (hsd22.wd (by omega) (by omega)) (by omega) (by omega) (by omega) (by omega) (by omega) (by omega))⟩
    · refine ab_lload_n d_PR_fork_27 rfl ?_
      refine ab_callS (d' := d - 1) (as := [vj u]) (st := []) (z_PR_fresh (o := o) (w := u) (by omega)) (fun oc G2 h => by rcases h with ⟨h, _⟩ <;> exact ⟨_, h⟩) (by omega) m_PR_fresh ml_PR_96 st_PR_fresh (Nat.le_of_ble_eq_true rfl) d_PR_fork_28 rfl ?_
      intro v G24 hq
      rcases hq with ⟨hv, hGe⟩
      cases hv
      rw [hGe]
      change ab_W _ _ _ G3 31 [some (vR q), some (vj w), none, some (vj u), none, some (vz cnt), none] [vz (u / 4294967296)] _
      refine ab_lload_n d_PR_fork_31 rfl ?_
      refine ab_callS (d' := d - 1) (as := [vj u]) (st := [vz (u / 4294967296)]) (z_PR_used (o := o) (w := u) (by omega)) (fun oc G2 h => by rcases h with ⟨h, _⟩ <;> exact ⟨_, h⟩) (by omega) m_PR_used ml_PR_124 st_PR_used (Nat.le_of_ble_eq_true rfl) d_PR_fork_32 rfl ?_
      intro v G25 hq
      rcases hq with ⟨hv, hGe⟩
      cases hv
      rw [hGe]
      change ab_W _ _ _ G3 35 [some (vR q), some (vj w), none, some (vj u), none, some (vz cnt), none] [vz (u % 4294967296), vz (u / 4294967296)] _
      refine zz_icmp_ne (tgt := 42) d_PR_fork_35 (by decide) (by omega) (by omega) (fun c26 => ?_) (fun c26 => ?_)
      · refine zz_iconst d_PR_fork_42 ?_
        refine ab_istore d_PR_fork_43 (Nat.le_of_ble_eq_true rfl) (Nat.le_of_ble_eq_true rfl) rfl ?_
        change ab_W _ _ _ G3 45 [some (vR q), some (vj w), none, some (vj u), none, some (vz cnt), some (vz 0)] [] _
        refine ab_iload d_PR_fork_45 rfl ?_
        refine ab_iload d_PR_fork_47 rfl ?_
        refine zz_if_eq (tgt := 57) d_PR_fork_49 (by decide) (by decide) (fun c27 => ?_) (fun c27 => absurd c27 (by decide))
        refine ab_aload_n d_PR_fork_57 rfl ?_
        refine zz_bipush d_PR_fork_58 (by decide) ?_
        refine ab_lload_n d_PR_fork_60 rfl ?_
        refine ab_callS (d' := d - 1) (as := [vj w]) (st := [vz 6, vR q, vz cnt]) (z_PR_used (o := o) (w := w) (by omega)) (fun oc G2 h => by rcases h with ⟨h, _⟩ <;> exact ⟨_, h⟩) (by omega) m_PR_used ml_PR_124 st_PR_used (Nat.le_of_ble_eq_true rfl) d_PR_fork_61 rfl ?_
        intro v G28 hq
        rcases hq with ⟨hv, hGe⟩
        cases hv
        rw [hGe]
        change ab_W _ _ _ G3 64 [some (vR q), some (vj w), none, some (vj u), none, some (vz cnt), some (vz 0)] [vz (w % 4294967296), vz 6, vR q, vz cnt] _
        refine ab_lload_n d_PR_fork_64 rfl ?_
        refine ab_callS (d' := d - 1) (as := [vj u]) (st := [vz (w % 4294967296), vz 6, vR q, vz cnt]) (z_PR_used (o := o) (w := u) (by omega)) (fun oc G2 h => by rcases h with ⟨h, _⟩ <;> exact ⟨_, h⟩) (by omega) m_PR_used ml_PR_124 st_PR_used (Nat.le_of_ble_eq_true rfl) d_PR_fork_65 rfl ?_
        intro v G29 hq
        rcases hq with ⟨hv, hGe⟩
        cases hv
        rw [hGe]
        change ab_W _ _ _ G3 68 [some (vR q), some (vj w), none, some (vj u), none, some (vz cnt), some (vz 0)] [vz (u % 4294967296), vz (w % 4294967296), vz 6, vR q, vz cnt] _
        refine ab_callV (d' := d - 1) (as := [vz 6, vz (w % 4294967296), vz (u % 4294967296)]) (st := [vz cnt]) (r := _) (z_PR_add (o := o) (q := q) (lq := lq) (ki := ki) (ne := ne) (ot := ot) (cnt := (cnt + 1)) (fi := fi) (la := la25) (ra := ra) (ru := ru) (gr := gr) (wi := wi) (sz := sz) (fl := fl) (ve := ve) (mi := mi) (na := na) (nl := nl) (K := K9) (N := N9) (O := O9) (k0 := 6) (x0 := (w % 4294967296)) (v0 := (u % 4294967296)) hq hki hne hot (by omega) (by omega) (by omega)) (fun oc G2 h => by rcases h with ⟨h, _⟩ | ⟨_, h, _⟩ <;> exact ⟨_, h⟩) (by omega) m_PR_add ml_PR_84 im_PR_add se_PR_add c_PR hq.2.2 (Nat.le_of_ble_eq_true rfl) d_PR_fork_68 rfl ?_
        intro v G30 hq
        rcases hq with ⟨hv, hGe, hq31⟩ | ⟨la232, hv, hfk, hlk, hsk, hNq, hNki, hNne, hNot, hq33, hq34, hq35⟩
        · cases hv
          rw [hGe]
          change ab_W _ _ _ G3 71 [some (vR q), some (vj w), none, some (vj u), none, some (vz cnt), some (vz 0)] [vz 0, vz cnt] _
          exfalso; omega
        · cases hv
          have hra := hfk.get hra (by simp only [List.mem_cons, List.not_mem_nil, or_false]; omega)
          have hfr := hfr.tr hfk (by simp)
          have hlen := hlk.trans hlen
          have hsl := hsk.trans hsl
          have hq := hNq
          have hki := hNki
          have hne := hNne
          have hot := hNot
          change ab_W _ _ _ G30 71 [some (vR q), some (vj w), none, some (vj u), none, some (vz cnt), some (vz 0)] [vz (cnt + 1), vz cnt] _
          have hp36 := prok_add (k := 6) (x := (w % 4294967296)) (v := (u % 4294967296)) hp9 (by omega) (by omega) (by omega) (by omega) (by omega) (fun t => by omega) (fun t => absurd t (by decide)) (fun t => absurd t (by decide)) (fun t => absurd t (by decide)) (fun t => absurd t (by decide))
          obtain ⟨K36, eK36⟩ : ∃ z : Int → Int, z = zu K9 (cnt + 1) 6 := ⟨_, rfl⟩
          have hki : cc o G30 ki (lq + 1) (za 808 K36) := by rw [← eK36.symm]; exact hki
          obtain ⟨N36, eN36⟩ : ∃ z : Int → Int, z = zu N9 (cnt + 1) (w % 4294967296) := ⟨_, rfl⟩
          have hne : cc o G30 ne (lq + 2) (za 808 N36) := by rw [← eN36.symm]; exact hne
          obtain ⟨O36, eO36⟩ : ∃ z : Int → Int, z = zu O9 (cnt + 1) (u % 4294967296) := ⟨_, rfl⟩
          have hot : cc o G30 ot (lq + 3) (za 808 O36) := by rw [← eO36.symm]; exact hot
          rw [← eK36, ← eN36, ← eO36] at hp36
          have hkx36 : kext K9 K36 (cnt + 1) := by rw [eK36]; exact kext.zu (Int.le_refl _)
          have hks36 : K36 (cnt + 1) = 6 := by rw [eK36]; exact zu_self _ _ _
          have hsd36 : sdC K36 N36 O36 (cnt + 1) ((cnt + 1) + 1) (cnt + 1) 6 (w % 4294967296) (u % 4294967296) := ⟨⟨by omega, by omega⟩, by rw [eK36]; exact zu_self _ _ _, by rw [eN36]; exact zu_self _ _ _, by rw [eO36]; exact zu_self _ _ _⟩
          have hpx36 : pxt K9 N9 O9 RR (cnt + 1) ru K36 N36 O36 RR := by rw [eK36, eN36, eO36]; exact pxt.add (Int.le_refl _)
          change ab_W _ _ _ G30 71 [some (vR q), some (vj w), none, some (vj u), none, some (vz cnt), some (vz 0)] [vz (cnt + 1), vz cnt] _
          refine ab_callS (d' := d - 1) (as := [vz cnt, vz (cnt + 1)]) (st := []) (z_PR_pair (o := o) (f0 := cnt) (u0 := (cnt + 1)) (by omega)) (fun oc G2 h => by rcases h with ⟨h, _⟩ <;> exact ⟨_, h⟩) (by omega) m_PR_pair ml_PR_88 st_PR_pair (Nat.le_of_ble_eq_true rfl) d_PR_fork_71 rfl ?_
          intro v G37 hq
          rcases hq with ⟨hv, hGe⟩
          cases hv
          rw [hGe]
          change ab_W _ _ _ G30 74 [some (vR q), some (vj w), none, some (vj u), none, some (vz cnt), some (vz 0)] [vj (cnt * 4294967296 + (cnt + 1))] _
          refine ab_lret rfl d_PR_fork_74 ?_
          rw [hQ]; exact ⟨_, _, _, _, _, _, rfl, hfr, hlen, hsl, hq, hki, hne, hot, (by omega), (by omega), (by exact hp36), (by exact (hkx9.tr hkx36 (by omega))), (by omega), (by exact (hpx9.tr hpx36 (by omega) (by omega)).lt (by omega) (by omega)), (by exact foC.mk2 (hsd9.ex hpx36 (by omega) (by omega) (by omega) (by omega)) (hsd36.wd (by omega) (by omega)) (by omega) (by omega) (by omega) (by omega) (by omega) (by omega))⟩
      · refine zz_iconst d_PR_fork_38 ?_
        refine ab_goto (tgt := 43) d_PR_fork_39 (by decide) ?_
        refine ab_istore d_PR_fork_43 (Nat.le_of_ble_eq_true rfl) (Nat.le_of_ble_eq_true rfl) rfl ?_
        change ab_W _ _ _ G3 45 [some (vR q), some (vj w), none, some (vj u), none, some (vz cnt), some (vz 1)] [] _
        refine ab_iload d_PR_fork_45 rfl ?_
        refine ab_iload d_PR_fork_47 rfl ?_
        refine zz_if_eq (tgt := 57) d_PR_fork_49 (by decide) (by decide) (fun c38 => absurd c38 (by decide)) (fun c38 => ?_)
        refine ab_iload d_PR_fork_52 rfl ?_
        refine ab_goto (tgt := 71) d_PR_fork_54 (by decide) ?_
        refine ab_callS (d' := d - 1) (as := [vz cnt, vz cnt]) (st := []) (z_PR_pair (o := o) (f0 := cnt) (u0 := cnt) (by omega)) (fun oc G2 h => by rcases h with ⟨h, _⟩ <;> exact ⟨_, h⟩) (by omega) m_PR_pair ml_PR_88 st_PR_pair (Nat.le_of_ble_eq_true rfl) d_PR_fork_71 rfl ?_
        intro v G39 hq
        rcases hq with ⟨hv, hGe⟩
        cases hv
        rw [hGe]
        change ab_W _ _ _ G3 74 [some (vR q), some (vj w), none, some (vj u), none, some (vz cnt), some (vz 1)] [vj (cnt * 4294967296 + cnt)] _
        refine ab_lret rfl d_PR_fork_74 ?_
        rw [hQ]; exact ⟨_, _, _, _, _, _, rfl, hfr, hlen, hsl, hq, hki, hne, hot, (by omega), (by omega), (by exact hp9), (by exact hkx9), (by omega), (by exact hpx9.lt (by omega) (by omega)), (by exact foC.mk1 (hsd9.wd (by omega) (by omega)) (by omega) (by omega) (by omega) (by omega) (by omega) (by omega))⟩
set_option maxRecDepth 100000 in
set_option maxHeartbeats 4000000 in
theorem z_PR_once {X : ab_X} {d : Nat} {o : Nat → Nat} {G : ab_G} {q : Nat} {lq : Nat} {ki : Nat} {ne : Nat} {ot : Nat} {cnt : Int} {fi : Int} {la : Int} {ra : Nat} {ru : Int} {gr : Int} {wi : Int} {sz : Int} {fl : Int} {ve : Int} {mi : Int} {na : Nat} {nl : Nat} {K : Int → Int} {N : Int → Int} {O : Int → Int} {RR : Int → Int} {nr : Nat} {ps : Nat → Nat} {wt : Nat → Wt} {bs : Nat} {ph : Int} {gq : Int} {p : Nat} {w : Int} {dd : Int} {cu : Nat → Int} {cs : Nat → Sn} {on : Nat → Sn} {re : Nat → Sn} {rg : Nat → Sn} {bq : Int} (hq : cc o G q lq (ab_ob 5 [vR ki, vR ne, vR ot, vz cnt, vz fi, vz la, vR ra, vz ru, vz gr, vz wi, vz sz, vz fl, vz ve, vz mi, vR na, vR nl])) (hki : cc o G ki (lq + 1) (za 808 K)) (hne : cc o G ne (lq + 2) (za 808 N)) (hot : cc o G ot (lq + 3) (za 808 O)) (hra : cc o G ra (lq + 4) (za nr RR)) (ppaI_0 : paI o G 0 ps wt bs gq (prc RR ru) ph) (pszB_0 : szB o G 0 ps cu) (pdnB_0 : dnB o G 0 ps wt cs on re rg RR ru) (n18 : ab_n0 = 18) (cq : 100 ≤ lq ∧ 2 ≤ cnt ∧ cnt ≤ 808 ∧ 0 ≤ la ∧ la ≤ 1 ∧ 0 ≤ ru ∧ ru ≤ ↑nr ∧ ↑nr ≤ (100000 : Int) ∧ 32 ≤ nr ∧ 0 ≤ ph ∧ ru + ph ≤ 50000) (hp_ : prok K N O RR cnt ru wi) (hch : rch RR ru) (hr : hrr RR ↑nr) (ck0 : K 0 = 9) (cg_ : 0 ≤ gq ∧ gq ≤ 9 ∧ wi = 2 * (gq + 1)) (hpp : ps p = 90) (cw : 0 ≤ w ∧ w / 4294967296 < cnt ∧ w % 4294967296 < cnt) (cdd : 0 ≤ dd ∧ dd ≤ 30) (hdd : 6 * (31 - dd) + 6 ≤ (↑d : Int)) (rc : 32 * G.length + 103300 ≤ 32 * (ab_n0 + room_1.cells) + nr) (rs : ab_slots G + 200000 ≤ room_1.slots + 2 * nr) (hbq : bqo G cu p bq) (hht : hgt (on p) + dd ≤ 30) (hcb : cnt + 2 * bq ≤ 808) (ihR : ∀ {d : Nat} {o : Nat → Nat} {G : ab_G} {q : Nat} {lq : Nat} {ki : Nat} {ne : Nat} {ot : Nat} {cnt : Int} {fi : Int} {la : Int} {ra : Nat} {ru : Int} {gr : Int} {wi : Int} {sz : Int} {fl : Int} {ve : Int} {mi : Int} {na : Nat} {nl : Nat} {K : Int → Int} {N : Int → Int} {O : Int → Int} {RR : Int → Int} {nr : Nat} {ps : Nat → Nat} {wt : Nat → Wt} {bs : Nat} {ph : Int} {gq : Int} {p : Nat} {w : Int} {cu : Nat → Int} {cs : Nat → Sn} {on : Nat → Sn} {re : Nat → Sn} {rg : Nat → Sn} {bq : Int}, (cc o G q lq (ab_ob 5 [vR ki, vR ne, vR ot, vz cnt, vz fi, vz la, vR ra, vz ru, vz gr, vz wi, vz sz, vz fl, vz ve, vz mi, vR na, vR nl])) → (cc o G ki (lq + 1) (za 808 K)) → (cc o G ne (lq + 2) (za 808 N)) → (cc o G ot (lq + 3) (za 808 O)) → (cc o G ra (lq + 4) (za nr RR)) → (paI o G 0 ps wt bs gq (prc RR ru) ph) → (szB o G 0 ps cu) → (dnB o G 0 ps wt cs on re rg RR ru) → (ab_n0 = 18) → (100 ≤ lq ∧ 2 ≤ cnt ∧ cnt ≤ 808 ∧ 0 ≤ la ∧ la ≤ 1 ∧ 0 ≤ ru ∧ ru ≤ ↑nr ∧ ↑nr ≤ (100000 : Int) ∧ 32 ≤ nr ∧ 0 ≤ ph ∧ ru + ph ≤ 50000) → (prok K N O RR cnt ru wi) → (rch RR ru) → (hrr RR ↑nr) → (K 0 = 9) → (0 ≤ gq ∧ gq ≤ 9 ∧ wi = 2 * (gq + 1)) → (ps p = 90) → (0 ≤ w ∧ w / 4294967296 < cnt ∧ w % 4294967296 < cnt) → (0 ≤ (dd + 1) ∧ (dd + 1) ≤ 31) → (6 * (31 - (dd + 1)) + 10 ≤ (↑d : Int)) → (bqr G cu p bq) → (hgt (rg p) + (dd + 1) ≤ 30) → (cnt + 2 * bq ≤ 808) → (32 * G.length + 103300 ≤ 32 * (ab_n0 + room_1.cells) + nr) → (ab_slots G + 200000 ≤ room_1.slots + 2 * nr) → ab_F X d y_PR_rows (.code y_PR_rows b_PR_rows 8 (some (.long))) [vR q, vR p, vj w, vz (dd + 1)] G (fun oc G2 => ∃ o2 : Nat → Nat, ∃ w2 : Int, ∃ cnt2 : Int, ∃ la2 : Int, ∃ ra2 : Nat, ∃ nr2 : Nat, ∃ ru2 : Int, ∃ K2 : Int → Int, ∃ N2 : Int → Int, ∃ O2 : Int → Int, ∃ RR2 : Int → Int, ∃ ph2 : Int, oc = .returned (some (vj w2)) ∧ fx o o2 [lq, (lq + 1), (lq + 2), (lq + 3), (lq + 4), 90] G G2 ∧ cc o2 G2 q lq (ab_ob 5 [vR ki, vR ne, vR ot, vz cnt2, vz fi, vz la2, vR ra2, vz ru2, vz gr, vz wi, vz sz, vz fl, vz ve, vz mi, vR na, vR nl]) ∧ cc o2 G2 ki (lq + 1) (za 808 K2) ∧ cc o2 G2 ne (lq + 2) (za 808 N2) ∧ cc o2 G2 ot (lq + 3) (za 808 O2) ∧ cc o2 G2 ra2 (lq + 4) (za nr2 RR2) ∧ paI o2 G2 0 ps wt bs gq (prc RR2 ru2) ph2 ∧ szB o2 G2 0 ps cu ∧ dnB o2 G2 0 ps wt cs on re rg RR2 ru2 ∧ (cnt ≤ cnt2 ∧ cnt2 ≤ 808 ∧ 0 ≤ la2 ∧ la2 ≤ 1) ∧ (0 ≤ w2 ∧ w2 / 4294967296 < cnt2 ∧ w2 % 4294967296 < cnt2) ∧ (0 ≤ ru2 ∧ ru2 ≤ ↑nr2 ∧ ↑nr2 ≤ (100000 : Int) ∧ nr ≤ nr2) ∧ (0 ≤ ph2 ∧ ru2 + ph2 ≤ ru + ph) ∧ (prok K2 N2 O2 RR2 cnt2 ru2 wi) ∧ (hrr RR2 ↑nr2) ∧ (rch RR2 ru2) ∧ (kext K K2 cnt) ∧ (fzr ps o o2 G G2) ∧ (32 * G2.length + nr ≤ 32 * G.length + nr2) ∧ (ab_slots G2 + 2 * nr ≤ ab_slots G + 2 * nr2) ∧ (ru ≤ ru2) ∧ (cnt2 ≤ cnt + 2 * bq) ∧ (pxt K N O RR cnt ru K2 N2 O2 RR2) ∧ (RP K2 N2 O2 RR2 ru2 cnt cnt2 w w2 (rg p)))) : ab_F X d y_PR_once (.code y_PR_once b_PR_once 7 (some (.long))) [vR q, vR p, vj w, vz dd] G (fun oc G2 => ∃ o2 : Nat → Nat, ∃ w2 : Int, ∃ cnt2 : Int, ∃ la2 : Int, ∃ ra2 : Nat, ∃ nr2 : Nat, ∃ ru2 : Int, ∃ K2 : Int → Int, ∃ N2 : Int → Int, ∃ O2 : Int → Int, ∃ RR2 : Int → Int, ∃ ph2 : Int, oc = .returned (some (vj w2)) ∧ fx o o2 [lq, (lq + 1), (lq + 2), (lq + 3), (lq + 4), 90] G G2 ∧ cc o2 G2 q lq (ab_ob 5 [vR ki, vR ne, vR ot, vz cnt2, vz fi, vz la2, vR ra2, vz ru2, vz gr, vz wi, vz sz, vz fl, vz ve, vz mi, vR na, vR nl]) ∧ cc o2 G2 ki (lq + 1) (za 808 K2) ∧ cc o2 G2 ne (lq + 2) (za 808 N2) ∧ cc o2 G2 ot (lq + 3) (za 808 O2) ∧ cc o2 G2 ra2 (lq + 4) (za nr2 RR2) ∧ paI o2 G2 0 ps wt bs gq (prc RR2 ru2) ph2 ∧ szB o2 G2 0 ps cu ∧ dnB o2 G2 0 ps wt cs on re rg RR2 ru2 ∧ (cnt ≤ cnt2 ∧ cnt2 ≤ 808 ∧ 0 ≤ la2 ∧ la2 ≤ 1) ∧ (0 ≤ w2 ∧ w2 / 4294967296 < cnt2 ∧ w2 % 4294967296 < cnt2) ∧ (0 ≤ ru2 ∧ ru2 ≤ ↑nr2 ∧ ↑nr2 ≤ (100000 : Int) ∧ nr ≤ nr2) ∧ (0 ≤ ph2 ∧ ru2 + ph2 ≤ ru + ph) ∧ (prok K2 N2 O2 RR2 cnt2 ru2 wi) ∧ (hrr RR2 ↑nr2) ∧ (rch RR2 ru2) ∧ (kext K K2 cnt) ∧ (fzr ps o o2 G G2) ∧ (32 * G2.length + nr ≤ 32 * G.length + nr2) ∧ (ab_slots G2 + 2 * nr ≤ ab_slots G + 2 * nr2) ∧ (ru ≤ ru2) ∧ (cnt2 ≤ cnt + 2 * bq) ∧ (pxt K N O RR cnt ru K2 N2 O2 RR2) ∧ (RP K2 N2 O2 RR2 ru2 cnt cnt2 w w2 (on p))) := by
  refine ab_F_of (by decide +kernel) (Nat.le_of_ble_eq_true rfl) ?_
  obtain ⟨Q, hQ⟩ : ∃ z : Outcome → ab_G → Prop, z = (fun oc G2 => ∃ o2 : Nat → Nat, ∃ w2 : Int, ∃ cnt2 : Int, ∃ la2 : Int, ∃ ra2 : Nat, ∃ nr2 : Nat, ∃ ru2 : Int, ∃ K2 : Int → Int, ∃ N2 : Int → Int, ∃ O2 : Int → Int, ∃ RR2 : Int → Int, ∃ ph2 : Int, oc = .returned (some (vj w2)) ∧ fx o o2 [lq, (lq + 1), (lq + 2), (lq + 3), (lq + 4), 90] G G2 ∧ cc o2 G2 q lq (ab_ob 5 [vR ki, vR ne, vR ot, vz cnt2, vz fi, vz la2, vR ra2, vz ru2, vz gr, vz wi, vz sz, vz fl, vz ve, vz mi, vR na, vR nl]) ∧ cc o2 G2 ki (lq + 1) (za 808 K2) ∧ cc o2 G2 ne (lq + 2) (za 808 N2) ∧ cc o2 G2 ot (lq + 3) (za 808 O2) ∧ cc o2 G2 ra2 (lq + 4) (za nr2 RR2) ∧ paI o2 G2 0 ps wt bs gq (prc RR2 ru2) ph2 ∧ szB o2 G2 0 ps cu ∧ dnB o2 G2 0 ps wt cs on re rg RR2 ru2 ∧ (cnt ≤ cnt2 ∧ cnt2 ≤ 808 ∧ 0 ≤ la2 ∧ la2 ≤ 1) ∧ (0 ≤ w2 ∧ w2 / 4294967296 < cnt2 ∧ w2 % 4294967296 < cnt2) ∧ (0 ≤ ru2 ∧ ru2 ≤ ↑nr2 ∧ ↑nr2 ≤ (100000 : Int) ∧ nr ≤ nr2) ∧ (0 ≤ ph2 ∧ ru2 + ph2 ≤ ru + ph) ∧ (prok K2 N2 O2 RR2 cnt2 ru2 wi) ∧ (hrr RR2 ↑nr2) ∧ (rch RR2 ru2) ∧ (kext K K2 cnt) ∧ (fzr ps o o2 G G2) ∧ (32 * G2.length + nr ≤ 32 * G.length + nr2) ∧ (ab_slots G2 + 2 * nr ≤ ab_slots G + 2 * nr2) ∧ (ru ≤ ru2) ∧ (cnt2 ≤ cnt + 2 * bq) ∧ (pxt K N O RR cnt ru K2 N2 O2 RR2) ∧ (RP K2 N2 O2 RR2 ru2 cnt cnt2 w w2 (on p))) := ⟨_, rfl⟩
  rw [← hQ]
  change ab_W X (ab_pl y_PR_once b_PR_once 7 (some (.long))) d G 0 [some (vR q), some (vR p), some (vj w), none, some (vz dd), none, none] [] Q
  have hfr : fx o o [lq, (lq + 1), (lq + 2), (lq + 3), (lq + 4), 90] G G := fx.rf
  have hzr : fzr ps o o G G := fzr.rf
  obtain ⟨k_1, v_1, rg_1, pl_1, fl_1, ou_1, ls_1, bf_1, sz_1, mb_1, oe_1, le_1, mo_1, la_1, rc_1, hp, hn1, hb1, hg1, ho1, hl1, hf1⟩ := ppaI_0.1 p hpp
  have hB1 := hb1
  unfold pnB at hB1
  have hK1 := hn1.1
  obtain ⟨hcsp_, hrep_, honp_, hrgp_, hoep_, hzzp_⟩ := pdnB_0.part hpp hp (by omega) (by omega) (by omega)
  have hbe_ := bqo_e hp (by omega) (by omega) hbq
  have hlv_ := lvc_0 pszB_0.c0 ls_1
  refine ab_aload_n d_PR_once_0 rfl ?_
  refine ab_getf (fs := [vz k_1, vz v_1, rg_1, vz pl_1, vz fl_1, ou_1, ls_1, bf_1, vz sz_1, vz mb_1, vz oe_1, vz le_1, vz mo_1, vz la_1, vz rc_1]) f_PR_162 d_PR_once_1 hp.2.2 rfl ?_
  refine zz_iconst d_PR_once_4 ?_
  refine zz_icmp_ne (tgt := 26) d_PR_once_5 (by decide) (by omega) (by decide) (fun c2 => ?_) (fun c2 => ?_)
  · refine ab_aload_n d_PR_once_26 rfl ?_
    refine ab_getf (fs := [vz k_1, vz v_1, rg_1, vz pl_1, vz fl_1, ou_1, ls_1, bf_1, vz sz_1, vz mb_1, vz oe_1, vz le_1, vz mo_1, vz la_1, vz rc_1]) f_PR_162 d_PR_once_27 hp.2.2 rfl ?_
    refine zz_iconst d_PR_once_30 ?_
    refine zz_icmp_ne (tgt := 75) d_PR_once_31 (by decide) (by omega) (by decide) (fun c3 => ?_) (fun c3 => absurd c3 (by omega))
    refine ab_aload_n d_PR_once_75 rfl ?_
    refine ab_getf (fs := [vz k_1, vz v_1, rg_1, vz pl_1, vz fl_1, ou_1, ls_1, bf_1, vz sz_1, vz mb_1, vz oe_1, vz le_1, vz mo_1, vz la_1, vz rc_1]) f_PR_162 d_PR_once_76 hp.2.2 rfl ?_
    refine zz_iconst d_PR_once_79 ?_
    refine zz_icmp_ne (tgt := 94) d_PR_once_80 (by decide) (by omega) (by decide) (fun c4 => ?_) (fun c4 => ?_)
    · have hpn_ := pin_1 (k := k_1) (v := v_1) (by omega)
      refine ab_aload_n d_PR_once_94 rfl ?_
      refine ab_aload_n d_PR_once_95 rfl ?_
      refine ab_getf (fs := [vz k_1, vz v_1, rg_1, vz pl_1, vz fl_1, ou_1, ls_1, bf_1, vz sz_1, vz mb_1, vz oe_1, vz le_1, vz mo_1, vz la_1, vz rc_1]) f_PR_162 d_PR_once_96 hp.2.2 rfl ?_
      refine ab_lload_n d_PR_once_99 rfl ?_
      refine ab_callS (d' := d - 1) (as := [vj w]) (st := [vz k_1, vR q]) (z_PR_used (o := o) (w := w) (by omega)) (fun oc G2 h => by rcases h with ⟨h, _⟩ <;> exact ⟨_, h⟩) (by omega) m_PR_used ml_PR_124 st_PR_used (Nat.le_of_ble_eq_true rfl) d_PR_once_100 rfl ?_
      intro v G5 hq
      rcases hq with ⟨hv, hGe⟩
      cases hv
      rw [hGe]
      change ab_W _ _ _ G 103 [some (vR q), some (vR p), some (vj w), none, some (vz dd), none, none] [vz (w % 4294967296), vz k_1, vR q] _
      refine ab_aload_n d_PR_once_103 rfl ?_
      refine ab_getf (fs := [vz k_1, vz v_1, rg_1, vz pl_1, vz fl_1, ou_1, ls_1, bf_1, vz sz_1, vz mb_1, vz oe_1, vz le_1, vz mo_1, vz la_1, vz rc_1]) f_PR_162 d_PR_once_104 hp.2.2 rfl ?_
      refine zz_iconst d_PR_once_107 ?_
      refine zz_icmp_ne (tgt := 119) d_PR_once_108 (by decide) (by omega) (by decide) (fun c6 => ?_) (fun c6 => ?_)
      · refine ab_aload_n d_PR_once_119 rfl ?_
        refine ab_getf (fs := [vz k_1, vz v_1, rg_1, vz pl_1, vz fl_1, ou_1, ls_1, bf_1, vz sz_1, vz mb_1, vz oe_1, vz le_1, vz mo_1, vz la_1, vz rc_1]) f_PR_165 d_PR_once_120 hp.2.2 rfl ?_
        refine ab_callV (d' := d - 1) (as := [vz k_1, vz (w % 4294967296), vz v_1]) (st := []) (r := _) (z_PR_add (o := o) (q := q) (lq := lq) (ki := ki) (ne := ne) (ot := ot) (cnt := cnt) (fi := fi) (la := la) (ra := ra) (ru := ru) (gr := gr) (wi := wi) (sz := sz) (fl := fl) (ve := ve) (mi := mi) (na := na) (nl := nl) (K := K) (N := N) (O := O) (k0 := k_1) (x0 := (w % 4294967296)) (v0 := v_1) hq hki hne hot (by omega) (by omega) (by omega)) (fun oc G2 h => by rcases h with ⟨h, _⟩ | ⟨_, h, _⟩ <;> exact ⟨_, h⟩) (by omega) m_PR_add ml_PR_84 im_PR_add se_PR_add c_PR hq.2.2 (Nat.le_of_ble_eq_true rfl) d_PR_once_123 rfl ?_
        intro v G7 hq
        rcases hq with ⟨hv, hGe, hq8⟩ | ⟨la29, hv, hfk, hlk, hsk, hNq, hNki, hNne, hNot, hq10, hq11, hq12⟩
        · cases hv
          rw [hGe]
          change ab_W _ _ _ G 126 [some (vR q), some (vR p), some (vj w), none, some (vz dd), none, none] [vz 0] _
          exfalso; omega
        · cases hv
          have hzr := hzr.tr (fzr.fx hfk (by simp only [List.mem_cons, List.not_mem_nil, or_false]; omega))
          have hra := hfk.get hra (by simp only [List.mem_cons, List.not_mem_nil, or_false]; omega)
          have hp := hfk.get hp (by simp only [List.mem_cons, List.not_mem_nil, or_false]; omega)
          have pszB_0 := szB.fr hfk pszB_0 (by simp only [List.mem_cons, List.not_mem_nil, or_false]; omega) (by simp only [List.mem_cons, List.not_mem_nil, or_false]; omega)
          have pdnB_0 := dnB.fr hfk ppaI_0 pdnB_0 (by simp only [List.mem_cons, List.not_mem_nil, or_false]; omega) (by simp only [List.mem_cons, List.not_mem_nil, or_false]; omega)
          have ppaI_0 := paI.fr hfk ppaI_0 (by simp only [List.mem_cons, List.not_mem_nil, or_false]; omega) (by simp only [List.mem_cons, List.not_mem_nil, or_false]; omega) (by simp only [List.mem_cons, List.not_mem_nil, or_false]; omega) (by intro xx hx; simp only [List.mem_cons, List.not_mem_nil, or_false] at hx; omega)
          have hfr := hfr.tr hfk (by simp)
          have hq13 := hlk
          have hq14 := hsk
          have hq := hNq
          have hki := hNki
          have hne := hNne
          have hot := hNot
          change ab_W _ _ _ G7 126 [some (vR q), some (vR p), some (vj w), none, some (vz dd), none, none] [vz cnt] _
          have hp15 := prok_add (k := k_1) (x := (w % 4294967296)) (v := v_1) hp_ (by omega) (by omega) (by omega) (by omega) (by omega) (fun t => absurd t (by omega)) (fun t => absurd t (by omega)) (fun t => absurd t (by omega)) (fun t => by have hv0 := hn1.2.1 (by omega); omega) (fun t => absurd t (by omega))
          obtain ⟨K15, eK15⟩ : ∃ z : Int → Int, z = zu K cnt k_1 := ⟨_, rfl⟩
          have hki : cc o G7 ki (lq + 1) (za 808 K15) := by rw [← eK15.symm]; exact hki
          obtain ⟨N15, eN15⟩ : ∃ z : Int → Int, z = zu N cnt (w % 4294967296) := ⟨_, rfl⟩
          have hne : cc o G7 ne (lq + 2) (za 808 N15) := by rw [← eN15.symm]; exact hne
          obtain ⟨O15, eO15⟩ : ∃ z : Int → Int, z = zu O cnt v_1 := ⟨_, rfl⟩
          have hot : cc o G7 ot (lq + 3) (za 808 O15) := by rw [← eO15.symm]; exact hot
          rw [← eK15, ← eN15, ← eO15] at hp15
          have hkx15 : kext K K15 cnt := by rw [eK15]; exact kext.zu (Int.le_refl _)
          have hks15 : K15 cnt = k_1 := by rw [eK15]; exact zu_self _ _ _
          have hsd15 : sdC K15 N15 O15 cnt (cnt + 1) cnt k_1 (w % 4294967296) v_1 := ⟨⟨by omega, by omega⟩, by rw [eK15]; exact zu_self _ _ _, by rw [eN15]; exact zu_self _ _ _, by rw [eO15]; exact zu_self _ _ _⟩
          have hpx15 : pxt K N O RR cnt ru K15 N15 O15 RR := by rw [eK15, eN15, eO15]; exact pxt.add (Int.le_refl _)
          change ab_W _ _ _ G7 126 [some (vR q), some (vR p), some (vj w), none, some (vz dd), none, none] [vz cnt] _
          refine ab_istore d_PR_once_126 (Nat.le_of_ble_eq_true rfl) (Nat.le_of_ble_eq_true rfl) rfl ?_
          change ab_W _ _ _ G7 128 [some (vR q), some (vR p), some (vj w), none, some (vz dd), some (vz cnt), none] [] _
          refine ab_iload d_PR_once_128 rfl ?_
          refine ab_iload d_PR_once_130 rfl ?_
          refine ab_callS (d' := d - 1) (as := [vz cnt, vz cnt]) (st := []) (z_PR_pair (o := o) (f0 := cnt) (u0 := cnt) (by omega)) (fun oc G2 h => by rcases h with ⟨h, _⟩ <;> exact ⟨_, h⟩) (by omega) m_PR_pair ml_PR_88 st_PR_pair (Nat.le_of_ble_eq_true rfl) d_PR_once_132 rfl ?_
          intro v G16 hq
          rcases hq with ⟨hv, hGe⟩
          cases hv
          rw [hGe]
          change ab_W _ _ _ G7 135 [some (vR q), some (vR p), some (vj w), none, some (vz dd), some (vz cnt), none] [vj (cnt * 4294967296 + cnt)] _
          refine ab_lret rfl d_PR_once_135 ?_
          rw [hQ]; exact ⟨_, _, _, _, _, _, _, _, _, _, _, _, rfl, hfr, hq, hki, hne, hot, hra, ppaI_0, pszB_0, pdnB_0, (by omega), (by omega), (by omega), (by omega), (by exact hp15), (by exact hr), (by exact hch), (by exact hkx15), (by exact hzr), (by omega), (by omega), (by omega), (by first | (have t := pin_v (k := k_1) (v := v_1) (by omega) (by omega); omega) | (have t := pin_1 (k := k_1) (v := v_1) (by omega); omega) | (have t := pin_0 k_1 v_1; omega)), (by exact hpx15.lt (by omega) (by omega)), (by exact (RP_lf (S := (wt p).2) (x := rg p) (hsd15.wd (by omega) (by omega)) (by omega) v_1 (fun _ => rfl) (fun t => absurd t (by omega)) (by omega) (by omega)).e honp_.symm)⟩
      · refine ab_aload_n d_PR_once_111 rfl ?_
        refine ab_aload_n d_PR_once_112 rfl ?_
        refine ab_callV (d' := d - 1) (as := [vR p]) (st := [vz (w % 4294967296), vz k_1, vR q]) (r := _) (z_PR_recordOf (o := o) (q := q) (lq := lq) (ki := ki) (ne := ne) (ot := ot) (cnt := cnt) (fi := fi) (la := la) (ra := ra) (ru := ru) (gr := gr) (wi := wi) (sz := sz) (fl := fl) (ve := ve) (mi := mi) (na := na) (nl := nl) (RR := RR) (nr := nr) (kp := k_1) (vp := v_1) (rgp := rg_1) (plp := pl_1) (flp := fl_1) (oup := ou_1) (lsp := ls_1) (bfp := bf_1) (szp := sz_1) (mbp := mb_1) (oep := oe_1) (lep := le_1) (mop := mo_1) (lap := la_1) (rcp := rc_1) (ps := ps) (wt := wt) (bs := bs) (ph := ph) (gq := gq) (p := p) (cu := cu) (cs := cs) (on := on) (re := re) (rg := rg) hq hra hp ppaI_0 pszB_0 pdnB_0 (by omega) (by omega) hp_ hch hr hpp (by omega) hn1 (by omega) (by omega) (by omega) (by omega)) (fun oc G2 h => by rcases h with ⟨_, _, _, _, _, _, _, _, h, _⟩ <;> exact ⟨_, h⟩) (by omega) m_PR_recordOf ml_PR_172 im_PR_recordOf se_PR_recordOf c_PR hq.2.2 (Nat.le_of_ble_eq_true rfl) d_PR_once_113 rfl ?_
        intro v G17 hq
        rcases hq with ⟨o18, v19, ra220, nr221, ru222, RR223, ph224, rc225, hv, hfk, hNq, hNra220, hNp, pNpaI_0, pNszB_0, pNdnB_0, hq26, hq27, hq28, hq29, hq30, hq31, hq32, hq33, hq34, hq35, hq36, hq37⟩
        cases hv
        have hzr := hzr.tr hq35
        have hki := hfk.get hki (by simp only [List.mem_cons, List.not_mem_nil, or_false]; omega)
        have hne := hfk.get hne (by simp only [List.mem_cons, List.not_mem_nil, or_false]; omega)
        have hot := hfk.get hot (by simp only [List.mem_cons, List.not_mem_nil, or_false]; omega)
        have ppaI_0 := pNpaI_0
        have pszB_0 := pNszB_0
        have pdnB_0 := pNdnB_0
        have hfr := hfr.tr hfk (by simp)
        have hq38 := hfk.1
        have hq := hNq
        have hra220 := hNra220
        have hp := hNp
        change ab_W _ _ _ G17 116 [some (vR q), some (vR p), some (vj w), none, some (vz dd), none, none] [vz v19, vz (w % 4294967296), vz k_1, vR q] _
        refine ab_goto (tgt := 123) d_PR_once_116 (by decide) ?_
        refine ab_callV (d' := d - 1) (as := [vz k_1, vz (w % 4294967296), vz v19]) (st := []) (r := _) (z_PR_add (o := o18) (q := q) (lq := lq) (ki := ki) (ne := ne) (ot := ot) (cnt := cnt) (fi := fi) (la := la) (ra := ra220) (ru := ru222) (gr := gr) (wi := wi) (sz := sz) (fl := fl) (ve := ve) (mi := mi) (na := na) (nl := nl) (K := K) (N := N) (O := O) (k0 := k_1) (x0 := (w % 4294967296)) (v0 := v19) hq hki hne hot (by omega) (by omega) (by omega)) (fun oc G2 h => by rcases h with ⟨h, _⟩ | ⟨_, h, _⟩ <;> exact ⟨_, h⟩) (by omega) m_PR_add ml_PR_84 im_PR_add se_PR_add c_PR hq.2.2 (Nat.le_of_ble_eq_true rfl) d_PR_once_123 rfl ?_
        intro v G39 hq
        rcases hq with ⟨hv, hGe, hq40⟩ | ⟨la241, hv, hfk, hlk, hsk, hNq, hNki, hNne, hNot, hq42, hq43, hq44⟩
        · cases hv
          rw [hGe]
          change ab_W _ _ _ G17 126 [some (vR q), some (vR p), some (vj w), none, some (vz dd), none, none] [vz 0] _
          exfalso; omega
        · cases hv
          have hzr := hzr.tr (fzr.fx hfk (by simp only [List.mem_cons, List.not_mem_nil, or_false]; omega))
          have hp := hfk.get hp (by simp only [List.mem_cons, List.not_mem_nil, or_false]; omega)
          have hra220 := hfk.get hra220 (by simp only [List.mem_cons, List.not_mem_nil, or_false]; omega)
          have pszB_0 := szB.fr hfk pszB_0 (by simp only [List.mem_cons, List.not_mem_nil, or_false]; omega) (by simp only [List.mem_cons, List.not_mem_nil, or_false]; omega)
          have pdnB_0 := dnB.fr hfk ppaI_0 pdnB_0 (by simp only [List.mem_cons, List.not_mem_nil, or_false]; omega) (by simp only [List.mem_cons, List.not_mem_nil, or_false]; omega)
          have ppaI_0 := paI.fr hfk ppaI_0 (by simp only [List.mem_cons, List.not_mem_nil, or_false]; omega) (by simp only [List.mem_cons, List.not_mem_nil, or_false]; omega) (by simp only [List.mem_cons, List.not_mem_nil, or_false]; omega) (by intro xx hx; simp only [List.mem_cons, List.not_mem_nil, or_false] at hx; omega)
          have hfr := hfr.tr hfk (by simp)
          have hq45 := hlk
          have hq46 := hsk
          have hq := hNq
          have hki := hNki
          have hne := hNne
          have hot := hNot
          change ab_W _ _ _ G39 126 [some (vR q), some (vR p), some (vj w), none, some (vz dd), none, none] [vz cnt] _
          have hp47 := prok_add (k := k_1) (x := (w % 4294967296)) (v := v19) hq31 (by omega) (by omega) (by omega) (by omega) (by omega) (fun t => absurd t (by omega)) (fun t => absurd t (by omega)) (fun t => absurd t (by omega)) (fun t => by have hv0 := hn1.2.1 (by omega); omega) (fun t => hq26)
          obtain ⟨K47, eK47⟩ : ∃ z : Int → Int, z = zu K cnt k_1 := ⟨_, rfl⟩
          have hki : cc o18 G39 ki (lq + 1) (za 808 K47) := by rw [← eK47.symm]; exact hki
          obtain ⟨N47, eN47⟩ : ∃ z : Int → Int, z = zu N cnt (w % 4294967296) := ⟨_, rfl⟩
          have hne : cc o18 G39 ne (lq + 2) (za 808 N47) := by rw [← eN47.symm]; exact hne
          obtain ⟨O47, eO47⟩ : ∃ z : Int → Int, z = zu O cnt v19 := ⟨_, rfl⟩
          have hot : cc o18 G39 ot (lq + 3) (za 808 O47) := by rw [← eO47.symm]; exact hot
          rw [← eK47, ← eN47, ← eO47] at hp47
          have hkx47 : kext K K47 cnt := by rw [eK47]; exact kext.zu (Int.le_refl _)
          have hks47 : K47 cnt = k_1 := by rw [eK47]; exact zu_self _ _ _
          have hsd47 : sdC K47 N47 O47 cnt (cnt + 1) cnt k_1 (w % 4294967296) v19 := ⟨⟨by omega, by omega⟩, by rw [eK47]; exact zu_self _ _ _, by rw [eN47]; exact zu_self _ _ _, by rw [eO47]; exact zu_self _ _ _⟩
          have hpx47 : pxt K N O RR223 cnt ru222 K47 N47 O47 RR223 := by rw [eK47, eN47, eO47]; exact pxt.add (Int.le_refl _)
          change ab_W _ _ _ G39 126 [some (vR q), some (vR p), some (vj w), none, some (vz dd), none, none] [vz cnt] _
          refine ab_istore d_PR_once_126 (Nat.le_of_ble_eq_true rfl) (Nat.le_of_ble_eq_true rfl) rfl ?_
          change ab_W _ _ _ G39 128 [some (vR q), some (vR p), some (vj w), none, some (vz dd), some (vz cnt), none] [] _
          refine ab_iload d_PR_once_128 rfl ?_
          refine ab_iload d_PR_once_130 rfl ?_
          refine ab_callS (d' := d - 1) (as := [vz cnt, vz cnt]) (st := []) (z_PR_pair (o := o18) (f0 := cnt) (u0 := cnt) (by omega)) (fun oc G2 h => by rcases h with ⟨h, _⟩ <;> exact ⟨_, h⟩) (by omega) m_PR_pair ml_PR_88 st_PR_pair (Nat.le_of_ble_eq_true rfl) d_PR_once_132 rfl ?_
          intro v G48 hq
          rcases hq with ⟨hv, hGe⟩
          cases hv
          rw [hGe]
          change ab_W _ _ _ G39 135 [some (vR q), some (vR p), some (vj w), none, some (vz dd), some (vz cnt), none] [vj (cnt * 4294967296 + cnt)] _
          refine ab_lret rfl d_PR_once_135 ?_
          rw [hQ]; exact ⟨_, _, _, _, _, _, _, _, _, _, _, _, rfl, hfr, hq, hki, hne, hot, hra220, ppaI_0, pszB_0, pdnB_0, (by omega), (by omega), (by omega), (by omega), (by exact hp47), (by exact hq32), (by exact hq30), (by exact hkx47), (by exact hzr), (by omega), (by omega), (by omega), (by first | (have t := pin_v (k := k_1) (v := v_1) (by omega) (by omega); omega) | (have t := pin_1 (k := k_1) (v := v_1) (by omega); omega) | (have t := pin_0 k_1 v_1; omega)), (by exact (hq28.tr hpx47 (by omega) (by omega)).lt (by omega) (by omega)), (by exact (RP_lf (S := (wt p).2) (x := rg p) (hsd47.wd (by omega) (by omega)) (by omega) v_1 (fun t => absurd (show k_1 = 1 by omega) t) (fun _ => ⟨hq26, hq29⟩) (by omega) (by omega)).e honp_.symm)⟩
    · have hpn_ := pin_1 (k := k_1) (v := v_1) (by omega)
      have hv3 := hn1.2.2.1 (by omega)
      refine ab_aload_n d_PR_once_83 rfl ?_
      refine zz_iconst d_PR_once_84 ?_
      refine ab_lload_n d_PR_once_85 rfl ?_
      refine ab_aload_n d_PR_once_86 rfl ?_
      refine ab_getf (fs := [vz k_1, vz v_1, rg_1, vz pl_1, vz fl_1, ou_1, ls_1, bf_1, vz sz_1, vz mb_1, vz oe_1, vz le_1, vz mo_1, vz la_1, vz rc_1]) f_PR_165 d_PR_once_87 hp.2.2 rfl ?_
      refine ab_callV (d' := d - 1) (as := [vz 3, vj w, vz v_1]) (st := []) (r := _) (za_PR_addPair (o := o) (q := q) (lq := lq) (ki := ki) (ne := ne) (ot := ot) (cnt := cnt) (fi := fi) (la := la) (ra := ra) (ru := ru) (gr := gr) (wi := wi) (sz := sz) (fl := fl) (ve := ve) (mi := mi) (na := na) (nl := nl) (K := K) (N := N) (O := O) (RR := RR) (nr := nr) (w := w) (vl := v_1) hq hki hne hot hra (by omega) (by omega) hp_ (by omega) (by omega) (by omega) (by omega)) (fun oc G2 h => by rcases h with ⟨_, _, _, _, _, _, h, _⟩ <;> exact ⟨_, h⟩) (by omega) m_PR_addPair ml_PR_168 im_PR_addPair se_PR_addPair c_PR hq.2.2 (Nat.le_of_ble_eq_true rfl) d_PR_once_90 rfl ?_
      intro v G49 hq
      rcases hq with ⟨w250, cnt251, la252, K253, N254, O255, hv, hfk, hlk, hsk, hNq, hNki, hNne, hNot, hq56, hq57, hq58, hq59, hq60, hq61, hq62⟩
      cases hv
      have hzr := hzr.tr (fzr.fx hfk (by simp only [List.mem_cons, List.not_mem_nil, or_false]; omega))
      have hra := hfk.get hra (by simp only [List.mem_cons, List.not_mem_nil, or_false]; omega)
      have hp := hfk.get hp (by simp only [List.mem_cons, List.not_mem_nil, or_false]; omega)
      have pszB_0 := szB.fr hfk pszB_0 (by simp only [List.mem_cons, List.not_mem_nil, or_false]; omega) (by simp only [List.mem_cons, List.not_mem_nil, or_false]; omega)
      have pdnB_0 := dnB.fr hfk ppaI_0 pdnB_0 (by simp only [List.mem_cons, List.not_mem_nil, or_false]; omega) (by simp only [List.mem_cons, List.not_mem_nil, or_false]; omega)
      have ppaI_0 := paI.fr hfk ppaI_0 (by simp only [List.mem_cons, List.not_mem_nil, or_false]; omega) (by simp only [List.mem_cons, List.not_mem_nil, or_false]; omega) (by simp only [List.mem_cons, List.not_mem_nil, or_false]; omega) (by intro xx hx; simp only [List.mem_cons, List.not_mem_nil, or_false] at hx; omega)
      have hfr := hfr.tr hfk (by simp)
      have hq63 := hlk
      have hq64 := hsk
      have hq := hNq
      have hki := hNki
      have hne := hNne
      have hot := hNot
      change ab_W _ _ _ G49 93 [some (vR q), some (vR p), some (vj w), none, some (vz dd), none, none] [vj w250] _
      refine ab_lret rfl d_PR_once_93 ?_
      rw [hQ]; exact ⟨_, _, _, _, _, _, _, _, _, _, _, _, rfl, hfr, hq, hki, hne, hot, hra, ppaI_0, pszB_0, pdnB_0, (by omega), (by omega), (by omega), (by omega), (by exact hq58), (by exact hr), (by exact hch), (by exact hq59), (by exact hzr), (by omega), (by omega), (by omega), (by first | (have t := pin_v (k := k_1) (v := v_1) (by omega) (by omega); omega) | (have t := pin_1 (k := k_1) (v := v_1) (by omega); omega) | (have t := pin_0 k_1 v_1; omega)), (by exact hq61.lt (by omega) (by omega)), (by exact (RP_Q (hq62.wd (by omega) (by omega))).e (by rw [honp_, show k_1 = 3 by omega]; exact onS_3.symm))⟩
  · refine ab_aload_n d_PR_once_8 rfl ?_
    refine ab_getf (fs := [vz k_1, vz v_1, rg_1, vz pl_1, vz fl_1, ou_1, ls_1, bf_1, vz sz_1, vz mb_1, vz oe_1, vz le_1, vz mo_1, vz la_1, vz rc_1]) f_PR_165 d_PR_once_9 hp.2.2 rfl ?_
    refine zz_if_ne (tgt := 26) d_PR_once_12 (by decide) (by omega) (fun c65 => ?_) (fun c65 => ?_)
    · refine ab_aload_n d_PR_once_26 rfl ?_
      refine ab_getf (fs := [vz k_1, vz v_1, rg_1, vz pl_1, vz fl_1, ou_1, ls_1, bf_1, vz sz_1, vz mb_1, vz oe_1, vz le_1, vz mo_1, vz la_1, vz rc_1]) f_PR_162 d_PR_once_27 hp.2.2 rfl ?_
      refine zz_iconst d_PR_once_30 ?_
      refine zz_icmp_ne (tgt := 75) d_PR_once_31 (by decide) (by omega) (by decide) (fun c66 => absurd c66 (by omega)) (fun c66 => ?_)
      have hpn_ := pin_v (k := k_1) (v := v_1) (by omega) (by omega)
      have hgo_ : hgt (on p) = hgt (rg p) + 1 := by rw [honp_, show k_1 = 4 by omega, onS_4]; exact hgt_G
      have hv4 := hn1.2.2.2.1 (by omega)
      refine ab_aload_n d_PR_once_34 rfl ?_
      refine ab_aload_n d_PR_once_35 rfl ?_
      refine ab_aload_n d_PR_once_36 rfl ?_
      refine zz_bipush d_PR_once_37 (by decide) ?_
      refine ab_lload_n d_PR_once_39 rfl ?_
      refine zz_iconst d_PR_once_40 ?_
      refine ab_aload_n d_PR_once_41 rfl ?_
      refine ab_getf (fs := [vz k_1, vz v_1, rg_1, vz pl_1, vz fl_1, ou_1, ls_1, bf_1, vz sz_1, vz mb_1, vz oe_1, vz le_1, vz mo_1, vz la_1, vz rc_1]) f_PR_165 d_PR_once_42 hp.2.2 rfl ?_
      refine zz_imul d_PR_once_45 ?_
      refine zz_iconst d_PR_once_46 ?_
      refine zz_iadd d_PR_once_47 ?_
      refine ab_callV (d' := d - 1) (as := [vz 7, vj w, vz ((2 * v_1) + 1)]) (st := [vR p, vR q]) (r := _) (zs_PR_addPair (o := o) (q := q) (lq := lq) (ki := ki) (ne := ne) (ot := ot) (cnt := cnt) (fi := fi) (la := la) (ra := ra) (ru := ru) (gr := gr) (wi := wi) (sz := sz) (fl := fl) (ve := ve) (mi := mi) (na := na) (nl := nl) (K := K) (N := N) (O := O) (RR := RR) (nr := nr) (w := w) (vl := ((2 * v_1) + 1)) hq hki hne hot hra (by omega) (by omega) hp_ (by omega) (by omega) (by omega) (by omega)) (fun oc G2 h => by rcases h with ⟨_, _, _, _, _, _, h, _⟩ <;> exact ⟨_, h⟩) (by omega) m_PR_addPair ml_PR_168 im_PR_addPair se_PR_addPair c_PR hq.2.2 (Nat.le_of_ble_eq_true rfl) d_PR_once_48 rfl ?_
      intro v G67 hq
      rcases hq with ⟨w268, cnt269, la270, K271, N272, O273, hv, hfk, hlk, hsk, hNq, hNki, hNne, hNot, hq74, hq75, hq76, hq77, hq78, hq79, hq80⟩
      cases hv
      have hzr := hzr.tr (fzr.fx hfk (by simp only [List.mem_cons, List.not_mem_nil, or_false]; omega))
      have hra := hfk.get hra (by simp only [List.mem_cons, List.not_mem_nil, or_false]; omega)
      have hp := hfk.get hp (by simp only [List.mem_cons, List.not_mem_nil, or_false]; omega)
      have pszB_0 := szB.fr hfk pszB_0 (by simp only [List.mem_cons, List.not_mem_nil, or_false]; omega) (by simp only [List.mem_cons, List.not_mem_nil, or_false]; omega)
      have pdnB_0 := dnB.fr hfk ppaI_0 pdnB_0 (by simp only [List.mem_cons, List.not_mem_nil, or_false]; omega) (by simp only [List.mem_cons, List.not_mem_nil, or_false]; omega)
      have ppaI_0 := paI.fr hfk ppaI_0 (by simp only [List.mem_cons, List.not_mem_nil, or_false]; omega) (by simp only [List.mem_cons, List.not_mem_nil, or_false]; omega) (by simp only [List.mem_cons, List.not_mem_nil, or_false]; omega) (by intro xx hx; simp only [List.mem_cons, List.not_mem_nil, or_false] at hx; omega)
      have hfr := hfr.tr hfk (by simp)
      have hq81 := hlk
      have hq82 := hsk
      have hq := hNq
      have hki := hNki
      have hne := hNne
      have hot := hNot
      change ab_W _ _ _ G67 51 [some (vR q), some (vR p), some (vj w), none, some (vz dd), none, none] [vj w268, vR p, vR q] _
      refine ab_iload d_PR_once_51 rfl ?_
      refine zz_iconst d_PR_once_53 ?_
      refine zz_iadd d_PR_once_54 ?_
      refine ab_callV (d' := d - 1) (as := [vR p, vj w268, vz (dd + 1)]) (st := []) (r := _) (ihR (o := o) (q := q) (lq := lq) (ki := ki) (ne := ne) (ot := ot) (cnt := cnt269) (fi := fi) (la := la270) (ra := ra) (ru := ru) (gr := gr) (wi := wi) (sz := sz) (fl := fl) (ve := ve) (mi := mi) (na := na) (nl := nl) (K := K271) (N := N272) (O := O273) (RR := RR) (nr := nr) (ps := ps) (wt := wt) (bs := bs) (ph := ph) (gq := gq) (p := p) (w := w268) (cu := cu) (cs := cs) (on := on) (re := re) (rg := rg) (bq := (lvc cu ls_1)) hq hki hne hot hra ppaI_0 pszB_0 pdnB_0 (by omega) (by omega) hq76 hch hr ((hq77 0 (by omega) (by omega)).trans ck0) (by omega) hpp (by omega) (by omega) (by omega) (bqr_c hp ⟨hlv_, Int.le_refl _⟩) (by omega) (by omega) (by omega) (by omega)) (fun oc G2 h => by rcases h with ⟨_, _, _, _, _, _, _, _, _, _, _, _, h, _⟩ <;> exact ⟨_, h⟩) (by omega) m_PR_rows ml_PR_92 im_PR_rows se_PR_rows c_PR hq.2.2 (Nat.le_of_ble_eq_true rfl) d_PR_once_55 rfl ?_
      intro v G83 hq
      rcases hq with ⟨o84, w285, cnt286, la287, ra288, nr289, ru290, K291, N292, O293, RR294, ph295, hv, hfk, hNq, hNki, hNne, hNot, hNra288, pNpaI_0, pNszB_0, pNdnB_0, hq96, hq97, hq98, hq99, hq100, hq101, hq102, hq103, hq104, hq105, hq106, hq107, hq108, hq109, hq110⟩
      cases hv
      have hzr := hzr.tr hq104
      obtain ⟨rc111, hKp⟩ := hq104 _ _ _ _ _ _ _ _ _ _ _ _ _ _ _ _ hpp hp
      have hp := hKp
      have ppaI_0 := pNpaI_0
      have pszB_0 := pNszB_0
      have pdnB_0 := pNdnB_0
      have hfr := hfr.tr hfk (by simp)
      have hq112 := hfk.1
      have hq := hNq
      have hki := hNki
      have hne := hNne
      have hot := hNot
      have hra288 := hNra288
      change ab_W _ _ _ G83 58 [some (vR q), some (vR p), some (vj w), none, some (vz dd), none, none] [vj w285] _
      refine ab_lstore d_PR_once_58 (Nat.le_of_ble_eq_true rfl) (Nat.le_of_ble_eq_true rfl) rfl ?_
      change ab_W _ _ _ G83 60 [some (vR q), some (vR p), some (vj w), none, some (vz dd), some (vj w285), none] [] _
      refine ab_aload_n d_PR_once_60 rfl ?_
      refine zz_bipush d_PR_once_61 (by decide) ?_
      refine ab_lload d_PR_once_63 rfl ?_
      refine zz_iconst d_PR_once_65 ?_
      refine ab_aload_n d_PR_once_66 rfl ?_
      refine ab_getf (fs := [vz k_1, vz v_1, rg_1, vz pl_1, vz fl_1, ou_1, ls_1, bf_1, vz sz_1, vz mb_1, vz oe_1, vz le_1, vz mo_1, vz la_1, vz rc111]) f_PR_165 d_PR_once_67 hp.2.2 rfl ?_
      refine zz_imul d_PR_once_70 ?_
      refine ab_callV (d' := d - 1) (as := [vz 7, vj w285, vz (2 * v_1)]) (st := []) (r := _) (zs_PR_addPair (o := o84) (q := q) (lq := lq) (ki := ki) (ne := ne) (ot := ot) (cnt := cnt286) (fi := fi) (la := la287) (ra := ra288) (ru := ru290) (gr := gr) (wi := wi) (sz := sz) (fl := fl) (ve := ve) (mi := mi) (na := na) (nl := nl) (K := K291) (N := N292) (O := O293) (RR := RR294) (nr := nr289) (w := w285) (vl := (2 * v_1)) hq hki hne hot hra288 (by omega) (by omega) hq100 (by omega) (by omega) (by omega) (by omega)) (fun oc G2 h => by rcases h with ⟨_, _, _, _, _, _, h, _⟩ <;> exact ⟨_, h⟩) (by omega) m_PR_addPair ml_PR_168 im_PR_addPair se_PR_addPair c_PR hq.2.2 (Nat.le_of_ble_eq_true rfl) d_PR_once_71 rfl ?_
      intro v G113 hq
      rcases hq with ⟨w2114, cnt2115, la2116, K2117, N2118, O2119, hv, hfk, hlk, hsk, hNq, hNki, hNne, hNot, hq120, hq121, hq122, hq123, hq124, hq125, hq126⟩
      cases hv
      have hzr := hzr.tr (fzr.fx hfk (by simp only [List.mem_cons, List.not_mem_nil, or_false]; omega))
      have hp := hfk.get hp (by simp only [List.mem_cons, List.not_mem_nil, or_false]; omega)
      have hra288 := hfk.get hra288 (by simp only [List.mem_cons, List.not_mem_nil, or_false]; omega)
      have pszB_0 := szB.fr hfk pszB_0 (by simp only [List.mem_cons, List.not_mem_nil, or_false]; omega) (by simp only [List.mem_cons, List.not_mem_nil, or_false]; omega)
      have pdnB_0 := dnB.fr hfk ppaI_0 pdnB_0 (by simp only [List.mem_cons, List.not_mem_nil, or_false]; omega) (by simp only [List.mem_cons, List.not_mem_nil, or_false]; omega)
      have ppaI_0 := paI.fr hfk ppaI_0 (by simp only [List.mem_cons, List.not_mem_nil, or_false]; omega) (by simp only [List.mem_cons, List.not_mem_nil, or_false]; omega) (by simp only [List.mem_cons, List.not_mem_nil, or_false]; omega) (by intro xx hx; simp only [List.mem_cons, List.not_mem_nil, or_false] at hx; omega)
      have hfr := hfr.tr hfk (by simp)
      have hq127 := hlk
      have hq128 := hsk
      have hq := hNq
      have hki := hNki
      have hne := hNne
      have hot := hNot
      change ab_W _ _ _ G113 74 [some (vR q), some (vR p), some (vj w), none, some (vz dd), some (vj w285), none] [vj w2114] _
      refine ab_lret rfl d_PR_once_74 ?_
      rw [hQ]; exact ⟨_, _, _, _, _, _, _, _, _, _, _, _, rfl, hfr, hq, hki, hne, hot, hra288, ppaI_0, pszB_0, pdnB_0, (by omega), (by omega), (by omega), (by omega), (by exact hq122), (by exact hq101), (by exact hq102), (by exact ((hq77.tr hq103 (by omega)).tr hq123 (by omega))), (by exact hzr), (by omega), (by omega), (by omega), (by first | (have t := pin_v (k := k_1) (v := v_1) (by omega) (by omega); omega) | (have t := pin_1 (k := k_1) (v := v_1) (by omega); omega) | (have t := pin_0 k_1 v_1; omega)), (by exact ((hq79.tr hq109 (by omega) (by omega)).tr hq125 (by omega) (by omega)).lt (by omega) (by omega)), (by exact (RP_G (k := v_1) (by omega) (hq80.ex (hq109.tr hq125 (by omega) (by omega)) (by omega) (by omega) (by omega) (by omega)) (hq110.up hq125 (by omega) (by omega) (by omega) (by omega) (by omega)) (hq126.wd (by omega) (by omega))).e (by rw [honp_, show k_1 = 4 by omega]; exact onS_4.symm))⟩
    · have hpn_ := pin_0 k_1 v_1
      have hgo_ : hgt (on p) = hgt (rg p) + 1 := by rw [honp_, show k_1 = 4 by omega, onS_4]; exact hgt_G
      refine ab_aload_n d_PR_once_15 rfl ?_
      refine ab_aload_n d_PR_once_16 rfl ?_
      refine ab_lload_n d_PR_once_17 rfl ?_
      refine ab_iload d_PR_once_18 rfl ?_
      refine zz_iconst d_PR_once_20 ?_
      refine zz_iadd d_PR_once_21 ?_
      refine ab_callV (d' := d - 1) (as := [vR p, vj w, vz (dd + 1)]) (st := []) (r := _) (ihR (o := o) (q := q) (lq := lq) (ki := ki) (ne := ne) (ot := ot) (cnt := cnt) (fi := fi) (la := la) (ra := ra) (ru := ru) (gr := gr) (wi := wi) (sz := sz) (fl := fl) (ve := ve) (mi := mi) (na := na) (nl := nl) (K := K) (N := N) (O := O) (RR := RR) (nr := nr) (ps := ps) (wt := wt) (bs := bs) (ph := ph) (gq := gq) (p := p) (w := w) (cu := cu) (cs := cs) (on := on) (re := re) (rg := rg) (bq := (lvc cu ls_1)) hq hki hne hot hra ppaI_0 pszB_0 pdnB_0 (by omega) (by omega) hp_ hch hr ck0 (by omega) hpp (by omega) (by omega) (by omega) (bqr_c hp ⟨hlv_, Int.le_refl _⟩) (by omega) (by omega) (by omega) (by omega)) (fun oc G2 h => by rcases h with ⟨_, _, _, _, _, _, _, _, _, _, _, _, h, _⟩ <;> exact ⟨_, h⟩) (by omega) m_PR_rows ml_PR_92 im_PR_rows se_PR_rows c_PR hq.2.2 (Nat.le_of_ble_eq_true rfl) d_PR_once_22 rfl ?_
      intro v G129 hq
      rcases hq with ⟨o130, w2131, cnt2132, la2133, ra2134, nr2135, ru2136, K2137, N2138, O2139, RR2140, ph2141, hv, hfk, hNq, hNki, hNne, hNot, hNra2134, pNpaI_0, pNszB_0, pNdnB_0, hq142, hq143, hq144, hq145, hq146, hq147, hq148, hq149, hq150, hq151, hq152, hq153, hq154, hq155, hq156⟩
      cases hv
      have hzr := hzr.tr hq150
      obtain ⟨rc157, hKp⟩ := hq150 _ _ _ _ _ _ _ _ _ _ _ _ _ _ _ _ hpp hp
      have hp := hKp
      have ppaI_0 := pNpaI_0
      have pszB_0 := pNszB_0
      have pdnB_0 := pNdnB_0
      have hfr := hfr.tr hfk (by simp)
      have hq158 := hfk.1
      have hq := hNq
      have hki := hNki
      have hne := hNne
      have hot := hNot
      have hra2134 := hNra2134
      change ab_W _ _ _ G129 25 [some (vR q), some (vR p), some (vj w), none, some (vz dd), none, none] [vj w2131] _
      refine ab_lret rfl d_PR_once_25 ?_
      rw [hQ]; exact ⟨_, _, _, _, _, _, _, _, _, _, _, _, rfl, hfr, hq, hki, hne, hot, hra2134, ppaI_0, pszB_0, pdnB_0, (by omega), (by omega), (by omega), (by omega), (by exact hq146), (by exact hq147), (by exact hq148), (by exact hq149), (by exact hzr), (by omega), (by omega), (by omega), (by first | (have t := pin_v (k := k_1) (v := v_1) (by omega) (by omega); omega) | (have t := pin_1 (k := k_1) (v := v_1) (by omega); omega) | (have t := pin_0 k_1 v_1; omega)), (by exact hq155.lt (by omega) (by omega)), (by exact (RP_G0 (hq156.wd (by omega) (by omega))).e (by rw [honp_, show k_1 = 4 by omega, show v_1 = 0 by omega]; exact onS_4.symm))⟩
set_option maxRecDepth 100000 in
set_option maxHeartbeats 4000000 in
theorem z_PR_loop {X : ab_X} {d : Nat} {o : Nat → Nat} {G : ab_G} {q : Nat} {lq : Nat} {ki : Nat} {ne : Nat} {ot : Nat} {cnt : Int} {fi : Int} {la : Int} {ra : Nat} {ru : Int} {gr : Int} {wi : Int} {sz : Int} {fl : Int} {ve : Int} {mi : Int} {na : Nat} {nl : Nat} {K : Int → Int} {N : Int → Int} {O : Int → Int} {RR : Int → Int} {nr : Nat} {ps : Nat → Nat} {wt : Nat → Wt} {bs : Nat} {ph : Int} {gq : Int} {p : Nat} {w : Int} {dd : Int} {cu : Nat → Int} {cs : Nat → Sn} {on : Nat → Sn} {re : Nat → Sn} {rg : Nat → Sn} {bq : Int} {lz : Int} (hq : cc o G q lq (ab_ob 5 [vR ki, vR ne, vR ot, vz cnt, vz fi, vz la, vR ra, vz ru, vz gr, vz wi, vz sz, vz fl, vz ve, vz mi, vR na, vR nl])) (hki : cc o G ki (lq + 1) (za 808 K)) (hne : cc o G ne (lq + 2) (za 808 N)) (hot : cc o G ot (lq + 3) (za 808 O)) (hra : cc o G ra (lq + 4) (za nr RR)) (ppaI_0 : paI o G 0 ps wt bs gq (prc RR ru) ph) (pszB_0 : szB o G 0 ps cu) (pdnB_0 : dnB o G 0 ps wt cs on re rg RR ru) (n18 : ab_n0 = 18) (cq : 100 ≤ lq ∧ 2 ≤ cnt ∧ cnt ≤ 808 ∧ 0 ≤ la ∧ la ≤ 1 ∧ 0 ≤ ru ∧ ru ≤ ↑nr ∧ ↑nr ≤ (100000 : Int) ∧ 32 ≤ nr ∧ 0 ≤ ph ∧ ru + ph ≤ 50000) (hp_ : prok K N O RR cnt ru wi) (hch : rch RR ru) (hr : hrr RR ↑nr) (ck0 : K 0 = 9) (cg_ : 0 ≤ gq ∧ gq ≤ 9 ∧ wi = 2 * (gq + 1)) (hpp : ps p = 90) (cw : 0 ≤ w ∧ w / 4294967296 < cnt ∧ w % 4294967296 < cnt) (cdd : 0 ≤ dd ∧ dd ≤ 30) (hdd : 6 * (31 - dd) + 7 ≤ (↑d : Int)) (rc : 32 * G.length + 103300 ≤ 32 * (ab_n0 + room_1.cells) + nr) (rs : ab_slots G + 200000 ≤ room_1.slots + 2 * nr) (hbq : bqo G cu p bq) (hht : hgt (on p) + dd ≤ 30) (hcb : cnt + 2 * bq + 2 ≤ 808) (hlz : pfi G p 13 = lz) (hm9 : pfi G p 12 = 1000) (ihR : ∀ {d : Nat} {o : Nat → Nat} {G : ab_G} {q : Nat} {lq : Nat} {ki : Nat} {ne : Nat} {ot : Nat} {cnt : Int} {fi : Int} {la : Int} {ra : Nat} {ru : Int} {gr : Int} {wi : Int} {sz : Int} {fl : Int} {ve : Int} {mi : Int} {na : Nat} {nl : Nat} {K : Int → Int} {N : Int → Int} {O : Int → Int} {RR : Int → Int} {nr : Nat} {ps : Nat → Nat} {wt : Nat → Wt} {bs : Nat} {ph : Int} {gq : Int} {p : Nat} {w : Int} {cu : Nat → Int} {cs : Nat → Sn} {on : Nat → Sn} {re : Nat → Sn} {rg : Nat → Sn} {bq : Int}, (cc o G q lq (ab_ob 5 [vR ki, vR ne, vR ot, vz cnt, vz fi, vz la, vR ra, vz ru, vz gr, vz wi, vz sz, vz fl, vz ve, vz mi, vR na, vR nl])) → (cc o G ki (lq + 1) (za 808 K)) → (cc o G ne (lq + 2) (za 808 N)) → (cc o G ot (lq + 3) (za 808 O)) → (cc o G ra (lq + 4) (za nr RR)) → (paI o G 0 ps wt bs gq (prc RR ru) ph) → (szB o G 0 ps cu) → (dnB o G 0 ps wt cs on re rg RR ru) → (ab_n0 = 18) → (100 ≤ lq ∧ 2 ≤ cnt ∧ cnt ≤ 808 ∧ 0 ≤ la ∧ la ≤ 1 ∧ 0 ≤ ru ∧ ru ≤ ↑nr ∧ ↑nr ≤ (100000 : Int) ∧ 32 ≤ nr ∧ 0 ≤ ph ∧ ru + ph ≤ 50000) → (prok K N O RR cnt ru wi) → (rch RR ru) → (hrr RR ↑nr) → (K 0 = 9) → (0 ≤ gq ∧ gq ≤ 9 ∧ wi = 2 * (gq + 1)) → (ps p = 90) → (0 ≤ w ∧ w / 4294967296 < cnt ∧ w % 4294967296 < cnt) → (0 ≤ (dd + 1) ∧ (dd + 1) ≤ 31) → (6 * (31 - (dd + 1)) + 10 ≤ (↑d : Int)) → (bqr G cu p bq) → (hgt (rg p) + (dd + 1) ≤ 30) → (cnt + 2 * bq ≤ 808) → (32 * G.length + 103300 ≤ 32 * (ab_n0 + room_1.cells) + nr) → (ab_slots G + 200000 ≤ room_1.slots + 2 * nr) → ab_F X d y_PR_rows (.code y_PR_rows b_PR_rows 8 (some (.long))) [vR q, vR p, vj w, vz (dd + 1)] G (fun oc G2 => ∃ o2 : Nat → Nat, ∃ w2 : Int, ∃ cnt2 : Int, ∃ la2 : Int, ∃ ra2 : Nat, ∃ nr2 : Nat, ∃ ru2 : Int, ∃ K2 : Int → Int, ∃ N2 : Int → Int, ∃ O2 : Int → Int, ∃ RR2 : Int → Int, ∃ ph2 : Int, oc = .returned (some (vj w2)) ∧ fx o o2 [lq, (lq + 1), (lq + 2), (lq + 3), (lq + 4), 90] G G2 ∧ cc o2 G2 q lq (ab_ob 5 [vR ki, vR ne, vR ot, vz cnt2, vz fi, vz la2, vR ra2, vz ru2, vz gr, vz wi, vz sz, vz fl, vz ve, vz mi, vR na, vR nl]) ∧ cc o2 G2 ki (lq + 1) (za 808 K2) ∧ cc o2 G2 ne (lq + 2) (za 808 N2) ∧ cc o2 G2 ot (lq + 3) (za 808 O2) ∧ cc o2 G2 ra2 (lq + 4) (za nr2 RR2) ∧ paI o2 G2 0 ps wt bs gq (prc RR2 ru2) ph2 ∧ szB o2 G2 0 ps cu ∧ dnB o2 G2 0 ps wt cs on re rg RR2 ru2 ∧ (cnt ≤ cnt2 ∧ cnt2 ≤ 808 ∧ 0 ≤ la2 ∧ la2 ≤ 1) ∧ (0 ≤ w2 ∧ w2 / 4294967296 < cnt2 ∧ w2 % 4294967296 < cnt2) ∧ (0 ≤ ru2 ∧ ru2 ≤ ↑nr2 ∧ ↑nr2 ≤ (100000 : Int) ∧ nr ≤ nr2) ∧ (0 ≤ ph2 ∧ ru2 + ph2 ≤ ru + ph) ∧ (prok K2 N2 O2 RR2 cnt2 ru2 wi) ∧ (hrr RR2 ↑nr2) ∧ (rch RR2 ru2) ∧ (kext K K2 cnt) ∧ (fzr ps o o2 G G2) ∧ (32 * G2.length + nr ≤ 32 * G.length + nr2) ∧ (ab_slots G2 + 2 * nr ≤ ab_slots G + 2 * nr2) ∧ (ru ≤ ru2) ∧ (cnt2 ≤ cnt + 2 * bq) ∧ (pxt K N O RR cnt ru K2 N2 O2 RR2) ∧ (RP K2 N2 O2 RR2 ru2 cnt cnt2 w w2 (rg p)))) : ab_F X d y_PR_loop (.code y_PR_loop b_PR_loop 8 (some (.long))) [vR q, vR p, vj w, vz dd] G (fun oc G2 => ∃ o2 : Nat → Nat, ∃ w2 : Int, ∃ cnt2 : Int, ∃ la2 : Int, ∃ ra2 : Nat, ∃ nr2 : Nat, ∃ ru2 : Int, ∃ K2 : Int → Int, ∃ N2 : Int → Int, ∃ O2 : Int → Int, ∃ RR2 : Int → Int, ∃ ph2 : Int, oc = .returned (some (vj w2)) ∧ fx o o2 [lq, (lq + 1), (lq + 2), (lq + 3), (lq + 4), 90] G G2 ∧ cc o2 G2 q lq (ab_ob 5 [vR ki, vR ne, vR ot, vz cnt2, vz fi, vz la2, vR ra2, vz ru2, vz gr, vz wi, vz sz, vz fl, vz ve, vz mi, vR na, vR nl]) ∧ cc o2 G2 ki (lq + 1) (za 808 K2) ∧ cc o2 G2 ne (lq + 2) (za 808 N2) ∧ cc o2 G2 ot (lq + 3) (za 808 O2) ∧ cc o2 G2 ra2 (lq + 4) (za nr2 RR2) ∧ paI o2 G2 0 ps wt bs gq (prc RR2 ru2) ph2 ∧ szB o2 G2 0 ps cu ∧ dnB o2 G2 0 ps wt cs on re rg RR2 ru2 ∧ (cnt ≤ cnt2 ∧ cnt2 ≤ 808 ∧ 0 ≤ la2 ∧ la2 ≤ 1) ∧ (0 ≤ w2 ∧ w2 / 4294967296 < cnt2 ∧ w2 % 4294967296 < cnt2) ∧ (0 ≤ ru2 ∧ ru2 ≤ ↑nr2 ∧ ↑nr2 ≤ (100000 : Int) ∧ nr ≤ nr2) ∧ (0 ≤ ph2 ∧ ru2 + ph2 ≤ ru + ph) ∧ (prok K2 N2 O2 RR2 cnt2 ru2 wi) ∧ (hrr RR2 ↑nr2) ∧ (rch RR2 ru2) ∧ (kext K K2 cnt) ∧ (fzr ps o o2 G G2) ∧ (32 * G2.length + nr ≤ 32 * G.length + nr2) ∧ (ab_slots G2 + 2 * nr ≤ ab_slots G + 2 * nr2) ∧ (ru ≤ ru2) ∧ (cnt2 ≤ cnt + 2 * bq + 2) ∧ (pxt K N O RR cnt ru K2 N2 O2 RR2) ∧ (RP K2 N2 O2 RR2 ru2 cnt cnt2 w w2 (mnR 0 1000 lz (on p)))) := by
  refine ab_F_of (by decide +kernel) (Nat.le_of_ble_eq_true rfl) ?_
  obtain ⟨Q, hQ⟩ : ∃ z : Outcome → ab_G → Prop, z = (fun oc G2 => ∃ o2 : Nat → Nat, ∃ w2 : Int, ∃ cnt2 : Int, ∃ la2 : Int, ∃ ra2 : Nat, ∃ nr2 : Nat, ∃ ru2 : Int, ∃ K2 : Int → Int, ∃ N2 : Int → Int, ∃ O2 : Int → Int, ∃ RR2 : Int → Int, ∃ ph2 : Int, oc = .returned (some (vj w2)) ∧ fx o o2 [lq, (lq + 1), (lq + 2), (lq + 3), (lq + 4), 90] G G2 ∧ cc o2 G2 q lq (ab_ob 5 [vR ki, vR ne, vR ot, vz cnt2, vz fi, vz la2, vR ra2, vz ru2, vz gr, vz wi, vz sz, vz fl, vz ve, vz mi, vR na, vR nl]) ∧ cc o2 G2 ki (lq + 1) (za 808 K2) ∧ cc o2 G2 ne (lq + 2) (za 808 N2) ∧ cc o2 G2 ot (lq + 3) (za 808 O2) ∧ cc o2 G2 ra2 (lq + 4) (za nr2 RR2) ∧ paI o2 G2 0 ps wt bs gq (prc RR2 ru2) ph2 ∧ szB o2 G2 0 ps cu ∧ dnB o2 G2 0 ps wt cs on re rg RR2 ru2 ∧ (cnt ≤ cnt2 ∧ cnt2 ≤ 808 ∧ 0 ≤ la2 ∧ la2 ≤ 1) ∧ (0 ≤ w2 ∧ w2 / 4294967296 < cnt2 ∧ w2 % 4294967296 < cnt2) ∧ (0 ≤ ru2 ∧ ru2 ≤ ↑nr2 ∧ ↑nr2 ≤ (100000 : Int) ∧ nr ≤ nr2) ∧ (0 ≤ ph2 ∧ ru2 + ph2 ≤ ru + ph) ∧ (prok K2 N2 O2 RR2 cnt2 ru2 wi) ∧ (hrr RR2 ↑nr2) ∧ (rch RR2 ru2) ∧ (kext K K2 cnt) ∧ (fzr ps o o2 G G2) ∧ (32 * G2.length + nr ≤ 32 * G.length + nr2) ∧ (ab_slots G2 + 2 * nr ≤ ab_slots G + 2 * nr2) ∧ (ru ≤ ru2) ∧ (cnt2 ≤ cnt + 2 * bq + 2) ∧ (pxt K N O RR cnt ru K2 N2 O2 RR2) ∧ (RP K2 N2 O2 RR2 ru2 cnt cnt2 w w2 (mnR 0 1000 lz (on p)))) := ⟨_, rfl⟩
  rw [← hQ]
  change ab_W X (ab_pl y_PR_loop b_PR_loop 8 (some (.long))) d G 0 [some (vR q), some (vR p), some (vj w), none, some (vz dd), none, none, none] [] Q
  have hfr : fx o o [lq, (lq + 1), (lq + 2), (lq + 3), (lq + 4), 90] G G := fx.rf
  have hzr : fzr ps o o G G := fzr.rf
  obtain ⟨k_1, v_1, rg_1, pl_1, fl_1, ou_1, ls_1, bf_1, sz_1, mb_1, oe_1, le_1, mo_1, la_1, rc_1, hp, hn1, hb1, hg1, ho1, hl1, hf1⟩ := ppaI_0.1 p hpp
  have hB1 := hb1
  unfold pnB at hB1
  have hK1 := hn1.1
  obtain ⟨hcsp_, hrep_, honp_, hrgp_, hoep_, hzzp_⟩ := pdnB_0.part hpp hp (by omega) (by omega) (by omega)
  have hla_ : la_1 = lz := (fi_mb hp (by omega)).2.2.symm.trans hlz
  have hmo_ : mo_1 = 1000 := (fi_pa hp (by omega) (by omega)).2.2.2.2.symm.trans hm9
  have hbe_ := bqo_e hp (by omega) (by omega) hbq
  have hlv_ := lvc_0 pszB_0.c0 ls_1
  refine ab_aload_n d_PR_loop_0 rfl ?_
  refine zz_bipush d_PR_loop_1 (by decide) ?_
  refine zz_iconst d_PR_loop_3 ?_
  refine zz_iconst d_PR_loop_4 ?_
  refine ab_callV (d' := d - 1) (as := [vz 6, vz 0, vz 0]) (st := []) (r := _) (z_PR_add (o := o) (q := q) (lq := lq) (ki := ki) (ne := ne) (ot := ot) (cnt := cnt) (fi := fi) (la := la) (ra := ra) (ru := ru) (gr := gr) (wi := wi) (sz := sz) (fl := fl) (ve := ve) (mi := mi) (na := na) (nl := nl) (K := K) (N := N) (O := O) (k0 := 6) (x0 := 0) (v0 := 0) hq hki hne hot (by omega) (by omega) (by omega)) (fun oc G2 h => by rcases h with ⟨h, _⟩ | ⟨_, h, _⟩ <;> exact ⟨_, h⟩) (by omega) m_PR_add ml_PR_84 im_PR_add se_PR_add c_PR hq.2.2 (Nat.le_of_ble_eq_true rfl) d_PR_loop_5 rfl ?_
  intro v G2 hq
  rcases hq with ⟨hv, hGe, hq3⟩ | ⟨la24, hv, hfk, hlk, hsk, hNq, hNki, hNne, hNot, hq5, hq6, hq7⟩
  · cases hv
    rw [hGe]
    change ab_W _ _ _ G 8 [some (vR q), some (vR p), some (vj w), none, some (vz dd), none, none, none] [vz 0] _
    exfalso; omega
  · cases hv
    have hzr := hzr.tr (fzr.fx hfk (by simp only [List.mem_cons, List.not_mem_nil, or_false]; omega))
    have hra := hfk.get hra (by simp only [List.mem_cons, List.not_mem_nil, or_false]; omega)
    have hp := hfk.get hp (by simp only [List.mem_cons, List.not_mem_nil, or_false]; omega)
    have pszB_0 := szB.fr hfk pszB_0 (by simp only [List.mem_cons, List.not_mem_nil, or_false]; omega) (by simp only [List.mem_cons, List.not_mem_nil, or_false]; omega)
    have pdnB_0 := dnB.fr hfk ppaI_0 pdnB_0 (by simp only [List.mem_cons, List.not_mem_nil, or_false]; omega) (by simp only [List.mem_cons, List.not_mem_nil, or_false]; omega)
    have ppaI_0 := paI.fr hfk ppaI_0 (by simp only [List.mem_cons, List.not_mem_nil, or_false]; omega) (by simp only [List.mem_cons, List.not_mem_nil, or_false]; omega) (by simp only [List.mem_cons, List.not_mem_nil, or_false]; omega) (by intro xx hx; simp only [List.mem_cons, List.not_mem_nil, or_false] at hx; omega)
    have hfr := hfr.tr hfk (by simp)
    have hq8 := hlk
    have hq9 := hsk
    have hq := hNq
    have hki := hNki
    have hne := hNne
    have hot := hNot
    change ab_W _ _ _ G2 8 [some (vR q), some (vR p), some (vj w), none, some (vz dd), none, none, none] [vz cnt] _
    have hp10 := prok_add (k := 6) (x := 0) (v := 0) hp_ (by omega) (by omega) (by omega) (by omega) (by omega) (fun t => by omega) (fun t => absurd t (by decide)) (fun t => absurd t (by decide)) (fun t => absurd t (by decide)) (fun t => absurd t (by decide))
    obtain ⟨K10, eK10⟩ : ∃ z : Int → Int, z = zu K cnt 6 := ⟨_, rfl⟩
    have hki : cc o G2 ki (lq + 1) (za 808 K10) := by rw [← eK10.symm]; exact hki
    obtain ⟨N10, eN10⟩ : ∃ z : Int → Int, z = zu N cnt 0 := ⟨_, rfl⟩
    have hne : cc o G2 ne (lq + 2) (za 808 N10) := by rw [← eN10.symm]; exact hne
    obtain ⟨O10, eO10⟩ : ∃ z : Int → Int, z = zu O cnt 0 := ⟨_, rfl⟩
    have hot : cc o G2 ot (lq + 3) (za 808 O10) := by rw [← eO10.symm]; exact hot
    rw [← eK10, ← eN10, ← eO10] at hp10
    have hkx10 : kext K K10 cnt := by rw [eK10]; exact kext.zu (Int.le_refl _)
    have hks10 : K10 cnt = 6 := by rw [eK10]; exact zu_self _ _ _
    have hsd10 : sdC K10 N10 O10 cnt (cnt + 1) cnt 6 0 0 := ⟨⟨by omega, by omega⟩, by rw [eK10]; exact zu_self _ _ _, by rw [eN10]; exact zu_self _ _ _, by rw [eO10]; exact zu_self _ _ _⟩
    have hpx10 : pxt K N O RR cnt ru K10 N10 O10 RR := by rw [eK10, eN10, eO10]; exact pxt.add (Int.le_refl _)
    change ab_W _ _ _ G2 8 [some (vR q), some (vR p), some (vj w), none, some (vz dd), none, none, none] [vz cnt] _
    refine ab_istore d_PR_loop_8 (Nat.le_of_ble_eq_true rfl) (Nat.le_of_ble_eq_true rfl) rfl ?_
    change ab_W _ _ _ G2 10 [some (vR q), some (vR p), some (vj w), none, some (vz dd), some (vz cnt), none, none] [] _
    refine ab_aload_n d_PR_loop_10 rfl ?_
    refine ab_aload_n d_PR_loop_11 rfl ?_
    refine ab_aload_n d_PR_loop_12 rfl ?_
    refine ab_getf (fs := [vz k_1, vz v_1, rg_1, vz pl_1, vz fl_1, ou_1, ls_1, bf_1, vz sz_1, vz mb_1, vz oe_1, vz le_1, vz mo_1, vz la_1, vz rc_1]) f_PR_159 d_PR_loop_13 hp.2.2 rfl ?_
    refine zz_if_eq (tgt := 23) d_PR_loop_16 (by decide) (by omega) (fun c11 => ?_) (fun c11 => ?_)
    · refine ab_iload d_PR_loop_23 rfl ?_
      refine ab_iload d_PR_loop_25 rfl ?_
      refine ab_callS (d' := d - 1) (as := [vz cnt, vz cnt]) (st := [vR p, vR q]) (z_PR_pair (o := o) (f0 := cnt) (u0 := cnt) (by omega)) (fun oc G2 h => by rcases h with ⟨h, _⟩ <;> exact ⟨_, h⟩) (by omega) m_PR_pair ml_PR_88 st_PR_pair (Nat.le_of_ble_eq_true rfl) d_PR_loop_27 rfl ?_
      intro v G12 hq
      rcases hq with ⟨hv, hGe⟩
      cases hv
      rw [hGe]
      change ab_W _ _ _ G2 30 [some (vR q), some (vR p), some (vj w), none, some (vz dd), some (vz cnt), none, none] [vj (cnt * 4294967296 + cnt), vR p, vR q] _
      refine ab_iload d_PR_loop_30 rfl ?_
      refine ab_callV (d' := d - 1) (as := [vR p, vj (cnt * 4294967296 + cnt), vz dd]) (st := []) (r := _) (z_PR_once (o := o) (q := q) (lq := lq) (ki := ki) (ne := ne) (ot := ot) (cnt := (cnt + 1)) (fi := fi) (la := la24) (ra := ra) (ru := ru) (gr := gr) (wi := wi) (sz := sz) (fl := fl) (ve := ve) (mi := mi) (na := na) (nl := nl) (K := K10) (N := N10) (O := O10) (RR := RR) (nr := nr) (ps := ps) (wt := wt) (bs := bs) (ph := ph) (gq := gq) (p := p) (w := (cnt * 4294967296 + cnt)) (dd := dd) (cu := cu) (cs := cs) (on := on) (re := re) (rg := rg) (bq := bq) hq hki hne hot hra ppaI_0 pszB_0 pdnB_0 (by omega) (by omega) hp10 hch hr ((hkx10 0 (by omega) (by omega)).trans ck0) (by omega) hpp (by omega) (by omega) (by omega) (by omega) (by omega) (bqo_c hp (by omega) (by omega) hbe_) (by omega) (by omega) ihR) (fun oc G2 h => by rcases h with ⟨_, _, _, _, _, _, _, _, _, _, _, _, h, _⟩ <;> exact ⟨_, h⟩) (by omega) m_PR_once ml_PR_153 im_PR_once se_PR_once c_PR hq.2.2 (Nat.le_of_ble_eq_true rfl) d_PR_loop_32 rfl ?_
      intro v G13 hq
      rcases hq with ⟨o14, w215, cnt216, la217, ra218, nr219, ru220, K221, N222, O223, RR224, ph225, hv, hfk, hNq, hNki, hNne, hNot, hNra218, pNpaI_0, pNszB_0, pNdnB_0, hq26, hq27, hq28, hq29, hq30, hq31, hq32, hq33, hq34, hq35, hq36, hq37, hq38, hq39, hq40⟩
      cases hv
      have hzr := hzr.tr hq34
      obtain ⟨rc41, hKp⟩ := hq34 _ _ _ _ _ _ _ _ _ _ _ _ _ _ _ _ hpp hp
      have hp := hKp
      have ppaI_0 := pNpaI_0
      have pszB_0 := pNszB_0
      have pdnB_0 := pNdnB_0
      have hfr := hfr.tr hfk (by simp)
      have hq42 := hfk.1
      have hq := hNq
      have hki := hNki
      have hne := hNne
      have hot := hNot
      have hra218 := hNra218
      change ab_W _ _ _ G13 35 [some (vR q), some (vR p), some (vj w), none, some (vz dd), some (vz cnt), none, none] [vj w215] _
      refine ab_callS (d' := d - 1) (as := [vj w215]) (st := []) (z_PR_fresh (o := o14) (w := w215) (by omega)) (fun oc G2 h => by rcases h with ⟨h, _⟩ <;> exact ⟨_, h⟩) (by omega) m_PR_fresh ml_PR_96 st_PR_fresh (Nat.le_of_ble_eq_true rfl) d_PR_loop_35 rfl ?_
      intro v G43 hq
      rcases hq with ⟨hv, hGe⟩
      cases hv
      rw [hGe]
      change ab_W _ _ _ G13 38 [some (vR q), some (vR p), some (vj w), none, some (vz dd), some (vz cnt), none, none] [vz (w215 / 4294967296)] _
      refine ab_istore d_PR_loop_38 (Nat.le_of_ble_eq_true rfl) (Nat.le_of_ble_eq_true rfl) rfl ?_
      change ab_W _ _ _ G13 40 [some (vR q), some (vR p), some (vj w), none, some (vz dd), some (vz cnt), some (vz (w215 / 4294967296)), none] [] _
      refine ab_aload_n d_PR_loop_40 rfl ?_
      refine ab_getf (fs := [vR ki, vR ne, vR ot, vz cnt216, vz fi, vz la217, vR ra218, vz ru220, vz gr, vz wi, vz sz, vz fl, vz ve, vz mi, vR na, vR nl]) f_PR_15 d_PR_loop_41 hq.2.2 rfl ?_
      refine ab_iload d_PR_loop_44 rfl ?_
      refine ab_aload_n d_PR_loop_46 rfl ?_
      refine ab_getf (fs := [vz k_1, vz v_1, rg_1, vz pl_1, vz fl_1, ou_1, ls_1, bf_1, vz sz_1, vz mb_1, vz oe_1, vz le_1, vz mo_1, vz la_1, vz rc41]) f_PR_156 d_PR_loop_47 hp.2.2 rfl ?_
      refine zz_if_eq (tgt := 60) d_PR_loop_50 (by decide) (by omega) (fun c44 => ?_) (fun c44 => ?_)
      · refine ab_iload d_PR_loop_60 rfl ?_
        refine zz_iast d_PR_loop_62 hne (by omega) (hne.2.1 (by first | omega | exact (show 18 ≤ _ by omega))) ?_
        obtain ⟨G45, eG45⟩ : ∃ z : ab_G, z = List.set G13 ne (za 808 (zu N222 cnt (w215 / 4294967296))) := ⟨_, rfl⟩
        have hq := hq.keep hne eG45 (by omega)
        have hki := hki.keep hne eG45 (by omega)
        have hot := hot.keep hne eG45 (by omega)
        have hp := hp.keep hne eG45 (by omega)
        have hra218 := hra218.keep hne eG45 (by omega)
        have hzr := hzr.wr hne eG45 (by omega)
        have hst := (fx.rf (o := o14) (S := [(lq + 2)]) (G := G13)).wr hne eG45 (List.mem_singleton.mpr rfl)
        have pszB_0 := szB.fr hst pszB_0 (by simp only [List.mem_cons, List.not_mem_nil, or_false]; omega) (by simp only [List.mem_cons, List.not_mem_nil, or_false]; omega)
        have pdnB_0 := dnB.fr hst ppaI_0 pdnB_0 (by simp only [List.mem_cons, List.not_mem_nil, or_false]; omega) (by simp only [List.mem_cons, List.not_mem_nil, or_false]; omega)
        have ppaI_0 := paI.fr hst ppaI_0 (by simp only [List.mem_cons, List.not_mem_nil, or_false]; omega) (by simp only [List.mem_cons, List.not_mem_nil, or_false]; omega) (by simp only [List.mem_cons, List.not_mem_nil, or_false]; omega) (by intro xx hx; simp only [List.mem_cons, List.not_mem_nil, or_false] at hx; omega)
        have hq46 := z_len eG45
        have hq47 := z_sl hne eG45 rfl
        have hfr := hfr.wr hne eG45 (by simp)
        have hne := hne.kept eG45
        change ab_W _ _ _ (List.set G13 ne (za 808 (zu N222 cnt (w215 / 4294967296)))) 63 [some (vR q), some (vR p), some (vj w), none, some (vz dd), some (vz cnt), some (vz (w215 / 4294967296)), none] [] _
        rw [← eG45]
        have hp48 := prok_next (a := cnt) (x := (w215 / 4294967296)) hq30 (by omega)
        obtain ⟨N48, eN48⟩ : ∃ z : Int → Int, z = zu N222 cnt (w215 / 4294967296) := ⟨_, rfl⟩
        have hne : cc o14 G45 ne (lq + 2) (za 808 N48) := by rw [← eN48.symm]; exact hne
        rw [← eN48] at hp48
        have hpx48 : pxt K221 N222 O223 RR224 cnt ru220 K221 N48 O223 RR224 := by rw [eN48]; exact pxt.setN (Int.le_refl _)
        have hrp48 : RP K221 N48 O223 RR224 ru220 (cnt + 1) cnt216 (cnt * 4294967296 + cnt) w215 (on p) := by rw [eN48]; exact hq40.setN (by omega)
        have hsN_ : N48 cnt = (w215 / 4294967296) := by rw [eN48]; exact zu_self _ _ _
        change ab_W _ _ _ G45 63 [some (vR q), some (vR p), some (vj w), none, some (vz dd), some (vz cnt), some (vz (w215 / 4294967296)), none] [] _
        refine ab_aload_n d_PR_loop_63 rfl ?_
        refine ab_getf (fs := [vR ki, vR ne, vR ot, vz cnt216, vz fi, vz la217, vR ra218, vz ru220, vz gr, vz wi, vz sz, vz fl, vz ve, vz mi, vR na, vR nl]) f_PR_18 d_PR_loop_64 hq.2.2 rfl ?_
        refine ab_iload d_PR_loop_67 rfl ?_
        refine ab_aload_n d_PR_loop_69 rfl ?_
        refine ab_getf (fs := [vz k_1, vz v_1, rg_1, vz pl_1, vz fl_1, ou_1, ls_1, bf_1, vz sz_1, vz mb_1, vz oe_1, vz le_1, vz mo_1, vz la_1, vz rc41]) f_PR_156 d_PR_loop_70 hp.2.2 rfl ?_
        refine zz_if_eq (tgt := 81) d_PR_loop_73 (by decide) (by omega) (fun c49 => ?_) (fun c49 => absurd c49 (by omega))
        refine ab_lload_n d_PR_loop_81 rfl ?_
        refine ab_callS (d' := d - 1) (as := [vj w]) (st := [vz cnt, vR ot]) (z_PR_used (o := o14) (w := w) (by omega)) (fun oc G2 h => by rcases h with ⟨h, _⟩ <;> exact ⟨_, h⟩) (by omega) m_PR_used ml_PR_124 st_PR_used (Nat.le_of_ble_eq_true rfl) d_PR_loop_82 rfl ?_
        intro v G50 hq
        rcases hq with ⟨hv, hGe⟩
        cases hv
        rw [hGe]
        change ab_W _ _ _ G45 85 [some (vR q), some (vR p), some (vj w), none, some (vz dd), some (vz cnt), some (vz (w215 / 4294967296)), none] [vz (w % 4294967296), vz cnt, vR ot] _
        refine zz_iast d_PR_loop_85 hot (by omega) (hot.2.1 (by first | omega | exact (show 18 ≤ _ by omega))) ?_
        obtain ⟨G51, eG51⟩ : ∃ z : ab_G, z = List.set G45 ot (za 808 (zu O223 cnt (w % 4294967296))) := ⟨_, rfl⟩
        have hq := hq.keep hot eG51 (by omega)
        have hki := hki.keep hot eG51 (by omega)
        have hne := hne.keep hot eG51 (by omega)
        have hp := hp.keep hot eG51 (by omega)
        have hra218 := hra218.keep hot eG51 (by omega)
        have hzr := hzr.wr hot eG51 (by omega)
        have hst := (fx.rf (o := o14) (S := [(lq + 3)]) (G := G45)).wr hot eG51 (List.mem_singleton.mpr rfl)
        have pszB_0 := szB.fr hst pszB_0 (by simp only [List.mem_cons, List.not_mem_nil, or_false]; omega) (by simp only [List.mem_cons, List.not_mem_nil, or_false]; omega)
        have pdnB_0 := dnB.fr hst ppaI_0 pdnB_0 (by simp only [List.mem_cons, List.not_mem_nil, or_false]; omega) (by simp only [List.mem_cons, List.not_mem_nil, or_false]; omega)
        have ppaI_0 := paI.fr hst ppaI_0 (by simp only [List.mem_cons, List.not_mem_nil, or_false]; omega) (by simp only [List.mem_cons, List.not_mem_nil, or_false]; omega) (by simp only [List.mem_cons, List.not_mem_nil, or_false]; omega) (by intro xx hx; simp only [List.mem_cons, List.not_mem_nil, or_false] at hx; omega)
        have hq52 := z_len eG51
        have hq53 := z_sl hot eG51 rfl
        have hfr := hfr.wr hot eG51 (by simp)
        have hot := hot.kept eG51
        change ab_W _ _ _ (List.set G45 ot (za 808 (zu O223 cnt (w % 4294967296)))) 86 [some (vR q), some (vR p), some (vj w), none, some (vz dd), some (vz cnt), some (vz (w215 / 4294967296)), none] [] _
        rw [← eG51]
        have hp54 := prok_other (a := cnt) (x := (w % 4294967296)) hp48 (by omega) (Or.inl ((hq33 cnt (by omega) (by omega)).trans hks10))
        obtain ⟨O54, eO54⟩ : ∃ z : Int → Int, z = zu O223 cnt (w % 4294967296) := ⟨_, rfl⟩
        have hot : cc o14 G51 ot (lq + 3) (za 808 O54) := by rw [← eO54.symm]; exact hot
        rw [← eO54] at hp54
        have hpx54 : pxt K221 N48 O223 RR224 cnt ru220 K221 N48 O54 RR224 := by rw [eO54]; exact pxt.setO (Int.le_refl _)
        have hrp54 : RP K221 N48 O54 RR224 ru220 (cnt + 1) cnt216 (cnt * 4294967296 + cnt) w215 (on p) := by rw [eO54]; exact hrp48.setO (by omega)
        have hsO_ : O54 cnt = (w % 4294967296) := by rw [eO54]; exact zu_self _ _ _
        change ab_W _ _ _ G51 86 [some (vR q), some (vR p), some (vj w), none, some (vz dd), some (vz cnt), some (vz (w215 / 4294967296)), none] [] _
        refine ab_lload_n d_PR_loop_86 rfl ?_
        refine ab_callS (d' := d - 1) (as := [vj w]) (st := []) (z_PR_fresh (o := o14) (w := w) (by omega)) (fun oc G2 h => by rcases h with ⟨h, _⟩ <;> exact ⟨_, h⟩) (by omega) m_PR_fresh ml_PR_96 st_PR_fresh (Nat.le_of_ble_eq_true rfl) d_PR_loop_87 rfl ?_
        intro v G55 hq
        rcases hq with ⟨hv, hGe⟩
        cases hv
        rw [hGe]
        change ab_W _ _ _ G51 90 [some (vR q), some (vR p), some (vj w), none, some (vz dd), some (vz cnt), some (vz (w215 / 4294967296)), none] [vz (w / 4294967296)] _
        refine ab_lload_n d_PR_loop_90 rfl ?_
        refine ab_callS (d' := d - 1) (as := [vj w]) (st := [vz (w / 4294967296)]) (z_PR_used (o := o14) (w := w) (by omega)) (fun oc G2 h => by rcases h with ⟨h, _⟩ <;> exact ⟨_, h⟩) (by omega) m_PR_used ml_PR_124 st_PR_used (Nat.le_of_ble_eq_true rfl) d_PR_loop_91 rfl ?_
        intro v G56 hq
        rcases hq with ⟨hv, hGe⟩
        cases hv
        rw [hGe]
        change ab_W _ _ _ G51 94 [some (vR q), some (vR p), some (vj w), none, some (vz dd), some (vz cnt), some (vz (w215 / 4294967296)), none] [vz (w % 4294967296), vz (w / 4294967296)] _
        refine zz_icmp_ne (tgt := 105) d_PR_loop_94 (by decide) (by omega) (by omega) (fun c57 => ?_) (fun c57 => ?_)
        · refine ab_aload_n d_PR_loop_105 rfl ?_
          refine ab_getf (fs := [vz k_1, vz v_1, rg_1, vz pl_1, vz fl_1, ou_1, ls_1, bf_1, vz sz_1, vz mb_1, vz oe_1, vz le_1, vz mo_1, vz la_1, vz rc41]) f_PR_156 d_PR_loop_106 hp.2.2 rfl ?_
          refine zz_if_eq (tgt := 127) d_PR_loop_109 (by decide) (by omega) (fun c58 => ?_) (fun c58 => absurd c58 (by omega))
          refine ab_aload_n d_PR_loop_127 rfl ?_
          refine zz_bipush d_PR_loop_128 (by decide) ?_
          refine ab_iload d_PR_loop_130 rfl ?_
          refine ab_lload_n d_PR_loop_132 rfl ?_
          refine ab_callS (d' := d - 1) (as := [vj w]) (st := [vz (w215 / 4294967296), vz 6, vR q]) (z_PR_fresh (o := o14) (w := w) (by omega)) (fun oc G2 h => by rcases h with ⟨h, _⟩ <;> exact ⟨_, h⟩) (by omega) m_PR_fresh ml_PR_96 st_PR_fresh (Nat.le_of_ble_eq_true rfl) d_PR_loop_133 rfl ?_
          intro v G59 hq
          rcases hq with ⟨hv, hGe⟩
          cases hv
          rw [hGe]
          change ab_W _ _ _ G51 136 [some (vR q), some (vR p), some (vj w), none, some (vz dd), some (vz cnt), some (vz (w215 / 4294967296)), none] [vz (w / 4294967296), vz (w215 / 4294967296), vz 6, vR q] _
          refine ab_callV (d' := d - 1) (as := [vz 6, vz (w215 / 4294967296), vz (w / 4294967296)]) (st := []) (r := _) (z_PR_add (o := o14) (q := q) (lq := lq) (ki := ki) (ne := ne) (ot := ot) (cnt := cnt216) (fi := fi) (la := la217) (ra := ra218) (ru := ru220) (gr := gr) (wi := wi) (sz := sz) (fl := fl) (ve := ve) (mi := mi) (na := na) (nl := nl) (K := K221) (N := N48) (O := O54) (k0 := 6) (x0 := (w215 / 4294967296)) (v0 := (w / 4294967296)) hq hki hne hot (by omega) (by omega) (by omega)) (fun oc G2 h => by rcases h with ⟨h, _⟩ | ⟨_, h, _⟩ <;> exact ⟨_, h⟩) (by omega) m_PR_add ml_PR_84 im_PR_add se_PR_add c_PR hq.2.2 (Nat.le_of_ble_eq_true rfl) d_PR_loop_136 rfl ?_
          intro v G60 hq
          rcases hq with ⟨hv, hGe, hq61⟩ | ⟨la262, hv, hfk, hlk, hsk, hNq, hNki, hNne, hNot, hq63, hq64, hq65⟩
          · cases hv
            rw [hGe]
            change ab_W _ _ _ G51 139 [some (vR q), some (vR p), some (vj w), none, some (vz dd), some (vz cnt), some (vz (w215 / 4294967296)), none] [vz 0] _
            exfalso; omega
          · cases hv
            have hzr := hzr.tr (fzr.fx hfk (by simp only [List.mem_cons, List.not_mem_nil, or_false]; omega))
            have hp := hfk.get hp (by simp only [List.mem_cons, List.not_mem_nil, or_false]; omega)
            have hra218 := hfk.get hra218 (by simp only [List.mem_cons, List.not_mem_nil, or_false]; omega)
            have pszB_0 := szB.fr hfk pszB_0 (by simp only [List.mem_cons, List.not_mem_nil, or_false]; omega) (by simp only [List.mem_cons, List.not_mem_nil, or_false]; omega)
            have pdnB_0 := dnB.fr hfk ppaI_0 pdnB_0 (by simp only [List.mem_cons, List.not_mem_nil, or_false]; omega) (by simp only [List.mem_cons, List.not_mem_nil, or_false]; omega)
            have ppaI_0 := paI.fr hfk ppaI_0 (by simp only [List.mem_cons, List.not_mem_nil, or_false]; omega) (by simp only [List.mem_cons, List.not_mem_nil, or_false]; omega) (by simp only [List.mem_cons, List.not_mem_nil, or_false]; omega) (by intro xx hx; simp only [List.mem_cons, List.not_mem_nil, or_false] at hx; omega)
            have hfr := hfr.tr hfk (by simp)
            have hq66 := hlk
            have hq67 := hsk
            have hq := hNq
            have hki := hNki
            have hne := hNne
            have hot := hNot
            change ab_W _ _ _ G60 139 [some (vR q), some (vR p), some (vj w), none, some (vz dd), some (vz cnt), some (vz (w215 / 4294967296)), none] [vz cnt216] _
            have hp68 := prok_add (k := 6) (x := (w215 / 4294967296)) (v := (w / 4294967296)) hp54 (by omega) (by omega) (by omega) (by omega) (by omega) (fun t => by omega) (fun t => absurd t (by decide)) (fun t => absurd t (by decide)) (fun t => absurd t (by decide)) (fun t => absurd t (by decide))
            obtain ⟨K68, eK68⟩ : ∃ z : Int → Int, z = zu K221 cnt216 6 := ⟨_, rfl⟩
            have hki : cc o14 G60 ki (lq + 1) (za 808 K68) := by rw [← eK68.symm]; exact hki
            obtain ⟨N68, eN68⟩ : ∃ z : Int → Int, z = zu N48 cnt216 (w215 / 4294967296) := ⟨_, rfl⟩
            have hne : cc o14 G60 ne (lq + 2) (za 808 N68) := by rw [← eN68.symm]; exact hne
            obtain ⟨O68, eO68⟩ : ∃ z : Int → Int, z = zu O54 cnt216 (w / 4294967296) := ⟨_, rfl⟩
            have hot : cc o14 G60 ot (lq + 3) (za 808 O68) := by rw [← eO68.symm]; exact hot
            rw [← eK68, ← eN68, ← eO68] at hp68
            have hkx68 : kext K221 K68 cnt216 := by rw [eK68]; exact kext.zu (Int.le_refl _)
            have hks68 : K68 cnt216 = 6 := by rw [eK68]; exact zu_self _ _ _
            have hsd68 : sdC K68 N68 O68 cnt216 (cnt216 + 1) cnt216 6 (w215 / 4294967296) (w / 4294967296) := ⟨⟨by omega, by omega⟩, by rw [eK68]; exact zu_self _ _ _, by rw [eN68]; exact zu_self _ _ _, by rw [eO68]; exact zu_self _ _ _⟩
            have hpx68 : pxt K221 N48 O54 RR224 cnt216 ru220 K68 N68 O68 RR224 := by rw [eK68, eN68, eO68]; exact pxt.add (Int.le_refl _)
            change ab_W _ _ _ G60 139 [some (vR q), some (vR p), some (vj w), none, some (vz dd), some (vz cnt), some (vz (w215 / 4294967296)), none] [vz cnt216] _
            refine ab_istore d_PR_loop_139 (Nat.le_of_ble_eq_true rfl) (Nat.le_of_ble_eq_true rfl) rfl ?_
            change ab_W _ _ _ G60 141 [some (vR q), some (vR p), some (vj w), none, some (vz dd), some (vz cnt), some (vz (w215 / 4294967296)), some (vz cnt216)] [] _
            refine ab_iload d_PR_loop_141 rfl ?_
            refine ab_iload d_PR_loop_143 rfl ?_
            refine ab_callS (d' := d - 1) (as := [vz cnt216, vz cnt]) (st := []) (z_PR_pair (o := o14) (f0 := cnt216) (u0 := cnt) (by omega)) (fun oc G2 h => by rcases h with ⟨h, _⟩ <;> exact ⟨_, h⟩) (by omega) m_PR_pair ml_PR_88 st_PR_pair (Nat.le_of_ble_eq_true rfl) d_PR_loop_145 rfl ?_
            intro v G69 hq
            rcases hq with ⟨hv, hGe⟩
            cases hv
            rw [hGe]
            change ab_W _ _ _ G60 148 [some (vR q), some (vR p), some (vj w), none, some (vz dd), some (vz cnt), some (vz (w215 / 4294967296)), some (vz cnt216)] [vj (cnt216 * 4294967296 + cnt)] _
            refine ab_lret rfl d_PR_loop_148 ?_
            rw [hQ]; exact ⟨_, _, _, _, _, _, _, _, _, _, _, _, rfl, hfr, hq, hki, hne, hot, hra218, ppaI_0, pszB_0, pdnB_0, (by omega), (by omega), (by omega), (by omega), (by exact hp68), (by exact hq31), (by exact hq32), (by exact ((hkx10.tr hq33 (by omega)).tr hkx68 (by omega))), (by exact hzr), (by omega), (by omega), (by omega), (by omega), (by exact ((((hpx10.tr hq39 (by omega) (by omega)).tr hpx48 (by omega) (by omega)).tr hpx54 (by omega) (by omega)).tr hpx68 (by omega) (by omega)).lt (by omega) (by omega)), (by exact RP_T (r := cnt) (lpC.mk ⟨by omega, by omega⟩ (((hq33.tr hkx68 (by omega)) cnt (by omega) (by omega)).trans hsd10.2.1) (fun q => absurd q (show ¬ lz = 1 by omega)) (fun _ => ⟨((hpx68.2.1 cnt (by omega) (by omega)).trans hsN_).trans (by omega), ((hpx68.2.2.1 cnt (by omega) (by omega)).trans hsO_).trans (by omega)⟩)) (hrp54.up hpx68 (by omega) (by omega) (by omega) (by omega) (by omega)) (by omega) (fun t => absurd (hoep_ (by omega) (by omega)) t) (lpC.mk (by have t := hsd68.1; omega) (by rw [show (cnt216 * 4294967296 + cnt) / 4294967296 = cnt216 by omega]; exact hsd68.2.1) (fun q => absurd q (show ¬ lz = 1 by omega)) (fun _ => (by rw [show (cnt216 * 4294967296 + cnt) / 4294967296 = cnt216 by omega]; exact ⟨hsd68.2.2.1.trans (by omega), hsd68.2.2.2.trans (by omega)⟩))) (by omega))⟩
        · refine ab_iload d_PR_loop_97 rfl ?_
          refine ab_iload d_PR_loop_99 rfl ?_
          refine ab_callS (d' := d - 1) (as := [vz cnt, vz cnt]) (st := []) (z_PR_pair (o := o14) (f0 := cnt) (u0 := cnt) (by omega)) (fun oc G2 h => by rcases h with ⟨h, _⟩ <;> exact ⟨_, h⟩) (by omega) m_PR_pair ml_PR_88 st_PR_pair (Nat.le_of_ble_eq_true rfl) d_PR_loop_101 rfl ?_
          intro v G70 hq
          rcases hq with ⟨hv, hGe⟩
          cases hv
          rw [hGe]
          change ab_W _ _ _ G51 104 [some (vR q), some (vR p), some (vj w), none, some (vz dd), some (vz cnt), some (vz (w215 / 4294967296)), none] [vj (cnt * 4294967296 + cnt)] _
          refine ab_lret rfl d_PR_loop_104 ?_
          rw [hQ]; exact ⟨_, _, _, _, _, _, _, _, _, _, _, _, rfl, hfr, hq, hki, hne, hot, hra218, ppaI_0, pszB_0, pdnB_0, (by omega), (by omega), (by omega), (by omega), (by exact hp54), (by exact hq31), (by exact hq32), (by exact (hkx10.tr hq33 (by omega))), (by exact hzr), (by omega), (by omega), (by omega), (by omega), (by exact (((hpx10.tr hq39 (by omega) (by omega)).tr hpx48 (by omega) (by omega)).tr hpx54 (by omega) (by omega)).lt (by omega) (by omega)), (by exact RP_T (r := cnt) (lpC.mk ⟨by omega, by omega⟩ ((hq33 cnt (by omega) (by omega)).trans hsd10.2.1) (fun q => absurd q (show ¬ lz = 1 by omega)) (fun _ => ⟨hsN_.trans (by omega), hsO_.trans (by omega)⟩)) (hrp54.wd (by omega) (by omega)) (by omega) (fun t => absurd (hoep_ (by omega) (by omega)) t) (by rw [show (cnt * 4294967296 + cnt) / 4294967296 = cnt by omega, show w / 4294967296 = w % 4294967296 by omega]; exact (lpC.mk ⟨by omega, by omega⟩ ((hq33 cnt (by omega) (by omega)).trans hsd10.2.1) (fun q => absurd q (show ¬ lz = 1 by omega)) (fun _ => ⟨hsN_.trans (by omega), hsO_.trans (by omega)⟩))) (by omega))⟩
      · refine ab_lload_n d_PR_loop_53 rfl ?_
        refine ab_callS (d' := d - 1) (as := [vj w]) (st := [vz cnt, vR ne]) (z_PR_used (o := o14) (w := w) (by omega)) (fun oc G2 h => by rcases h with ⟨h, _⟩ <;> exact ⟨_, h⟩) (by omega) m_PR_used ml_PR_124 st_PR_used (Nat.le_of_ble_eq_true rfl) d_PR_loop_54 rfl ?_
        intro v G71 hq
        rcases hq with ⟨hv, hGe⟩
        cases hv
        rw [hGe]
        change ab_W _ _ _ G13 57 [some (vR q), some (vR p), some (vj w), none, some (vz dd), some (vz cnt), some (vz (w215 / 4294967296)), none] [vz (w % 4294967296), vz cnt, vR ne] _
        refine ab_goto (tgt := 62) d_PR_loop_57 (by decide) ?_
        refine zz_iast d_PR_loop_62 hne (by omega) (hne.2.1 (by first | omega | exact (show 18 ≤ _ by omega))) ?_
        obtain ⟨G72, eG72⟩ : ∃ z : ab_G, z = List.set G13 ne (za 808 (zu N222 cnt (w % 4294967296))) := ⟨_, rfl⟩
        have hq := hq.keep hne eG72 (by omega)
        have hki := hki.keep hne eG72 (by omega)
        have hot := hot.keep hne eG72 (by omega)
        have hp := hp.keep hne eG72 (by omega)
        have hra218 := hra218.keep hne eG72 (by omega)
        have hzr := hzr.wr hne eG72 (by omega)
        have hst := (fx.rf (o := o14) (S := [(lq + 2)]) (G := G13)).wr hne eG72 (List.mem_singleton.mpr rfl)
        have pszB_0 := szB.fr hst pszB_0 (by simp only [List.mem_cons, List.not_mem_nil, or_false]; omega) (by simp only [List.mem_cons, List.not_mem_nil, or_false]; omega)
        have pdnB_0 := dnB.fr hst ppaI_0 pdnB_0 (by simp only [List.mem_cons, List.not_mem_nil, or_false]; omega) (by simp only [List.mem_cons, List.not_mem_nil, or_false]; omega)
        have ppaI_0 := paI.fr hst ppaI_0 (by simp only [List.mem_cons, List.not_mem_nil, or_false]; omega) (by simp only [List.mem_cons, List.not_mem_nil, or_false]; omega) (by simp only [List.mem_cons, List.not_mem_nil, or_false]; omega) (by intro xx hx; simp only [List.mem_cons, List.not_mem_nil, or_false] at hx; omega)
        have hq73 := z_len eG72
        have hq74 := z_sl hne eG72 rfl
        have hfr := hfr.wr hne eG72 (by simp)
        have hne := hne.kept eG72
        change ab_W _ _ _ (List.set G13 ne (za 808 (zu N222 cnt (w % 4294967296)))) 63 [some (vR q), some (vR p), some (vj w), none, some (vz dd), some (vz cnt), some (vz (w215 / 4294967296)), none] [] _
        rw [← eG72]
        have hp75 := prok_next (a := cnt) (x := (w % 4294967296)) hq30 (by omega)
        obtain ⟨N75, eN75⟩ : ∃ z : Int → Int, z = zu N222 cnt (w % 4294967296) := ⟨_, rfl⟩
        have hne : cc o14 G72 ne (lq + 2) (za 808 N75) := by rw [← eN75.symm]; exact hne
        rw [← eN75] at hp75
        have hpx75 : pxt K221 N222 O223 RR224 cnt ru220 K221 N75 O223 RR224 := by rw [eN75]; exact pxt.setN (Int.le_refl _)
        have hrp75 : RP K221 N75 O223 RR224 ru220 (cnt + 1) cnt216 (cnt * 4294967296 + cnt) w215 (on p) := by rw [eN75]; exact hq40.setN (by omega)
        have hsN_ : N75 cnt = (w % 4294967296) := by rw [eN75]; exact zu_self _ _ _
        change ab_W _ _ _ G72 63 [some (vR q), some (vR p), some (vj w), none, some (vz dd), some (vz cnt), some (vz (w215 / 4294967296)), none] [] _
        refine ab_aload_n d_PR_loop_63 rfl ?_
        refine ab_getf (fs := [vR ki, vR ne, vR ot, vz cnt216, vz fi, vz la217, vR ra218, vz ru220, vz gr, vz wi, vz sz, vz fl, vz ve, vz mi, vR na, vR nl]) f_PR_18 d_PR_loop_64 hq.2.2 rfl ?_
        refine ab_iload d_PR_loop_67 rfl ?_
        refine ab_aload_n d_PR_loop_69 rfl ?_
        refine ab_getf (fs := [vz k_1, vz v_1, rg_1, vz pl_1, vz fl_1, ou_1, ls_1, bf_1, vz sz_1, vz mb_1, vz oe_1, vz le_1, vz mo_1, vz la_1, vz rc41]) f_PR_156 d_PR_loop_70 hp.2.2 rfl ?_
        refine zz_if_eq (tgt := 81) d_PR_loop_73 (by decide) (by omega) (fun c76 => absurd c76 (by omega)) (fun c76 => ?_)
        refine ab_iload d_PR_loop_76 rfl ?_
        refine ab_goto (tgt := 85) d_PR_loop_78 (by decide) ?_
        refine zz_iast d_PR_loop_85 hot (by omega) (hot.2.1 (by first | omega | exact (show 18 ≤ _ by omega))) ?_
        obtain ⟨G77, eG77⟩ : ∃ z : ab_G, z = List.set G72 ot (za 808 (zu O223 cnt (w215 / 4294967296))) := ⟨_, rfl⟩
        have hq := hq.keep hot eG77 (by omega)
        have hki := hki.keep hot eG77 (by omega)
        have hne := hne.keep hot eG77 (by omega)
        have hp := hp.keep hot eG77 (by omega)
        have hra218 := hra218.keep hot eG77 (by omega)
        have hzr := hzr.wr hot eG77 (by omega)
        have hst := (fx.rf (o := o14) (S := [(lq + 3)]) (G := G72)).wr hot eG77 (List.mem_singleton.mpr rfl)
        have pszB_0 := szB.fr hst pszB_0 (by simp only [List.mem_cons, List.not_mem_nil, or_false]; omega) (by simp only [List.mem_cons, List.not_mem_nil, or_false]; omega)
        have pdnB_0 := dnB.fr hst ppaI_0 pdnB_0 (by simp only [List.mem_cons, List.not_mem_nil, or_false]; omega) (by simp only [List.mem_cons, List.not_mem_nil, or_false]; omega)
        have ppaI_0 := paI.fr hst ppaI_0 (by simp only [List.mem_cons, List.not_mem_nil, or_false]; omega) (by simp only [List.mem_cons, List.not_mem_nil, or_false]; omega) (by simp only [List.mem_cons, List.not_mem_nil, or_false]; omega) (by intro xx hx; simp only [List.mem_cons, List.not_mem_nil, or_false] at hx; omega)
        have hq78 := z_len eG77
        have hq79 := z_sl hot eG77 rfl
        have hfr := hfr.wr hot eG77 (by simp)
        have hot := hot.kept eG77
        change ab_W _ _ _ (List.set G72 ot (za 808 (zu O223 cnt (w215 / 4294967296)))) 86 [some (vR q), some (vR p), some (vj w), none, some (vz dd), some (vz cnt), some (vz (w215 / 4294967296)), none] [] _
        rw [← eG77]
        have hp80 := prok_other (a := cnt) (x := (w215 / 4294967296)) hp75 (by omega) (Or.inl ((hq33 cnt (by omega) (by omega)).trans hks10))
        obtain ⟨O80, eO80⟩ : ∃ z : Int → Int, z = zu O223 cnt (w215 / 4294967296) := ⟨_, rfl⟩
        have hot : cc o14 G77 ot (lq + 3) (za 808 O80) := by rw [← eO80.symm]; exact hot
        rw [← eO80] at hp80
        have hpx80 : pxt K221 N75 O223 RR224 cnt ru220 K221 N75 O80 RR224 := by rw [eO80]; exact pxt.setO (Int.le_refl _)
        have hrp80 : RP K221 N75 O80 RR224 ru220 (cnt + 1) cnt216 (cnt * 4294967296 + cnt) w215 (on p) := by rw [eO80]; exact hrp75.setO (by omega)
        have hsO_ : O80 cnt = (w215 / 4294967296) := by rw [eO80]; exact zu_self _ _ _
        change ab_W _ _ _ G77 86 [some (vR q), some (vR p), some (vj w), none, some (vz dd), some (vz cnt), some (vz (w215 / 4294967296)), none] [] _
        refine ab_lload_n d_PR_loop_86 rfl ?_
        refine ab_callS (d' := d - 1) (as := [vj w]) (st := []) (z_PR_fresh (o := o14) (w := w) (by omega)) (fun oc G2 h => by rcases h with ⟨h, _⟩ <;> exact ⟨_, h⟩) (by omega) m_PR_fresh ml_PR_96 st_PR_fresh (Nat.le_of_ble_eq_true rfl) d_PR_loop_87 rfl ?_
        intro v G81 hq
        rcases hq with ⟨hv, hGe⟩
        cases hv
        rw [hGe]
        change ab_W _ _ _ G77 90 [some (vR q), some (vR p), some (vj w), none, some (vz dd), some (vz cnt), some (vz (w215 / 4294967296)), none] [vz (w / 4294967296)] _
        refine ab_lload_n d_PR_loop_90 rfl ?_
        refine ab_callS (d' := d - 1) (as := [vj w]) (st := [vz (w / 4294967296)]) (z_PR_used (o := o14) (w := w) (by omega)) (fun oc G2 h => by rcases h with ⟨h, _⟩ <;> exact ⟨_, h⟩) (by omega) m_PR_used ml_PR_124 st_PR_used (Nat.le_of_ble_eq_true rfl) d_PR_loop_91 rfl ?_
        intro v G82 hq
        rcases hq with ⟨hv, hGe⟩
        cases hv
        rw [hGe]
        change ab_W _ _ _ G77 94 [some (vR q), some (vR p), some (vj w), none, some (vz dd), some (vz cnt), some (vz (w215 / 4294967296)), none] [vz (w % 4294967296), vz (w / 4294967296)] _
        refine zz_icmp_ne (tgt := 105) d_PR_loop_94 (by decide) (by omega) (by omega) (fun c83 => ?_) (fun c83 => ?_)
        · refine ab_aload_n d_PR_loop_105 rfl ?_
          refine ab_getf (fs := [vz k_1, vz v_1, rg_1, vz pl_1, vz fl_1, ou_1, ls_1, bf_1, vz sz_1, vz mb_1, vz oe_1, vz le_1, vz mo_1, vz la_1, vz rc41]) f_PR_156 d_PR_loop_106 hp.2.2 rfl ?_
          refine zz_if_eq (tgt := 127) d_PR_loop_109 (by decide) (by omega) (fun c84 => absurd c84 (by omega)) (fun c84 => ?_)
          refine ab_aload_n d_PR_loop_112 rfl ?_
          refine zz_bipush d_PR_loop_113 (by decide) ?_
          refine ab_lload_n d_PR_loop_115 rfl ?_
          refine ab_callS (d' := d - 1) (as := [vj w]) (st := [vz 6, vR q]) (z_PR_fresh (o := o14) (w := w) (by omega)) (fun oc G2 h => by rcases h with ⟨h, _⟩ <;> exact ⟨_, h⟩) (by omega) m_PR_fresh ml_PR_96 st_PR_fresh (Nat.le_of_ble_eq_true rfl) d_PR_loop_116 rfl ?_
          intro v G85 hq
          rcases hq with ⟨hv, hGe⟩
          cases hv
          rw [hGe]
          change ab_W _ _ _ G77 119 [some (vR q), some (vR p), some (vj w), none, some (vz dd), some (vz cnt), some (vz (w215 / 4294967296)), none] [vz (w / 4294967296), vz 6, vR q] _
          refine ab_iload d_PR_loop_119 rfl ?_
          refine ab_callV (d' := d - 1) (as := [vz 6, vz (w / 4294967296), vz (w215 / 4294967296)]) (st := []) (r := _) (z_PR_add (o := o14) (q := q) (lq := lq) (ki := ki) (ne := ne) (ot := ot) (cnt := cnt216) (fi := fi) (la := la217) (ra := ra218) (ru := ru220) (gr := gr) (wi := wi) (sz := sz) (fl := fl) (ve := ve) (mi := mi) (na := na) (nl := nl) (K := K221) (N := N75) (O := O80) (k0 := 6) (x0 := (w / 4294967296)) (v0 := (w215 / 4294967296)) hq hki hne hot (by omega) (by omega) (by omega)) (fun oc G2 h => by rcases h with ⟨h, _⟩ | ⟨_, h, _⟩ <;> exact ⟨_, h⟩) (by omega) m_PR_add ml_PR_84 im_PR_add se_PR_add c_PR hq.2.2 (Nat.le_of_ble_eq_true rfl) d_PR_loop_121 rfl ?_
          intro v G86 hq
          rcases hq with ⟨hv, hGe, hq87⟩ | ⟨la288, hv, hfk, hlk, hsk, hNq, hNki, hNne, hNot, hq89, hq90, hq91⟩
          · cases hv
            rw [hGe]
            change ab_W _ _ _ G77 124 [some (vR q), some (vR p), some (vj w), none, some (vz dd), some (vz cnt), some (vz (w215 / 4294967296)), none] [vz 0] _
            exfalso; omega
          · cases hv
            have hzr := hzr.tr (fzr.fx hfk (by simp only [List.mem_cons, List.not_mem_nil, or_false]; omega))
            have hp := hfk.get hp (by simp only [List.mem_cons, List.not_mem_nil, or_false]; omega)
            have hra218 := hfk.get hra218 (by simp only [List.mem_cons, List.not_mem_nil, or_false]; omega)
            have pszB_0 := szB.fr hfk pszB_0 (by simp only [List.mem_cons, List.not_mem_nil, or_false]; omega) (by simp only [List.mem_cons, List.not_mem_nil, or_false]; omega)
            have pdnB_0 := dnB.fr hfk ppaI_0 pdnB_0 (by simp only [List.mem_cons, List.not_mem_nil, or_false]; omega) (by simp only [List.mem_cons, List.not_mem_nil, or_false]; omega)
            have ppaI_0 := paI.fr hfk ppaI_0 (by simp only [List.mem_cons, List.not_mem_nil, or_false]; omega) (by simp only [List.mem_cons, List.not_mem_nil, or_false]; omega) (by simp only [List.mem_cons, List.not_mem_nil, or_false]; omega) (by intro xx hx; simp only [List.mem_cons, List.not_mem_nil, or_false] at hx; omega)
            have hfr := hfr.tr hfk (by simp)
            have hq92 := hlk
            have hq93 := hsk
            have hq := hNq
            have hki := hNki
            have hne := hNne
            have hot := hNot
            change ab_W _ _ _ G86 124 [some (vR q), some (vR p), some (vj w), none, some (vz dd), some (vz cnt), some (vz (w215 / 4294967296)), none] [vz cnt216] _
            have hp94 := prok_add (k := 6) (x := (w / 4294967296)) (v := (w215 / 4294967296)) hp80 (by omega) (by omega) (by omega) (by omega) (by omega) (fun t => by omega) (fun t => absurd t (by decide)) (fun t => absurd t (by decide)) (fun t => absurd t (by decide)) (fun t => absurd t (by decide))
            obtain ⟨K94, eK94⟩ : ∃ z : Int → Int, z = zu K221 cnt216 6 := ⟨_, rfl⟩
            have hki : cc o14 G86 ki (lq + 1) (za 808 K94) := by rw [← eK94.symm]; exact hki
            obtain ⟨N94, eN94⟩ : ∃ z : Int → Int, z = zu N75 cnt216 (w / 4294967296) := ⟨_, rfl⟩
            have hne : cc o14 G86 ne (lq + 2) (za 808 N94) := by rw [← eN94.symm]; exact hne
            obtain ⟨O94, eO94⟩ : ∃ z : Int → Int, z = zu O80 cnt216 (w215 / 4294967296) := ⟨_, rfl⟩
            have hot : cc o14 G86 ot (lq + 3) (za 808 O94) := by rw [← eO94.symm]; exact hot
            rw [← eK94, ← eN94, ← eO94] at hp94
            have hkx94 : kext K221 K94 cnt216 := by rw [eK94]; exact kext.zu (Int.le_refl _)
            have hks94 : K94 cnt216 = 6 := by rw [eK94]; exact zu_self _ _ _
            have hsd94 : sdC K94 N94 O94 cnt216 (cnt216 + 1) cnt216 6 (w / 4294967296) (w215 / 4294967296) := ⟨⟨by omega, by omega⟩, by rw [eK94]; exact zu_self _ _ _, by rw [eN94]; exact zu_self _ _ _, by rw [eO94]; exact zu_self _ _ _⟩
            have hpx94 : pxt K221 N75 O80 RR224 cnt216 ru220 K94 N94 O94 RR224 := by rw [eK94, eN94, eO94]; exact pxt.add (Int.le_refl _)
            change ab_W _ _ _ G86 124 [some (vR q), some (vR p), some (vj w), none, some (vz dd), some (vz cnt), some (vz (w215 / 4294967296)), none] [vz cnt216] _
            refine ab_goto (tgt := 139) d_PR_loop_124 (by decide) ?_
            refine ab_istore d_PR_loop_139 (Nat.le_of_ble_eq_true rfl) (Nat.le_of_ble_eq_true rfl) rfl ?_
            change ab_W _ _ _ G86 141 [some (vR q), some (vR p), some (vj w), none, some (vz dd), some (vz cnt), some (vz (w215 / 4294967296)), some (vz cnt216)] [] _
            refine ab_iload d_PR_loop_141 rfl ?_
            refine ab_iload d_PR_loop_143 rfl ?_
            refine ab_callS (d' := d - 1) (as := [vz cnt216, vz cnt]) (st := []) (z_PR_pair (o := o14) (f0 := cnt216) (u0 := cnt) (by omega)) (fun oc G2 h => by rcases h with ⟨h, _⟩ <;> exact ⟨_, h⟩) (by omega) m_PR_pair ml_PR_88 st_PR_pair (Nat.le_of_ble_eq_true rfl) d_PR_loop_145 rfl ?_
            intro v G95 hq
            rcases hq with ⟨hv, hGe⟩
            cases hv
            rw [hGe]
            change ab_W _ _ _ G86 148 [some (vR q), some (vR p), some (vj w), none, some (vz dd), some (vz cnt), some (vz (w215 / 4294967296)), some (vz cnt216)] [vj (cnt216 * 4294967296 + cnt)] _
            refine ab_lret rfl d_PR_loop_148 ?_
            rw [hQ]; exact ⟨_, _, _, _, _, _, _, _, _, _, _, _, rfl, hfr, hq, hki, hne, hot, hra218, ppaI_0, pszB_0, pdnB_0, (by omega), (by omega), (by omega), (by omega), (by exact hp94), (by exact hq31), (by exact hq32), (by exact ((hkx10.tr hq33 (by omega)).tr hkx94 (by omega))), (by exact hzr), (by omega), (by omega), (by omega), (by omega), (by exact ((((hpx10.tr hq39 (by omega) (by omega)).tr hpx75 (by omega) (by omega)).tr hpx80 (by omega) (by omega)).tr hpx94 (by omega) (by omega)).lt (by omega) (by omega)), (by exact RP_T (r := cnt) (lpC.mk ⟨by omega, by omega⟩ (((hq33.tr hkx94 (by omega)) cnt (by omega) (by omega)).trans hsd10.2.1) (fun _ => ⟨((hpx94.2.1 cnt (by omega) (by omega)).trans hsN_).trans (by omega), ((hpx94.2.2.1 cnt (by omega) (by omega)).trans hsO_).trans (by omega)⟩) (fun q => absurd (show lz = 1 by omega) q)) (hrp80.up hpx94 (by omega) (by omega) (by omega) (by omega) (by omega)) (by omega) (fun t => absurd (hoep_ (by omega) (by omega)) t) (lpC.mk (by have t := hsd94.1; omega) (by rw [show (cnt216 * 4294967296 + cnt) / 4294967296 = cnt216 by omega]; exact hsd94.2.1) (fun _ => (by rw [show (cnt216 * 4294967296 + cnt) / 4294967296 = cnt216 by omega]; exact ⟨hsd94.2.2.1.trans (by omega), hsd94.2.2.2.trans (by omega)⟩)) (fun q => absurd (show lz = 1 by omega) q)) (by omega))⟩
        · refine ab_iload d_PR_loop_97 rfl ?_
          refine ab_iload d_PR_loop_99 rfl ?_
          refine ab_callS (d' := d - 1) (as := [vz cnt, vz cnt]) (st := []) (z_PR_pair (o := o14) (f0 := cnt) (u0 := cnt) (by omega)) (fun oc G2 h => by rcases h with ⟨h, _⟩ <;> exact ⟨_, h⟩) (by omega) m_PR_pair ml_PR_88 st_PR_pair (Nat.le_of_ble_eq_true rfl) d_PR_loop_101 rfl ?_
          intro v G96 hq
          rcases hq with ⟨hv, hGe⟩
          cases hv
          rw [hGe]
          change ab_W _ _ _ G77 104 [some (vR q), some (vR p), some (vj w), none, some (vz dd), some (vz cnt), some (vz (w215 / 4294967296)), none] [vj (cnt * 4294967296 + cnt)] _
          refine ab_lret rfl d_PR_loop_104 ?_
          rw [hQ]; exact ⟨_, _, _, _, _, _, _, _, _, _, _, _, rfl, hfr, hq, hki, hne, hot, hra218, ppaI_0, pszB_0, pdnB_0, (by omega), (by omega), (by omega), (by omega), (by exact hp80), (by exact hq31), (by exact hq32), (by exact (hkx10.tr hq33 (by omega))), (by exact hzr), (by omega), (by omega), (by omega), (by omega), (by exact (((hpx10.tr hq39 (by omega) (by omega)).tr hpx75 (by omega) (by omega)).tr hpx80 (by omega) (by omega)).lt (by omega) (by omega)), (by exact RP_T (r := cnt) (lpC.mk ⟨by omega, by omega⟩ ((hq33 cnt (by omega) (by omega)).trans hsd10.2.1) (fun _ => ⟨hsN_.trans (by omega), hsO_.trans (by omega)⟩) (fun q => absurd (show lz = 1 by omega) q)) (hrp80.wd (by omega) (by omega)) (by omega) (fun t => absurd (hoep_ (by omega) (by omega)) t) (by rw [show (cnt * 4294967296 + cnt) / 4294967296 = cnt by omega, show w / 4294967296 = w % 4294967296 by omega]; exact (lpC.mk ⟨by omega, by omega⟩ ((hq33 cnt (by omega) (by omega)).trans hsd10.2.1) (fun _ => ⟨hsN_.trans (by omega), hsO_.trans (by omega)⟩) (fun q => absurd (show lz = 1 by omega) q))) (by omega))⟩
    · refine zz_iconst d_PR_loop_19 ?_
      refine ab_goto (tgt := 25) d_PR_loop_20 (by decide) ?_
      refine ab_iload d_PR_loop_25 rfl ?_
      refine ab_callS (d' := d - 1) (as := [vz 0, vz cnt]) (st := [vR p, vR q]) (z_PR_pair (o := o) (f0 := 0) (u0 := cnt) (by omega)) (fun oc G2 h => by rcases h with ⟨h, _⟩ <;> exact ⟨_, h⟩) (by omega) m_PR_pair ml_PR_88 st_PR_pair (Nat.le_of_ble_eq_true rfl) d_PR_loop_27 rfl ?_
      intro v G97 hq
      rcases hq with ⟨hv, hGe⟩
      cases hv
      rw [hGe]
      change ab_W _ _ _ G2 30 [some (vR q), some (vR p), some (vj w), none, some (vz dd), some (vz cnt), none, none] [vj (0 * 4294967296 + cnt), vR p, vR q] _
      refine ab_iload d_PR_loop_30 rfl ?_
      refine ab_callV (d' := d - 1) (as := [vR p, vj (0 * 4294967296 + cnt), vz dd]) (st := []) (r := _) (z_PR_once (o := o) (q := q) (lq := lq) (ki := ki) (ne := ne) (ot := ot) (cnt := (cnt + 1)) (fi := fi) (la := la24) (ra := ra) (ru := ru) (gr := gr) (wi := wi) (sz := sz) (fl := fl) (ve := ve) (mi := mi) (na := na) (nl := nl) (K := K10) (N := N10) (O := O10) (RR := RR) (nr := nr) (ps := ps) (wt := wt) (bs := bs) (ph := ph) (gq := gq) (p := p) (w := (0 * 4294967296 + cnt)) (dd := dd) (cu := cu) (cs := cs) (on := on) (re := re) (rg := rg) (bq := bq) hq hki hne hot hra ppaI_0 pszB_0 pdnB_0 (by omega) (by omega) hp10 hch hr ((hkx10 0 (by omega) (by omega)).trans ck0) (by omega) hpp (by omega) (by omega) (by omega) (by omega) (by omega) (bqo_c hp (by omega) (by omega) hbe_) (by omega) (by omega) ihR) (fun oc G2 h => by rcases h with ⟨_, _, _, _, _, _, _, _, _, _, _, _, h, _⟩ <;> exact ⟨_, h⟩) (by omega) m_PR_once ml_PR_153 im_PR_once se_PR_once c_PR hq.2.2 (Nat.le_of_ble_eq_true rfl) d_PR_loop_32 rfl ?_
      intro v G98 hq
      rcases hq with ⟨o99, w2100, cnt2101, la2102, ra2103, nr2104, ru2105, K2106, N2107, O2108, RR2109, ph2110, hv, hfk, hNq, hNki, hNne, hNot, hNra2103, pNpaI_0, pNszB_0, pNdnB_0, hq111, hq112, hq113, hq114, hq115, hq116, hq117, hq118, hq119, hq120, hq121, hq122, hq123, hq124, hq125⟩
      cases hv
      have hzr := hzr.tr hq119
      obtain ⟨rc126, hKp⟩ := hq119 _ _ _ _ _ _ _ _ _ _ _ _ _ _ _ _ hpp hp
      have hp := hKp
      have ppaI_0 := pNpaI_0
      have pszB_0 := pNszB_0
      have pdnB_0 := pNdnB_0
      have hfr := hfr.tr hfk (by simp)
      have hq127 := hfk.1
      have hq := hNq
      have hki := hNki
      have hne := hNne
      have hot := hNot
      have hra2103 := hNra2103
      change ab_W _ _ _ G98 35 [some (vR q), some (vR p), some (vj w), none, some (vz dd), some (vz cnt), none, none] [vj w2100] _
      refine ab_callS (d' := d - 1) (as := [vj w2100]) (st := []) (z_PR_fresh (o := o99) (w := w2100) (by omega)) (fun oc G2 h => by rcases h with ⟨h, _⟩ <;> exact ⟨_, h⟩) (by omega) m_PR_fresh ml_PR_96 st_PR_fresh (Nat.le_of_ble_eq_true rfl) d_PR_loop_35 rfl ?_
      intro v G128 hq
      rcases hq with ⟨hv, hGe⟩
      cases hv
      rw [hGe]
      change ab_W _ _ _ G98 38 [some (vR q), some (vR p), some (vj w), none, some (vz dd), some (vz cnt), none, none] [vz (w2100 / 4294967296)] _
      refine ab_istore d_PR_loop_38 (Nat.le_of_ble_eq_true rfl) (Nat.le_of_ble_eq_true rfl) rfl ?_
      change ab_W _ _ _ G98 40 [some (vR q), some (vR p), some (vj w), none, some (vz dd), some (vz cnt), some (vz (w2100 / 4294967296)), none] [] _
      refine ab_aload_n d_PR_loop_40 rfl ?_
      refine ab_getf (fs := [vR ki, vR ne, vR ot, vz cnt2101, vz fi, vz la2102, vR ra2103, vz ru2105, vz gr, vz wi, vz sz, vz fl, vz ve, vz mi, vR na, vR nl]) f_PR_15 d_PR_loop_41 hq.2.2 rfl ?_
      refine ab_iload d_PR_loop_44 rfl ?_
      refine ab_aload_n d_PR_loop_46 rfl ?_
      refine ab_getf (fs := [vz k_1, vz v_1, rg_1, vz pl_1, vz fl_1, ou_1, ls_1, bf_1, vz sz_1, vz mb_1, vz oe_1, vz le_1, vz mo_1, vz la_1, vz rc126]) f_PR_156 d_PR_loop_47 hp.2.2 rfl ?_
      refine zz_if_eq (tgt := 60) d_PR_loop_50 (by decide) (by omega) (fun c129 => ?_) (fun c129 => ?_)
      · refine ab_iload d_PR_loop_60 rfl ?_
        refine zz_iast d_PR_loop_62 hne (by omega) (hne.2.1 (by first | omega | exact (show 18 ≤ _ by omega))) ?_
        obtain ⟨G130, eG130⟩ : ∃ z : ab_G, z = List.set G98 ne (za 808 (zu N2107 cnt (w2100 / 4294967296))) := ⟨_, rfl⟩
        have hq := hq.keep hne eG130 (by omega)
        have hki := hki.keep hne eG130 (by omega)
        have hot := hot.keep hne eG130 (by omega)
        have hp := hp.keep hne eG130 (by omega)
        have hra2103 := hra2103.keep hne eG130 (by omega)
        have hzr := hzr.wr hne eG130 (by omega)
        have hst := (fx.rf (o := o99) (S := [(lq + 2)]) (G := G98)).wr hne eG130 (List.mem_singleton.mpr rfl)
        have pszB_0 := szB.fr hst pszB_0 (by simp only [List.mem_cons, List.not_mem_nil, or_false]; omega) (by simp only [List.mem_cons, List.not_mem_nil, or_false]; omega)
        have pdnB_0 := dnB.fr hst ppaI_0 pdnB_0 (by simp only [List.mem_cons, List.not_mem_nil, or_false]; omega) (by simp only [List.mem_cons, List.not_mem_nil, or_false]; omega)
        have ppaI_0 := paI.fr hst ppaI_0 (by simp only [List.mem_cons, List.not_mem_nil, or_false]; omega) (by simp only [List.mem_cons, List.not_mem_nil, or_false]; omega) (by simp only [List.mem_cons, List.not_mem_nil, or_false]; omega) (by intro xx hx; simp only [List.mem_cons, List.not_mem_nil, or_false] at hx; omega)
        have hq131 := z_len eG130
        have hq132 := z_sl hne eG130 rfl
        have hfr := hfr.wr hne eG130 (by simp)
        have hne := hne.kept eG130
        change ab_W _ _ _ (List.set G98 ne (za 808 (zu N2107 cnt (w2100 / 4294967296)))) 63 [some (vR q), some (vR p), some (vj w), none, some (vz dd), some (vz cnt), some (vz (w2100 / 4294967296)), none] [] _
        rw [← eG130]
        have hp133 := prok_next (a := cnt) (x := (w2100 / 4294967296)) hq115 (by omega)
        obtain ⟨N133, eN133⟩ : ∃ z : Int → Int, z = zu N2107 cnt (w2100 / 4294967296) := ⟨_, rfl⟩
        have hne : cc o99 G130 ne (lq + 2) (za 808 N133) := by rw [← eN133.symm]; exact hne
        rw [← eN133] at hp133
        have hpx133 : pxt K2106 N2107 O2108 RR2109 cnt ru2105 K2106 N133 O2108 RR2109 := by rw [eN133]; exact pxt.setN (Int.le_refl _)
        have hrp133 : RP K2106 N133 O2108 RR2109 ru2105 (cnt + 1) cnt2101 (0 * 4294967296 + cnt) w2100 (on p) := by rw [eN133]; exact hq125.setN (by omega)
        have hsN_ : N133 cnt = (w2100 / 4294967296) := by rw [eN133]; exact zu_self _ _ _
        change ab_W _ _ _ G130 63 [some (vR q), some (vR p), some (vj w), none, some (vz dd), some (vz cnt), some (vz (w2100 / 4294967296)), none] [] _
        refine ab_aload_n d_PR_loop_63 rfl ?_
        refine ab_getf (fs := [vR ki, vR ne, vR ot, vz cnt2101, vz fi, vz la2102, vR ra2103, vz ru2105, vz gr, vz wi, vz sz, vz fl, vz ve, vz mi, vR na, vR nl]) f_PR_18 d_PR_loop_64 hq.2.2 rfl ?_
        refine ab_iload d_PR_loop_67 rfl ?_
        refine ab_aload_n d_PR_loop_69 rfl ?_
        refine ab_getf (fs := [vz k_1, vz v_1, rg_1, vz pl_1, vz fl_1, ou_1, ls_1, bf_1, vz sz_1, vz mb_1, vz oe_1, vz le_1, vz mo_1, vz la_1, vz rc126]) f_PR_156 d_PR_loop_70 hp.2.2 rfl ?_
        refine zz_if_eq (tgt := 81) d_PR_loop_73 (by decide) (by omega) (fun c134 => ?_) (fun c134 => absurd c134 (by omega))
        refine ab_lload_n d_PR_loop_81 rfl ?_
        refine ab_callS (d' := d - 1) (as := [vj w]) (st := [vz cnt, vR ot]) (z_PR_used (o := o99) (w := w) (by omega)) (fun oc G2 h => by rcases h with ⟨h, _⟩ <;> exact ⟨_, h⟩) (by omega) m_PR_used ml_PR_124 st_PR_used (Nat.le_of_ble_eq_true rfl) d_PR_loop_82 rfl ?_
        intro v G135 hq
        rcases hq with ⟨hv, hGe⟩
        cases hv
        rw [hGe]
        change ab_W _ _ _ G130 85 [some (vR q), some (vR p), some (vj w), none, some (vz dd), some (vz cnt), some (vz (w2100 / 4294967296)), none] [vz (w % 4294967296), vz cnt, vR ot] _
        refine zz_iast d_PR_loop_85 hot (by omega) (hot.2.1 (by first | omega | exact (show 18 ≤ _ by omega))) ?_
        obtain ⟨G136, eG136⟩ : ∃ z : ab_G, z = List.set G130 ot (za 808 (zu O2108 cnt (w % 4294967296))) := ⟨_, rfl⟩
        have hq := hq.keep hot eG136 (by omega)
        have hki := hki.keep hot eG136 (by omega)
        have hne := hne.keep hot eG136 (by omega)
        have hp := hp.keep hot eG136 (by omega)
        have hra2103 := hra2103.keep hot eG136 (by omega)
        have hzr := hzr.wr hot eG136 (by omega)
        have hst := (fx.rf (o := o99) (S := [(lq + 3)]) (G := G130)).wr hot eG136 (List.mem_singleton.mpr rfl)
        have pszB_0 := szB.fr hst pszB_0 (by simp only [List.mem_cons, List.not_mem_nil, or_false]; omega) (by simp only [List.mem_cons, List.not_mem_nil, or_false]; omega)
        have pdnB_0 := dnB.fr hst ppaI_0 pdnB_0 (by simp only [List.mem_cons, List.not_mem_nil, or_false]; omega) (by simp only [List.mem_cons, List.not_mem_nil, or_false]; omega)
        have ppaI_0 := paI.fr hst ppaI_0 (by simp only [List.mem_cons, List.not_mem_nil, or_false]; omega) (by simp only [List.mem_cons, List.not_mem_nil, or_false]; omega) (by simp only [List.mem_cons, List.not_mem_nil, or_false]; omega) (by intro xx hx; simp only [List.mem_cons, List.not_mem_nil, or_false] at hx; omega)
        have hq137 := z_len eG136
        have hq138 := z_sl hot eG136 rfl
        have hfr := hfr.wr hot eG136 (by simp)
        have hot := hot.kept eG136
        change ab_W _ _ _ (List.set G130 ot (za 808 (zu O2108 cnt (w % 4294967296)))) 86 [some (vR q), some (vR p), some (vj w), none, some (vz dd), some (vz cnt), some (vz (w2100 / 4294967296)), none] [] _
        rw [← eG136]
        have hp139 := prok_other (a := cnt) (x := (w % 4294967296)) hp133 (by omega) (Or.inl ((hq118 cnt (by omega) (by omega)).trans hks10))
        obtain ⟨O139, eO139⟩ : ∃ z : Int → Int, z = zu O2108 cnt (w % 4294967296) := ⟨_, rfl⟩
        have hot : cc o99 G136 ot (lq + 3) (za 808 O139) := by rw [← eO139.symm]; exact hot
        rw [← eO139] at hp139
        have hpx139 : pxt K2106 N133 O2108 RR2109 cnt ru2105 K2106 N133 O139 RR2109 := by rw [eO139]; exact pxt.setO (Int.le_refl _)
        have hrp139 : RP K2106 N133 O139 RR2109 ru2105 (cnt + 1) cnt2101 (0 * 4294967296 + cnt) w2100 (on p) := by rw [eO139]; exact hrp133.setO (by omega)
        have hsO_ : O139 cnt = (w % 4294967296) := by rw [eO139]; exact zu_self _ _ _
        change ab_W _ _ _ G136 86 [some (vR q), some (vR p), some (vj w), none, some (vz dd), some (vz cnt), some (vz (w2100 / 4294967296)), none] [] _
        refine ab_lload_n d_PR_loop_86 rfl ?_
        refine ab_callS (d' := d - 1) (as := [vj w]) (st := []) (z_PR_fresh (o := o99) (w := w) (by omega)) (fun oc G2 h => by rcases h with ⟨h, _⟩ <;> exact ⟨_, h⟩) (by omega) m_PR_fresh ml_PR_96 st_PR_fresh (Nat.le_of_ble_eq_true rfl) d_PR_loop_87 rfl ?_
        intro v G140 hq
        rcases hq with ⟨hv, hGe⟩
        cases hv
        rw [hGe]
        change ab_W _ _ _ G136 90 [some (vR q), some (vR p), some (vj w), none, some (vz dd), some (vz cnt), some (vz (w2100 / 4294967296)), none] [vz (w / 4294967296)] _
        refine ab_lload_n d_PR_loop_90 rfl ?_
        refine ab_callS (d' := d - 1) (as := [vj w]) (st := [vz (w / 4294967296)]) (z_PR_used (o := o99) (w := w) (by omega)) (fun oc G2 h => by rcases h with ⟨h, _⟩ <;> exact ⟨_, h⟩) (by omega) m_PR_used ml_PR_124 st_PR_used (Nat.le_of_ble_eq_true rfl) d_PR_loop_91 rfl ?_
        intro v G141 hq
        rcases hq with ⟨hv, hGe⟩
        cases hv
        rw [hGe]
        change ab_W _ _ _ G136 94 [some (vR q), some (vR p), some (vj w), none, some (vz dd), some (vz cnt), some (vz (w2100 / 4294967296)), none] [vz (w % 4294967296), vz (w / 4294967296)] _
        refine zz_icmp_ne (tgt := 105) d_PR_loop_94 (by decide) (by omega) (by omega) (fun c142 => ?_) (fun c142 => ?_)
        · refine ab_aload_n d_PR_loop_105 rfl ?_
          refine ab_getf (fs := [vz k_1, vz v_1, rg_1, vz pl_1, vz fl_1, ou_1, ls_1, bf_1, vz sz_1, vz mb_1, vz oe_1, vz le_1, vz mo_1, vz la_1, vz rc126]) f_PR_156 d_PR_loop_106 hp.2.2 rfl ?_
          refine zz_if_eq (tgt := 127) d_PR_loop_109 (by decide) (by omega) (fun c143 => ?_) (fun c143 => absurd c143 (by omega))
          refine ab_aload_n d_PR_loop_127 rfl ?_
          refine zz_bipush d_PR_loop_128 (by decide) ?_
          refine ab_iload d_PR_loop_130 rfl ?_
          refine ab_lload_n d_PR_loop_132 rfl ?_
          refine ab_callS (d' := d - 1) (as := [vj w]) (st := [vz (w2100 / 4294967296), vz 6, vR q]) (z_PR_fresh (o := o99) (w := w) (by omega)) (fun oc G2 h => by rcases h with ⟨h, _⟩ <;> exact ⟨_, h⟩) (by omega) m_PR_fresh ml_PR_96 st_PR_fresh (Nat.le_of_ble_eq_true rfl) d_PR_loop_133 rfl ?_
          intro v G144 hq
          rcases hq with ⟨hv, hGe⟩
          cases hv
          rw [hGe]
          change ab_W _ _ _ G136 136 [some (vR q), some (vR p), some (vj w), none, some (vz dd), some (vz cnt), some (vz (w2100 / 4294967296)), none] [vz (w / 4294967296), vz (w2100 / 4294967296), vz 6, vR q] _
          refine ab_callV (d' := d - 1) (as := [vz 6, vz (w2100 / 4294967296), vz (w / 4294967296)]) (st := []) (r := _) (z_PR_add (o := o99) (q := q) (lq := lq) (ki := ki) (ne := ne) (ot := ot) (cnt := cnt2101) (fi := fi) (la := la2102) (ra := ra2103) (ru := ru2105) (gr := gr) (wi := wi) (sz := sz) (fl := fl) (ve := ve) (mi := mi) (na := na) (nl := nl) (K := K2106) (N := N133) (O := O139) (k0 := 6) (x0 := (w2100 / 4294967296)) (v0 := (w / 4294967296)) hq hki hne hot (by omega) (by omega) (by omega)) (fun oc G2 h => by rcases h with ⟨h, _⟩ | ⟨_, h, _⟩ <;> exact ⟨_, h⟩) (by omega) m_PR_add ml_PR_84 im_PR_add se_PR_add c_PR hq.2.2 (Nat.le_of_ble_eq_true rfl) d_PR_loop_136 rfl ?_
          intro v G145 hq
          rcases hq with ⟨hv, hGe, hq146⟩ | ⟨la2147, hv, hfk, hlk, hsk, hNq, hNki, hNne, hNot, hq148, hq149, hq150⟩
          · cases hv
            rw [hGe]
            change ab_W _ _ _ G136 139 [some (vR q), some (vR p), some (vj w), none, some (vz dd), some (vz cnt), some (vz (w2100 / 4294967296)), none] [vz 0] _
            exfalso; omega
          · cases hv
            have hzr := hzr.tr (fzr.fx hfk (by simp only [List.mem_cons, List.not_mem_nil, or_false]; omega))
            have hp := hfk.get hp (by simp only [List.mem_cons, List.not_mem_nil, or_false]; omega)
            have hra2103 := hfk.get hra2103 (by simp only [List.mem_cons, List.not_mem_nil, or_false]; omega)
            have pszB_0 := szB.fr hfk pszB_0 (by simp only [List.mem_cons, List.not_mem_nil, or_false]; omega) (by simp only [List.mem_cons, List.not_mem_nil, or_false]; omega)
            have pdnB_0 := dnB.fr hfk ppaI_0 pdnB_0 (by simp only [List.mem_cons, List.not_mem_nil, or_false]; omega) (by simp only [List.mem_cons, List.not_mem_nil, or_false]; omega)
            have ppaI_0 := paI.fr hfk ppaI_0 (by simp only [List.mem_cons, List.not_mem_nil, or_false]; omega) (by simp only [List.mem_cons, List.not_mem_nil, or_false]; omega) (by simp only [List.mem_cons, List.not_mem_nil, or_false]; omega) (by intro xx hx; simp only [List.mem_cons, List.not_mem_nil, or_false] at hx; omega)
            have hfr := hfr.tr hfk (by simp)
            have hq151 := hlk
            have hq152 := hsk
            have hq := hNq
            have hki := hNki
            have hne := hNne
            have hot := hNot
            change ab_W _ _ _ G145 139 [some (vR q), some (vR p), some (vj w), none, some (vz dd), some (vz cnt), some (vz (w2100 / 4294967296)), none] [vz cnt2101] _
            have hp153 := prok_add (k := 6) (x := (w2100 / 4294967296)) (v := (w / 4294967296)) hp139 (by omega) (by omega) (by omega) (by omega) (by omega) (fun t => by omega) (fun t => absurd t (by decide)) (fun t => absurd t (by decide)) (fun t => absurd t (by decide)) (fun t => absurd t (by decide))
            obtain ⟨K153, eK153⟩ : ∃ z : Int → Int, z = zu K2106 cnt2101 6 := ⟨_, rfl⟩
            have hki : cc o99 G145 ki (lq + 1) (za 808 K153) := by rw [← eK153.symm]; exact hki
            obtain ⟨N153, eN153⟩ : ∃ z : Int → Int, z = zu N133 cnt2101 (w2100 / 4294967296) := ⟨_, rfl⟩
            have hne : cc o99 G145 ne (lq + 2) (za 808 N153) := by rw [← eN153.symm]; exact hne
            obtain ⟨O153, eO153⟩ : ∃ z : Int → Int, z = zu O139 cnt2101 (w / 4294967296) := ⟨_, rfl⟩
            have hot : cc o99 G145 ot (lq + 3) (za 808 O153) := by rw [← eO153.symm]; exact hot
            rw [← eK153, ← eN153, ← eO153] at hp153
            have hkx153 : kext K2106 K153 cnt2101 := by rw [eK153]; exact kext.zu (Int.le_refl _)
            have hks153 : K153 cnt2101 = 6 := by rw [eK153]; exact zu_self _ _ _
            have hsd153 : sdC K153 N153 O153 cnt2101 (cnt2101 + 1) cnt2101 6 (w2100 / 4294967296) (w / 4294967296) := ⟨⟨by omega, by omega⟩, by rw [eK153]; exact zu_self _ _ _, by rw [eN153]; exact zu_self _ _ _, by rw [eO153]; exact zu_self _ _ _⟩
            have hpx153 : pxt K2106 N133 O139 RR2109 cnt2101 ru2105 K153 N153 O153 RR2109 := by rw [eK153, eN153, eO153]; exact pxt.add (Int.le_refl _)
            change ab_W _ _ _ G145 139 [some (vR q), some (vR p), some (vj w), none, some (vz dd), some (vz cnt), some (vz (w2100 / 4294967296)), none] [vz cnt2101] _
            refine ab_istore d_PR_loop_139 (Nat.le_of_ble_eq_true rfl) (Nat.le_of_ble_eq_true rfl) rfl ?_
            change ab_W _ _ _ G145 141 [some (vR q), some (vR p), some (vj w), none, some (vz dd), some (vz cnt), some (vz (w2100 / 4294967296)), some (vz cnt2101)] [] _
            refine ab_iload d_PR_loop_141 rfl ?_
            refine ab_iload d_PR_loop_143 rfl ?_
            refine ab_callS (d' := d - 1) (as := [vz cnt2101, vz cnt]) (st := []) (z_PR_pair (o := o99) (f0 := cnt2101) (u0 := cnt) (by omega)) (fun oc G2 h => by rcases h with ⟨h, _⟩ <;> exact ⟨_, h⟩) (by omega) m_PR_pair ml_PR_88 st_PR_pair (Nat.le_of_ble_eq_true rfl) d_PR_loop_145 rfl ?_
            intro v G154 hq
            rcases hq with ⟨hv, hGe⟩
            cases hv
            rw [hGe]
            change ab_W _ _ _ G145 148 [some (vR q), some (vR p), some (vj w), none, some (vz dd), some (vz cnt), some (vz (w2100 / 4294967296)), some (vz cnt2101)] [vj (cnt2101 * 4294967296 + cnt)] _
            refine ab_lret rfl d_PR_loop_148 ?_
            rw [hQ]; exact ⟨_, _, _, _, _, _, _, _, _, _, _, _, rfl, hfr, hq, hki, hne, hot, hra2103, ppaI_0, pszB_0, pdnB_0, (by omega), (by omega), (by omega), (by omega), (by exact hp153), (by exact hq116), (by exact hq117), (by exact ((hkx10.tr hq118 (by omega)).tr hkx153 (by omega))), (by exact hzr), (by omega), (by omega), (by omega), (by omega), (by exact ((((hpx10.tr hq124 (by omega) (by omega)).tr hpx133 (by omega) (by omega)).tr hpx139 (by omega) (by omega)).tr hpx153 (by omega) (by omega)).lt (by omega) (by omega)), (by exact RP_T (r := cnt) (lpC.mk ⟨by omega, by omega⟩ (((hq118.tr hkx153 (by omega)) cnt (by omega) (by omega)).trans hsd10.2.1) (fun q => absurd q (show ¬ lz = 1 by omega)) (fun _ => ⟨((hpx153.2.1 cnt (by omega) (by omega)).trans hsN_).trans (by omega), ((hpx153.2.2.1 cnt (by omega) (by omega)).trans hsO_).trans (by omega)⟩)) (hrp139.up hpx153 (by omega) (by omega) (by omega) (by omega) (by omega)) (by omega) (fun _ => by omega) (lpC.mk (by have t := hsd153.1; omega) (by rw [show (cnt2101 * 4294967296 + cnt) / 4294967296 = cnt2101 by omega]; exact hsd153.2.1) (fun q => absurd q (show ¬ lz = 1 by omega)) (fun _ => (by rw [show (cnt2101 * 4294967296 + cnt) / 4294967296 = cnt2101 by omega]; exact ⟨hsd153.2.2.1.trans (by omega), hsd153.2.2.2.trans (by omega)⟩))) (by omega))⟩
        · refine ab_iload d_PR_loop_97 rfl ?_
          refine ab_iload d_PR_loop_99 rfl ?_
          refine ab_callS (d' := d - 1) (as := [vz cnt, vz cnt]) (st := []) (z_PR_pair (o := o99) (f0 := cnt) (u0 := cnt) (by omega)) (fun oc G2 h => by rcases h with ⟨h, _⟩ <;> exact ⟨_, h⟩) (by omega) m_PR_pair ml_PR_88 st_PR_pair (Nat.le_of_ble_eq_true rfl) d_PR_loop_101 rfl ?_
          intro v G155 hq
          rcases hq with ⟨hv, hGe⟩
          cases hv
          rw [hGe]
          change ab_W _ _ _ G136 104 [some (vR q), some (vR p), some (vj w), none, some (vz dd), some (vz cnt), some (vz (w2100 / 4294967296)), none] [vj (cnt * 4294967296 + cnt)] _
          refine ab_lret rfl d_PR_loop_104 ?_
          rw [hQ]; exact ⟨_, _, _, _, _, _, _, _, _, _, _, _, rfl, hfr, hq, hki, hne, hot, hra2103, ppaI_0, pszB_0, pdnB_0, (by omega), (by omega), (by omega), (by omega), (by exact hp139), (by exact hq116), (by exact hq117), (by exact (hkx10.tr hq118 (by omega))), (by exact hzr), (by omega), (by omega), (by omega), (by omega), (by exact (((hpx10.tr hq124 (by omega) (by omega)).tr hpx133 (by omega) (by omega)).tr hpx139 (by omega) (by omega)).lt (by omega) (by omega)), (by exact RP_T (r := cnt) (lpC.mk ⟨by omega, by omega⟩ ((hq118 cnt (by omega) (by omega)).trans hsd10.2.1) (fun q => absurd q (show ¬ lz = 1 by omega)) (fun _ => ⟨hsN_.trans (by omega), hsO_.trans (by omega)⟩)) (hrp139.wd (by omega) (by omega)) (by omega) (fun _ => by omega) (by rw [show (cnt * 4294967296 + cnt) / 4294967296 = cnt by omega, show w / 4294967296 = w % 4294967296 by omega]; exact (lpC.mk ⟨by omega, by omega⟩ ((hq118 cnt (by omega) (by omega)).trans hsd10.2.1) (fun q => absurd q (show ¬ lz = 1 by omega)) (fun _ => ⟨hsN_.trans (by omega), hsO_.trans (by omega)⟩))) (by omega))⟩
      · refine ab_lload_n d_PR_loop_53 rfl ?_
        refine ab_callS (d' := d - 1) (as := [vj w]) (st := [vz cnt, vR ne]) (z_PR_used (o := o99) (w := w) (by omega)) (fun oc G2 h => by rcases h with ⟨h, _⟩ <;> exact ⟨_, h⟩) (by omega) m_PR_used ml_PR_124 st_PR_used (Nat.le_of_ble_eq_true rfl) d_PR_loop_54 rfl ?_
        intro v G156 hq
        rcases hq with ⟨hv, hGe⟩
        cases hv
        rw [hGe]
        change ab_W _ _ _ G98 57 [some (vR q), some (vR p), some (vj w), none, some (vz dd), some (vz cnt), some (vz (w2100 / 4294967296)), none] [vz (w % 4294967296), vz cnt, vR ne] _
        refine ab_goto (tgt := 62) d_PR_loop_57 (by decide) ?_
        refine zz_iast d_PR_loop_62 hne (by omega) (hne.2.1 (by first | omega | exact (show 18 ≤ _ by omega))) ?_
        obtain ⟨G157, eG157⟩ : ∃ z : ab_G, z = List.set G98 ne (za 808 (zu N2107 cnt (w % 4294967296))) := ⟨_, rfl⟩
        have hq := hq.keep hne eG157 (by omega)
        have hki := hki.keep hne eG157 (by omega)
        have hot := hot.keep hne eG157 (by omega)
        have hp := hp.keep hne eG157 (by omega)
        have hra2103 := hra2103.keep hne eG157 (by omega)
        have hzr := hzr.wr hne eG157 (by omega)
        have hst := (fx.rf (o := o99) (S := [(lq + 2)]) (G := G98)).wr hne eG157 (List.mem_singleton.mpr rfl)
        have pszB_0 := szB.fr hst pszB_0 (by simp only [List.mem_cons, List.not_mem_nil, or_false]; omega) (by simp only [List.mem_cons, List.not_mem_nil, or_false]; omega)
        have pdnB_0 := dnB.fr hst ppaI_0 pdnB_0 (by simp only [List.mem_cons, List.not_mem_nil, or_false]; omega) (by simp only [List.mem_cons, List.not_mem_nil, or_false]; omega)
        have ppaI_0 := paI.fr hst ppaI_0 (by simp only [List.mem_cons, List.not_mem_nil, or_false]; omega) (by simp only [List.mem_cons, List.not_mem_nil, or_false]; omega) (by simp only [List.mem_cons, List.not_mem_nil, or_false]; omega) (by intro xx hx; simp only [List.mem_cons, List.not_mem_nil, or_false] at hx; omega)
        have hq158 := z_len eG157
        have hq159 := z_sl hne eG157 rfl
        have hfr := hfr.wr hne eG157 (by simp)
        have hne := hne.kept eG157
        change ab_W _ _ _ (List.set G98 ne (za 808 (zu N2107 cnt (w % 4294967296)))) 63 [some (vR q), some (vR p), some (vj w), none, some (vz dd), some (vz cnt), some (vz (w2100 / 4294967296)), none] [] _
        rw [← eG157]
        have hp160 := prok_next (a := cnt) (x := (w % 4294967296)) hq115 (by omega)
        obtain ⟨N160, eN160⟩ : ∃ z : Int → Int, z = zu N2107 cnt (w % 4294967296) := ⟨_, rfl⟩
        have hne : cc o99 G157 ne (lq + 2) (za 808 N160) := by rw [← eN160.symm]; exact hne
        rw [← eN160] at hp160
        have hpx160 : pxt K2106 N2107 O2108 RR2109 cnt ru2105 K2106 N160 O2108 RR2109 := by rw [eN160]; exact pxt.setN (Int.le_refl _)
        have hrp160 : RP K2106 N160 O2108 RR2109 ru2105 (cnt + 1) cnt2101 (0 * 4294967296 + cnt) w2100 (on p) := by rw [eN160]; exact hq125.setN (by omega)
        have hsN_ : N160 cnt = (w % 4294967296) := by rw [eN160]; exact zu_self _ _ _
        change ab_W _ _ _ G157 63 [some (vR q), some (vR p), some (vj w), none, some (vz dd), some (vz cnt), some (vz (w2100 / 4294967296)), none] [] _
        refine ab_aload_n d_PR_loop_63 rfl ?_
        refine ab_getf (fs := [vR ki, vR ne, vR ot, vz cnt2101, vz fi, vz la2102, vR ra2103, vz ru2105, vz gr, vz wi, vz sz, vz fl, vz ve, vz mi, vR na, vR nl]) f_PR_18 d_PR_loop_64 hq.2.2 rfl ?_
        refine ab_iload d_PR_loop_67 rfl ?_
        refine ab_aload_n d_PR_loop_69 rfl ?_
        refine ab_getf (fs := [vz k_1, vz v_1, rg_1, vz pl_1, vz fl_1, ou_1, ls_1, bf_1, vz sz_1, vz mb_1, vz oe_1, vz le_1, vz mo_1, vz la_1, vz rc126]) f_PR_156 d_PR_loop_70 hp.2.2 rfl ?_
        refine zz_if_eq (tgt := 81) d_PR_loop_73 (by decide) (by omega) (fun c161 => absurd c161 (by omega)) (fun c161 => ?_)
        refine ab_iload d_PR_loop_76 rfl ?_
        refine ab_goto (tgt := 85) d_PR_loop_78 (by decide) ?_
        refine zz_iast d_PR_loop_85 hot (by omega) (hot.2.1 (by first | omega | exact (show 18 ≤ _ by omega))) ?_
        obtain ⟨G162, eG162⟩ : ∃ z : ab_G, z = List.set G157 ot (za 808 (zu O2108 cnt (w2100 / 4294967296))) := ⟨_, rfl⟩
        have hq := hq.keep hot eG162 (by omega)
        have hki := hki.keep hot eG162 (by omega)
        have hne := hne.keep hot eG162 (by omega)
        have hp := hp.keep hot eG162 (by omega)
        have hra2103 := hra2103.keep hot eG162 (by omega)
        have hzr := hzr.wr hot eG162 (by omega)
        have hst := (fx.rf (o := o99) (S := [(lq + 3)]) (G := G157)).wr hot eG162 (List.mem_singleton.mpr rfl)
        have pszB_0 := szB.fr hst pszB_0 (by simp only [List.mem_cons, List.not_mem_nil, or_false]; omega) (by simp only [List.mem_cons, List.not_mem_nil, or_false]; omega)
        have pdnB_0 := dnB.fr hst ppaI_0 pdnB_0 (by simp only [List.mem_cons, List.not_mem_nil, or_false]; omega) (by simp only [List.mem_cons, List.not_mem_nil, or_false]; omega)
        have ppaI_0 := paI.fr hst ppaI_0 (by simp only [List.mem_cons, List.not_mem_nil, or_false]; omega) (by simp only [List.mem_cons, List.not_mem_nil, or_false]; omega) (by simp only [List.mem_cons, List.not_mem_nil, or_false]; omega) (by intro xx hx; simp only [List.mem_cons, List.not_mem_nil, or_false] at hx; omega)
        have hq163 := z_len eG162
        have hq164 := z_sl hot eG162 rfl
        have hfr := hfr.wr hot eG162 (by simp)
        have hot := hot.kept eG162
        change ab_W _ _ _ (List.set G157 ot (za 808 (zu O2108 cnt (w2100 / 4294967296)))) 86 [some (vR q), some (vR p), some (vj w), none, some (vz dd), some (vz cnt), some (vz (w2100 / 4294967296)), none] [] _
        rw [← eG162]
        have hp165 := prok_other (a := cnt) (x := (w2100 / 4294967296)) hp160 (by omega) (Or.inl ((hq118 cnt (by omega) (by omega)).trans hks10))
        obtain ⟨O165, eO165⟩ : ∃ z : Int → Int, z = zu O2108 cnt (w2100 / 4294967296) := ⟨_, rfl⟩
        have hot : cc o99 G162 ot (lq + 3) (za 808 O165) := by rw [← eO165.symm]; exact hot
        rw [← eO165] at hp165
        have hpx165 : pxt K2106 N160 O2108 RR2109 cnt ru2105 K2106 N160 O165 RR2109 := by rw [eO165]; exact pxt.setO (Int.le_refl _)
        have hrp165 : RP K2106 N160 O165 RR2109 ru2105 (cnt + 1) cnt2101 (0 * 4294967296 + cnt) w2100 (on p) := by rw [eO165]; exact hrp160.setO (by omega)
        have hsO_ : O165 cnt = (w2100 / 4294967296) := by rw [eO165]; exact zu_self _ _ _
        change ab_W _ _ _ G162 86 [some (vR q), some (vR p), some (vj w), none, some (vz dd), some (vz cnt), some (vz (w2100 / 4294967296)), none] [] _
        refine ab_lload_n d_PR_loop_86 rfl ?_
        refine ab_callS (d' := d - 1) (as := [vj w]) (st := []) (z_PR_fresh (o := o99) (w := w) (by omega)) (fun oc G2 h => by rcases h with ⟨h, _⟩ <;> exact ⟨_, h⟩) (by omega) m_PR_fresh ml_PR_96 st_PR_fresh (Nat.le_of_ble_eq_true rfl) d_PR_loop_87 rfl ?_
        intro v G166 hq
        rcases hq with ⟨hv, hGe⟩
        cases hv
        rw [hGe]
        change ab_W _ _ _ G162 90 [some (vR q), some (vR p), some (vj w), none, some (vz dd), some (vz cnt), some (vz (w2100 / 4294967296)), none] [vz (w / 4294967296)] _
        refine ab_lload_n d_PR_loop_90 rfl ?_
        refine ab_callS (d' := d - 1) (as := [vj w]) (st := [vz (w / 4294967296)]) (z_PR_used (o := o99) (w := w) (by omega)) (fun oc G2 h => by rcases h with ⟨h, _⟩ <;> exact ⟨_, h⟩) (by omega) m_PR_used ml_PR_124 st_PR_used (Nat.le_of_ble_eq_true rfl) d_PR_loop_91 rfl ?_
        intro v G167 hq
        rcases hq with ⟨hv, hGe⟩
        cases hv
        rw [hGe]
        change ab_W _ _ _ G162 94 [some (vR q), some (vR p), some (vj w), none, some (vz dd), some (vz cnt), some (vz (w2100 / 4294967296)), none] [vz (w % 4294967296), vz (w / 4294967296)] _
        refine zz_icmp_ne (tgt := 105) d_PR_loop_94 (by decide) (by omega) (by omega) (fun c168 => ?_) (fun c168 => ?_)
        · refine ab_aload_n d_PR_loop_105 rfl ?_
          refine ab_getf (fs := [vz k_1, vz v_1, rg_1, vz pl_1, vz fl_1, ou_1, ls_1, bf_1, vz sz_1, vz mb_1, vz oe_1, vz le_1, vz mo_1, vz la_1, vz rc126]) f_PR_156 d_PR_loop_106 hp.2.2 rfl ?_
          refine zz_if_eq (tgt := 127) d_PR_loop_109 (by decide) (by omega) (fun c169 => absurd c169 (by omega)) (fun c169 => ?_)
          refine ab_aload_n d_PR_loop_112 rfl ?_
          refine zz_bipush d_PR_loop_113 (by decide) ?_
          refine ab_lload_n d_PR_loop_115 rfl ?_
          refine ab_callS (d' := d - 1) (as := [vj w]) (st := [vz 6, vR q]) (z_PR_fresh (o := o99) (w := w) (by omega)) (fun oc G2 h => by rcases h with ⟨h, _⟩ <;> exact ⟨_, h⟩) (by omega) m_PR_fresh ml_PR_96 st_PR_fresh (Nat.le_of_ble_eq_true rfl) d_PR_loop_116 rfl ?_
          intro v G170 hq
          rcases hq with ⟨hv, hGe⟩
          cases hv
          rw [hGe]
          change ab_W _ _ _ G162 119 [some (vR q), some (vR p), some (vj w), none, some (vz dd), some (vz cnt), some (vz (w2100 / 4294967296)), none] [vz (w / 4294967296), vz 6, vR q] _
          refine ab_iload d_PR_loop_119 rfl ?_
          refine ab_callV (d' := d - 1) (as := [vz 6, vz (w / 4294967296), vz (w2100 / 4294967296)]) (st := []) (r := _) (z_PR_add (o := o99) (q := q) (lq := lq) (ki := ki) (ne := ne) (ot := ot) (cnt := cnt2101) (fi := fi) (la := la2102) (ra := ra2103) (ru := ru2105) (gr := gr) (wi := wi) (sz := sz) (fl := fl) (ve := ve) (mi := mi) (na := na) (nl := nl) (K := K2106) (N := N160) (O := O165) (k0 := 6) (x0 := (w / 4294967296)) (v0 := (w2100 / 4294967296)) hq hki hne hot (by omega) (by omega) (by omega)) (fun oc G2 h => by rcases h with ⟨h, _⟩ | ⟨_, h, _⟩ <;> exact ⟨_, h⟩) (by omega) m_PR_add ml_PR_84 im_PR_add se_PR_add c_PR hq.2.2 (Nat.le_of_ble_eq_true rfl) d_PR_loop_121 rfl ?_
          intro v G171 hq
          rcases hq with ⟨hv, hGe, hq172⟩ | ⟨la2173, hv, hfk, hlk, hsk, hNq, hNki, hNne, hNot, hq174, hq175, hq176⟩
          · cases hv
            rw [hGe]
            change ab_W _ _ _ G162 124 [some (vR q), some (vR p), some (vj w), none, some (vz dd), some (vz cnt), some (vz (w2100 / 4294967296)), none] [vz 0] _
            exfalso; omega
          · cases hv
            have hzr := hzr.tr (fzr.fx hfk (by simp only [List.mem_cons, List.not_mem_nil, or_false]; omega))
            have hp := hfk.get hp (by simp only [List.mem_cons, List.not_mem_nil, or_false]; omega)
            have hra2103 := hfk.get hra2103 (by simp only [List.mem_cons, List.not_mem_nil, or_false]; omega)
            have pszB_0 := szB.fr hfk pszB_0 (by simp only [List.mem_cons, List.not_mem_nil, or_false]; omega) (by simp only [List.mem_cons, List.not_mem_nil, or_false]; omega)
            have pdnB_0 := dnB.fr hfk ppaI_0 pdnB_0 (by simp only [List.mem_cons, List.not_mem_nil, or_false]; omega) (by simp only [List.mem_cons, List.not_mem_nil, or_false]; omega)
            have ppaI_0 := paI.fr hfk ppaI_0 (by simp only [List.mem_cons, List.not_mem_nil, or_false]; omega) (by simp only [List.mem_cons, List.not_mem_nil, or_false]; omega) (by simp only [List.mem_cons, List.not_mem_nil, or_false]; omega) (by intro xx hx; simp only [List.mem_cons, List.not_mem_nil, or_false] at hx; omega)
            have hfr := hfr.tr hfk (by simp)
            have hq177 := hlk
            have hq178 := hsk
            have hq := hNq
            have hki := hNki
            have hne := hNne
            have hot := hNot
            change ab_W _ _ _ G171 124 [some (vR q), some (vR p), some (vj w), none, some (vz dd), some (vz cnt), some (vz (w2100 / 4294967296)), none] [vz cnt2101] _
            have hp179 := prok_add (k := 6) (x := (w / 4294967296)) (v := (w2100 / 4294967296)) hp165 (by omega) (by omega) (by omega) (by omega) (by omega) (fun t => by omega) (fun t => absurd t (by decide)) (fun t => absurd t (by decide)) (fun t => absurd t (by decide)) (fun t => absurd t (by decide))
            obtain ⟨K179, eK179⟩ : ∃ z : Int → Int, z = zu K2106 cnt2101 6 := ⟨_, rfl⟩
            have hki : cc o99 G171 ki (lq + 1) (za 808 K179) := by rw [← eK179.symm]; exact hki
            obtain ⟨N179, eN179⟩ : ∃ z : Int → Int, z = zu N160 cnt2101 (w / 4294967296) := ⟨_, rfl⟩
            have hne : cc o99 G171 ne (lq + 2) (za 808 N179) := by rw [← eN179.symm]; exact hne
            obtain ⟨O179, eO179⟩ : ∃ z : Int → Int, z = zu O165 cnt2101 (w2100 / 4294967296) := ⟨_, rfl⟩
            have hot : cc o99 G171 ot (lq + 3) (za 808 O179) := by rw [← eO179.symm]; exact hot
            rw [← eK179, ← eN179, ← eO179] at hp179
            have hkx179 : kext K2106 K179 cnt2101 := by rw [eK179]; exact kext.zu (Int.le_refl _)
            have hks179 : K179 cnt2101 = 6 := by rw [eK179]; exact zu_self _ _ _
            have hsd179 : sdC K179 N179 O179 cnt2101 (cnt2101 + 1) cnt2101 6 (w / 4294967296) (w2100 / 4294967296) := ⟨⟨by omega, by omega⟩, by rw [eK179]; exact zu_self _ _ _, by rw [eN179]; exact zu_self _ _ _, by rw [eO179]; exact zu_self _ _ _⟩
            have hpx179 : pxt K2106 N160 O165 RR2109 cnt2101 ru2105 K179 N179 O179 RR2109 := by rw [eK179, eN179, eO179]; exact pxt.add (Int.le_refl _)
            change ab_W _ _ _ G171 124 [some (vR q), some (vR p), some (vj w), none, some (vz dd), some (vz cnt), some (vz (w2100 / 4294967296)), none] [vz cnt2101] _
            refine ab_goto (tgt := 139) d_PR_loop_124 (by decide) ?_
            refine ab_istore d_PR_loop_139 (Nat.le_of_ble_eq_true rfl) (Nat.le_of_ble_eq_true rfl) rfl ?_
            change ab_W _ _ _ G171 141 [some (vR q), some (vR p), some (vj w), none, some (vz dd), some (vz cnt), some (vz (w2100 / 4294967296)), some (vz cnt2101)] [] _
            refine ab_iload d_PR_loop_141 rfl ?_
            refine ab_iload d_PR_loop_143 rfl ?_
            refine ab_callS (d' := d - 1) (as := [vz cnt2101, vz cnt]) (st := []) (z_PR_pair (o := o99) (f0 := cnt2101) (u0 := cnt) (by omega)) (fun oc G2 h => by rcases h with ⟨h, _⟩ <;> exact ⟨_, h⟩) (by omega) m_PR_pair ml_PR_88 st_PR_pair (Nat.le_of_ble_eq_true rfl) d_PR_loop_145 rfl ?_
            intro v G180 hq
            rcases hq with ⟨hv, hGe⟩
            cases hv
            rw [hGe]
            change ab_W _ _ _ G171 148 [some (vR q), some (vR p), some (vj w), none, some (vz dd), some (vz cnt), some (vz (w2100 / 4294967296)), some (vz cnt2101)] [vj (cnt2101 * 4294967296 + cnt)] _
            refine ab_lret rfl d_PR_loop_148 ?_
            rw [hQ]; exact ⟨_, _, _, _, _, _, _, _, _, _, _, _, rfl, hfr, hq, hki, hne, hot, hra2103, ppaI_0, pszB_0, pdnB_0, (by omega), (by omega), (by omega), (by omega), (by exact hp179), (by exact hq116), (by exact hq117), (by exact ((hkx10.tr hq118 (by omega)).tr hkx179 (by omega))), (by exact hzr), (by omega), (by omega), (by omega), (by omega), (by exact ((((hpx10.tr hq124 (by omega) (by omega)).tr hpx160 (by omega) (by omega)).tr hpx165 (by omega) (by omega)).tr hpx179 (by omega) (by omega)).lt (by omega) (by omega)), (by exact RP_T (r := cnt) (lpC.mk ⟨by omega, by omega⟩ (((hq118.tr hkx179 (by omega)) cnt (by omega) (by omega)).trans hsd10.2.1) (fun _ => ⟨((hpx179.2.1 cnt (by omega) (by omega)).trans hsN_).trans (by omega), ((hpx179.2.2.1 cnt (by omega) (by omega)).trans hsO_).trans (by omega)⟩) (fun q => absurd (show lz = 1 by omega) q)) (hrp165.up hpx179 (by omega) (by omega) (by omega) (by omega) (by omega)) (by omega) (fun _ => by omega) (lpC.mk (by have t := hsd179.1; omega) (by rw [show (cnt2101 * 4294967296 + cnt) / 4294967296 = cnt2101 by omega]; exact hsd179.2.1) (fun _ => (by rw [show (cnt2101 * 4294967296 + cnt) / 4294967296 = cnt2101 by omega]; exact ⟨hsd179.2.2.1.trans (by omega), hsd179.2.2.2.trans (by omega)⟩)) (fun q => absurd (show lz = 1 by omega) q)) (by omega))⟩
        · refine ab_iload d_PR_loop_97 rfl ?_
          refine ab_iload d_PR_loop_99 rfl ?_
          refine ab_callS (d' := d - 1) (as := [vz cnt, vz cnt]) (st := []) (z_PR_pair (o := o99) (f0 := cnt) (u0 := cnt) (by omega)) (fun oc G2 h => by rcases h with ⟨h, _⟩ <;> exact ⟨_, h⟩) (by omega) m_PR_pair ml_PR_88 st_PR_pair (Nat.le_of_ble_eq_true rfl) d_PR_loop_101 rfl ?_
          intro v G181 hq
          rcases hq with ⟨hv, hGe⟩
          cases hv
          rw [hGe]
          change ab_W _ _ _ G162 104 [some (vR q), some (vR p), some (vj w), none, some (vz dd), some (vz cnt), some (vz (w2100 / 4294967296)), none] [vj (cnt * 4294967296 + cnt)] _
          refine ab_lret rfl d_PR_loop_104 ?_
          rw [hQ]; exact ⟨_, _, _, _, _, _, _, _, _, _, _, _, rfl, hfr, hq, hki, hne, hot, hra2103, ppaI_0, pszB_0, pdnB_0, (by omega), (by omega), (by omega), (by omega), (by exact hp165), (by exact hq116), (by exact hq117), (by exact (hkx10.tr hq118 (by omega))), (by exact hzr), (by omega), (by omega), (by omega), (by omega), (by exact (((hpx10.tr hq124 (by omega) (by omega)).tr hpx160 (by omega) (by omega)).tr hpx165 (by omega) (by omega)).lt (by omega) (by omega)), (by exact RP_T (r := cnt) (lpC.mk ⟨by omega, by omega⟩ ((hq118 cnt (by omega) (by omega)).trans hsd10.2.1) (fun _ => ⟨hsN_.trans (by omega), hsO_.trans (by omega)⟩) (fun q => absurd (show lz = 1 by omega) q)) (hrp165.wd (by omega) (by omega)) (by omega) (fun _ => by omega) (by rw [show (cnt * 4294967296 + cnt) / 4294967296 = cnt by omega, show w / 4294967296 = w % 4294967296 by omega]; exact (lpC.mk ⟨by omega, by omega⟩ ((hq118 cnt (by omega) (by omega)).trans hsd10.2.1) (fun _ => ⟨hsN_.trans (by omega), hsO_.trans (by omega)⟩) (fun q => absurd (show lz = 1 by omega) q))) (by omega))⟩
