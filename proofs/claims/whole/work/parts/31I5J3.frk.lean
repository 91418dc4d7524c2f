set_option maxRecDepth 100000 in
set_option maxHeartbeats 4000000 in
theorem zs_PR_addPair {X : ab_X} {d : Nat} {o : Nat → Nat} {G : ab_G} {q : Nat} {lq : Nat} {ki : Nat} {ne : Nat} {ot : Nat} {cnt : Int} {fi : Int} {la : Int} {ra : Nat} {ru : Int} {gr : Int} {wi : Int} {sz : Int} {fl : Int} {ve : Int} {mi : Int} {na : Nat} {nl : Nat} {K : Int → Int} {N : Int → Int} {O : Int → Int} {RR : Int → Int} {nr : Nat} {w : Int} {vl : Int} (hq : cc o G q lq (ab_ob 5 [vR ki, vR ne, vR ot, vz cnt, vz fi, vz la, vR ra, vz ru, vz gr, vz wi, vz sz, vz fl, vz ve, vz mi, vR na, vR nl])) (hki : cc o G ki (lq + 1) (za 808 K)) (hne : cc o G ne (lq + 2) (za 808 N)) (hot : cc o G ot (lq + 3) (za 808 O)) (hra : cc o G ra (lq + 4) (za nr RR)) (n18 : ab_n0 = 18) (cq : 100 ≤ lq ∧ 2 ≤ cnt ∧ cnt ≤ 808 ∧ 0 ≤ la ∧ la ≤ 1) (hp_ : prok K N O RR cnt ru wi) (cw : 0 ≤ w ∧ w / 4294967296 < cnt ∧ w % 4294967296 < cnt) (cv : 2 ≤ vl ∧ vl < wi) (cc8 : cnt + 2 ≤ 808) (hla : laI la K cnt) (ht0 : 0 ≤ tkn K cnt) (hd : 1 ≤ d) : ab_F X d y_PR_addPair (.code y_PR_addPair b_PR_addPair 7 (some (.long))) [vR q, vz 7, vj w, vz vl] G (fun oc G2 => ∃ w2 : Int, ∃ cnt2 : Int, ∃ la2 : Int, ∃ K2 : Int → Int, ∃ N2 : Int → Int, ∃ O2 : Int → Int, oc = .returned (some (vj w2)) ∧ fx o o [lq, (lq + 1), (lq + 2), (lq + 3)] G G2 ∧ G2.length = G.length ∧ ab_slots G2 = ab_slots G ∧ cc o G2 q lq (ab_ob 5 [vR ki, vR ne, vR ot, vz cnt2, vz fi, vz la2, vR ra, vz ru, vz gr, vz wi, vz sz, vz fl, vz ve, vz mi, vR na, vR nl]) ∧ cc o G2 ki (lq + 1) (za 808 K2) ∧ cc o G2 ne (lq + 2) (za 808 N2) ∧ cc o G2 ot (lq + 3) (za 808 O2) ∧ (cnt ≤ cnt2 ∧ cnt2 ≤ 808 ∧ 0 ≤ la2 ∧ la2 ≤ 1) ∧ (0 ≤ w2 ∧ w2 / 4294967296 < cnt2 ∧ w2 % 4294967296 < cnt2) ∧ (prok K2 N2 O2 RR cnt2 ru wi) ∧ (kext K K2 cnt) ∧ (laI la2 K2 cnt2) ∧ (0 ≤ tkn K2 cnt2) ∧ ((cnt2 + tkn K2 cnt2) ≤ (cnt + tkn K cnt) + 2) ∧ (pxt K N O RR cnt ru K2 N2 O2 RR) ∧ (prCb K2 N2 O2 cnt cnt2 w2 7 w vl)) := by
  refine ab_F_of (by decide +kernel) (Nat.le_of_ble_eq_true rfl) ?_
  obtain ⟨Q, hQ⟩ : ∃ z : Outcome → ab_G → Prop, z = (fun oc G2 => ∃ w2 : Int, ∃ cnt2 : Int, ∃ la2 : Int, ∃ K2 : Int → Int, ∃ N2 : Int → Int, ∃ O2 : Int → Int, oc = .returned (some (vj w2)) ∧ fx o o [lq, (lq + 1), (lq + 2), (lq + 3)] G G2 ∧ G2.length = G.length ∧ ab_slots G2 = ab_slots G ∧ cc o G2 q lq (ab_ob 5 [vR ki, vR ne, vR ot, vz cnt2, vz fi, vz la2, vR ra, vz ru, vz gr, vz wi, vz sz, vz fl, vz ve, vz mi, vR na, vR nl]) ∧ cc o G2 ki (lq + 1) (za 808 K2) ∧ cc o G2 ne (lq + 2) (za 808 N2) ∧ cc o G2 ot (lq + 3) (za 808 O2) ∧ (cnt ≤ cnt2 ∧ cnt2 ≤ 808 ∧ 0 ≤ la2 ∧ la2 ≤ 1) ∧ (0 ≤ w2 ∧ w2 / 4294967296 < cnt2 ∧ w2 % 4294967296 < cnt2) ∧ (prok K2 N2 O2 RR cnt2 ru wi) ∧ (kext K K2 cnt) ∧ (laI la2 K2 cnt2) ∧ (0 ≤ tkn K2 cnt2) ∧ ((cnt2 + tkn K2 cnt2) ≤ (cnt + tkn K cnt) + 2) ∧ (pxt K N O RR cnt ru K2 N2 O2 RR) ∧ (prCb K2 N2 O2 cnt cnt2 w2 7 w vl)) := ⟨_, rfl⟩
  rw [← hQ]
  change ab_W X (ab_pl y_PR_addPair b_PR_addPair 7 (some (.long))) d G 0 [some (vR q), some (vz 7), some (vj w), none, some (vz vl), none, none] [] Q
  have hfr : fx o o [lq, (lq + 1), (lq + 2), (lq + 3)] G G := fx.rf
  have hlen : G.length = G.length := rfl
  have hsl : ab_slots G = ab_slots G := rfl
  refine ab_aload_n d_PR_addPair_0 rfl ?_
  refine ab_iload_n d_PR_addPair_1 rfl ?_
  refine ab_lload_n d_PR_addPair_2 rfl ?_
  refine ab_callS (d' := d - 1) (as := [vj w]) (st := [vz 7, vR q]) (z_PR_fresh (o := o) (w := w) (by omega)) (fun oc G2 h => by rcases h with ⟨h, _⟩ <;> exact ⟨_, h⟩) (by omega) m_PR_fresh ml_PR_96 st_PR_fresh (Nat.le_of_ble_eq_true rfl) d_PR_addPair_3 rfl ?_
  intro v G1 hq
  rcases hq with ⟨hv, hGe⟩
  cases hv
  rw [hGe]
  change ab_W _ _ _ G 6 [some (vR q), some (vz 7), some (vj w), none, some (vz vl), none, none] [vz (w / 4294967296), vz 7, vR q] _
  refine ab_iload d_PR_addPair_6 rfl ?_
  refine ab_callV (d' := d - 1) (as := [vz 7, vz (w / 4294967296), vz vl]) (st := []) (r := _) (z_PR_add (o := o) (q := q) (lq := lq) (ki := ki) (ne := ne) (ot := ot) (cnt := cnt) (fi := fi) (la := la) (ra := ra) (ru := ru) (gr := gr) (wi := wi) (sz := sz) (fl := fl) (ve := ve) (mi := mi) (na := na) (nl := nl) (K := K) (N := N) (O := O) (k0 := 7) (x0 := (w / 4294967296)) (v0 := vl) hq hki hne hot (by omega) (by omega) (by omega)) (fun oc G2 h => by rcases h with ⟨h, _⟩ | ⟨_, h, _⟩ <;> exact ⟨_, h⟩) (by omega) m_PR_add ml_PR_84 im_PR_add se_PR_add c_PR hq.2.2 (Nat.le_of_ble_eq_true rfl) d_PR_addPair_8 rfl ?_
  intro v G2 hq
  rcases hq with ⟨hv, hGe, hq3⟩ | ⟨la24, hv, hfk, hlk, hsk, hNq, hNki, hNne, hNot, hq5, hq6, hq7⟩
  · cases hv
    rw [hGe]
    change ab_W _ _ _ G 11 [some (vR q), some (vz 7), some (vj w), none, some (vz vl), none, none] [vz 0] _
    exfalso; omega
  · cases hv
    have hra := hfk.get hra (by simp only [List.mem_cons, List.not_mem_nil, or_false]; omega)
    have hfr := hfr.tr hfk (by simp)
    have hlen := hlk.trans hlen
    have hsl := hsk.trans hsl
    have hq := hNq
    have hki := hNki
    have hne := hNne
    have hot := hNot
    change ab_W _ _ _ G2 11 [some (vR q), some (vz 7), some (vj w), none, some (vz vl), none, none] [vz cnt] _
    have hp8 := prok_add (k := 7) (x := (w / 4294967296)) (v := vl) hp_ (by omega) (by omega) (by omega) (by omega) (by omega) (fun t => absurd t (by decide)) (fun t => by omega) (fun t => absurd t (by decide)) (fun t => absurd t (by decide)) (fun t => absurd t (by decide))
    obtain ⟨K8, eK8⟩ : ∃ z : Int → Int, z = zu K cnt 7 := ⟨_, rfl⟩
    have hki : cc o G2 ki (lq + 1) (za 808 K8) := by rw [← eK8.symm]; exact hki
    obtain ⟨N8, eN8⟩ : ∃ z : Int → Int, z = zu N cnt (w / 4294967296) := ⟨_, rfl⟩
    have hne : cc o G2 ne (lq + 2) (za 808 N8) := by rw [← eN8.symm]; exact hne
    obtain ⟨O8, eO8⟩ : ∃ z : Int → Int, z = zu O cnt vl := ⟨_, rfl⟩
    have hot : cc o G2 ot (lq + 3) (za 808 O8) := by rw [← eO8.symm]; exact hot
    rw [← eK8, ← eN8, ← eO8] at hp8
    have hla8 : laI la24 K8 (cnt + 1) := by rw [eK8]; exact laI_s hla hq7 (fun q => by omega)
    have htk8 : tkn K8 (cnt + 1) = tkn K cnt := by rw [eK8]; exact tkn_n (by omega) (by omega)
    have hkx8 : kext K K8 cnt := by rw [eK8]; exact kext.zu (Int.le_refl _)
    have hks8 : K8 cnt = 7 := by rw [eK8]; exact zu_self _ _ _
    have hsd8 : sdC K8 N8 O8 cnt (cnt + 1) cnt 7 (w / 4294967296) vl := ⟨⟨by omega, by omega⟩, by rw [eK8]; exact zu_self _ _ _, by rw [eN8]; exact zu_self _ _ _, by rw [eO8]; exact zu_self _ _ _⟩
    have hpx8 : pxt K N O RR cnt ru K8 N8 O8 RR := by rw [eK8, eN8, eO8]; exact pxt.add (Int.le_refl _)
    change ab_W _ _ _ G2 11 [some (vR q), some (vz 7), some (vj w), none, some (vz vl), none, none] [vz cnt] _
    refine ab_istore d_PR_addPair_11 (Nat.le_of_ble_eq_true rfl) (Nat.le_of_ble_eq_true rfl) rfl ?_
    change ab_W _ _ _ G2 13 [some (vR q), some (vz 7), some (vj w), none, some (vz vl), some (vz cnt), none] [] _
    refine ab_lload_n d_PR_addPair_13 rfl ?_
    refine ab_callS (d' := d - 1) (as := [vj w]) (st := []) (z_PR_fresh (o := o) (w := w) (by omega)) (fun oc G2 h => by rcases h with ⟨h, _⟩ <;> exact ⟨_, h⟩) (by omega) m_PR_fresh ml_PR_96 st_PR_fresh (Nat.le_of_ble_eq_true rfl) d_PR_addPair_14 rfl ?_
    intro v G9 hq
    rcases hq with ⟨hv, hGe⟩
    cases hv
    rw [hGe]
    change ab_W _ _ _ G2 17 [some (vR q), some (vz 7), some (vj w), none, some (vz vl), some (vz cnt), none] [vz (w / 4294967296)] _
    refine ab_lload_n d_PR_addPair_17 rfl ?_
    refine ab_callS (d' := d - 1) (as := [vj w]) (st := [vz (w / 4294967296)]) (z_PR_used (o := o) (w := w) (by omega)) (fun oc G2 h => by rcases h with ⟨h, _⟩ <;> exact ⟨_, h⟩) (by omega) m_PR_used ml_PR_124 st_PR_used (Nat.le_of_ble_eq_true rfl) d_PR_addPair_18 rfl ?_
    intro v G10 hq
    rcases hq with ⟨hv, hGe⟩
    cases hv
    rw [hGe]
    change ab_W _ _ _ G2 21 [some (vR q), some (vz 7), some (vj w), none, some (vz vl), some (vz cnt), none] [vz (w % 4294967296), vz (w / 4294967296)] _
    refine zz_icmp_ne (tgt := 29) d_PR_addPair_21 (by decide) (by omega) (by omega) (fun c11 => ?_) (fun c11 => ?_)
    · refine ab_aload_n d_PR_addPair_29 rfl ?_
      refine ab_iload_n d_PR_addPair_30 rfl ?_
      refine ab_lload_n d_PR_addPair_31 rfl ?_
      refine ab_callS (d' := d - 1) (as := [vj w]) (st := [vz 7, vR q]) (z_PR_used (o := o) (w := w) (by omega)) (fun oc G2 h => by rcases h with ⟨h, _⟩ <;> exact ⟨_, h⟩) (by omega) m_PR_used ml_PR_124 st_PR_used (Nat.le_of_ble_eq_true rfl) d_PR_addPair_32 rfl ?_
      intro v G12 hq
      rcases hq with ⟨hv, hGe⟩
      cases hv
      rw [hGe]
      change ab_W _ _ _ G2 35 [some (vR q), some (vz 7), some (vj w), none, some (vz vl), some (vz cnt), none] [vz (w % 4294967296), vz 7, vR q] _
      refine ab_iload d_PR_addPair_35 rfl ?_
      refine ab_callV (d' := d - 1) (as := [vz 7, vz (w % 4294967296), vz vl]) (st := []) (r := _) (z_PR_add (o := o) (q := q) (lq := lq) (ki := ki) (ne := ne) (ot := ot) (cnt := (cnt + 1)) (fi := fi) (la := la24) (ra := ra) (ru := ru) (gr := gr) (wi := wi) (sz := sz) (fl := fl) (ve := ve) (mi := mi) (na := na) (nl := nl) (K := K8) (N := N8) (O := O8) (k0 := 7) (x0 := (w % 4294967296)) (v0 := vl) hq hki hne hot (by omega) (by omega) (by omega)) (fun oc G2 h => by rcases h with ⟨h, _⟩ | ⟨_, h, _⟩ <;> exact ⟨_, h⟩) (by omega) m_PR_add ml_PR_84 im_PR_add se_PR_add c_PR hq.2.2 (Nat.le_of_ble_eq_true rfl) d_PR_addPair_37 rfl ?_
      intro v G13 hq
      rcases hq with ⟨hv, hGe, hq14⟩ | ⟨la215, hv, hfk, hlk, hsk, hNq, hNki, hNne, hNot, hq16, hq17, hq18⟩
      · cases hv
        rw [hGe]
        change ab_W _ _ _ G2 40 [some (vR q), some (vz 7), some (vj w), none, some (vz vl), some (vz cnt), none] [vz 0] _
        exfalso; omega
      · cases hv
        have hra := hfk.get hra (by simp only [List.mem_cons, List.not_mem_nil, or_false]; omega)
        have hfr := hfr.tr hfk (by simp)
        have hlen := hlk.trans hlen
        have hsl := hsk.trans hsl
        have hq := hNq
        have hki := hNki
        have hne := hNne
        have hot := hNot
        change ab_W _ _ _ G13 40 [some (vR q), some (vz 7), some (vj w), none, some (vz vl), some (vz cnt), none] [vz (cnt + 1)] _
        have hp19 := prok_add (k := 7) (x := (w % 4294967296)) (v := vl) hp8 (by omega) (by omega) (by omega) (by omega) (by omega) (fun t => absurd t (by decide)) (fun t => by omega) (fun t => absurd t (by decide)) (fun t => absurd t (by decide)) (fun t => absurd t (by decide))
        obtain ⟨K19, eK19⟩ : ∃ z : Int → Int, z = zu K8 (cnt + 1) 7 := ⟨_, rfl⟩
        have hki : cc o G13 ki (lq + 1) (za 808 K19) := by rw [← eK19.symm]; exact hki
        obtain ⟨N19, eN19⟩ : ∃ z : Int → Int, z = zu N8 (cnt + 1) (w % 4294967296) := ⟨_, rfl⟩
        have hne : cc o G13 ne (lq + 2) (za 808 N19) := by rw [← eN19.symm]; exact hne
        obtain ⟨O19, eO19⟩ : ∃ z : Int → Int, z = zu O8 (cnt + 1) vl := ⟨_, rfl⟩
        have hot : cc o G13 ot (lq + 3) (za 808 O19) := by rw [← eO19.symm]; exact hot
        rw [← eK19, ← eN19, ← eO19] at hp19
        have hla19 : laI la215 K19 ((cnt + 1) + 1) := by rw [eK19]; exact laI_s hla8 hq18 (fun q => by omega)
        have htk19 : tkn K19 ((cnt + 1) + 1) = tkn K8 (cnt + 1) := by rw [eK19]; exact tkn_n (by omega) (by omega)
        have hkx19 : kext K8 K19 (cnt + 1) := by rw [eK19]; exact kext.zu (Int.le_refl _)
        have hks19 : K19 (cnt + 1) = 7 := by rw [eK19]; exact zu_self _ _ _
        have hsd19 : sdC K19 N19 O19 (cnt + 1) ((cnt + 1) + 1) (cnt + 1) 7 (w % 4294967296) vl := ⟨⟨by omega, by omega⟩, by rw [eK19]; exact zu_self _ _ _, by rw [eN19]; exact zu_self _ _ _, by rw [eO19]; exact zu_self _ _ _⟩
        have hpx19 : pxt K8 N8 O8 RR (cnt + 1) ru K19 N19 O19 RR := by rw [eK19, eN19, eO19]; exact pxt.add (Int.le_refl _)
        change ab_W _ _ _ G13 40 [some (vR q), some (vz 7), some (vj w), none, some (vz vl), some (vz cnt), none] [vz (cnt + 1)] _
        refine ab_istore d_PR_addPair_40 (Nat.le_of_ble_eq_true rfl) (Nat.le_of_ble_eq_true rfl) rfl ?_
        change ab_W _ _ _ G13 42 [some (vR q), some (vz 7), some (vj w), none, some (vz vl), some (vz cnt), some (vz (cnt + 1))] [] _
        refine ab_iload d_PR_addPair_42 rfl ?_
        refine ab_iload d_PR_addPair_44 rfl ?_
        refine ab_callS (d' := d - 1) (as := [vz cnt, vz (cnt + 1)]) (st := []) (z_PR_pair (o := o) (f0 := cnt) (u0 := (cnt + 1)) (by omega)) (fun oc G2 h => by rcases h with ⟨h, _⟩ <;> exact ⟨_, h⟩) (by omega) m_PR_pair ml_PR_88 st_PR_pair (Nat.le_of_ble_eq_true rfl) d_PR_addPair_46 rfl ?_
        intro v G20 hq
        rcases hq with ⟨hv, hGe⟩
        cases hv
        rw [hGe]
        change ab_W _ _ _ G13 49 [some (vR q), some (vz 7), some (vj w), none, some (vz vl), some (vz cnt), some (vz (cnt + 1))] [vj (cnt * 4294967296 + (cnt + 1))] _
        refine ab_lret rfl d_PR_addPair_49 ?_
        rw [hQ]; exact ⟨_, _, _, _, _, _, rfl, hfr, hlen, hsl, hq, hki, hne, hot, (by omega), (by omega), (by exact hp19), (by exact (hkx8.tr hkx19 (by omega))), (by exact hla19), (by exact tkn_0), (by omega), (by exact (hpx8.tr hpx19 (by omega) (by omega)).lt (by omega) (by omega)), (by exact prCb.mk2 (hsd8.ex hpx19 (by omega) (by omega) (by omega) (by omega)) (hsd19.wd (by omega) (by omega)) (by omega) (by omega) (by omega) (by omega))⟩
    · refine ab_iload d_PR_addPair_24 rfl ?_
      refine ab_goto (tgt := 40) d_PR_addPair_26 (by decide) ?_
      refine ab_istore d_PR_addPair_40 (Nat.le_of_ble_eq_true rfl) (Nat.le_of_ble_eq_true rfl) rfl ?_
      change ab_W _ _ _ G2 42 [some (vR q), some (vz 7), some (vj w), none, some (vz vl), some (vz cnt), some (vz cnt)] [] _
      refine ab_iload d_PR_addPair_42 rfl ?_
      refine ab_iload d_PR_addPair_44 rfl ?_
      refine ab_callS (d' := d - 1) (as := [vz cnt, vz cnt]) (st := []) (z_PR_pair (o := o) (f0 := cnt) (u0 := cnt) (by omega)) (fun oc G2 h => by rcases h with ⟨h, _⟩ <;> exact ⟨_, h⟩) (by omega) m_PR_pair ml_PR_88 st_PR_pair (Nat.le_of_ble_eq_true rfl) d_PR_addPair_46 rfl ?_
      intro v G21 hq
      rcases hq with ⟨hv, hGe⟩
      cases hv
      rw [hGe]
      change ab_W _ _ _ G2 49 [some (vR q), some (vz 7), some (vj w), none, some (vz vl), some (vz cnt), some (vz cnt)] [vj (cnt * 4294967296 + cnt)] _
      refine ab_lret rfl d_PR_addPair_49 ?_
      rw [hQ]; exact ⟨_, _, _, _, _, _, rfl, hfr, hlen, hsl, hq, hki, hne, hot, (by omega), (by omega), (by exact hp8), (by exact hkx8), (by exact hla8), (by exact tkn_0), (by omega), (by exact hpx8.lt (by omega) (by omega)), (by exact prCb.mk1 (hsd8.wd (by omega) (by omega)) (by omega) (by omega) (by omega) (by omega))⟩
set_option maxRecDepth 100000 in
set_option maxHeartbeats 4000000 in
theorem za_PR_addPair {X : ab_X} {d : Nat} {o : Nat → Nat} {G : ab_G} {q : Nat} {lq : Nat} {ki : Nat} {ne : Nat} {ot : Nat} {cnt : Int} {fi : Int} {la : Int} {ra : Nat} {ru : Int} {gr : Int} {wi : Int} {sz : Int} {fl : Int} {ve : Int} {mi : Int} {na : Nat} {nl : Nat} {K : Int → Int} {N : Int → Int} {O : Int → Int} {RR : Int → Int} {nr : Nat} {w : Int} {vl : Int} (hq : cc o G q lq (ab_ob 5 [vR ki, vR ne, vR ot, vz cnt, vz fi, vz la, vR ra, vz ru, vz gr, vz wi, vz sz, vz fl, vz ve, vz mi, vR na, vR nl])) (hki : cc o G ki (lq + 1) (za 808 K)) (hne : cc o G ne (lq + 2) (za 808 N)) (hot : cc o G ot (lq + 3) (za 808 O)) (hra : cc o G ra (lq + 4) (za nr RR)) (n18 : ab_n0 = 18) (cq : 100 ≤ lq ∧ 2 ≤ cnt ∧ cnt ≤ 808 ∧ 0 ≤ la ∧ la ≤ 1) (hp_ : prok K N O RR cnt ru wi) (cw : 0 ≤ w ∧ w / 4294967296 < cnt ∧ w % 4294967296 < cnt) (cv : 0 ≤ vl ∧ vl ≤ 5) (cc8 : cnt + 2 ≤ 808) (hla : laI la K cnt) (ht0 : 0 ≤ tkn K cnt) (hd : 1 ≤ d) : ab_F X d y_PR_addPair (.code y_PR_addPair b_PR_addPair 7 (some (.long))) [vR q, vz 3, vj w, vz vl] G (fun oc G2 => ∃ w2 : Int, ∃ cnt2 : Int, ∃ la2 : Int, ∃ K2 : Int → Int, ∃ N2 : Int → Int, ∃ O2 : Int → Int, oc = .returned (some (vj w2)) ∧ fx o o [lq, (lq + 1), (lq + 2), (lq + 3)] G G2 ∧ G2.length = G.length ∧ ab_slots G2 = ab_slots G ∧ cc o G2 q lq (ab_ob 5 [vR ki, vR ne, vR ot, vz cnt2, vz fi, vz la2, vR ra, vz ru, vz gr, vz wi, vz sz, vz fl, vz ve, vz mi, vR na, vR nl]) ∧ cc o G2 ki (lq + 1) (za 808 K2) ∧ cc o G2 ne (lq + 2) (za 808 N2) ∧ cc o G2 ot (lq + 3) (za 808 O2) ∧ (cnt ≤ cnt2 ∧ cnt2 ≤ 808 ∧ 0 ≤ la2 ∧ la2 ≤ 1) ∧ (0 ≤ w2 ∧ w2 / 4294967296 < cnt2 ∧ w2 % 4294967296 < cnt2) ∧ (prok K2 N2 O2 RR cnt2 ru wi) ∧ (kext K K2 cnt) ∧ (laI la2 K2 cnt2) ∧ (0 ≤ tkn K2 cnt2) ∧ ((cnt2 + tkn K2 cnt2) ≤ (cnt + tkn K cnt) + 2) ∧ (pxt K N O RR cnt ru K2 N2 O2 RR) ∧ (prCb K2 N2 O2 cnt cnt2 w2 3 w vl)) := by
  refine ab_F_of (by decide +kernel) (Nat.le_of_ble_eq_true rfl) ?_
  obtain ⟨Q, hQ⟩ : ∃ z : Outcome → ab_G → Prop, z = (fun oc G2 => ∃ w2 : Int, ∃ cnt2 : Int, ∃ la2 : Int, ∃ K2 : Int → Int, ∃ N2 : Int → Int, ∃ O2 : Int → Int, oc = .returned (some (vj w2)) ∧ fx o o [lq, (lq + 1), (lq + 2), (lq + 3)] G G2 ∧ G2.length = G.length ∧ ab_slots G2 = ab_slots G ∧ cc o G2 q lq (ab_ob 5 [vR ki, vR ne, vR ot, vz cnt2, vz fi, vz la2, vR ra, vz ru, vz gr, vz wi, vz sz, vz fl, vz ve, vz mi, vR na, vR nl]) ∧ cc o G2 ki (lq + 1) (za 808 K2) ∧ cc o G2 ne (lq + 2) (za 808 N2) ∧ cc o G2 ot (lq + 3) (za 808 O2) ∧ (cnt ≤ cnt2 ∧ cnt2 ≤ 808 ∧ 0 ≤ la2 ∧ la2 ≤ 1) ∧ (0 ≤ w2 ∧ w2 / 4294967296 < cnt2 ∧ w2 % 4294967296 < cnt2) ∧ (prok K2 N2 O2 RR cnt2 ru wi) ∧ (kext K K2 cnt) ∧ (laI la2 K2 cnt2) ∧ (0 ≤ tkn K2 cnt2) ∧ ((cnt2 + tkn K2 cnt2) ≤ (cnt + tkn K cnt) + 2) ∧ (pxt K N O RR cnt ru K2 N2 O2 RR) ∧ (prCb K2 N2 O2 cnt cnt2 w2 3 w vl)) := ⟨_, rfl⟩
  rw [← hQ]
  change ab_W X (ab_pl y_PR_addPair b_PR_addPair 7 (some (.long))) d G 0 [some (vR q), some (vz 3), some (vj w), none, some (vz vl), none, none] [] Q
  have hfr : fx o o [lq, (lq + 1), (lq + 2), (lq + 3)] G G := fx.rf
  have hlen : G.length = G.length := rfl
  have hsl : ab_slots G = ab_slots G := rfl
  refine ab_aload_n d_PR_addPair_0 rfl ?_
  refine ab_iload_n d_PR_addPair_1 rfl ?_
  refine ab_lload_n d_PR_addPair_2 rfl ?_
  refine ab_callS (d' := d - 1) (as := [vj w]) (st := [vz 3, vR q]) (z_PR_fresh (o := o) (w := w) (by omega)) (fun oc G2 h => by rcases h with ⟨h, _⟩ <;> exact ⟨_, h⟩) (by omega) m_PR_fresh ml_PR_96 st_PR_fresh (Nat.le_of_ble_eq_true rfl) d_PR_addPair_3 rfl ?_
  intro v G1 hq
  rcases hq with ⟨hv, hGe⟩
  cases hv
  rw [hGe]
  change ab_W _ _ _ G 6 [some (vR q), some (vz 3), some (vj w), none, some (vz vl), none, none] [vz (w / 4294967296), vz 3, vR q] _
  refine ab_iload d_PR_addPair_6 rfl ?_
  refine ab_callV (d' := d - 1) (as := [vz 3, vz (w / 4294967296), vz vl]) (st := []) (r := _) (z_PR_add (o := o) (q := q) (lq := lq) (ki := ki) (ne := ne) (ot := ot) (cnt := cnt) (fi := fi) (la := la) (ra := ra) (ru := ru) (gr := gr) (wi := wi) (sz := sz) (fl := fl) (ve := ve) (mi := mi) (na := na) (nl := nl) (K := K) (N := N) (O := O) (k0 := 3) (x0 := (w / 4294967296)) (v0 := vl) hq hki hne hot (by omega) (by omega) (by omega)) (fun oc G2 h => by rcases h with ⟨h, _⟩ | ⟨_, h, _⟩ <;> exact ⟨_, h⟩) (by omega) m_PR_add ml_PR_84 im_PR_add se_PR_add c_PR hq.2.2 (Nat.le_of_ble_eq_true rfl) d_PR_addPair_8 rfl ?_
  intro v G2 hq
  rcases hq with ⟨hv, hGe, hq3⟩ | ⟨la24, hv, hfk, hlk, hsk, hNq, hNki, hNne, hNot, hq5, hq6, hq7⟩
  · cases hv
    rw [hGe]
    change ab_W _ _ _ G 11 [some (vR q), some (vz 3), some (vj w), none, some (vz vl), none, none] [vz 0] _
    exfalso; omega
  · cases hv
    have hra := hfk.get hra (by simp only [List.mem_cons, List.not_mem_nil, or_false]; omega)
    have hfr := hfr.tr hfk (by simp)
    have hlen := hlk.trans hlen
    have hsl := hsk.trans hsl
    have hq := hNq
    have hki := hNki
    have hne := hNne
    have hot := hNot
    change ab_W _ _ _ G2 11 [some (vR q), some (vz 3), some (vj w), none, some (vz vl), none, none] [vz cnt] _
    have hp8 := prok_add (k := 3) (x := (w / 4294967296)) (v := vl) hp_ (by omega) (by omega) (by omega) (by omega) (by omega) (fun t => absurd t (by decide)) (fun t => absurd t (by decide)) (fun t => by omega) (fun t => absurd t (by decide)) (fun t => absurd t (by decide))
    obtain ⟨K8, eK8⟩ : ∃ z : Int → Int, z = zu K cnt 3 := ⟨_, rfl⟩
    have hki : cc o G2 ki (lq + 1) (za 808 K8) := by rw [← eK8.symm]; exact hki
    obtain ⟨N8, eN8⟩ : ∃ z : Int → Int, z = zu N cnt (w / 4294967296) := ⟨_, rfl⟩
    have hne : cc o G2 ne (lq + 2) (za 808 N8) := by rw [← eN8.symm]; exact hne
    obtain ⟨O8, eO8⟩ : ∃ z : Int → Int, z = zu O cnt vl := ⟨_, rfl⟩
    have hot : cc o G2 ot (lq + 3) (za 808 O8) := by rw [← eO8.symm]; exact hot
    rw [← eK8, ← eN8, ← eO8] at hp8
    have hla8 : laI la24 K8 (cnt + 1) := by rw [eK8]; exact laI_s hla hq7 (fun q => by omega)
    have htk8 : tkn K8 (cnt + 1) = tkn K cnt := by rw [eK8]; exact tkn_n (by omega) (by omega)
    have hkx8 : kext K K8 cnt := by rw [eK8]; exact kext.zu (Int.le_refl _)
    have hks8 : K8 cnt = 3 := by rw [eK8]; exact zu_self _ _ _
    have hsd8 : sdC K8 N8 O8 cnt (cnt + 1) cnt 3 (w / 4294967296) vl := ⟨⟨by omega, by omega⟩, by rw [eK8]; exact zu_self _ _ _, by rw [eN8]; exact zu_self _ _ _, by rw [eO8]; exact zu_self _ _ _⟩
    have hpx8 : pxt K N O RR cnt ru K8 N8 O8 RR := by rw [eK8, eN8, eO8]; exact pxt.add (Int.le_refl _)
    change ab_W _ _ _ G2 11 [some (vR q), some (vz 3), some (vj w), none, some (vz vl), none, none] [vz cnt] _
    refine ab_istore d_PR_addPair_11 (Nat.le_of_ble_eq_true rfl) (Nat.le_of_ble_eq_true rfl) rfl ?_
    change ab_W _ _ _ G2 13 [some (vR q), some (vz 3), some (vj w), none, some (vz vl), some (vz cnt), none] [] _
    refine ab_lload_n d_PR_addPair_13 rfl ?_
    refine ab_callS (d' := d - 1) (as := [vj w]) (st := []) (z_PR_fresh (o := o) (w := w) (by omega)) (fun oc G2 h => by rcases h with ⟨h, _⟩ <;> exact ⟨_, h⟩) (by omega) m_PR_fresh ml_PR_96 st_PR_fresh (Nat.le_of_ble_eq_true rfl) d_PR_addPair_14 rfl ?_
    intro v G9 hq
    rcases hq with ⟨hv, hGe⟩
    cases hv
    rw [hGe]
    change ab_W _ _ _ G2 17 [some (vR q), some (vz 3), some (vj w), none, some (vz vl), some (vz cnt), none] [vz (w / 4294967296)] _
    refine ab_lload_n d_PR_addPair_17 rfl ?_
    refine ab_callS (d' := d - 1) (as := [vj w]) (st := [vz (w / 4294967296)]) (z_PR_used (o := o) (w := w) (by omega)) (fun oc G2 h => by rcases h with ⟨h, _⟩ <;> exact ⟨_, h⟩) (by omega) m_PR_used ml_PR_124 st_PR_used (Nat.le_of_ble_eq_true rfl) d_PR_addPair_18 rfl ?_
    intro v G10 hq
    rcases hq with ⟨hv, hGe⟩
    cases hv
    rw [hGe]
    change ab_W _ _ _ G2 21 [some (vR q), some (vz 3), some (vj w), none, some (vz vl), some (vz cnt), none] [vz (w % 4294967296), vz (w / 4294967296)] _
    refine zz_icmp_ne (tgt := 29) d_PR_addPair_21 (by decide) (by omega) (by omega) (fun c11 => ?_) (fun c11 => ?_)
    · refine ab_aload_n d_PR_addPair_29 rfl ?_
      refine ab_iload_n d_PR_addPair_30 rfl ?_
      refine ab_lload_n d_PR_addPair_31 rfl ?_
      refine ab_callS (d' := d - 1) (as := [vj w]) (st := [vz 3, vR q]) (z_PR_used (o := o) (w := w) (by omega)) (fun oc G2 h => by rcases h with ⟨h, _⟩ <;> exact ⟨_, h⟩) (by omega) m_PR_used ml_PR_124 st_PR_used (Nat.le_of_ble_eq_true rfl) d_PR_addPair_32 rfl ?_
      intro v G12 hq
      rcases hq with ⟨hv, hGe⟩
      cases hv
      rw [hGe]
      change ab_W _ _ _ G2 35 [some (vR q), some (vz 3), some (vj w), none, some (vz vl), some (vz cnt), none] [vz (w % 4294967296), vz 3, vR q] _
      refine ab_iload d_PR_addPair_35 rfl ?_
      refine ab_callV (d' := d - 1) (as := [vz 3, vz (w % 4294967296), vz vl]) (st := []) (r := _) (z_PR_add (o := o) (q := q) (lq := lq) (ki := ki) (ne := ne) (ot := ot) (cnt := (cnt + 1)) (fi := fi) (la := la24) (ra := ra) (ru := ru) (gr := gr) (wi := wi) (sz := sz) (fl := fl) (ve := ve) (mi := mi) (na := na) (nl := nl) (K := K8) (N := N8) (O := O8) (k0 := 3) (x0 := (w % 4294967296)) (v0 := vl) hq hki hne hot (by omega) (by omega) (by omega)) (fun oc G2 h => by rcases h with ⟨h, _⟩ | ⟨_, h, _⟩ <;> exact ⟨_, h⟩) (by omega) m_PR_add ml_PR_84 im_PR_add se_PR_add c_PR hq.2.2 (Nat.le_of_ble_eq_true rfl) d_PR_addPair_37 rfl ?_
      intro v G13 hq
      rcases hq with ⟨hv, hGe, hq14⟩ | ⟨la215, hv, hfk, hlk, hsk, hNq, hNki, hNne, hNot, hq16, hq17, hq18⟩
      · cases hv
        rw [hGe]
        change ab_W _ _ _ G2 40 [some (vR q), some (vz 3), some (vj w), none, some (vz vl), some (vz cnt), none] [vz 0] _
        exfalso; omega
      · cases hv
        have hra := hfk.get hra (by simp only [List.mem_cons, List.not_mem_nil, or_false]; omega)
        have hfr := hfr.tr hfk (by simp)
        have hlen := hlk.trans hlen
        have hsl := hsk.trans hsl
        have hq := hNq
        have hki := hNki
        have hne := hNne
        have hot := hNot
        change ab_W _ _ _ G13 40 [some (vR q), some (vz 3), some (vj w), none, some (vz vl), some (vz cnt), none] [vz (cnt + 1)] _
        have hp19 := prok_add (k := 3) (x := (w % 4294967296)) (v := vl) hp8 (by omega) (by omega) (by omega) (by omega) (by omega) (fun t => absurd t (by decide)) (fun t => absurd t (by decide)) (fun t => by omega) (fun t => absurd t (by decide)) (fun t => absurd t (by decide))
        obtain ⟨K19, eK19⟩ : ∃ z : Int → Int, z = zu K8 (cnt + 1) 3 := ⟨_, rfl⟩
        have hki : cc o G13 ki (lq + 1) (za 808 K19) := by rw [← eK19.symm]; exact hki
        obtain ⟨N19, eN19⟩ : ∃ z : Int → Int, z = zu N8 (cnt + 1) (w % 4294967296) := ⟨_, rfl⟩
        have hne : cc o G13 ne (lq + 2) (za 808 N19) := by rw [← eN19.symm]; exact hne
        obtain ⟨O19, eO19⟩ : ∃ z : Int → Int, z = zu O8 (cnt + 1) vl := ⟨_, rfl⟩
        have hot : cc o G13 ot (lq + 3) (za 808 O19) := by rw [← eO19.symm]; exact hot
        rw [← eK19, ← eN19, ← eO19] at hp19
        have hla19 : laI la215 K19 ((cnt + 1) + 1) := by rw [eK19]; exact laI_s hla8 hq18 (fun q => by omega)
        have htk19 : tkn K19 ((cnt + 1) + 1) = tkn K8 (cnt + 1) := by rw [eK19]; exact tkn_n (by omega) (by omega)
        have hkx19 : kext K8 K19 (cnt + 1) := by rw [eK19]; exact kext.zu (Int.le_refl _)
        have hks19 : K19 (cnt + 1) = 3 := by rw [eK19]; exact zu_self _ _ _
        have hsd19 : sdC K19 N19 O19 (cnt + 1) ((cnt + 1) + 1) (cnt + 1) 3 (w % 4294967296) vl := ⟨⟨by omega, by omega⟩, by rw [eK19]; exact zu_self _ _ _, by rw [eN19]; exact zu_self _ _ _, by rw [eO19]; exact zu_self _ _ _⟩
        have hpx19 : pxt K8 N8 O8 RR (cnt + 1) ru K19 N19 O19 RR := by rw [eK19, eN19, eO19]; exact pxt.add (Int.le_refl _)
        change ab_W _ _ _ G13 40 [some (vR q), some (vz 3), some (vj w), none, some (vz vl), some (vz cnt), none] [vz (cnt + 1)] _
        refine ab_istore d_PR_addPair_40 (Nat.le_of_ble_eq_true rfl) (Nat.le_of_ble_eq_true rfl) rfl ?_
        change ab_W _ _ _ G13 42 [some (vR q), some (vz 3), some (vj w), none, some (vz vl), some (vz cnt), some (vz (cnt + 1))] [] _
        refine ab_iload d_PR_addPair_42 rfl ?_
        refine ab_iload d_PR_addPair_44 rfl ?_
        refine ab_callS (d' := d - 1) (as := [vz cnt, vz (cnt + 1)]) (st := []) (z_PR_pair (o := o) (f0 := cnt) (u0 := (cnt + 1)) (by omega)) (fun oc G2 h => by rcases h with ⟨h, _⟩ <;> exact ⟨_, h⟩) (by omega) m_PR_pair ml_PR_88 st_PR_pair (Nat.le_of_ble_eq_true rfl) d_PR_addPair_46 rfl ?_
        intro v G20 hq
        rcases hq with ⟨hv, hGe⟩
        cases hv
        rw [hGe]
        change ab_W _ _ _ G13 49 [some (vR q), some (vz 3), some (vj w), none, some (vz vl), some (vz cnt), some (vz (cnt + 1))] [vj (cnt * 4294967296 + (cnt + 1))] _
        refine ab_lret rfl d_PR_addPair_49 ?_
        rw [hQ]; exact ⟨_, _, _, _, _, _, rfl, hfr, hlen, hsl, hq, hki, hne, hot, (by omega), (by omega), (by exact hp19), (by exact (hkx8.tr hkx19 (by omega))), (by exact hla19), (by exact tkn_0), (by omega), (by exact (hpx8.tr hpx19 (by omega) (by omega)).lt (by omega) (by omega)), (by exact prCb.mk2 (hsd8.ex hpx19 (by omega) (by omega) (by omega) (by omega)) (hsd19.wd (by omega) (by omega)) (by omega) (by omega) (by omega) (by omega))⟩
    · refine ab_iload d_PR_addPair_24 rfl ?_
      refine ab_goto (tgt := 40) d_PR_addPair_26 (by decide) ?_
      refine ab_istore d_PR_addPair_40 (Nat.le_of_ble_eq_true rfl) (Nat.le_of_ble_eq_true rfl) rfl ?_
      change ab_W _ _ _ G2 42 [some (vR q), some (vz 3), some (vj w), none, some (vz vl), some (vz cnt), some (vz cnt)] [] _
      refine ab_iload d_PR_addPair_42 rfl ?_
      refine ab_iload d_PR_addPair_44 rfl ?_
      refine ab_callS (d' := d - 1) (as := [vz cnt, vz cnt]) (st := []) (z_PR_pair (o := o) (f0 := cnt) (u0 := cnt) (by omega)) (fun oc G2 h => by rcases h with ⟨h, _⟩ <;> exact ⟨_, h⟩) (by omega) m_PR_pair ml_PR_88 st_PR_pair (Nat.le_of_ble_eq_true rfl) d_PR_addPair_46 rfl ?_
      intro v G21 hq
      rcases hq with ⟨hv, hGe⟩
      cases hv
      rw [hGe]
      change ab_W _ _ _ G2 49 [some (vR q), some (vz 3), some (vj w), none, some (vz vl), some (vz cnt), some (vz cnt)] [vj (cnt * 4294967296 + cnt)] _
      refine ab_lret rfl d_PR_addPair_49 ?_
      rw [hQ]; exact ⟨_, _, _, _, _, _, rfl, hfr, hlen, hsl, hq, hki, hne, hot, (by omega), (by omega), (by exact hp8), (by exact hkx8), (by exact hla8), (by exact tkn_0), (by omega), (by exact hpx8.lt (by omega) (by omega)), (by exact prCb.mk1 (hsd8.wd (by omega) (by omega)) (by omega) (by omega) (by omega) (by omega))⟩
set_option maxRecDepth 100000 in
set_option maxHeartbeats 4000000 in
theorem z_PR_fork {X : ab_X} {d : Nat} {o : Nat → Nat} {G : ab_G} {q : Nat} {lq : Nat} {ki : Nat} {ne : Nat} {ot : Nat} {cnt : Int} {fi : Int} {la : Int} {ra : Nat} {ru : Int} {gr : Int} {wi : Int} {sz : Int} {fl : Int} {ve : Int} {mi : Int} {na : Nat} {nl : Nat} {K : Int → Int} {N : Int → Int} {O : Int → Int} {RR : Int → Int} {nr : Nat} {w : Int} {u : Int} (hq : cc o G q lq (ab_ob 5 [vR ki, vR ne, vR ot, vz cnt, vz fi, vz la, vR ra, vz ru, vz gr, vz wi, vz sz, vz fl, vz ve, vz mi, vR na, vR nl])) (hki : cc o G ki (lq + 1) (za 808 K)) (hne : cc o G ne (lq + 2) (za 808 N)) (hot : cc o G ot (lq + 3) (za 808 O)) (hra : cc o G ra (lq + 4) (za nr RR)) (n18 : ab_n0 = 18) (cq : 100 ≤ lq ∧ 2 ≤ cnt ∧ cnt ≤ 808 ∧ 0 ≤ la ∧ la ≤ 1) (hp_ : prok K N O RR cnt ru wi) (cw : 0 ≤ w ∧ w / 4294967296 < cnt ∧ w % 4294967296 < cnt) (cu : 0 ≤ u ∧ u / 4294967296 < cnt ∧ u % 4294967296 < cnt) (cc8 : cnt + 2 ≤ 808) (hla : laI la K cnt) (ht0 : 0 ≤ tkn K cnt) (hd : 1 ≤ d) : ab_F X d y_PR_fork (.code y_PR_fork b_PR_fork 7 (some (.long))) [vR q, vj w, vj u] G (fun oc G2 => ∃ w2 : Int, ∃ cnt2 : Int, ∃ la2 : Int, ∃ K2 : Int → Int, ∃ N2 : Int → Int, ∃ O2 : Int → Int, oc = .returned (some (vj w2)) ∧ fx o o [lq, (lq + 1), (lq + 2), (lq + 3)] G G2 ∧ G2.length = G.length ∧ ab_slots G2 = ab_slots G ∧ cc o G2 q lq (ab_ob 5 [vR ki, vR ne, vR ot, vz cnt2, vz fi, vz la2, vR ra, vz ru, vz gr, vz wi, vz sz, vz fl, vz ve, vz mi, vR na, vR nl]) ∧ cc o G2 ki (lq + 1) (za 808 K2) ∧ cc o G2 ne (lq + 2) (za 808 N2) ∧ cc o G2 ot (lq + 3) (za 808 O2) ∧ (cnt ≤ cnt2 ∧ cnt2 ≤ 808 ∧ 0 ≤ la2 ∧ la2 ≤ 1) ∧ (0 ≤ w2 ∧ w2 / 4294967296 < cnt2 ∧ w2 % 4294967296 < cnt2) ∧ (prok K2 N2 O2 RR cnt2 ru wi) ∧ (kext K K2 cnt) ∧ (laI la2 K2 cnt2) ∧ (0 ≤ tkn K2 cnt2) ∧ ((cnt2 + tkn K2 cnt2) ≤ (cnt + tkn K cnt) + 2) ∧ (pxt K N O RR cnt ru K2 N2 O2 RR) ∧ (foC K2 N2 O2 cnt cnt2 w2 w u)) := by
  refine ab_F_of (by decide +kernel) (Nat.le_of_ble_eq_true rfl) ?_
  obtain ⟨Q, hQ⟩ : ∃ z : Outcome → ab_G → Prop, z = (fun oc G2 => ∃ w2 : Int, ∃ cnt2 : Int, ∃ la2 : Int, ∃ K2 : Int → Int, ∃ N2 : Int → Int, ∃ O2 : Int → Int, oc = .returned (some (vj w2)) ∧ fx o o [lq, (lq + 1), (lq + 2), (lq + 3)] G G2 ∧ G2.length = G.length ∧ ab_slots G2 = ab_slots G ∧ cc o G2 q lq (ab_ob 5 [vR ki, vR ne, vR ot, vz cnt2, vz fi, vz la2, vR ra, vz ru, vz gr, vz wi, vz sz, vz fl, vz ve, vz mi, vR na, vR nl]) ∧ cc o G2 ki (lq + 1) (za 808 K2) ∧ cc o G2 ne (lq + 2) (za 808 N2) ∧ cc o G2 ot (lq + 3) (za 808 O2) ∧ (cnt ≤ cnt2 ∧ cnt2 ≤ 808 ∧ 0 ≤ la2 ∧ la2 ≤ 1) ∧ (0 ≤ w2 ∧ w2 / 4294967296 < cnt2 ∧ w2 % 4294967296 < cnt2) ∧ (prok K2 N2 O2 RR cnt2 ru wi) ∧ (kext K K2 cnt) ∧ (laI la2 K2 cnt2) ∧ (0 ≤ tkn K2 cnt2) ∧ ((cnt2 + tkn K2 cnt2) ≤ (cnt + tkn K cnt) + 2) ∧ (pxt K N O RR cnt ru K2 N2 O2 RR) ∧ (foC K2 N2 O2 cnt cnt2 w2 w u)) := ⟨_, rfl⟩
  rw [← hQ]
  change ab_W X (ab_pl y_PR_fork b_PR_fork 7 (some (.long))) d G 0 [some (vR q), some (vj w), none, some (vj u), none, none, none] [] Q
  have hfr : fx o o [lq, (lq + 1), (lq + 2), (lq + 3)] G G := fx.rf
  have hlen : G.length = G.length := rfl
  have hsl : ab_slots G = ab_slots G := rfl
  refine ab_aload_n d_PR_fork_0 rfl ?_
  refine zz_bipush d_PR_fork_1 (by decide) ?_
  refine ab_lload_n d_PR_fork_3 rfl ?_
  refine ab_callS (d' := d - 1) (as := [vj w]) (st := [vz 6, vR q]) (z_PR_fresh (o := o) (w := w) (by omega)) (fun oc G2 h => by rcases h with ⟨h, _⟩ <;> exact ⟨_, h⟩) (by omega) m_PR_fresh ml_PR_96 st_PR_fresh (Nat.le_of_ble_eq_true rfl) d_PR_fork_4 rfl ?_
  intro v G1 hq
  rcases hq with ⟨hv, hGe⟩
  cases hv
  rw [hGe]
  change ab_W _ _ _ G 7 [some (vR q), some (vj w), none, some (vj u), none, none, none] [vz (w / 4294967296), vz 6, vR q] _
  refine ab_lload_n d_PR_fork_7 rfl ?_
  refine ab_callS (d' := d - 1) (as := [vj u]) (st := [vz (w / 4294967296), vz 6, vR q]) (z_PR_fresh (o := o) (w := u) (by omega)) (fun oc G2 h => by rcases h with ⟨h, _⟩ <;> exact ⟨_, h⟩) (by omega) m_PR_fresh ml_PR_96 st_PR_fresh (Nat.le_of_ble_eq_true rfl) d_PR_fork_8 rfl ?_
  intro v G2 hq
  rcases hq with ⟨hv, hGe⟩
  cases hv
  rw [hGe]
  change ab_W _ _ _ G 11 [some (vR q), some (vj w), none, some (vj u), none, none, none] [vz (u / 4294967296), vz (w / 4294967296), vz 6, vR q] _
  refine ab_callV (d' := d - 1) (as := [vz 6, vz (w / 4294967296), vz (u / 4294967296)]) (st := []) (r := _) (z_PR_add (o := o) (q := q) (lq := lq) (ki := ki) (ne := ne) (ot := ot) (cnt := cnt) (fi := fi) (la := la) (ra := ra) (ru := ru) (gr := gr) (wi := wi) (sz := sz) (fl := fl) (ve := ve) (mi := mi) (na := na) (nl := nl) (K := K) (N := N) (O := O) (k0 := 6) (x0 := (w / 4294967296)) (v0 := (u / 4294967296)) hq hki hne hot (by omega) (by omega) (by omega)) (fun oc G2 h => by rcases h with ⟨h, _⟩ | ⟨_, h, _⟩ <;> exact ⟨_, h⟩) (by omega) m_PR_add ml_PR_84 im_PR_add se_PR_add c_PR hq.2.2 (Nat.le_of_ble_eq_true rfl) d_PR_fork_11 rfl ?_
  intro v G3 hq
  rcases hq with ⟨hv, hGe, hq4⟩ | ⟨la25, hv, hfk, hlk, hsk, hNq, hNki, hNne, hNot, hq6, hq7, hq8⟩
  · cases hv
    rw [hGe]
    change ab_W _ _ _ G 14 [some (vR q), some (vj w), none, some (vj u), none, none, none] [vz 0] _
    exfalso; omega
  · cases hv
    have hra := hfk.get hra (by simp only [List.mem_cons, List.not_mem_nil, or_false]; omega)
    have hfr := hfr.tr hfk (by simp)
    have hlen := hlk.trans hlen
    have hsl := hsk.trans hsl
    have hq := hNq
    have hki := hNki
    have hne := hNne
    have hot := hNot
    change ab_W _ _ _ G3 14 [some (vR q), some (vj w), none, some (vj u), none, none, none] [vz cnt] _
    have hp9 := prok_add (k := 6) (x := (w / 4294967296)) (v := (u / 4294967296)) hp_ (by omega) (by omega) (by omega) (by omega) (by omega) (fun t => by omega) (fun t => absurd t (by decide)) (fun t => absurd t (by decide)) (fun t => absurd t (by decide)) (fun t => absurd t (by decide))
    obtain ⟨K9, eK9⟩ : ∃ z : Int → Int, z = zu K cnt 6 := ⟨_, rfl⟩
    have hki : cc o G3 ki (lq + 1) (za 808 K9) := by rw [← eK9.symm]; exact hki
    obtain ⟨N9, eN9⟩ : ∃ z : Int → Int, z = zu N cnt (w / 4294967296) := ⟨_, rfl⟩
    have hne : cc o G3 ne (lq + 2) (za 808 N9) := by rw [← eN9.symm]; exact hne
    obtain ⟨O9, eO9⟩ : ∃ z : Int → Int, z = zu O cnt (u / 4294967296) := ⟨_, rfl⟩
    have hot : cc o G3 ot (lq + 3) (za 808 O9) := by rw [← eO9.symm]; exact hot
    rw [← eK9, ← eN9, ← eO9] at hp9
    have hla9 : laI la25 K9 (cnt + 1) := by rw [eK9]; exact laI_s hla hq8 (fun q => by omega)
    have htk9 : tkn K9 (cnt + 1) = tkn K cnt := by rw [eK9]; exact tkn_n (by omega) (by omega)
    have hkx9 : kext K K9 cnt := by rw [eK9]; exact kext.zu (Int.le_refl _)
    have hks9 : K9 cnt = 6 := by rw [eK9]; exact zu_self _ _ _
    have hsd9 : sdC K9 N9 O9 cnt (cnt + 1) cnt 6 (w / 4294967296) (u / 4294967296) := ⟨⟨by omega, by omega⟩, by rw [eK9]; exact zu_self _ _ _, by rw [eN9]; exact zu_self _ _ _, by rw [eO9]; exact zu_self _ _ _⟩
    have hpx9 : pxt K N O RR cnt ru K9 N9 O9 RR := by rw [eK9, eN9, eO9]; exact pxt.add (Int.le_refl _)
    change ab_W _ _ _ G3 14 [some (vR q), some (vj w), none, some (vj u), none, none, none] [vz cnt] _
    refine ab_istore d_PR_fork_14 (Nat.le_of_ble_eq_true rfl) (Nat.le_of_ble_eq_true rfl) rfl ?_
    change ab_W _ _ _ G3 16 [some (vR q), some (vj w), none, some (vj u), none, some (vz cnt), none] [] _
    refine ab_lload_n d_PR_fork_16 rfl ?_
    refine ab_callS (d' := d - 1) (as := [vj w]) (st := []) (z_PR_fresh (o := o) (w := w) (by omega)) (fun oc G2 h => by rcases h with ⟨h, _⟩ <;> exact ⟨_, h⟩) (by omega) m_PR_fresh ml_PR_96 st_PR_fresh (Nat.le_of_ble_eq_true rfl) d_PR_fork_17 rfl ?_
    intro v G10 hq
    rcases hq with ⟨hv, hGe⟩
    cases hv
    rw [hGe]
    change ab_W _ _ _ G3 20 [some (vR q), some (vj w), none, some (vj u), none, some (vz cnt), none] [vz (w / 4294967296)] _
    refine ab_lload_n d_PR_fork_20 rfl ?_
    refine ab_callS (d' := d - 1) (as := [vj w]) (st := [vz (w / 4294967296)]) (z_PR_used (o := o) (w := w) (by omega)) (fun oc G2 h => by rcases h with ⟨h, _⟩ <;> exact ⟨_, h⟩) (by omega) m_PR_used ml_PR_124 st_PR_used (Nat.le_of_ble_eq_true rfl) d_PR_fork_21 rfl ?_
    intro v G11 hq
    rcases hq with ⟨hv, hGe⟩
    cases hv
    rw [hGe]
    change ab_W _ _ _ G3 24 [some (vR q), some (vj w), none, some (vj u), none, some (vz cnt), none] [vz (w % 4294967296), vz (w / 4294967296)] _
    refine zz_icmp_ne (tgt := 42) d_PR_fork_24 (by decide) (by omega) (by omega) (fun c12 => ?_) (fun c12 => ?_)
    · refine zz_iconst d_PR_fork_42 ?_
      refine ab_istore d_PR_fork_43 (Nat.le_of_ble_eq_true rfl) (Nat.le_of_ble_eq_true rfl) rfl ?_
      change ab_W _ _ _ G3 45 [some (vR q), some (vj w), none, some (vj u), none, some (vz cnt), some (vz 0)] [] _
      refine ab_iload d_PR_fork_45 rfl ?_
      refine ab_iload d_PR_fork_47 rfl ?_
      refine zz_if_eq (tgt := 57) d_PR_fork_49 (by decide) (by decide) (fun c13 => ?_) (fun c13 => absurd c13 (by decide))
      refine ab_aload_n d_PR_fork_57 rfl ?_
      refine zz_bipush d_PR_fork_58 (by decide) ?_
      refine ab_lload_n d_PR_fork_60 rfl ?_
      refine ab_callS (d' := d - 1) (as := [vj w]) (st := [vz 6, vR q, vz cnt]) (z_PR_used (o := o) (w := w) (by omega)) (fun oc G2 h => by rcases h with ⟨h, _⟩ <;> exact ⟨_, h⟩) (by omega) m_PR_used ml_PR_124 st_PR_used (Nat.le_of_ble_eq_true rfl) d_PR_fork_61 rfl ?_
      intro v G14 hq
      rcases hq with ⟨hv, hGe⟩
      cases hv
      rw [hGe]
      change ab_W _ _ _ G3 64 [some (vR q), some (vj w), none, some (vj u), none, some (vz cnt), some (vz 0)] [vz (w % 4294967296), vz 6, vR q, vz cnt] _
      refine ab_lload_n d_PR_fork_64 rfl ?_
      refine ab_callS (d' := d - 1) (as := [vj u]) (st := [vz (w % 4294967296), vz 6, vR q, vz cnt]) (z_PR_used (o := o) (w := u) (by omega)) (fun oc G2 h => by rcases h with ⟨h, _⟩ <;> exact ⟨_, h⟩) (by omega) m_PR_used ml_PR_124 st_PR_used (Nat.le_of_ble_eq_true rfl) d_PR_fork_65 rfl ?_
      intro v G15 hq
      rcases hq with ⟨hv, hGe⟩
      cases hv
      rw [hGe]
      change ab_W _ _ _ G3 68 [some (vR q), some (vj w), none, some (vj u), none, some (vz cnt), some (vz 0)] [vz (u % 4294967296), vz (w % 4294967296), vz 6, vR q, vz cnt] _
      refine ab_callV (d' := d - 1) (as := [vz 6, vz (w % 4294967296), vz (u % 4294967296)]) (st := [vz cnt]) (r := _) (z_PR_add (o := o) (q := q) (lq := lq) (ki := ki) (ne := ne) (ot := ot) (cnt := (cnt + 1)) (fi := fi) (la := la25) (ra := ra) (ru := ru) (gr := gr) (wi := wi) (sz := sz) (fl := fl) (ve := ve) (mi := mi) (na := na) (nl := nl) (K := K9) (N := N9) (O := O9) (k0 := 6) (x0 := (w % 4294967296)) (v0 := (u % 4294967296)) hq hki hne hot (by omega) (by omega) (by omega)) (fun oc G2 h => by rcases h with ⟨h, _⟩ | ⟨_, h, _⟩ <;> exact ⟨_, h⟩) (by omega) m_PR_add ml_PR_84 im_PR_add se_PR_add c_PR hq.2.2 (Nat.le_of_ble_eq_true rfl) d_PR_fork_68 rfl ?_
      intro v G16 hq
      rcases hq with ⟨hv, hGe, hq17⟩ | ⟨la218, hv, hfk, hlk, hsk, hNq, hNki, hNne, hNot, hq19, hq20, hq21⟩
      · cases hv
        rw [hGe]
        change ab_W _ _ _ G3 71 [some (vR q), some (vj w), none, some (vj u), none, some (vz cnt), some (vz 0)] [vz 0, vz cnt] _
        exfalso; omega
      · cases hv
        have hra := hfk.get hra (by simp only [List.mem_cons, List.not_mem_nil, or_false]; omega)
        have hfr := hfr.tr hfk (by simp)
        have hlen := hlk.trans hlen
        have hsl := hsk.trans hsl
        have hq := hNq
        have hki := hNki
        have hne := hNne
        have hot := hNot
        change ab_W _ _ _ G16 71 [some (vR q), some (vj w), none, some (vj u), none, some (vz cnt), some (vz 0)] [vz (cnt + 1), vz cnt] _
        have hp22 := prok_add (k := 6) (x := (w % 4294967296)) (v := (u % 4294967296)) hp9 (by omega) (by omega) (by omega) (by omega) (by omega) (fun t => by omega) (fun t => absurd t (by decide)) (fun t => absurd t (by decide)) (fun t => absurd t (by decide)) (fun t => absurd t (by decide))
        obtain ⟨K22, eK22⟩ : ∃ z : Int → Int, z = zu K9 (cnt + 1) 6 := ⟨_, rfl⟩
        have hki : cc o G16 ki (lq + 1) (za 808 K22) := by rw [← eK22.symm]; exact hki
        obtain ⟨N22, eN22⟩ : ∃ z : Int → Int, z = zu N9 (cnt + 1) (w % 4294967296) := ⟨_, rfl⟩
        have hne : cc o G16 ne (lq + 2) (za 808 N22) := by rw [← eN22.symm]; exact hne
        obtain ⟨O22, eO22⟩ : ∃ z : Int → Int, z = zu O9 (cnt + 1) (u % 4294967296) := ⟨_, rfl⟩
        have hot : cc o G16 ot (lq + 3) (za 808 O22) := by rw [← eO22.symm]; exact hot
        rw [← eK22, ← eN22, ← eO22] at hp22
        have hla22 : laI la218 K22 ((cnt + 1) + 1) := by rw [eK22]; exact laI_s hla9 hq21 (fun q => by omega)
        have htk22 : tkn K22 ((cnt + 1) + 1) = tkn K9 (cnt + 1) := by rw [eK22]; exact tkn_n (by omega) (by omega)
        have hkx22 : kext K9 K22 (cnt + 1) := by rw [eK22]; exact kext.zu (Int.le_refl _)
        have hks22 : K22 (cnt + 1) = 6 := by rw [eK22]; exact zu_self _ _ _
        have hsd22 : sdC K22 N22 O22 (cnt + 1) ((cnt + 1) + 1) (cnt + 1) 6 (w % 4294967296) (u % 4294967296) := ⟨⟨by omega, by omega⟩, by rw [eK22]; exact zu_self _ _ _, by rw [eN22]; exact zu_self _ _ _, by rw [eO22]; exact zu_self _ _ _⟩
        have hpx22 : pxt K9 N9 O9 RR (cnt + 1) ru K22 N22 O22 RR := by rw [eK22, eN22, eO22]; exact pxt.add (Int.le_refl _)
        change ab_W _ _ _ G16 71 [some (vR q), some (vj w), none, some (vj u), none, some (vz cnt), some (vz 0)] [vz (cnt + 1), vz cnt] _
        refine ab_callS (d' := d - 1) (as := [vz cnt, vz (cnt + 1)]) (st := []) (z_PR_pair (o := o) (f0 := cnt) (u0 := (cnt + 1)) (by omega)) (fun oc G2 h => by rcases h with ⟨h, _⟩ <;> exact ⟨_, h⟩) (by omega) m_PR_pair ml_PR_88 st_PR_pair (Nat.le_of_ble_eq_true rfl) d_PR_fork_71 rfl ?_
        intro v G23 hq
        rcases hq with ⟨hv, hGe⟩
        cases hv
        rw [hGe]
        change ab_W _ _ _ G16 74 [some (vR q), some (vj w), none, some (vj u), none, some (vz cnt), some (vz 0)] [vj (cnt * 4294967296 + (cnt + 1))] _
        refine ab_lret rfl d_PR_fork_74 ?_
        rw [hQ]; exact ⟨_, _, _, _, _, _, rfl, hfr, hlen, hsl, hq, hki, hne, hot, (by omega), (by omega), (by exact hp22), (by exact (hkx9.tr hkx22 (by omega))), (by exact hla22), (by exact tkn_0), (by omega), (by exact (hpx9.tr hpx22 (by omega) (by omega)).lt (by omega) (by omega)), (by exact foC.mk2 (hsd9.ex hpx22 (by omega) (by omega) (by omega) (by omega)) (hsd22.wd (by omega) (by omega)) (by omega) (by omega) (by omega) (by omega) (by omega) (by omega))⟩
    · refine ab_lload_n d_PR_fork_27 rfl ?_
      refine ab_callS (d' := d - 1) (as := [vj u]) (st := []) (z_PR_fresh (o := o) (w := u) (by omega)) (fun oc G2 h => by rcases h with ⟨h, _⟩ <;> exact ⟨_, h⟩) (by omega) m_PR_fresh ml_PR_96 st_PR_fresh (Nat.le_of_ble_eq_true rfl) d_PR_fork_28 rfl ?_
      intro v G24 hq
      rcases hq with ⟨hv, hGe⟩
      cases hv
      rw [hGe]
      change ab_W _ _ _ G3 31 [some (vR q), some (vj w), none, some (vj u), none, some (vz cnt), none] [vz (u / 4294967296)] _
      refine ab_lload_n d_PR_fork_31 rfl ?_
      refine ab_callS (d' := d - 1) (as := [vj u]) (st := [vz (u / 4294967296)]) (z_PR_used (o := o) (w := u) (by omega)) (fun oc G2 h => by rcases h with ⟨h, _⟩ <;> exact ⟨_, h⟩) (by omega) m_PR_used ml_PR_124 st_PR_used (Nat.le_of_ble_eq_true rfl) d_PR_fork_32 rfl ?_
      intro v G25 hq
      rcases hq with ⟨hv, hGe⟩
      cases hv
      rw [hGe]
      change ab_W _ _ _ G3 35 [some (vR q), some (vj w), none, some (vj u), none, some (vz cnt), none] [vz (u % 4294967296), vz (u / 4294967296)] _
      refine zz_icmp_ne (tgt := 42) d_PR_fork_35 (by decide) (by omega) (by omega) (fun c26 => ?_) (fun c26 => ?_)
      · refine zz_iconst d_PR_fork_42 ?_
        refine ab_istore d_PR_fork_43 (Nat.le_of_ble_eq_true rfl) (Nat.le_of_ble_eq_true rfl) rfl ?_
        change ab_W _ _ _ G3 45 [some (vR q), some (vj w), none, some (vj u), none, some (vz cnt), some (vz 0)] [] _
        refine ab_iload d_PR_fork_45 rfl ?_
        refine ab_iload d_PR_fork_47 rfl ?_
        refine zz_if_eq (tgt := 57) d_PR_fork_49 (by decide) (by decide) (fun c27 => ?_) (fun c27 => absurd c27 (by decide))
        refine ab_aload_n d_PR_fork_57 rfl ?_
        refine zz_bipush d_PR_fork_58 (by decide) ?_
        refine ab_lload_n d_PR_fork_60 rfl ?_
        refine ab_callS (d' := d - 1) (as := [vj w]) (st := [vz 6, vR q, vz cnt]) (z_PR_used (o := o) (w := w) (by omega)) (fun oc G2 h => by rcases h with ⟨h, _⟩ <;> exact ⟨_, h⟩) (by omega) m_PR_used ml_PR_124 st_PR_used (Nat.le_of_ble_eq_true rfl) d_PR_fork_61 rfl ?_
        intro v G28 hq
        rcases hq with ⟨hv, hGe⟩
        cases hv
        rw [hGe]
        change ab_W _ _ _ G3 64 [some (vR q), some (vj w), none, some (vj u), none, some (vz cnt), some (vz 0)] [vz (w % 4294967296), vz 6, vR q, vz cnt] _
        refine ab_lload_n d_PR_fork_64 rfl ?_
        refine ab_callS (d' := d - 1) (as := [vj u]) (st := [vz (w % 4294967296), vz 6, vR q, vz cnt]) (z_PR_used (o := o) (w := u) (by omega)) (fun oc G2 h => by rcases h with ⟨h, _⟩ <;> exact ⟨_, h⟩) (by omega) m_PR_used ml_PR_124 st_PR_used (Nat.le_of_ble_eq_true rfl) d_PR_fork_65 rfl ?_
        intro v G29 hq
        rcases hq with ⟨hv, hGe⟩
        cases hv
        rw [hGe]
        change ab_W _ _ _ G3 68 [some (vR q), some (vj w), none, some (vj u), none, some (vz cnt), some (vz 0)] [vz (u % 4294967296), vz (w % 4294967296), vz 6, vR q, vz cnt] _
        refine ab_callV (d' := d - 1) (as := [vz 6, vz (w % 4294967296), vz (u % 4294967296)]) (st := [vz cnt]) (r := _) (z_PR_add (o := o) (q := q) (lq := lq) (ki := ki) (ne := ne) (ot := ot) (cnt := (cnt + 1)) (fi := fi) (la := la25) (ra := ra) (ru := ru) (gr := gr) (wi := wi) (sz := sz) (fl := fl) (ve := ve) (mi := mi) (na := na) (nl := nl) (K := K9) (N := N9) (O := O9) (k0 := 6) (x0 := (w % 4294967296)) (v0 := (u % 4294967296)) hq hki hne hot (by omega) (by omega) (by omega)) (fun oc G2 h => by rcases h with ⟨h, _⟩ | ⟨_, h, _⟩ <;> exact ⟨_, h⟩) (by omega) m_PR_add ml_PR_84 im_PR_add se_PR_add c_PR hq.2.2 (Nat.le_of_ble_eq_true rfl) d_PR_fork_68 rfl ?_
        intro v G30 hq
        rcases hq with ⟨hv, hGe, hq31⟩ | ⟨la232, hv, hfk, hlk, hsk, hNq, hNki, hNne, hNot, hq33, hq34, hq35⟩
        · cases hv
          rw [hGe]
          change ab_W _ _ _ G3 71 [some (vR q), some (vj w), none, some (vj u), none, some (vz cnt), some (vz 0)] [vz 0, vz cnt] _
          exfalso; omega
        · cases hv
          have hra := hfk.get hra (by simp only [List.mem_cons, List.not_mem_nil, or_false]; omega)
          have hfr := hfr.tr hfk (by simp)
          have hlen := hlk.trans hlen
          have hsl := hsk.trans hsl
          have hq := hNq
          have hki := hNki
          have hne := hNne
          have hot := hNot
          change ab_W _ _ _ G30 71 [some (vR q), some (vj w), none, some (vj u), none, some (vz cnt), some (vz 0)] [vz (cnt + 1), vz cnt] _
          have hp36 := prok_add (k := 6) (x := (w % 4294967296)) (v := (u % 4294967296)) hp9 (by omega) (by omega) (by omega) (by omega) (by omega) (fun t => by omega) (fun t => absurd t (by decide)) (fun t => absurd t (by decide)) (fun t => absurd t (by decide)) (fun t => absurd t (by decide))
          obtain ⟨K36, eK36⟩ : ∃ z : Int → Int, z = zu K9 (cnt + 1) 6 := ⟨_, rfl⟩
          have hki : cc o G30 ki (lq + 1) (za 808 K36) := by rw [← eK36.symm]; exact hki
          obtain ⟨N36, eN36⟩ : ∃ z : Int → Int, z = zu N9 (cnt + 1) (w % 4294967296) := ⟨_, rfl⟩
          have hne : cc o G30 ne (lq + 2) (za 808 N36) := by rw [← eN36.symm]; exact hne
          obtain ⟨O36, eO36⟩ : ∃ z : Int → Int, z = zu O9 (cnt + 1) (u % 4294967296) := ⟨_, rfl⟩
          have hot : cc o G30 ot (lq + 3) (za 808 O36) := by rw [← eO36.symm]; exact hot
          rw [← eK36, ← eN36, ← eO36] at hp36
          have hla36 : laI la232 K36 ((cnt + 1) + 1) := by rw [eK36]; exact laI_s hla9 hq35 (fun q => by omega)
          have htk36 : tkn K36 ((cnt + 1) + 1) = tkn K9 (cnt + 1) := by rw [eK36]; exact tkn_n (by omega) (by omega)
          have hkx36 : kext K9 K36 (cnt + 1) := by rw [eK36]; exact kext.zu (Int.le_refl _)
          have hks36 : K36 (cnt + 1) = 6 := by rw [eK36]; exact zu_self _ _ _
          have hsd36 : sdC K36 N36 O36 (cnt + 1) ((cnt + 1) + 1) (cnt + 1) 6 (w % 4294967296) (u % 4294967296) := ⟨⟨by omega, by omega⟩, by rw [eK36]; exact zu_self _ _ _, by rw [eN36]; exact zu_self _ _ _, by rw [eO36]; exact zu_self _ _ _⟩
          have hpx36 : pxt K9 N9 O9 RR (cnt + 1) ru K36 N36 O36 RR := by rw [eK36, eN36, eO36]; exact pxt.add (Int.le_refl _)
          change ab_W _ _ _ G30 71 [some (vR q), some (vj w), none, some (vj u), none, some (vz cnt), some (vz 0)] [vz (cnt + 1), vz cnt] _
          refine ab_callS (d' := d - 1) (as := [vz cnt, vz (cnt + 1)]) (st := []) (z_PR_pair (o := o) (f0 := cnt) (u0 := (cnt + 1)) (by omega)) (fun oc G2 h => by rcases h with ⟨h, _⟩ <;> exact ⟨_, h⟩) (by omega) m_PR_pair ml_PR_88 st_PR_pair (Nat.le_of_ble_eq_true rfl) d_PR_fork_71 rfl ?_
          intro v G37 hq
          rcases hq with ⟨hv, hGe⟩
          cases hv
          rw [hGe]
          change ab_W _ _ _ G30 74 [some (vR q), some (vj w), none, some (vj u), none, some (vz cnt), some (vz 0)] [vj (cnt * 4294967296 + (cnt + 1))] _
          refine ab_lret rfl d_PR_fork_74 ?_
          rw [hQ]; exact ⟨_, _, _, _, _, _, rfl, hfr, hlen, hsl, hq, hki, hne, hot, (by omega), (by omega), (by exact hp36), (by exact (hkx9.tr hkx36 (by omega))), (by exact hla36), (by exact tkn_0), (by omega), (by exact (hpx9.tr hpx36 (by omega) (by omega)).lt (by omega) (by omega)), (by exact foC.mk2 (hsd9.ex hpx36 (by omega) (by omega) (by omega) (by omega)) (hsd36.wd (by omega) (by omega)) (by omega) (by omega) (by omega) (by omega) (by omega) (by omega))⟩
      · refine zz_iconst d_PR_fork_38 ?_
        refine ab_goto (tgt := 43) d_PR_fork_39 (by decide) ?_
        refine ab_istore d_PR_fork_43 (Nat.le_of_ble_eq_true rfl) (Nat.le_of_ble_eq_true rfl) rfl ?_
        change ab_W _ _ _ G3 45 [some (vR q), some (vj w), none, some (vj u), none, some (vz cnt), some (vz 1)] [] _
        refine ab_iload d_PR_fork_45 rfl ?_
        refine ab_iload d_PR_fork_47 rfl ?_
        refine zz_if_eq (tgt := 57) d_PR_fork_49 (by decide) (by decide) (fun c38 => absurd c38 (by decide)) (fun c38 => ?_)
        refine ab_iload d_PR_fork_52 rfl ?_
        refine ab_goto (tgt := 71) d_PR_fork_54 (by decide) ?_
        refine ab_callS (d' := d - 1) (as := [vz cnt, vz cnt]) (st := []) (z_PR_pair (o := o) (f0 := cnt) (u0 := cnt) (by omega)) (fun oc G2 h => by rcases h with ⟨h, _⟩ <;> exact ⟨_, h⟩) (by omega) m_PR_pair ml_PR_88 st_PR_pair (Nat.le_of_ble_eq_true rfl) d_PR_fork_71 rfl ?_
        intro v G39 hq
        rcases hq with ⟨hv, hGe⟩
        cases hv
        rw [hGe]
        change ab_W _ _ _ G3 74 [some (vR q), some (vj w), none, some (vj u), none, some (vz cnt), some (vz 1)] [vj (cnt * 4294967296 + cnt)] _
        refine ab_lret rfl d_PR_fork_74 ?_
        rw [hQ]; exact ⟨_, _, _, _, _, _, rfl, hfr, hlen, hsl, hq, hki, hne, hot, (by omega), (by omega), (by exact hp9), (by exact hkx9), (by exact hla9), (by exact tkn_0), (by omega), (by exact hpx9.lt (by omega) (by omega)), (by exact foC.mk1 (hsd9.wd (by omega) (by omega)) (by omega) (by omega) (by omega) (by omega) (by omega) (by omega))⟩
set_option maxRecDepth 100000 in
set_option maxHeartbeats 4000000 in
theorem z_PR_once {X : ab_X} {d : Nat} {o : Nat → Nat} {G : ab_G} {q : Nat} {lq : Nat} {ki : Nat} {ne : Nat} {ot : Nat} {cnt : Int} {fi : Int} {la : Int} {ra : Nat} {ru : Int} {gr : Int} {wi : Int} {sz : Int} {fl : Int} {ve : Int} {mi : Int} {na : Nat} {nl : Nat} {K : Int → Int} {N : Int → Int} {O : Int → Int} {RR : Int → Int} {nr : Nat} {ps : Nat → Nat} {wt : Nat → Wt} {bs : Nat} {ph : Int} {gq : Int} {p : Nat} {w : Int} {dd : Int} {cu : Nat → Int} {cs : Nat → Sn} {on : Nat → Sn} {re : Nat → Sn} {rg : Nat → Sn} {bq : Int} (hq : cc o G q lq (ab_ob 5 [vR ki, vR ne, vR ot, vz cnt, vz fi, vz la, vR ra, vz ru, vz gr, vz wi, vz sz, vz fl, vz ve, vz mi, vR na, vR nl])) (hki : cc o G ki (lq + 1) (za 808 K)) (hne : cc o G ne (lq + 2) (za 808 N)) (hot : cc o G ot (lq + 3) (za 808 O)) (hra : cc o G ra (lq + 4) (za nr RR)) (ppaI_0 : paI o G 0 ps wt bs gq (prc RR ru) ph) (pszB_0 : szB o G 0 ps cu) (pdnB_0 : dnB o G 0 ps wt cs on re rg RR ru) (n18 : ab_n0 = 18) (cq : 100 ≤ lq ∧ 2 ≤ cnt ∧ cnt ≤ 808 ∧ 0 ≤ la ∧ la ≤ 1 ∧ 0 ≤ ru ∧ ru ≤ ↑nr ∧ ↑nr ≤ (100000 : Int) ∧ 32 ≤ nr ∧ 0 ≤ ph ∧ ru + ph ≤ 50000) (hp_ : prok K N O RR cnt ru wi) (hch : rch RR ru) (hr : hrr RR ↑nr) (ck0 : K 0 = 9) (cg_ : 0 ≤ gq ∧ gq ≤ 9 ∧ wi = 2 * (gq + 1)) (hla : laI la K cnt) (ht0 : 0 ≤ tkn K cnt) (hpp : ps p = 90) (cw : 0 ≤ w ∧ w / 4294967296 < cnt ∧ w % 4294967296 < cnt) (cdd : 0 ≤ dd ∧ dd ≤ 30) (hdd : 6 * (31 - dd) + 6 ≤ (↑d : Int)) (rc : 32 * G.length + 103300 ≤ 32 * (ab_n0 + room_1.cells) + nr) (rs : ab_slots G + 200000 ≤ room_1.slots + 2 * nr) (hbq : bqo G cu p bq) (hht : hgt (on p) + dd ≤ 30) (hcb : (cnt + tkn K cnt) + 2 * bq ≤ 808) (ihR : ∀ {d : Nat} {o : Nat → Nat} {G : ab_G} {q : Nat} {lq : Nat} {ki : Nat} {ne : Nat} {ot : Nat} {cnt : Int} {fi : Int} {la : Int} {ra : Nat} {ru : Int} {gr : Int} {wi : Int} {sz : Int} {fl : Int} {ve : Int} {mi : Int} {na : Nat} {nl : Nat} {K : Int → Int} {N : Int → Int} {O : Int → Int} {RR : Int → Int} {nr : Nat} {ps : Nat → Nat} {wt : Nat → Wt} {bs : Nat} {ph : Int} {gq : Int} {p : Nat} {w : Int} {cu : Nat → Int} {cs : Nat → Sn} {on : Nat → Sn} {re : Nat → Sn} {rg : Nat → Sn} {bq : Int}, (cc o G q lq (ab_ob 5 [vR ki, vR ne, vR ot, vz cnt, vz fi, vz la, vR ra, vz ru, vz gr, vz wi, vz sz, vz fl, vz ve, vz mi, vR na, vR nl])) → (cc o G ki (lq + 1) (za 808 K)) → (cc o G ne (lq + 2) (za 808 N)) → (cc o G ot (lq + 3) (za 808 O)) → (cc o G ra (lq + 4) (za nr RR)) → (paI o G 0 ps wt bs gq (prc RR ru) ph) → (szB o G 0 ps cu) → (dnB o G 0 ps wt cs on re rg RR ru) → (ab_n0 = 18) → (100 ≤ lq ∧ 2 ≤ cnt ∧ cnt ≤ 808 ∧ 0 ≤ la ∧ la ≤ 1 ∧ 0 ≤ ru ∧ ru ≤ ↑nr ∧ ↑nr ≤ (100000 : Int) ∧ 32 ≤ nr ∧ 0 ≤ ph ∧ ru + ph ≤ 50000) → (prok K N O RR cnt ru wi) → (rch RR ru) → (hrr RR ↑nr) → (K 0 = 9) → (0 ≤ gq ∧ gq ≤ 9 ∧ wi = 2 * (gq + 1)) → (laI la K cnt) → (0 ≤ tkn K cnt) → (ps p = 90) → (0 ≤ w ∧ w / 4294967296 < cnt ∧ w % 4294967296 < cnt) → (0 ≤ (dd + 1) ∧ (dd + 1) ≤ 31) → (6 * (31 - (dd + 1)) + 10 ≤ (↑d : Int)) → (bqr G cu p bq) → (hgt (rg p) + (dd + 1) ≤ 30) → ((cnt + tkn K cnt) + 2 * bq ≤ 808) → (32 * G.length + 103300 ≤ 32 * (ab_n0 + room_1.cells) + nr) → (ab_slots G + 200000 ≤ room_1.slots + 2 * nr) → ab_F X d y_PR_rows (.code y_PR_rows b_PR_rows 8 (some (.long))) [vR q, vR p, vj w, vz (dd + 1)] G (fun oc G2 => ∃ o2 : Nat → Nat, ∃ w2 : Int, ∃ cnt2 : Int, ∃ la2 : Int, ∃ ra2 : Nat, ∃ nr2 : Nat, ∃ ru2 : Int, ∃ K2 : Int → Int, ∃ N2 : Int → Int, ∃ O2 : Int → Int, ∃ RR2 : Int → Int, ∃ ph2 : Int, oc = .returned (some (vj w2)) ∧ fx o o2 [lq, (lq + 1), (lq + 2), (lq + 3), (lq + 4), 90] G G2 ∧ cc o2 G2 q lq (ab_ob 5 [vR ki, vR ne, vR ot, vz cnt2, vz fi, vz la2, vR ra2, vz ru2, vz gr, vz wi, vz sz, vz fl, vz ve, vz mi, vR na, vR nl]) ∧ cc o2 G2 ki (lq + 1) (za 808 K2) ∧ cc o2 G2 ne (lq + 2) (za 808 N2) ∧ cc o2 G2 ot (lq + 3) (za 808 O2) ∧ cc o2 G2 ra2 (lq + 4) (za nr2 RR2) ∧ paI o2 G2 0 ps wt bs gq (prc RR2 ru2) ph2 ∧ szB o2 G2 0 ps cu ∧ dnB o2 G2 0 ps wt cs on re rg RR2 ru2 ∧ (cnt ≤ cnt2 ∧ cnt2 ≤ 808 ∧ 0 ≤ la2 ∧ la2 ≤ 1) ∧ (0 ≤ w2 ∧ w2 / 4294967296 < cnt2 ∧ w2 % 4294967296 < cnt2) ∧ (0 ≤ ru2 ∧ ru2 ≤ ↑nr2 ∧ ↑nr2 ≤ (100000 : Int) ∧ nr ≤ nr2) ∧ (0 ≤ ph2 ∧ ru2 + ph2 ≤ ru + ph) ∧ (prok K2 N2 O2 RR2 cnt2 ru2 wi) ∧ (hrr RR2 ↑nr2) ∧ (rch RR2 ru2) ∧ (kext K K2 cnt) ∧ (fzr ps o o2 G G2) ∧ (32 * G2.length + nr ≤ 32 * G.length + nr2) ∧ (ab_slots G2 + 2 * nr ≤ ab_slots G + 2 * nr2) ∧ (laI la2 K2 cnt2) ∧ (0 ≤ tkn K2 cnt2) ∧ (ru ≤ ru2) ∧ ((cnt2 + tkn K2 cnt2) ≤ (cnt + tkn K cnt) + 2 * bq) ∧ (pxt K N O RR cnt ru K2 N2 O2 RR2) ∧ (RP K2 N2 O2 RR2 ru2 cnt cnt2 w w2 (rg p)))) : ab_F X d y_PR_once (.code y_PR_once b_PR_once 7 (some (.long))) [vR q, vR p, vj w, vz dd] G (fun oc G2 => ∃ o2 : Nat → Nat, ∃ w2 : Int, ∃ cnt2 : Int, ∃ la2 : Int, ∃ ra2 : Nat, ∃ nr2 : Nat, ∃ ru2 : Int, ∃ K2 : Int → Int, ∃ N2 : Int → Int, ∃ O2 : Int → Int, ∃ RR2 : Int → Int, ∃ ph2 : Int, oc = .returned (some (vj w2)) ∧ fx o o2 [lq, (lq + 1), (lq + 2), (lq + 3), (lq + 4), 90] G G2 ∧ cc o2 G2 q lq (ab_ob 5 [vR ki, vR ne, vR ot, vz cnt2, vz fi, vz la2, vR ra2, vz ru2, vz gr, vz wi, vz sz, vz fl, vz ve, vz mi, vR na, vR nl]) ∧ cc o2 G2 ki (lq + 1) (za 808 K2) ∧ cc o2 G2 ne (lq + 2) (za 808 N2) ∧ cc o2 G2 ot (lq + 3) (za 808 O2) ∧ cc o2 G2 ra2 (lq + 4) (za nr2 RR2) ∧ paI o2 G2 0 ps wt bs gq (prc RR2 ru2) ph2 ∧ szB o2 G2 0 ps cu ∧ dnB o2 G2 0 ps wt cs on re rg RR2 ru2 ∧ (cnt ≤ cnt2 ∧ cnt2 ≤ 808 ∧ 0 ≤ la2 ∧ la2 ≤ 1) ∧ (0 ≤ w2 ∧ w2 / 4294967296 < cnt2 ∧ w2 % 4294967296 < cnt2) ∧ (0 ≤ ru2 ∧ ru2 ≤ ↑nr2 ∧ ↑nr2 ≤ (100000 : Int) ∧ nr ≤ nr2) ∧ (0 ≤ ph2 ∧ ru2 + ph2 ≤ ru + ph) ∧ (prok K2 N2 O2 RR2 cnt2 ru2 wi) ∧ (hrr RR2 ↑nr2) ∧ (rch RR2 ru2) ∧ (kext K K2 cnt) ∧ (fzr ps o o2 G G2) ∧ (32 * G2.length + nr ≤ 32 * G.length + nr2) ∧ (ab_slots G2 + 2 * nr ≤ ab_slots G + 2 * nr2) ∧ (laI la2 K2 cnt2) ∧ (0 ≤ tkn K2 cnt2) ∧ (ru ≤ ru2) ∧ ((cnt2 + tkn K2 cnt2) ≤ (cnt + tkn K cnt) + 2 * bq) ∧ (pxt K N O RR cnt ru K2 N2 O2 RR2) ∧ (RP K2 N2 O2 RR2 ru2 cnt cnt2 w w2 (on p))) := by
  refine ab_F_of (by decide +kernel) (Nat.le_of_ble_eq_true rfl) ?_
  obtain ⟨Q, hQ⟩ : ∃ z : Outcome → ab_G → Prop, z = (fun oc G2 => ∃ o2 : Nat → Nat, ∃ w2 : Int, ∃ cnt2 : Int, ∃ la2 : Int, ∃ ra2 : Nat, ∃ nr2 : Nat, ∃ ru2 : Int, ∃ K2 : Int → Int, ∃ N2 : Int → Int, ∃ O2 : Int → Int, ∃ RR2 : Int → Int, ∃ ph2 : Int, oc = .returned (some (vj w2)) ∧ fx o o2 [lq, (lq + 1), (lq + 2), (lq + 3), (lq + 4), 90] G G2 ∧ cc o2 G2 q lq (ab_ob 5 [vR ki, vR ne, vR ot, vz cnt2, vz fi, vz la2, vR ra2, vz ru2, vz gr, vz wi, vz sz, vz fl, vz ve, vz mi, vR na, vR nl]) ∧ cc o2 G2 ki (lq + 1) (za 808 K2) ∧ cc o2 G2 ne (lq + 2) (za 808 N2) ∧ cc o2 G2 ot (lq + 3) (za 808 O2) ∧ cc o2 G2 ra2 (lq + 4) (za nr2 RR2) ∧ paI o2 G2 0 ps wt bs gq (prc RR2 ru2) ph2 ∧ szB o2 G2 0 ps cu ∧ dnB o2 G2 0 ps wt cs on re rg RR2 ru2 ∧ (cnt ≤ cnt2 ∧ cnt2 ≤ 808 ∧ 0 ≤ la2 ∧ la2 ≤ 1) ∧ (0 ≤ w2 ∧ w2 / 4294967296 < cnt2 ∧ w2 % 4294967296 < cnt2) ∧ (0 ≤ ru2 ∧ ru2 ≤ ↑nr2 ∧ ↑nr2 ≤ (100000 : Int) ∧ nr ≤ nr2) ∧ (0 ≤ ph2 ∧ ru2 + ph2 ≤ ru + ph) ∧ (prok K2 N2 O2 RR2 cnt2 ru2 wi) ∧ (hrr RR2 ↑nr2) ∧ (rch RR2 ru2) ∧ (kext K K2 cnt) ∧ (fzr ps o o2 G G2) ∧ (32 * G2.length + nr ≤ 32 * G.length + nr2) ∧ (ab_slots G2 + 2 * nr ≤ ab_slots G + 2 * nr2) ∧ (laI la2 K2 cnt2) ∧ (0 ≤ tkn K2 cnt2) ∧ (ru ≤ ru2) ∧ ((cnt2 + tkn K2 cnt2) ≤ (cnt + tkn K cnt) + 2 * bq) ∧ (pxt K N O RR cnt ru K2 N2 O2 RR2) ∧ (RP K2 N2 O2 RR2 ru2 cnt cnt2 w w2 (on p))) := ⟨_, rfl⟩
  rw [← hQ]
  change ab_W X (ab_pl y_PR_once b_PR_once 7 (some (.long))) d G 0 [some (vR q), some (vR p), some (vj w), none, some (vz dd), none, none] [] Q
  have hfr : fx o o [lq, (lq + 1), (lq + 2), (lq + 3), (lq + 4), 90] G G := fx.rf
  have hzr : fzr ps o o G G := fzr.rf
  obtain ⟨k_1, v_1, rg_1, pl_1, fl_1, ou_1, ls_1, bf_1, sz_1, mb_1, oe_1, le_1, mo_1, la_1, rc_1, hp, hn1, hb1, hg1, ho1, hl1, hf1⟩ := ppaI_0.1 p hpp
  have hB1 := hb1
  unfold pnB at hB1
  have hK1 := hn1.1
  obtain ⟨hcsp_, hrep_, honp_, hrgp_, hoep_, hzzp_⟩ := pdnB_0.part hpp hp (by omega) (by omega) (by omega)
  have hbe_ := bqo_e hp (by omega) (by omega) hbq
  have hlv_ := lvc_0 pszB_0.c0 ls_1
  refine ab_aload_n d_PR_once_0 rfl ?_
  refine ab_getf (fs := [vz k_1, vz v_1, rg_1, vz pl_1, vz fl_1, ou_1, ls_1, bf_1, vz sz_1, vz mb_1, vz oe_1, vz le_1, vz mo_1, vz la_1, vz rc_1]) f_PR_162 d_PR_once_1 hp.2.2 rfl ?_
  refine zz_iconst d_PR_once_4 ?_
  refine zz_icmp_ne (tgt := 26) d_PR_once_5 (by decide) (by omega) (by decide) (fun c2 => ?_) (fun c2 => ?_)
  · refine ab_aload_n d_PR_once_26 rfl ?_
    refine ab_getf (fs := [vz k_1, vz v_1, rg_1, vz pl_1, vz fl_1, ou_1, ls_1, bf_1, vz sz_1, vz mb_1, vz oe_1, vz le_1, vz mo_1, vz la_1, vz rc_1]) f_PR_162 d_PR_once_27 hp.2.2 rfl ?_
    refine zz_iconst d_PR_once_30 ?_
    refine zz_icmp_ne (tgt := 75) d_PR_once_31 (by decide) (by omega) (by decide) (fun c3 => ?_) (fun c3 => absurd c3 (by omega))
    refine ab_aload_n d_PR_once_75 rfl ?_
    refine ab_getf (fs := [vz k_1, vz v_1, rg_1, vz pl_1, vz fl_1, ou_1, ls_1, bf_1, vz sz_1, vz mb_1, vz oe_1, vz le_1, vz mo_1, vz la_1, vz rc_1]) f_PR_162 d_PR_once_76 hp.2.2 rfl ?_
    refine zz_iconst d_PR_once_79 ?_
    refine zz_icmp_ne (tgt := 94) d_PR_once_80 (by decide) (by omega) (by decide) (fun c4 => ?_) (fun c4 => ?_)
    · have hpn_ := pin_1 (k := k_1) (v := v_1) (by omega)
      refine ab_aload_n d_PR_once_94 rfl ?_
      refine ab_aload_n d_PR_once_95 rfl ?_
      refine ab_getf (fs := [vz k_1, vz v_1, rg_1, vz pl_1, vz fl_1, ou_1, ls_1, bf_1, vz sz_1, vz mb_1, vz oe_1, vz le_1, vz mo_1, vz la_1, vz rc_1]) f_PR_162 d_PR_once_96 hp.2.2 rfl ?_
      refine ab_lload_n d_PR_once_99 rfl ?_
      refine ab_callS (d' := d - 1) (as := [vj w]) (st := [vz k_1, vR q]) (z_PR_used (o := o) (w := w) (by omega)) (fun oc G2 h => by rcases h with ⟨h, _⟩ <;> exact ⟨_, h⟩) (by omega) m_PR_used ml_PR_124 st_PR_used (Nat.le_of_ble_eq_true rfl) d_PR_once_100 rfl ?_
      intro v G5 hq
      rcases hq with ⟨hv, hGe⟩
      cases hv
      rw [hGe]
      change ab_W _ _ _ G 103 [some (vR q), some (vR p), some (vj w), none, some (vz dd), none, none] [vz (w % 4294967296), vz k_1, vR q] _
      refine ab_aload_n d_PR_once_103 rfl ?_
      refine ab_getf (fs := [vz k_1, vz v_1, rg_1, vz pl_1, vz fl_1, ou_1, ls_1, bf_1, vz sz_1, vz mb_1, vz oe_1, vz le_1, vz mo_1, vz la_1, vz rc_1]) f_PR_162 d_PR_once_104 hp.2.2 rfl ?_
      refine zz_iconst d_PR_once_107 ?_
      refine zz_icmp_ne (tgt := 119) d_PR_once_108 (by decide) (by omega) (by decide) (fun c6 => ?_) (fun c6 => ?_)
      · refine ab_aload_n d_PR_once_119 rfl ?_
        refine ab_getf (fs := [vz k_1, vz v_1, rg_1, vz pl_1, vz fl_1, ou_1, ls_1, bf_1, vz sz_1, vz mb_1, vz oe_1, vz le_1, vz mo_1, vz la_1, vz rc_1]) f_PR_165 d_PR_once_120 hp.2.2 rfl ?_
        refine ab_callV (d' := d - 1) (as := [vz k_1, vz (w % 4294967296), vz v_1]) (st := []) (r := _) (z_PR_add (o := o) (q := q) (lq := lq) (ki := ki) (ne := ne) (ot := ot) (cnt := cnt) (fi := fi) (la := la) (ra := ra) (ru := ru) (gr := gr) (wi := wi) (sz := sz) (fl := fl) (ve := ve) (mi := mi) (na := na) (nl := nl) (K := K) (N := N) (O := O) (k0 := k_1) (x0 := (w % 4294967296)) (v0 := v_1) hq hki hne hot (by omega) (by omega) (by omega)) (fun oc G2 h => by rcases h with ⟨h, _⟩ | ⟨_, h, _⟩ <;> exact ⟨_, h⟩) (by omega) m_PR_add ml_PR_84 im_PR_add se_PR_add c_PR hq.2.2 (Nat.le_of_ble_eq_true rfl) d_PR_once_123 rfl ?_
        intro v G7 hq
        rcases hq with ⟨hv, hGe, hq8⟩ | ⟨la29, hv, hfk, hlk, hsk, hNq, hNki, hNne, hNot, hq10, hq11, hq12⟩
        · cases hv
          rw [hGe]
          change ab_W _ _ _ G 126 [some (vR q), some (vR p), some (vj w), none, some (vz dd), none, none] [vz 0] _
          exfalso; omega
        · cases hv
          have hzr := hzr.tr (fzr.fx hfk (by simp only [List.mem_cons, List.not_mem_nil, or_false]; omega))
          have hra := hfk.get hra (by simp only [List.mem_cons, List.not_mem_nil, or_false]; omega)
          have hp := hfk.get hp (by simp only [List.mem_cons, List.not_mem_nil, or_false]; omega)
          have pszB_0 := szB.fr hfk pszB_0 (by simp only [List.mem_cons, List.not_mem_nil, or_false]; omega) (by simp only [List.mem_cons, List.not_mem_nil, or_false]; omega)
          have pdnB_0 := dnB.fr hfk ppaI_0 pdnB_0 (by simp only [List.mem_cons, List.not_mem_nil, or_false]; omega) (by simp only [List.mem_cons, List.not_mem_nil, or_false]; omega)
          have ppaI_0 := paI.fr hfk ppaI_0 (by simp only [List.mem_cons, List.not_mem_nil, or_false]; omega) (by simp only [List.mem_cons, List.not_mem_nil, or_false]; omega) (by simp only [List.mem_cons, List.not_mem_nil, or_false]; omega) (by intro xx hx; simp only [List.mem_cons, List.not_mem_nil, or_false] at hx; omega)
          have hfr := hfr.tr hfk (by simp)
          have hq13 := hlk
          have hq14 := hsk
          have hq := hNq
          have hki := hNki
          have hne := hNne
          have hot := hNot
          change ab_W _ _ _ G7 126 [some (vR q), some (vR p), some (vj w), none, some (vz dd), none, none] [vz cnt] _
          have hp15 := prok_add (k := k_1) (x := (w % 4294967296)) (v := v_1) hp_ (by omega) (by omega) (by omega) (by omega) (by omega) (fun t => absurd t (by omega)) (fun t => absurd t (by omega)) (fun t => absurd t (by omega)) (fun t => by have hv0 := hn1.2.1 (by omega); omega) (fun t => absurd t (by omega))
          obtain ⟨K15, eK15⟩ : ∃ z : Int → Int, z = zu K cnt k_1 := ⟨_, rfl⟩
          have hki : cc o G7 ki (lq + 1) (za 808 K15) := by rw [← eK15.symm]; exact hki
          obtain ⟨N15, eN15⟩ : ∃ z : Int → Int, z = zu N cnt (w % 4294967296) := ⟨_, rfl⟩
          have hne : cc o G7 ne (lq + 2) (za 808 N15) := by rw [← eN15.symm]; exact hne
          obtain ⟨O15, eO15⟩ : ∃ z : Int → Int, z = zu O cnt v_1 := ⟨_, rfl⟩
          have hot : cc o G7 ot (lq + 3) (za 808 O15) := by rw [← eO15.symm]; exact hot
          rw [← eK15, ← eN15, ← eO15] at hp15
          have hla15 : laI la29 K15 (cnt + 1) := by rw [eK15]; exact laI_s hla hq12 (fun q => by omega)
          have htk15 : tkn K15 (cnt + 1) = tkn K cnt + 1 := by rw [eK15]; exact tkn_y (by omega) (by omega)
          have hkx15 : kext K K15 cnt := by rw [eK15]; exact kext.zu (Int.le_refl _)
          have hks15 : K15 cnt = k_1 := by rw [eK15]; exact zu_self _ _ _
          have hsd15 : sdC K15 N15 O15 cnt (cnt + 1) cnt k_1 (w % 4294967296) v_1 := ⟨⟨by omega, by omega⟩, by rw [eK15]; exact zu_self _ _ _, by rw [eN15]; exact zu_self _ _ _, by rw [eO15]; exact zu_self _ _ _⟩
          have hpx15 : pxt K N O RR cnt ru K15 N15 O15 RR := by rw [eK15, eN15, eO15]; exact pxt.add (Int.le_refl _)
          change ab_W _ _ _ G7 126 [some (vR q), some (vR p), some (vj w), none, some (vz dd), none, none] [vz cnt] _
          refine ab_istore d_PR_once_126 (Nat.le_of_ble_eq_true rfl) (Nat.le_of_ble_eq_true rfl) rfl ?_
          change ab_W _ _ _ G7 128 [some (vR q), some (vR p), some (vj w), none, some (vz dd), some (vz cnt), none] [] _
          refine ab_iload d_PR_once_128 rfl ?_
          refine ab_iload d_PR_once_130 rfl ?_
          refine ab_callS (d' := d - 1) (as := [vz cnt, vz cnt]) (st := []) (z_PR_pair (o := o) (f0 := cnt) (u0 := cnt) (by omega)) (fun oc G2 h => by rcases h with ⟨h, _⟩ <;> exact ⟨_, h⟩) (by omega) m_PR_pair ml_PR_88 st_PR_pair (Nat.le_of_ble_eq_true rfl) d_PR_once_132 rfl ?_
          intro v G16 hq
          rcases hq with ⟨hv, hGe⟩
          cases hv
          rw [hGe]
          change ab_W _ _ _ G7 135 [some (vR q), some (vR p), some (vj w), none, some (vz dd), some (vz cnt), none] [vj (cnt * 4294967296 + cnt)] _
          refine ab_lret rfl d_PR_once_135 ?_
          rw [hQ]; exact ⟨_, _, _, _, _, _, _, _, _, _, _, _, rfl, hfr, hq, hki, hne, hot, hra, ppaI_0, pszB_0, pdnB_0, (by omega), (by omega), (by omega), (by omega), (by exact hp15), (by exact hr), (by exact hch), (by exact hkx15), (by exact hzr), (by omega), (by omega), (by exact hla15), (by exact tkn_0), (by omega), (by first | (have t := pin_v (k := k_1) (v := v_1) (by omega) (by omega); omega) | (have t := pin_1 (k := k_1) (v := v_1) (by omega); omega) | (have t := pin_0 k_1 v_1; omega)), (by exact hpx15.lt (by omega) (by omega)), (by exact (RP_lf (S := (wt p).2) (x := rg p) (hsd15.wd (by omega) (by omega)) (by omega) v_1 (fun _ => rfl) (fun t => absurd t (by omega)) (by omega) (by omega)).e honp_.symm)⟩
      · refine ab_aload_n d_PR_once_111 rfl ?_
        refine ab_aload_n d_PR_once_112 rfl ?_
        refine ab_callV (d' := d - 1) (as := [vR p]) (st := [vz (w % 4294967296), vz k_1, vR q]) (r := _) (z_PR_recordOf (o := o) (q := q) (lq := lq) (ki := ki) (ne := ne) (ot := ot) (cnt := cnt) (fi := fi) (la := la) (ra := ra) (ru := ru) (gr := gr) (wi := wi) (sz := sz) (fl := fl) (ve := ve) (mi := mi) (na := na) (nl := nl) (RR := RR) (nr := nr) (kp := k_1) (vp := v_1) (rgp := rg_1) (plp := pl_1) (flp := fl_1) (oup := ou_1) (lsp := ls_1) (bfp := bf_1) (szp := sz_1) (mbp := mb_1) (oep := oe_1) (lep := le_1) (mop := mo_1) (lap := la_1) (rcp := rc_1) (ps := ps) (wt := wt) (bs := bs) (ph := ph) (gq := gq) (p := p) (cu := cu) (cs := cs) (on := on) (re := re) (rg := rg) hq hra hp ppaI_0 pszB_0 pdnB_0 (by omega) (by omega) hp_ hch hr hpp (by omega) hn1 (by omega) (by omega) (by omega) (by omega)) (fun oc G2 h => by rcases h with ⟨_, _, _, _, _, _, _, _, h, _⟩ <;> exact ⟨_, h⟩) (by omega) m_PR_recordOf ml_PR_172 im_PR_recordOf se_PR_recordOf c_PR hq.2.2 (Nat.le_of_ble_eq_true rfl) d_PR_once_113 rfl ?_
        intro v G17 hq
        rcases hq with ⟨o18, v19, ra220, nr221, ru222, RR223, ph224, rc225, hv, hfk, hNq, hNra220, hNp, pNpaI_0, pNszB_0, pNdnB_0, hq26, hq27, hq28, hq29, hq30, hq31, hq32, hq33, hq34, hq35, hq36, hq37⟩
        cases hv
        have hzr := hzr.tr hq35
        have hki := hfk.get hki (by simp only [List.mem_cons, List.not_mem_nil, or_false]; omega)
        have hne := hfk.get hne (by simp only [List.mem_cons, List.not_mem_nil, or_false]; omega)
        have hot := hfk.get hot (by simp only [List.mem_cons, List.not_mem_nil, or_false]; omega)
        have ppaI_0 := pNpaI_0
        have pszB_0 := pNszB_0
        have pdnB_0 := pNdnB_0
        have hfr := hfr.tr hfk (by simp)
        have hq38 := hfk.1
        have hq := hNq
        have hra220 := hNra220
        have hp := hNp
        change ab_W _ _ _ G17 116 [some (vR q), some (vR p), some (vj w), none, some (vz dd), none, none] [vz v19, vz (w % 4294967296), vz k_1, vR q] _
        refine ab_goto (tgt := 123) d_PR_once_116 (by decide) ?_
        refine ab_callV (d' := d - 1) (as := [vz k_1, vz (w % 4294967296), vz v19]) (st := []) (r := _) (z_PR_add (o := o18) (q := q) (lq := lq) (ki := ki) (ne := ne) (ot := ot) (cnt := cnt) (fi := fi) (la := la) (ra := ra220) (ru := ru222) (gr := gr) (wi := wi) (sz := sz) (fl := fl) (ve := ve) (mi := mi) (na := na) (nl := nl) (K := K) (N := N) (O := O) (k0 := k_1) (x0 := (w % 4294967296)) (v0 := v19) hq hki hne hot (by omega) (by omega) (by omega)) (fun oc G2 h => by rcases h with ⟨h, _⟩ | ⟨_, h, _⟩ <;> exact ⟨_, h⟩) (by omega) m_PR_add ml_PR_84 im_PR_add se_PR_add c_PR hq.2.2 (Nat.le_of_ble_eq_true rfl) d_PR_once_123 rfl ?_
        intro v G39 hq
        rcases hq with ⟨hv, hGe, hq40⟩ | ⟨la241, hv, hfk, hlk, hsk, hNq, hNki, hNne, hNot, hq42, hq43, hq44⟩
        · cases hv
          rw [hGe]
          change ab_W _ _ _ G17 126 [some (vR q), some (vR p), some (vj w), none, some (vz dd), none, none] [vz 0] _
          exfalso; omega
        · cases hv
          have hzr := hzr.tr (fzr.fx hfk (by simp only [List.mem_cons, List.not_mem_nil, or_false]; omega))
          have hp := hfk.get hp (by simp only [List.mem_cons, List.not_mem_nil, or_false]; omega)
          have hra220 := hfk.get hra220 (by simp only [List.mem_cons, List.not_mem_nil, or_false]; omega)
          have pszB_0 := szB.fr hfk pszB_0 (by simp only [List.mem_cons, List.not_mem_nil, or_false]; omega) (by simp only [List.mem_cons, List.not_mem_nil, or_false]; omega)
          have pdnB_0 := dnB.fr hfk ppaI_0 pdnB_0 (by simp only [List.mem_cons, List.not_mem_nil, or_false]; omega) (by simp only [List.mem_cons, List.not_mem_nil, or_false]; omega)
          have ppaI_0 := paI.fr hfk ppaI_0 (by simp only [List.mem_cons, List.not_mem_nil, or_false]; omega) (by simp only [List.mem_cons, List.not_mem_nil, or_false]; omega) (by simp only [List.mem_cons, List.not_mem_nil, or_false]; omega) (by intro xx hx; simp only [List.mem_cons, List.not_mem_nil, or_false] at hx; omega)
          have hfr := hfr.tr hfk (by simp)
          have hq45 := hlk
          have hq46 := hsk
          have hq := hNq
          have hki := hNki
          have hne := hNne
          have hot := hNot
          change ab_W _ _ _ G39 126 [some (vR q), some (vR p), some (vj w), none, some (vz dd), none, none] [vz cnt] _
          have hp47 := prok_add (k := k_1) (x := (w % 4294967296)) (v := v19) hq31 (by omega) (by omega) (by omega) (by omega) (by omega) (fun t => absurd t (by omega)) (fun t => absurd t (by omega)) (fun t => absurd t (by omega)) (fun t => by have hv0 := hn1.2.1 (by omega); omega) (fun t => hq26)
          obtain ⟨K47, eK47⟩ : ∃ z : Int → Int, z = zu K cnt k_1 := ⟨_, rfl⟩
          have hki : cc o18 G39 ki (lq + 1) (za 808 K47) := by rw [← eK47.symm]; exact hki
          obtain ⟨N47, eN47⟩ : ∃ z : Int → Int, z = zu N cnt (w % 4294967296) := ⟨_, rfl⟩
          have hne : cc o18 G39 ne (lq + 2) (za 808 N47) := by rw [← eN47.symm]; exact hne
          obtain ⟨O47, eO47⟩ : ∃ z : Int → Int, z = zu O cnt v19 := ⟨_, rfl⟩
          have hot : cc o18 G39 ot (lq + 3) (za 808 O47) := by rw [← eO47.symm]; exact hot
          rw [← eK47, ← eN47, ← eO47] at hp47
          have hla47 : laI la241 K47 (cnt + 1) := by rw [eK47]; exact laI_s hla hq44 (fun q => by omega)
          have htk47 : tkn K47 (cnt + 1) = tkn K cnt + 1 := by rw [eK47]; exact tkn_y (by omega) (by omega)
          have hkx47 : kext K K47 cnt := by rw [eK47]; exact kext.zu (Int.le_refl _)
          have hks47 : K47 cnt = k_1 := by rw [eK47]; exact zu_self _ _ _
          have hsd47 : sdC K47 N47 O47 cnt (cnt + 1) cnt k_1 (w % 4294967296) v19 := ⟨⟨by omega, by omega⟩, by rw [eK47]; exact zu_self _ _ _, by rw [eN47]; exact zu_self _ _ _, by rw [eO47]; exact zu_self _ _ _⟩
          have hpx47 : pxt K N O RR223 cnt ru222 K47 N47 O47 RR223 := by rw [eK47, eN47, eO47]; exact pxt.add (Int.le_refl _)
          change ab_W _ _ _ G39 126 [some (vR q), some (vR p), some (vj w), none, some (vz dd), none, none] [vz cnt] _
          refine ab_istore d_PR_once_126 (Nat.le_of_ble_eq_true rfl) (Nat.le_of_ble_eq_true rfl) rfl ?_
          change ab_W _ _ _ G39 128 [some (vR q), some (vR p), some (vj w), none, some (vz dd), some (vz cnt), none] [] _
          refine ab_iload d_PR_once_128 rfl ?_
          refine ab_iload d_PR_once_130 rfl ?_
          refine ab_callS (d' := d - 1) (as := [vz cnt, vz cnt]) (st := []) (z_PR_pair (o := o18) (f0 := cnt) (u0 := cnt) (by omega)) (fun oc G2 h => by rcases h with ⟨h, _⟩ <;> exact ⟨_, h⟩) (by omega) m_PR_pair ml_PR_88 st_PR_pair (Nat.le_of_ble_eq_true rfl) d_PR_once_132 rfl ?_
          intro v G48 hq
          rcases hq with ⟨hv, hGe⟩
          cases hv
          rw [hGe]
          change ab_W _ _ _ G39 135 [some (vR q), some (vR p), some (vj w), none, some (vz dd), some (vz cnt), none] [vj (cnt * 4294967296 + cnt)] _
          refine ab_lret rfl d_PR_once_135 ?_
          rw [hQ]; exact ⟨_, _, _, _, _, _, _, _, _, _, _, _, rfl, hfr, hq, hki, hne, hot, hra220, ppaI_0, pszB_0, pdnB_0, (by omega), (by omega), (by omega), (by omega), (by exact hp47), (by exact hq32), (by exact hq30), (by exact hkx47), (by exact hzr), (by omega), (by omega), (by exact hla47), (by exact tkn_0), (by omega), (by first | (have t := pin_v (k := k_1) (v := v_1) (by omega) (by omega); omega) | (have t := pin_1 (k := k_1) (v := v_1) (by omega); omega) | (have t := pin_0 k_1 v_1; omega)), (by exact (hq28.tr hpx47 (by omega) (by omega)).lt (by omega) (by omega)), (by exact (RP_lf (S := (wt p).2) (x := rg p) (hsd47.wd (by omega) (by omega)) (by omega) v_1 (fun t => absurd (show k_1 = 1 by omega) t) (fun _ => ⟨hq26, hq29⟩) (by omega) (by omega)).e honp_.symm)⟩
    · have hpn_ := pin_1 (k := k_1) (v := v_1) (by omega)
      have hv3 := hn1.2.2.1 (by omega)
      refine ab_aload_n d_PR_once_83 rfl ?_
      refine zz_iconst d_PR_once_84 ?_
      refine ab_lload_n d_PR_once_85 rfl ?_
      refine ab_aload_n d_PR_once_86 rfl ?_
      refine ab_getf (fs := [vz k_1, vz v_1, rg_1, vz pl_1, vz fl_1, ou_1, ls_1, bf_1, vz sz_1, vz mb_1, vz oe_1, vz le_1, vz mo_1, vz la_1, vz rc_1]) f_PR_165 d_PR_once_87 hp.2.2 rfl ?_
      refine ab_callV (d' := d - 1) (as := [vz 3, vj w, vz v_1]) (st := []) (r := _) (za_PR_addPair (o := o) (q := q) (lq := lq) (ki := ki) (ne := ne) (ot := ot) (cnt := cnt) (fi := fi) (la := la) (ra := ra) (ru := ru) (gr := gr) (wi := wi) (sz := sz) (fl := fl) (ve := ve) (mi := mi) (na := na) (nl := nl) (K := K) (N := N) (O := O) (RR := RR) (nr := nr) (w := w) (vl := v_1) hq hki hne hot hra (by omega) (by omega) hp_ (by omega) (by omega) (by omega) hla (by omega) (by omega)) (fun oc G2 h => by rcases h with ⟨_, _, _, _, _, _, h, _⟩ <;> exact ⟨_, h⟩) (by omega) m_PR_addPair ml_PR_168 im_PR_addPair se_PR_addPair c_PR hq.2.2 (Nat.le_of_ble_eq_true rfl) d_PR_once_90 rfl ?_
      intro v G49 hq
      rcases hq with ⟨w250, cnt251, la252, K253, N254, O255, hv, hfk, hlk, hsk, hNq, hNki, hNne, hNot, hq56, hq57, hq58, hq59, hq60, hq61, hq62, hq63, hq64⟩
      cases hv
      have hzr := hzr.tr (fzr.fx hfk (by simp only [List.mem_cons, List.not_mem_nil, or_false]; omega))
      have hra := hfk.get hra (by simp only [List.mem_cons, List.not_mem_nil, or_false]; omega)
      have hp := hfk.get hp (by simp only [List.mem_cons, List.not_mem_nil, or_false]; omega)
      have pszB_0 := szB.fr hfk pszB_0 (by simp only [List.mem_cons, List.not_mem_nil, or_false]; omega) (by simp only [List.mem_cons, List.not_mem_nil, or_false]; omega)
      have pdnB_0 := dnB.fr hfk ppaI_0 pdnB_0 (by simp only [List.mem_cons, List.not_mem_nil, or_false]; omega) (by simp only [List.mem_cons, List.not_mem_nil, or_false]; omega)
      have ppaI_0 := paI.fr hfk ppaI_0 (by simp only [List.mem_cons, List.not_mem_nil, or_false]; omega) (by simp only [List.mem_cons, List.not_mem_nil, or_false]; omega) (by simp only [List.mem_cons, List.not_mem_nil, or_false]; omega) (by intro xx hx; simp only [List.mem_cons, List.not_mem_nil, or_false] at hx; omega)
      have hfr := hfr.tr hfk (by simp)
      have hq65 := hlk
      have hq66 := hsk
      have hq := hNq
      have hki := hNki
      have hne := hNne
      have hot := hNot
      change ab_W _ _ _ G49 93 [some (vR q), some (vR p), some (vj w), none, some (vz dd), none, none] [vj w250] _
      refine ab_lret rfl d_PR_once_93 ?_
      rw [hQ]; exact ⟨_, _, _, _, _, _, _, _, _, _, _, _, rfl, hfr, hq, hki, hne, hot, hra, ppaI_0, pszB_0, pdnB_0, (by omega), (by omega), (by omega), (by omega), (by exact hq58), (by exact hr), (by exact hch), (by exact hq59), (by exact hzr), (by omega), (by omega), (by exact hq60), (by exact tkn_0), (by omega), (by first | (have t := pin_v (k := k_1) (v := v_1) (by omega) (by omega); omega) | (have t := pin_1 (k := k_1) (v := v_1) (by omega); omega) | (have t := pin_0 k_1 v_1; omega)), (by exact hq63.lt (by omega) (by omega)), (by exact (RP_Q (hq64.wd (by omega) (by omega))).e (by rw [honp_, show k_1 = 3 by omega]; exact onS_3.symm))⟩
  · refine ab_aload_n d_PR_once_8 rfl ?_
    refine ab_getf (fs := [vz k_1, vz v_1, rg_1, vz pl_1, vz fl_1, ou_1, ls_1, bf_1, vz sz_1, vz mb_1, vz oe_1, vz le_1, vz mo_1, vz la_1, vz rc_1]) f_PR_165 d_PR_once_9 hp.2.2 rfl ?_
    refine zz_if_ne (tgt := 26) d_PR_once_12 (by decide) (by omega) (fun c67 => ?_) (fun c67 => ?_)
    · refine ab_aload_n d_PR_once_26 rfl ?_
      refine ab_getf (fs := [vz k_1, vz v_1, rg_1, vz pl_1, vz fl_1, ou_1, ls_1, bf_1, vz sz_1, vz mb_1, vz oe_1, vz le_1, vz mo_1, vz la_1, vz rc_1]) f_PR_162 d_PR_once_27 hp.2.2 rfl ?_
      refine zz_iconst d_PR_once_30 ?_
      refine zz_icmp_ne (tgt := 75) d_PR_once_31 (by decide) (by omega) (by decide) (fun c68 => absurd c68 (by omega)) (fun c68 => ?_)
      have hpn_ := pin_v (k := k_1) (v := v_1) (by omega) (by omega)
      have hgo_ : hgt (on p) = hgt (rg p) + 1 := by rw [honp_, show k_1 = 4 by omega, onS_4]; exact hgt_G
      have hv4 := hn1.2.2.2.1 (by omega)
      refine ab_aload_n d_PR_once_34 rfl ?_
      refine ab_aload_n d_PR_once_35 rfl ?_
      refine ab_aload_n d_PR_once_36 rfl ?_
      refine zz_bipush d_PR_once_37 (by decide) ?_
      refine ab_lload_n d_PR_once_39 rfl ?_
      refine zz_iconst d_PR_once_40 ?_
      refine ab_aload_n d_PR_once_41 rfl ?_
      refine ab_getf (fs := [vz k_1, vz v_1, rg_1, vz pl_1, vz fl_1, ou_1, ls_1, bf_1, vz sz_1, vz mb_1, vz oe_1, vz le_1, vz mo_1, vz la_1, vz rc_1]) f_PR_165 d_PR_once_42 hp.2.2 rfl ?_
      refine zz_imul d_PR_once_45 ?_
      refine zz_iconst d_PR_once_46 ?_
      refine zz_iadd d_PR_once_47 ?_
      refine ab_callV (d' := d - 1) (as := [vz 7, vj w, vz ((2 * v_1) + 1)]) (st := [vR p, vR q]) (r := _) (zs_PR_addPair (o := o) (q := q) (lq := lq) (ki := ki) (ne := ne) (ot := ot) (cnt := cnt) (fi := fi) (la := la) (ra := ra) (ru := ru) (gr := gr) (wi := wi) (sz := sz) (fl := fl) (ve := ve) (mi := mi) (na := na) (nl := nl) (K := K) (N := N) (O := O) (RR := RR) (nr := nr) (w := w) (vl := ((2 * v_1) + 1)) hq hki hne hot hra (by omega) (by omega) hp_ (by omega) (by omega) (by omega) hla (by omega) (by omega)) (fun oc G2 h => by rcases h with ⟨_, _, _, _, _, _, h, _⟩ <;> exact ⟨_, h⟩) (by omega) m_PR_addPair ml_PR_168 im_PR_addPair se_PR_addPair c_PR hq.2.2 (Nat.le_of_ble_eq_true rfl) d_PR_once_48 rfl ?_
      intro v G69 hq
      rcases hq with ⟨w270, cnt271, la272, K273, N274, O275, hv, hfk, hlk, hsk, hNq, hNki, hNne, hNot, hq76, hq77, hq78, hq79, hq80, hq81, hq82, hq83, hq84⟩
      cases hv
      have hzr := hzr.tr (fzr.fx hfk (by simp only [List.mem_cons, List.not_mem_nil, or_false]; omega))
      have hra := hfk.get hra (by simp only [List.mem_cons, List.not_mem_nil, or_false]; omega)
      have hp := hfk.get hp (by simp only [List.mem_cons, List.not_mem_nil, or_false]; omega)
      have pszB_0 := szB.fr hfk pszB_0 (by simp only [List.mem_cons, List.not_mem_nil, or_false]; omega) (by simp only [List.mem_cons, List.not_mem_nil, or_false]; omega)
      have pdnB_0 := dnB.fr hfk ppaI_0 pdnB_0 (by simp only [List.mem_cons, List.not_mem_nil, or_false]; omega) (by simp only [List.mem_cons, List.not_mem_nil, or_false]; omega)
      have ppaI_0 := paI.fr hfk ppaI_0 (by simp only [List.mem_cons, List.not_mem_nil, or_false]; omega) (by simp only [List.mem_cons, List.not_mem_nil, or_false]; omega) (by simp only [List.mem_cons, List.not_mem_nil, or_false]; omega) (by intro xx hx; simp only [List.mem_cons, List.not_mem_nil, or_false] at hx; omega)
      have hfr := hfr.tr hfk (by simp)
      have hq85 := hlk
      have hq86 := hsk
      have hq := hNq
      have hki := hNki
      have hne := hNne
      have hot := hNot
      change ab_W _ _ _ G69 51 [some (vR q), some (vR p), some (vj w), none, some (vz dd), none, none] [vj w270, vR p, vR q] _
      refine ab_iload d_PR_once_51 rfl ?_
      refine zz_iconst d_PR_once_53 ?_
      refine zz_iadd d_PR_once_54 ?_
      refine ab_callV (d' := d - 1) (as := [vR p, vj w270, vz (dd + 1)]) (st := []) (r := _) (ihR (o := o) (q := q) (lq := lq) (ki := ki) (ne := ne) (ot := ot) (cnt := cnt271) (fi := fi) (la := la272) (ra := ra) (ru := ru) (gr := gr) (wi := wi) (sz := sz) (fl := fl) (ve := ve) (mi := mi) (na := na) (nl := nl) (K := K273) (N := N274) (O := O275) (RR := RR) (nr := nr) (ps := ps) (wt := wt) (bs := bs) (ph := ph) (gq := gq) (p := p) (w := w270) (cu := cu) (cs := cs) (on := on) (re := re) (rg := rg) (bq := (lvc cu ls_1)) hq hki hne hot hra ppaI_0 pszB_0 pdnB_0 (by omega) (by omega) hq78 hch hr ((hq79 0 (by omega) (by omega)).trans ck0) (by omega) hq80 (by omega) hpp (by omega) (by omega) (by omega) (bqr_c hp ⟨hlv_, Int.le_refl _⟩) (by omega) (by omega) (by omega) (by omega)) (fun oc G2 h => by rcases h with ⟨_, _, _, _, _, _, _, _, _, _, _, _, h, _⟩ <;> exact ⟨_, h⟩) (by omega) m_PR_rows ml_PR_92 im_PR_rows se_PR_rows c_PR hq.2.2 (Nat.le_of_ble_eq_true rfl) d_PR_once_55 rfl ?_
      intro v G87 hq
      rcases hq with ⟨o88, w289, cnt290, la291, ra292, nr293, ru294, K295, N296, O297, RR298, ph299, hv, hfk, hNq, hNki, hNne, hNot, hNra292, pNpaI_0, pNszB_0, pNdnB_0, hq100, hq101, hq102, hq103, hq104, hq105, hq106, hq107, hq108, hq109, hq110, hq111, hq112, hq113, hq114, hq115, hq116⟩
      cases hv
      have hzr := hzr.tr hq108
      obtain ⟨rc117, hKp⟩ := hq108 _ _ _ _ _ _ _ _ _ _ _ _ _ _ _ _ hpp hp
      have hp := hKp
      have ppaI_0 := pNpaI_0
      have pszB_0 := pNszB_0
      have pdnB_0 := pNdnB_0
      have hfr := hfr.tr hfk (by simp)
      have hq118 := hfk.1
      have hq := hNq
      have hki := hNki
      have hne := hNne
      have hot := hNot
      have hra292 := hNra292
      change ab_W _ _ _ G87 58 [some (vR q), some (vR p), some (vj w), none, some (vz dd), none, none] [vj w289] _
      refine ab_lstore d_PR_once_58 (Nat.le_of_ble_eq_true rfl) (Nat.le_of_ble_eq_true rfl) rfl ?_
      change ab_W _ _ _ G87 60 [some (vR q), some (vR p), some (vj w), none, some (vz dd), some (vj w289), none] [] _
      refine ab_aload_n d_PR_once_60 rfl ?_
      refine zz_bipush d_PR_once_61 (by decide) ?_
      refine ab_lload d_PR_once_63 rfl ?_
      refine zz_iconst d_PR_once_65 ?_
      refine ab_aload_n d_PR_once_66 rfl ?_
      refine ab_getf (fs := [vz k_1, vz v_1, rg_1, vz pl_1, vz fl_1, ou_1, ls_1, bf_1, vz sz_1, vz mb_1, vz oe_1, vz le_1, vz mo_1, vz la_1, vz rc117]) f_PR_165 d_PR_once_67 hp.2.2 rfl ?_
      refine zz_imul d_PR_once_70 ?_
      refine ab_callV (d' := d - 1) (as := [vz 7, vj w289, vz (2 * v_1)]) (st := []) (r := _) (zs_PR_addPair (o := o88) (q := q) (lq := lq) (ki := ki) (ne := ne) (ot := ot) (cnt := cnt290) (fi := fi) (la := la291) (ra := ra292) (ru := ru294) (gr := gr) (wi := wi) (sz := sz) (fl := fl) (ve := ve) (mi := mi) (na := na) (nl := nl) (K := K295) (N := N296) (O := O297) (RR := RR298) (nr := nr293) (w := w289) (vl := (2 * v_1)) hq hki hne hot hra292 (by omega) (by omega) hq104 (by omega) (by omega) (by omega) hq111 (by omega) (by omega)) (fun oc G2 h => by rcases h with ⟨_, _, _, _, _, _, h, _⟩ <;> exact ⟨_, h⟩) (by omega) m_PR_addPair ml_PR_168 im_PR_addPair se_PR_addPair c_PR hq.2.2 (Nat.le_of_ble_eq_true rfl) d_PR_once_71 rfl ?_
      intro v G119 hq
      rcases hq with ⟨w2120, cnt2121, la2122, K2123, N2124, O2125, hv, hfk, hlk, hsk, hNq, hNki, hNne, hNot, hq126, hq127, hq128, hq129, hq130, hq131, hq132, hq133, hq134⟩
      cases hv
      have hzr := hzr.tr (fzr.fx hfk (by simp only [List.mem_cons, List.not_mem_nil, or_false]; omega))
      have hp := hfk.get hp (by simp only [List.mem_cons, List.not_mem_nil, or_false]; omega)
      have hra292 := hfk.get hra292 (by simp only [List.mem_cons, List.not_mem_nil, or_false]; omega)
      have pszB_0 := szB.fr hfk pszB_0 (by simp only [List.mem_cons, List.not_mem_nil, or_false]; omega) (by simp only [List.mem_cons, List.not_mem_nil, or_false]; omega)
      have pdnB_0 := dnB.fr hfk ppaI_0 pdnB_0 (by simp only [List.mem_cons, List.not_mem_nil, or_false]; omega) (by simp only [List.mem_cons, List.not_mem_nil, or_false]; omega)
      have ppaI_0 := paI.fr hfk ppaI_0 (by simp only [List.mem_cons, List.not_mem_nil, or_false]; omega) (by simp only [List.mem_cons, List.not_mem_nil, or_false]; omega) (by simp only [List.mem_cons, List.not_mem_nil, or_false]; omega) (by intro xx hx; simp only [List.mem_cons, List.not_mem_nil, or_false] at hx; omega)
      have hfr := hfr.tr hfk (by simp)
      have hq135 := hlk
      have hq136 := hsk
      have hq := hNq
      have hki := hNki
      have hne := hNne
      have hot := hNot
      change ab_W _ _ _ G119 74 [some (vR q), some (vR p), some (vj w), none, some (vz dd), some (vj w289), none] [vj w2120] _
      refine ab_lret rfl d_PR_once_74 ?_
      rw [hQ]; exact ⟨_, _, _, _, _, _, _, _, _, _, _, _, rfl, hfr, hq, hki, hne, hot, hra292, ppaI_0, pszB_0, pdnB_0, (by omega), (by omega), (by omega), (by omega), (by exact hq128), (by exact hq105), (by exact hq106), (by exact ((hq79.tr hq107 (by omega)).tr hq129 (by omega))), (by exact hzr), (by omega), (by omega), (by exact hq130), (by exact tkn_0), (by omega), (by first | (have t := pin_v (k := k_1) (v := v_1) (by omega) (by omega); omega) | (have t := pin_1 (k := k_1) (v := v_1) (by omega); omega) | (have t := pin_0 k_1 v_1; omega)), (by exact ((hq83.tr hq115 (by omega) (by omega)).tr hq133 (by omega) (by omega)).lt (by omega) (by omega)), (by exact (RP_G (k := v_1) (by omega) (hq84.ex (hq115.tr hq133 (by omega) (by omega)) (by omega) (by omega) (by omega) (by omega)) (hq116.up hq133 (by omega) (by omega) (by omega) (by omega) (by omega)) (hq134.wd (by omega) (by omega))).e (by rw [honp_, show k_1 = 4 by omega]; exact onS_4.symm))⟩
    · have hpn_ := pin_0 k_1 v_1
      have hgo_ : hgt (on p) = hgt (rg p) + 1 := by rw [honp_, show k_1 = 4 by omega, onS_4]; exact hgt_G
      refine ab_aload_n d_PR_once_15 rfl ?_
      refine ab_aload_n d_PR_once_16 rfl ?_
      refine ab_lload_n d_PR_once_17 rfl ?_
      refine ab_iload d_PR_once_18 rfl ?_
      refine zz_iconst d_PR_once_20 ?_
      refine zz_iadd d_PR_once_21 ?_
      refine ab_callV (d' := d - 1) (as := [vR p, vj w, vz (dd + 1)]) (st := []) (r := _) (ihR (o := o) (q := q) (lq := lq) (ki := ki) (ne := ne) (ot := ot) (cnt := cnt) (fi := fi) (la := la) (ra := ra) (ru := ru) (gr := gr) (wi := wi) (sz := sz) (fl := fl) (ve := ve) (mi := mi) (na := na) (nl := nl) (K := K) (N := N) (O := O) (RR := RR) (nr := nr) (ps := ps) (wt := wt) (bs := bs) (ph := ph) (gq := gq) (p := p) (w := w) (cu := cu) (cs := cs) (on := on) (re := re) (rg := rg) (bq := (lvc cu ls_1)) hq hki hne hot hra ppaI_0 pszB_0 pdnB_0 (by omega) (by omega) hp_ hch hr ck0 (by omega) hla (by omega) hpp (by omega) (by omega) (by omega) (bqr_c hp ⟨hlv_, Int.le_refl _⟩) (by omega) (by omega) (by omega) (by omega)) (fun oc G2 h => by rcases h with ⟨_, _, _, _, _, _, _, _, _, _, _, _, h, _⟩ <;> exact ⟨_, h⟩) (by omega) m_PR_rows ml_PR_92 im_PR_rows se_PR_rows c_PR hq.2.2 (Nat.le_of_ble_eq_true rfl) d_PR_once_22 rfl ?_
      intro v G137 hq
      rcases hq with ⟨o138, w2139, cnt2140, la2141, ra2142, nr2143, ru2144, K2145, N2146, O2147, RR2148, ph2149, hv, hfk, hNq, hNki, hNne, hNot, hNra2142, pNpaI_0, pNszB_0, pNdnB_0, hq150, hq151, hq152, hq153, hq154, hq155, hq156, hq157, hq158, hq159, hq160, hq161, hq162, hq163, hq164, hq165, hq166⟩
      cases hv
      have hzr := hzr.tr hq158
      obtain ⟨rc167, hKp⟩ := hq158 _ _ _ _ _ _ _ _ _ _ _ _ _ _ _ _ hpp hp
      have hp := hKp
      have ppaI_0 := pNpaI_0
      have pszB_0 := pNszB_0
      have pdnB_0 := pNdnB_0
      have hfr := hfr.tr hfk (by simp)
      have hq168 := hfk.1
      have hq := hNq
      have hki := hNki
      have hne := hNne
      have hot := hNot
      have hra2142 := hNra2142
      change ab_W _ _ _ G137 25 [some (vR q), some (vR p), some (vj w), none, some (vz dd), none, none] [vj w2139] _
      refine ab_lret rfl d_PR_once_25 ?_
      rw [hQ]; exact ⟨_, _, _, _, _, _, _, _, _, _, _, _, rfl, hfr, hq, hki, hne, hot, hra2142, ppaI_0, pszB_0, pdnB_0, (by omega), (by omega), (by omega), (by omega), (by exact hq154), (by exact hq155), (by exact hq156), (by exact hq157), (by exact hzr), (by omega), (by omega), (by exact hq161), (by exact tkn_0), (by omega), (by first | (have t := pin_v (k := k_1) (v := v_1) (by omega) (by omega); omega) | (have t := pin_1 (k := k_1) (v := v_1) (by omega); omega) | (have t := pin_0 k_1 v_1; omega)), (by exact hq165.lt (by omega) (by omega)), (by exact (RP_G0 (hq166.wd (by omega) (by omega))).e (by rw [honp_, show k_1 = 4 by omega, show v_1 = 0 by omega]; exact onS_4.symm))⟩
set_option maxRecDepth 100000 in
set_option maxHeartbeats 4000000 in
theorem z_PR_loop {X : ab_X} {d : Nat} {o : Nat → Nat} {G : ab_G} {q : Nat} {lq : Nat} {ki : Nat} {ne : Nat} {ot : Nat} {cnt : Int} {fi : Int} {la : Int} {ra : Nat} {ru : Int} {gr : Int} {wi : Int} {sz : Int} {fl : Int} {ve : Int} {mi : Int} {na : Nat} {nl : Nat} {K : Int → Int} {N : Int → Int} {O : Int → Int} {RR : Int → Int} {nr : Nat} {ps : Nat → Nat} {wt : Nat → Wt} {bs : Nat} {ph : Int} {gq : Int} {p : Nat} {w : Int} {dd : Int} {cu : Nat → Int} {cs : Nat → Sn} {on : Nat → Sn} {re : Nat → Sn} {rg : Nat → Sn} {bq : Int} {lz : Int} (hq : cc o G q lq (ab_ob 5 [vR ki, vR ne, vR ot, vz cnt, vz fi, vz la, vR ra, vz ru, vz gr, vz wi, vz sz, vz fl, vz ve, vz mi, vR na, vR nl])) (hki : cc o G ki (lq + 1) (za 808 K)) (hne : cc o G ne (lq + 2) (za 808 N)) (hot : cc o G ot (lq + 3) (za 808 O)) (hra : cc o G ra (lq + 4) (za nr RR)) (ppaI_0 : paI o G 0 ps wt bs gq (prc RR ru) ph) (pszB_0 : szB o G 0 ps cu) (pdnB_0 : dnB o G 0 ps wt cs on re rg RR ru) (n18 : ab_n0 = 18) (cq : 100 ≤ lq ∧ 2 ≤ cnt ∧ cnt ≤ 808 ∧ 0 ≤ la ∧ la ≤ 1 ∧ 0 ≤ ru ∧ ru ≤ ↑nr ∧ ↑nr ≤ (100000 : Int) ∧ 32 ≤ nr ∧ 0 ≤ ph ∧ ru + ph ≤ 50000) (hp_ : prok K N O RR cnt ru wi) (hch : rch RR ru) (hr : hrr RR ↑nr) (ck0 : K 0 = 9) (cg_ : 0 ≤ gq ∧ gq ≤ 9 ∧ wi = 2 * (gq + 1)) (hla : laI la K cnt) (ht0 : 0 ≤ tkn K cnt) (hpp : ps p = 90) (cw : 0 ≤ w ∧ w / 4294967296 < cnt ∧ w % 4294967296 < cnt) (cdd : 0 ≤ dd ∧ dd ≤ 30) (hdd : 6 * (31 - dd) + 7 ≤ (↑d : Int)) (rc : 32 * G.length + 103300 ≤ 32 * (ab_n0 + room_1.cells) + nr) (rs : ab_slots G + 200000 ≤ room_1.slots + 2 * nr) (hbq : bqo G cu p bq) (hht : hgt (on p) + dd ≤ 30) (hcb : (cnt + tkn K cnt) + 2 * bq + 2 ≤ 808) (hlz : pfi G p 13 = lz) (hm9 : pfi G p 12 = 1000) (ihR : ∀ {d : Nat} {o : Nat → Nat} {G : ab_G} {q : Nat} {lq : Nat} {ki : Nat} {ne : Nat} {ot : Nat} {cnt : Int} {fi : Int} {la : Int} {ra : Nat} {ru : Int} {gr : Int} {wi : Int} {sz : Int} {fl : Int} {ve : Int} {mi : Int} {na : Nat} {nl : Nat} {K : Int → Int} {N : Int → Int} {O : Int → Int} {RR : Int → Int} {nr : Nat} {ps : Nat → Nat} {wt : Nat → Wt} {bs : Nat} {ph : Int} {gq : Int} {p : Nat} {w : Int} {cu : Nat → Int} {cs : Nat → Sn} {on : Nat → Sn} {re : Nat → Sn} {rg : Nat → Sn} {bq : Int}, (cc o G q lq (ab_ob 5 [vR ki, vR ne, vR ot, vz cnt, vz fi, vz la, vR ra, vz ru, vz gr, vz wi, vz sz, vz fl, vz ve, vz mi, vR na, vR nl])) → (cc o G ki (lq + 1) (za 808 K)) → (cc o G ne (lq + 2) (za 808 N)) → (cc o G ot (lq + 3) (za 808 O)) → (cc o G ra (lq + 4) (za nr RR)) → (paI o G 0 ps wt bs gq (prc RR ru) ph) → (szB o G 0 ps cu) → (dnB o G 0 ps wt cs on re rg RR ru) → (ab_n0 = 18) → (100 ≤ lq ∧ 2 ≤ cnt ∧ cnt ≤ 808 ∧ 0 ≤ la ∧ la ≤ 1 ∧ 0 ≤ ru ∧ ru ≤ ↑nr ∧ ↑nr ≤ (100000 : Int) ∧ 32 ≤ nr ∧ 0 ≤ ph ∧ ru + ph ≤ 50000) → (prok K N O RR cnt ru wi) → (rch RR ru) → (hrr RR ↑nr) → (K 0 = 9) → (0 ≤ gq ∧ gq ≤ 9 ∧ wi = 2 * (gq + 1)) → (laI la K cnt) → (0 ≤ tkn K cnt) → (ps p = 90) → (0 ≤ w ∧ w / 4294967296 < cnt ∧ w % 4294967296 < cnt) → (0 ≤ (dd + 1) ∧ (dd + 1) ≤ 31) → (6 * (31 - (dd + 1)) + 10 ≤ (↑d : Int)) → (bqr G cu p bq) → (hgt (rg p) + (dd + 1) ≤ 30) → ((cnt + tkn K cnt) + 2 * bq ≤ 808) → (32 * G.length + 103300 ≤ 32 * (ab_n0 + room_1.cells) + nr) → (ab_slots G + 200000 ≤ room_1.slots + 2 * nr) → ab_F X d y_PR_rows (.code y_PR_rows b_PR_rows 8 (some (.long))) [vR q, vR p, vj w, vz (dd + 1)] G (fun oc G2 => ∃ o2 : Nat → Nat, ∃ w2 : Int, ∃ cnt2 : Int, ∃ la2 : Int, ∃ ra2 : Nat, ∃ nr2 : Nat, ∃ ru2 : Int, ∃ K2 : Int → Int, ∃ N2 : Int → Int, ∃ O2 : Int → Int, ∃ RR2 : Int → Int, ∃ ph2 : Int, oc = .returned (some (vj w2)) ∧ fx o o2 [lq, (lq + 1), (lq + 2), (lq + 3), (lq + 4), 90] G G2 ∧ cc o2 G2 q lq (ab_ob 5 [vR ki, vR ne, vR ot, vz cnt2, vz fi, vz la2, vR ra2, vz ru2, vz gr, vz wi, vz sz, vz fl, vz ve, vz mi, vR na, vR nl]) ∧ cc o2 G2 ki (lq + 1) (za 808 K2) ∧ cc o2 G2 ne (lq + 2) (za 808 N2) ∧ cc o2 G2 ot (lq + 3) (za 808 O2) ∧ cc o2 G2 ra2 (lq + 4) (za nr2 RR2) ∧ paI o2 G2 0 ps wt bs gq (prc RR2 ru2) ph2 ∧ szB o2 G2 0 ps cu ∧ dnB o2 G2 0 ps wt cs on re rg RR2 ru2 ∧ (cnt ≤ cnt2 ∧ cnt2 ≤ 808 ∧ 0 ≤ la2 ∧ la2 ≤ 1) ∧ (0 ≤ w2 ∧ w2 / 4294967296 < cnt2 ∧ w2 % 4294967296 < cnt2) ∧ (0 ≤ ru2 ∧ ru2 ≤ ↑nr2 ∧ ↑nr2 ≤ (100000 : Int) ∧ nr ≤ nr2) ∧ (0 ≤ ph2 ∧ ru2 + ph2 ≤ ru + ph) ∧ (prok K2 N2 O2 RR2 cnt2 ru2 wi) ∧ (hrr RR2 ↑nr2) ∧ (rch RR2 ru2) ∧ (kext K K2 cnt) ∧ (fzr ps o o2 G G2) ∧ (32 * G2.length + nr ≤ 32 * G.length + nr2) ∧ (ab_slots G2 + 2 * nr ≤ ab_slots G + 2 * nr2) ∧ (laI la2 K2 cnt2) ∧ (0 ≤ tkn K2 cnt2) ∧ (ru ≤ ru2) ∧ ((cnt2 + tkn K2 cnt2) ≤ (cnt + tkn K cnt) + 2 * bq) ∧ (pxt K N O RR cnt ru K2 N2 O2 RR2) ∧ (RP K2 N2 O2 RR2 ru2 cnt cnt2 w w2 (rg p)))) : ab_F X d y_PR_loop (.code y_PR_loop b_PR_loop 8 (some (.long))) [vR q, vR p, vj w, vz dd] G (fun oc G2 => ∃ o2 : Nat → Nat, ∃ w2 : Int, ∃ cnt2 : Int, ∃ la2 : Int, ∃ ra2 : Nat, ∃ nr2 : Nat, ∃ ru2 : Int, ∃ K2 : Int → Int, ∃ N2 : Int → Int, ∃ O2 : Int → Int, ∃ RR2 : Int → Int, ∃ ph2 : Int, oc = .returned (some (vj w2)) ∧ fx o o2 [lq, (lq + 1), (lq + 2), (lq + 3), (lq + 4), 90] G G2 ∧ cc o2 G2 q lq (ab_ob 5 [vR ki, vR ne, vR ot, vz cnt2, vz fi, vz la2, vR ra2, vz ru2, vz gr, vz wi, vz sz, vz fl, vz ve, vz mi, vR na, vR nl]) ∧ cc o2 G2 ki (lq + 1) (za 808 K2) ∧ cc o2 G2 ne (lq + 2) (za 808 N2) ∧ cc o2 G2 ot (lq + 3) (za 808 O2) ∧ cc o2 G2 ra2 (lq + 4) (za nr2 RR2) ∧ paI o2 G2 0 ps wt bs gq (prc RR2 ru2) ph2 ∧ szB o2 G2 0 ps cu ∧ dnB o2 G2 0 ps wt cs on re rg RR2 ru2 ∧ (cnt ≤ cnt2 ∧ cnt2 ≤ 808 ∧ 0 ≤ la2 ∧ la2 ≤ 1) ∧ (0 ≤ w2 ∧ w2 / 4294967296 < cnt2 ∧ w2 % 4294967296 < cnt2) ∧ (0 ≤ ru2 ∧ ru2 ≤ ↑nr2 ∧ ↑nr2 ≤ (100000 : Int) ∧ nr ≤ nr2) ∧ (0 ≤ ph2 ∧ ru2 + ph2 ≤ ru + ph) ∧ (prok K2 N2 O2 RR2 cnt2 ru2 wi) ∧ (hrr RR2 ↑nr2) ∧ (rch RR2 ru2) ∧ (kext K K2 cnt) ∧ (fzr ps o o2 G G2) ∧ (32 * G2.length + nr ≤ 32 * G.length + nr2) ∧ (ab_slots G2 + 2 * nr ≤ ab_slots G + 2 * nr2) ∧ (laI la2 K2 cnt2) ∧ (0 ≤ tkn K2 cnt2) ∧ (ru ≤ ru2) ∧ ((cnt2 + tkn K2 cnt2) ≤ (cnt + tkn K cnt) + 2 * bq + 2) ∧ (pxt K N O RR cnt ru K2 N2 O2 RR2) ∧ (RP K2 N2 O2 RR2 ru2 cnt cnt2 w w2 (mnR 0 1000 lz (on p)))) := by
  refine ab_F_of (by decide +kernel) (Nat.le_of_ble_eq_true rfl) ?_
  obtain ⟨Q, hQ⟩ : ∃ z : Outcome → ab_G → Prop, z = (fun oc G2 => ∃ o2 : Nat → Nat, ∃ w2 : Int, ∃ cnt2 : Int, ∃ la2 : Int, ∃ ra2 : Nat, ∃ nr2 : Nat, ∃ ru2 : Int, ∃ K2 : Int → Int, ∃ N2 : Int → Int, ∃ O2 : Int → Int, ∃ RR2 : Int → Int, ∃ ph2 : Int, oc = .returned (some (vj w2)) ∧ fx o o2 [lq, (lq + 1), (lq + 2), (lq + 3), (lq + 4), 90] G G2 ∧ cc o2 G2 q lq (ab_ob 5 [vR ki, vR ne, vR ot, vz cnt2, vz fi, vz la2, vR ra2, vz ru2, vz gr, vz wi, vz sz, vz fl, vz ve, vz mi, vR na, vR nl]) ∧ cc o2 G2 ki (lq + 1) (za 808 K2) ∧ cc o2 G2 ne (lq + 2) (za 808 N2) ∧ cc o2 G2 ot (lq + 3) (za 808 O2) ∧ cc o2 G2 ra2 (lq + 4) (za nr2 RR2) ∧ paI o2 G2 0 ps wt bs gq (prc RR2 ru2) ph2 ∧ szB o2 G2 0 ps cu ∧ dnB o2 G2 0 ps wt cs on re rg RR2 ru2 ∧ (cnt ≤ cnt2 ∧ cnt2 ≤ 808 ∧ 0 ≤ la2 ∧ la2 ≤ 1) ∧ (0 ≤ w2 ∧ w2 / 4294967296 < cnt2 ∧ w2 % 4294967296 < cnt2) ∧ (0 ≤ ru2 ∧ ru2 ≤ ↑nr2 ∧ ↑nr2 ≤ (100000 : Int) ∧ nr ≤ nr2) ∧ (0 ≤ ph2 ∧ ru2 + ph2 ≤ ru + ph) ∧ (prok K2 N2 O2 RR2 cnt2 ru2 wi) ∧ (hrr RR2 ↑nr2) ∧ (rch RR2 ru2) ∧ (kext K K2 cnt) ∧ (fzr ps o o2 G G2) ∧ (32 * G2.length + nr ≤ 32 * G.length + nr2) ∧ (ab_slots G2 + 2 * nr ≤ ab_slots G + 2 * nr2) ∧ (laI la2 K2 cnt2) ∧ (0 ≤ tkn K2 cnt2) ∧ (ru ≤ ru2) ∧ ((cnt2 + tkn K2 cnt2) ≤ (cnt + tkn K cnt) + 2 * bq + 2) ∧ (pxt K N O RR cnt ru K2 N2 O2 RR2) ∧ (RP K2 N2 O2 RR2 ru2 cnt cnt2 w w2 (mnR 0 1000 lz (on p)))) := ⟨_, rfl⟩
  rw [← hQ]
  change ab_W X (ab_pl y_PR_loop b_PR_loop 8 (some (.long))) d G 0 [some (vR q), some (vR p), some (vj w), none, some (vz dd), none, none, none] [] Q
  have hfr : fx o o [lq, (lq + 1), (lq + 2), (lq + 3), (lq + 4), 90] G G := fx.rf
  have hzr : fzr ps o o G G := fzr.rf
  obtain ⟨k_1, v_1, rg_1, pl_1, fl_1, ou_1, ls_1, bf_1, sz_1, mb_1, oe_1, le_1, mo_1, la_1, rc_1, hp, hn1, hb1, hg1, ho1, hl1, hf1⟩ := ppaI_0.1 p hpp
  have hB1 := hb1
  unfold pnB at hB1
  have hK1 := hn1.1
  obtain ⟨hcsp_, hrep_, honp_, hrgp_, hoep_, hzzp_⟩ := pdnB_0.part hpp hp (by omega) (by omega) (by omega)
  have hla_ : la_1 = lz := (fi_mb hp (by omega)).2.2.symm.trans hlz
  have hmo_ : mo_1 = 1000 := (fi_pa hp (by omega) (by omega)).2.2.2.2.symm.trans hm9
  have hbe_ := bqo_e hp (by omega) (by omega) hbq
  have hlv_ := lvc_0 pszB_0.c0 ls_1
  refine ab_aload_n d_PR_loop_0 rfl ?_
  refine zz_bipush d_PR_loop_1 (by decide) ?_
  refine zz_iconst d_PR_loop_3 ?_
  refine zz_iconst d_PR_loop_4 ?_
  refine ab_callV (d' := d - 1) (as := [vz 6, vz 0, vz 0]) (st := []) (r := _) (z_PR_add (o := o) (q := q) (lq := lq) (ki := ki) (ne := ne) (ot := ot) (cnt := cnt) (fi := fi) (la := la) (ra := ra) (ru := ru) (gr := gr) (wi := wi) (sz := sz) (fl := fl) (ve := ve) (mi := mi) (na := na) (nl := nl) (K := K) (N := N) (O := O) (k0 := 6) (x0 := 0) (v0 := 0) hq hki hne hot (by omega) (by omega) (by omega)) (fun oc G2 h => by rcases h with ⟨h, _⟩ | ⟨_, h, _⟩ <;> exact ⟨_, h⟩) (by omega) m_PR_add ml_PR_84 im_PR_add se_PR_add c_PR hq.2.2 (Nat.le_of_ble_eq_true rfl) d_PR_loop_5 rfl ?_
  intro v G2 hq
  rcases hq with ⟨hv, hGe, hq3⟩ | ⟨la24, hv, hfk, hlk, hsk, hNq, hNki, hNne, hNot, hq5, hq6, hq7⟩
  · cases hv
    rw [hGe]
    change ab_W _ _ _ G 8 [some (vR q), some (vR p), some (vj w), none, some (vz dd), none, none, none] [vz 0] _
    exfalso; omega
  · cases hv
    have hzr := hzr.tr (fzr.fx hfk (by simp only [List.mem_cons, List.not_mem_nil, or_false]; omega))
    have hra := hfk.get hra (by simp only [List.mem_cons, List.not_mem_nil, or_false]; omega)
    have hp := hfk.get hp (by simp only [List.mem_cons, List.not_mem_nil, or_false]; omega)
    have pszB_0 := szB.fr hfk pszB_0 (by simp only [List.mem_cons, List.not_mem_nil, or_false]; omega) (by simp only [List.mem_cons, List.not_mem_nil, or_false]; omega)
    have pdnB_0 := dnB.fr hfk ppaI_0 pdnB_0 (by simp only [List.mem_cons, List.not_mem_nil, or_false]; omega) (by simp only [List.mem_cons, List.not_mem_nil, or_false]; omega)
    have ppaI_0 := paI.fr hfk ppaI_0 (by simp only [List.mem_cons, List.not_mem_nil, or_false]; omega) (by simp only [List.mem_cons, List.not_mem_nil, or_false]; omega) (by simp only [List.mem_cons, List.not_mem_nil, or_false]; omega) (by intro xx hx; simp only [List.mem_cons, List.not_mem_nil, or_false] at hx; omega)
    have hfr := hfr.tr hfk (by simp)
    have hq8 := hlk
    have hq9 := hsk
    have hq := hNq
    have hki := hNki
    have hne := hNne
    have hot := hNot
    change ab_W _ _ _ G2 8 [some (vR q), some (vR p), some (vj w), none, some (vz dd), none, none, none] [vz cnt] _
    have hp10 := prok_add (k := 6) (x := 0) (v := 0) hp_ (by omega) (by omega) (by omega) (by omega) (by omega) (fun t => by omega) (fun t => absurd t (by decide)) (fun t => absurd t (by decide)) (fun t => absurd t (by decide)) (fun t => absurd t (by decide))
    obtain ⟨K10, eK10⟩ : ∃ z : Int → Int, z = zu K cnt 6 := ⟨_, rfl⟩
    have hki : cc o G2 ki (lq + 1) (za 808 K10) := by rw [← eK10.symm]; exact hki
    obtain ⟨N10, eN10⟩ : ∃ z : Int → Int, z = zu N cnt 0 := ⟨_, rfl⟩
    have hne : cc o G2 ne (lq + 2) (za 808 N10) := by rw [← eN10.symm]; exact hne
    obtain ⟨O10, eO10⟩ : ∃ z : Int → Int, z = zu O cnt 0 := ⟨_, rfl⟩
    have hot : cc o G2 ot (lq + 3) (za 808 O10) := by rw [← eO10.symm]; exact hot
    rw [← eK10, ← eN10, ← eO10] at hp10
    have hla10 : laI la24 K10 (cnt + 1) := by rw [eK10]; exact laI_s hla hq7 (fun q => by omega)
    have htk10 : tkn K10 (cnt + 1) = tkn K cnt := by rw [eK10]; exact tkn_n (by omega) (by omega)
    have hkx10 : kext K K10 cnt := by rw [eK10]; exact kext.zu (Int.le_refl _)
    have hks10 : K10 cnt = 6 := by rw [eK10]; exact zu_self _ _ _
    have hsd10 : sdC K10 N10 O10 cnt (cnt + 1) cnt 6 0 0 := ⟨⟨by omega, by omega⟩, by rw [eK10]; exact zu_self _ _ _, by rw [eN10]; exact zu_self _ _ _, by rw [eO10]; exact zu_self _ _ _⟩
    have hpx10 : pxt K N O RR cnt ru K10 N10 O10 RR := by rw [eK10, eN10, eO10]; exact pxt.add (Int.le_refl _)
    change ab_W _ _ _ G2 8 [some (vR q), some (vR p), some (vj w), none, some (vz dd), none, none, none] [vz cnt] _
    refine ab_istore d_PR_loop_8 (Nat.le_of_ble_eq_true rfl) (Nat.le_of_ble_eq_true rfl) rfl ?_
    change ab_W _ _ _ G2 10 [some (vR q), some (vR p), some (vj w), none, some (vz dd), some (vz cnt), none, none] [] _
    refine ab_aload_n d_PR_loop_10 rfl ?_
    refine ab_aload_n d_PR_loop_11 rfl ?_
    refine ab_aload_n d_PR_loop_12 rfl ?_
    refine ab_getf (fs := [vz k_1, vz v_1, rg_1, vz pl_1, vz fl_1, ou_1, ls_1, bf_1, vz sz_1, vz mb_1, vz oe_1, vz le_1, vz mo_1, vz la_1, vz rc_1]) f_PR_159 d_PR_loop_13 hp.2.2 rfl ?_
    refine zz_if_eq (tgt := 23) d_PR_loop_16 (by decide) (by omega) (fun c11 => ?_) (fun c11 => ?_)
    · refine ab_iload d_PR_loop_23 rfl ?_
      refine ab_iload d_PR_loop_25 rfl ?_
      refine ab_callS (d' := d - 1) (as := [vz cnt, vz cnt]) (st := [vR p, vR q]) (z_PR_pair (o := o) (f0 := cnt) (u0 := cnt) (by omega)) (fun oc G2 h => by rcases h with ⟨h, _⟩ <;> exact ⟨_, h⟩) (by omega) m_PR_pair ml_PR_88 st_PR_pair (Nat.le_of_ble_eq_true rfl) d_PR_loop_27 rfl ?_
      intro v G12 hq
      rcases hq with ⟨hv, hGe⟩
      cases hv
      rw [hGe]
      change ab_W _ _ _ G2 30 [some (vR q), some (vR p), some (vj w), none, some (vz dd), some (vz cnt), none, none] [vj (cnt * 4294967296 + cnt), vR p, vR q] _
      refine ab_iload d_PR_loop_30 rfl ?_
      refine ab_callV (d' := d - 1) (as := [vR p, vj (cnt * 4294967296 + cnt), vz dd]) (st := []) (r := _) (z_PR_once (o := o) (q := q) (lq := lq) (ki := ki) (ne := ne) (ot := ot) (cnt := (cnt + 1)) (fi := fi) (la := la24) (ra := ra) (ru := ru) (gr := gr) (wi := wi) (sz := sz) (fl := fl) (ve := ve) (mi := mi) (na := na) (nl := nl) (K := K10) (N := N10) (O := O10) (RR := RR) (nr := nr) (ps := ps) (wt := wt) (bs := bs) (ph := ph) (gq := gq) (p := p) (w := (cnt * 4294967296 + cnt)) (dd := dd) (cu := cu) (cs := cs) (on := on) (re := re) (rg := rg) (bq := bq) hq hki hne hot hra ppaI_0 pszB_0 pdnB_0 (by omega) (by omega) hp10 hch hr ((hkx10 0 (by omega) (by omega)).trans ck0) (by omega) hla10 (by omega) hpp (by omega) (by omega) (by omega) (by omega) (by omega) (bqo_c hp (by omega) (by omega) hbe_) (by omega) (by omega) ihR) (fun oc G2 h => by rcases h with ⟨_, _, _, _, _, _, _, _, _, _, _, _, h, _⟩ <;> exact ⟨_, h⟩) (by omega) m_PR_once ml_PR_153 im_PR_once se_PR_once c_PR hq.2.2 (Nat.le_of_ble_eq_true rfl) d_PR_loop_32 rfl ?_
      intro v G13 hq
      rcases hq with ⟨o14, w215, cnt216, la217, ra218, nr219, ru220, K221, N222, O223, RR224, ph225, hv, hfk, hNq, hNki, hNne, hNot, hNra218, pNpaI_0, pNszB_0, pNdnB_0, hq26, hq27, hq28, hq29, hq30, hq31, hq32, hq33, hq34, hq35, hq36, hq37, hq38, hq39, hq40, hq41, hq42⟩
      cases hv
      have hzr := hzr.tr hq34
      obtain ⟨rc43, hKp⟩ := hq34 _ _ _ _ _ _ _ _ _ _ _ _ _ _ _ _ hpp hp
      have hp := hKp
      have ppaI_0 := pNpaI_0
      have pszB_0 := pNszB_0
      have pdnB_0 := pNdnB_0
      have hfr := hfr.tr hfk (by simp)
      have hq44 := hfk.1
      have hq := hNq
      have hki := hNki
      have hne := hNne
      have hot := hNot
      have hra218 := hNra218
      change ab_W _ _ _ G13 35 [some (vR q), some (vR p), some (vj w), none, some (vz dd), some (vz cnt), none, none] [vj w215] _
      refine ab_callS (d' := d - 1) (as := [vj w215]) (st := []) (z_PR_fresh (o := o14) (w := w215) (by omega)) (fun oc G2 h => by rcases h with ⟨h, _⟩ <;> exact ⟨_, h⟩) (by omega) m_PR_fresh ml_PR_96 st_PR_fresh (Nat.le_of_ble_eq_true rfl) d_PR_loop_35 rfl ?_
      intro v G45 hq
      rcases hq with ⟨hv, hGe⟩
      cases hv
      rw [hGe]
      change ab_W _ _ _ G13 38 [some (vR q), some (vR p), some (vj w), none, some (vz dd), some (vz cnt), none, none] [vz (w215 / 4294967296)] _
      refine ab_istore d_PR_loop_38 (Nat.le_of_ble_eq_true rfl) (Nat.le_of_ble_eq_true rfl) rfl ?_
      change ab_W _ _ _ G13 40 [some (vR q), some (vR p), some (vj w), none, some (vz dd), some (vz cnt), some (vz (w215 / 4294967296)), none] [] _
      refine ab_aload_n d_PR_loop_40 rfl ?_
      refine ab_getf (fs := [vR ki, vR ne, vR ot, vz cnt216, vz fi, vz la217, vR ra218, vz ru220, vz gr, vz wi, vz sz, vz fl, vz ve, vz mi, vR na, vR nl]) f_PR_15 d_PR_loop_41 hq.2.2 rfl ?_
      refine ab_iload d_PR_loop_44 rfl ?_
      refine ab_aload_n d_PR_loop_46 rfl ?_
      refine ab_getf (fs := [vz k_1, vz v_1, rg_1, vz pl_1, vz fl_1, ou_1, ls_1, bf_1, vz sz_1, vz mb_1, vz oe_1, vz le_1, vz mo_1, vz la_1, vz rc43]) f_PR_156 d_PR_loop_47 hp.2.2 rfl ?_
      refine zz_if_eq (tgt := 60) d_PR_loop_50 (by decide) (by omega) (fun c46 => ?_) (fun c46 => ?_)
      · refine ab_iload d_PR_loop_60 rfl ?_
        refine zz_iast d_PR_loop_62 hne (by omega) (hne.2.1 (by first | omega | exact (show 18 ≤ _ by omega))) ?_
        obtain ⟨G47, eG47⟩ : ∃ z : ab_G, z = List.set G13 ne (za 808 (zu N222 cnt (w215 / 4294967296))) := ⟨_, rfl⟩
        have hq := hq.keep hne eG47 (by omega)
        have hki := hki.keep hne eG47 (by omega)
        have hot := hot.keep hne eG47 (by omega)
        have hp := hp.keep hne eG47 (by omega)
        have hra218 := hra218.keep hne eG47 (by omega)
        have hzr := hzr.wr hne eG47 (by omega)
        have hst := (fx.rf (o := o14) (S := [(lq + 2)]) (G := G13)).wr hne eG47 (List.mem_singleton.mpr rfl)
        have pszB_0 := szB.fr hst pszB_0 (by simp only [List.mem_cons, List.not_mem_nil, or_false]; omega) (by simp only [List.mem_cons, List.not_mem_nil, or_false]; omega)
        have pdnB_0 := dnB.fr hst ppaI_0 pdnB_0 (by simp only [List.mem_cons, List.not_mem_nil, or_false]; omega) (by simp only [List.mem_cons, List.not_mem_nil, or_false]; omega)
        have ppaI_0 := paI.fr hst ppaI_0 (by simp only [List.mem_cons, List.not_mem_nil, or_false]; omega) (by simp only [List.mem_cons, List.not_mem_nil, or_false]; omega) (by simp only [List.mem_cons, List.not_mem_nil, or_false]; omega) (by intro xx hx; simp only [List.mem_cons, List.not_mem_nil, or_false] at hx; omega)
        have hq48 := z_len eG47
        have hq49 := z_sl hne eG47 rfl
        have hfr := hfr.wr hne eG47 (by simp)
        have hne := hne.kept eG47
        change ab_W _ _ _ (List.set G13 ne (za 808 (zu N222 cnt (w215 / 4294967296)))) 63 [some (vR q), some (vR p), some (vj w), none, some (vz dd), some (vz cnt), some (vz (w215 / 4294967296)), none] [] _
        rw [← eG47]
        have hp50 := prok_next (a := cnt) (x := (w215 / 4294967296)) hq30 (by omega)
        obtain ⟨N50, eN50⟩ : ∃ z : Int → Int, z = zu N222 cnt (w215 / 4294967296) := ⟨_, rfl⟩
        have hne : cc o14 G47 ne (lq + 2) (za 808 N50) := by rw [← eN50.symm]; exact hne
        rw [← eN50] at hp50
        have hpx50 : pxt K221 N222 O223 RR224 cnt ru220 K221 N50 O223 RR224 := by rw [eN50]; exact pxt.setN (Int.le_refl _)
        have hrp50 : RP K221 N50 O223 RR224 ru220 (cnt + 1) cnt216 (cnt * 4294967296 + cnt) w215 (on p) := by rw [eN50]; exact hq42.setN (by omega)
        have hsN_ : N50 cnt = (w215 / 4294967296) := by rw [eN50]; exact zu_self _ _ _
        change ab_W _ _ _ G47 63 [some (vR q), some (vR p), some (vj w), none, some (vz dd), some (vz cnt), some (vz (w215 / 4294967296)), none] [] _
        refine ab_aload_n d_PR_loop_63 rfl ?_
        refine ab_getf (fs := [vR ki, vR ne, vR ot, vz cnt216, vz fi, vz la217, vR ra218, vz ru220, vz gr, vz wi, vz sz, vz fl, vz ve, vz mi, vR na, vR nl]) f_PR_18 d_PR_loop_64 hq.2.2 rfl ?_
        refine ab_iload d_PR_loop_67 rfl ?_
        refine ab_aload_n d_PR_loop_69 rfl ?_
        refine ab_getf (fs := [vz k_1, vz v_1, rg_1, vz pl_1, vz fl_1, ou_1, ls_1, bf_1, vz sz_1, vz mb_1, vz oe_1, vz le_1, vz mo_1, vz la_1, vz rc43]) f_PR_156 d_PR_loop_70 hp.2.2 rfl ?_
        refine zz_if_eq (tgt := 81) d_PR_loop_73 (by decide) (by omega) (fun c51 => ?_) (fun c51 => absurd c51 (by omega))
        refine ab_lload_n d_PR_loop_81 rfl ?_
        refine ab_callS (d' := d - 1) (as := [vj w]) (st := [vz cnt, vR ot]) (z_PR_used (o := o14) (w := w) (by omega)) (fun oc G2 h => by rcases h with ⟨h, _⟩ <;> exact ⟨_, h⟩) (by omega) m_PR_used ml_PR_124 st_PR_used (Nat.le_of_ble_eq_true rfl) d_PR_loop_82 rfl ?_
        intro v G52 hq
        rcases hq with ⟨hv, hGe⟩
        cases hv
        rw [hGe]
        change ab_W _ _ _ G47 85 [some (vR q), some (vR p), some (vj w), none, some (vz dd), some (vz cnt), some (vz (w215 / 4294967296)), none] [vz (w % 4294967296), vz cnt, vR ot] _
        refine zz_iast d_PR_loop_85 hot (by omega) (hot.2.1 (by first | omega | exact (show 18 ≤ _ by omega))) ?_
        obtain ⟨G53, eG53⟩ : ∃ z : ab_G, z = List.set G47 ot (za 808 (zu O223 cnt (w % 4294967296))) := ⟨_, rfl⟩
        have hq := hq.keep hot eG53 (by omega)
        have hki := hki.keep hot eG53 (by omega)
        have hne := hne.keep hot eG53 (by omega)
        have hp := hp.keep hot eG53 (by omega)
        have hra218 := hra218.keep hot eG53 (by omega)
        have hzr := hzr.wr hot eG53 (by omega)
        have hst := (fx.rf (o := o14) (S := [(lq + 3)]) (G := G47)).wr hot eG53 (List.mem_singleton.mpr rfl)
        have pszB_0 := szB.fr hst pszB_0 (by simp only [List.mem_cons, List.not_mem_nil, or_false]; omega) (by simp only [List.mem_cons, List.not_mem_nil, or_false]; omega)
        have pdnB_0 := dnB.fr hst ppaI_0 pdnB_0 (by simp only [List.mem_cons, List.not_mem_nil, or_false]; omega) (by simp only [List.mem_cons, List.not_mem_nil, or_false]; omega)
        have ppaI_0 := paI.fr hst ppaI_0 (by simp only [List.mem_cons, List.not_mem_nil, or_false]; omega) (by simp only [List.mem_cons, List.not_mem_nil, or_false]; omega) (by simp only [List.mem_cons, List.not_mem_nil, or_false]; omega) (by intro xx hx; simp only [List.mem_cons, List.not_mem_nil, or_false] at hx; omega)
        have hq54 := z_len eG53
        have hq55 := z_sl hot eG53 rfl
        have hfr := hfr.wr hot eG53 (by simp)
        have hot := hot.kept eG53
        change ab_W _ _ _ (List.set G47 ot (za 808 (zu O223 cnt (w % 4294967296)))) 86 [some (vR q), some (vR p), some (vj w), none, some (vz dd), some (vz cnt), some (vz (w215 / 4294967296)), none] [] _
        rw [← eG53]
        have hp56 := prok_other (a := cnt) (x := (w % 4294967296)) hp50 (by omega) (Or.inl ((hq33 cnt (by omega) (by omega)).trans hks10))
        obtain ⟨O56, eO56⟩ : ∃ z : Int → Int, z = zu O223 cnt (w % 4294967296) := ⟨_, rfl⟩
        have hot : cc o14 G53 ot (lq + 3) (za 808 O56) := by rw [← eO56.symm]; exact hot
        rw [← eO56] at hp56
        have hpx56 : pxt K221 N50 O223 RR224 cnt ru220 K221 N50 O56 RR224 := by rw [eO56]; exact pxt.setO (Int.le_refl _)
        have hrp56 : RP K221 N50 O56 RR224 ru220 (cnt + 1) cnt216 (cnt * 4294967296 + cnt) w215 (on p) := by rw [eO56]; exact hrp50.setO (by omega)
        have hsO_ : O56 cnt = (w % 4294967296) := by rw [eO56]; exact zu_self _ _ _
        change ab_W _ _ _ G53 86 [some (vR q), some (vR p), some (vj w), none, some (vz dd), some (vz cnt), some (vz (w215 / 4294967296)), none] [] _
        refine ab_lload_n d_PR_loop_86 rfl ?_
        refine ab_callS (d' := d - 1) (as := [vj w]) (st := []) (z_PR_fresh (o := o14) (w := w) (by omega)) (fun oc G2 h => by rcases h with ⟨h, _⟩ <;> exact ⟨_, h⟩) (by omega) m_PR_fresh ml_PR_96 st_PR_fresh (Nat.le_of_ble_eq_true rfl) d_PR_loop_87 rfl ?_
        intro v G57 hq
        rcases hq with ⟨hv, hGe⟩
        cases hv
        rw [hGe]
        change ab_W _ _ _ G53 90 [some (vR q), some (vR p), some (vj w), none, some (vz dd), some (vz cnt), some (vz (w215 / 4294967296)), none] [vz (w / 4294967296)] _
        refine ab_lload_n d_PR_loop_90 rfl ?_
        refine ab_callS (d' := d - 1) (as := [vj w]) (st := [vz (w / 4294967296)]) (z_PR_used (o := o14) (w := w) (by omega)) (fun oc G2 h => by rcases h with ⟨h, _⟩ <;> exact ⟨_, h⟩) (by omega) m_PR_used ml_PR_124 st_PR_used (Nat.le_of_ble_eq_true rfl) d_PR_loop_91 rfl ?_
        intro v G58 hq
        rcases hq with ⟨hv, hGe⟩
        cases hv
        rw [hGe]
        change ab_W _ _ _ G53 94 [some (vR q), some (vR p), some (vj w), none, some (vz dd), some (vz cnt), some (vz (w215 / 4294967296)), none] [vz (w % 4294967296), vz (w / 4294967296)] _
        refine zz_icmp_ne (tgt := 105) d_PR_loop_94 (by decide) (by omega) (by omega) (fun c59 => ?_) (fun c59 => ?_)
        · refine ab_aload_n d_PR_loop_105 rfl ?_
          refine ab_getf (fs := [vz k_1, vz v_1, rg_1, vz pl_1, vz fl_1, ou_1, ls_1, bf_1, vz sz_1, vz mb_1, vz oe_1, vz le_1, vz mo_1, vz la_1, vz rc43]) f_PR_156 d_PR_loop_106 hp.2.2 rfl ?_
          refine zz_if_eq (tgt := 127) d_PR_loop_109 (by decide) (by omega) (fun c60 => ?_) (fun c60 => absurd c60 (by omega))
          refine ab_aload_n d_PR_loop_127 rfl ?_
          refine zz_bipush d_PR_loop_128 (by decide) ?_
          refine ab_iload d_PR_loop_130 rfl ?_
          refine ab_lload_n d_PR_loop_132 rfl ?_
          refine ab_callS (d' := d - 1) (as := [vj w]) (st := [vz (w215 / 4294967296), vz 6, vR q]) (z_PR_fresh (o := o14) (w := w) (by omega)) (fun oc G2 h => by rcases h with ⟨h, _⟩ <;> exact ⟨_, h⟩) (by omega) m_PR_fresh ml_PR_96 st_PR_fresh (Nat.le_of_ble_eq_true rfl) d_PR_loop_133 rfl ?_
          intro v G61 hq
          rcases hq with ⟨hv, hGe⟩
          cases hv
          rw [hGe]
          change ab_W _ _ _ G53 136 [some (vR q), some (vR p), some (vj w), none, some (vz dd), some (vz cnt), some (vz (w215 / 4294967296)), none] [vz (w / 4294967296), vz (w215 / 4294967296), vz 6, vR q] _
          refine ab_callV (d' := d - 1) (as := [vz 6, vz (w215 / 4294967296), vz (w / 4294967296)]) (st := []) (r := _) (z_PR_add (o := o14) (q := q) (lq := lq) (ki := ki) (ne := ne) (ot := ot) (cnt := cnt216) (fi := fi) (la := la217) (ra := ra218) (ru := ru220) (gr := gr) (wi := wi) (sz := sz) (fl := fl) (ve := ve) (mi := mi) (na := na) (nl := nl) (K := K221) (N := N50) (O := O56) (k0 := 6) (x0 := (w215 / 4294967296)) (v0 := (w / 4294967296)) hq hki hne hot (by omega) (by omega) (by omega)) (fun oc G2 h => by rcases h with ⟨h, _⟩ | ⟨_, h, _⟩ <;> exact ⟨_, h⟩) (by omega) m_PR_add ml_PR_84 im_PR_add se_PR_add c_PR hq.2.2 (Nat.le_of_ble_eq_true rfl) d_PR_loop_136 rfl ?_
          intro v G62 hq
          rcases hq with ⟨hv, hGe, hq63⟩ | ⟨la264, hv, hfk, hlk, hsk, hNq, hNki, hNne, hNot, hq65, hq66, hq67⟩
          · cases hv
            rw [hGe]
            change ab_W _ _ _ G53 139 [some (vR q), some (vR p), some (vj w), none, some (vz dd), some (vz cnt), some (vz (w215 / 4294967296)), none] [vz 0] _
            exfalso; omega
          · cases hv
            have hzr := hzr.tr (fzr.fx hfk (by simp only [List.mem_cons, List.not_mem_nil, or_false]; omega))
            have hp := hfk.get hp (by simp only [List.mem_cons, List.not_mem_nil, or_false]; omega)
            have hra218 := hfk.get hra218 (by simp only [List.mem_cons, List.not_mem_nil, or_false]; omega)
            have pszB_0 := szB.fr hfk pszB_0 (by simp only [List.mem_cons, List.not_mem_nil, or_false]; omega) (by simp only [List.mem_cons, List.not_mem_nil, or_false]; omega)
            have pdnB_0 := dnB.fr hfk ppaI_0 pdnB_0 (by simp only [List.mem_cons, List.not_mem_nil, or_false]; omega) (by simp only [List.mem_cons, List.not_mem_nil, or_false]; omega)
            have ppaI_0 := paI.fr hfk ppaI_0 (by simp only [List.mem_cons, List.not_mem_nil, or_false]; omega) (by simp only [List.mem_cons, List.not_mem_nil, or_false]; omega) (by simp only [List.mem_cons, List.not_mem_nil, or_false]; omega) (by intro xx hx; simp only [List.mem_cons, List.not_mem_nil, or_false] at hx; omega)
            have hfr := hfr.tr hfk (by simp)
            have hq68 := hlk
            have hq69 := hsk
            have hq := hNq
            have hki := hNki
            have hne := hNne
            have hot := hNot
            change ab_W _ _ _ G62 139 [some (vR q), some (vR p), some (vj w), none, some (vz dd), some (vz cnt), some (vz (w215 / 4294967296)), none] [vz cnt216] _
            have hp70 := prok_add (k := 6) (x := (w215 / 4294967296)) (v := (w / 4294967296)) hp56 (by omega) (by omega) (by omega) (by omega) (by omega) (fun t => by omega) (fun t => absurd t (by decide)) (fun t => absurd t (by decide)) (fun t => absurd t (by decide)) (fun t => absurd t (by decide))
            obtain ⟨K70, eK70⟩ : ∃ z : Int → Int, z = zu K221 cnt216 6 := ⟨_, rfl⟩
            have hki : cc o14 G62 ki (lq + 1) (za 808 K70) := by rw [← eK70.symm]; exact hki
            obtain ⟨N70, eN70⟩ : ∃ z : Int → Int, z = zu N50 cnt216 (w215 / 4294967296) := ⟨_, rfl⟩
            have hne : cc o14 G62 ne (lq + 2) (za 808 N70) := by rw [← eN70.symm]; exact hne
            obtain ⟨O70, eO70⟩ : ∃ z : Int → Int, z = zu O56 cnt216 (w / 4294967296) := ⟨_, rfl⟩
            have hot : cc o14 G62 ot (lq + 3) (za 808 O70) := by rw [← eO70.symm]; exact hot
            rw [← eK70, ← eN70, ← eO70] at hp70
            have hla70 : laI la264 K70 (cnt216 + 1) := by rw [eK70]; exact laI_s hq37 hq67 (fun q => by omega)
            have htk70 : tkn K70 (cnt216 + 1) = tkn K221 cnt216 := by rw [eK70]; exact tkn_n (by omega) (by omega)
            have hkx70 : kext K221 K70 cnt216 := by rw [eK70]; exact kext.zu (Int.le_refl _)
            have hks70 : K70 cnt216 = 6 := by rw [eK70]; exact zu_self _ _ _
            have hsd70 : sdC K70 N70 O70 cnt216 (cnt216 + 1) cnt216 6 (w215 / 4294967296) (w / 4294967296) := ⟨⟨by omega, by omega⟩, by rw [eK70]; exact zu_self _ _ _, by rw [eN70]; exact zu_self _ _ _, by rw [eO70]; exact zu_self _ _ _⟩
            have hpx70 : pxt K221 N50 O56 RR224 cnt216 ru220 K70 N70 O70 RR224 := by rw [eK70, eN70, eO70]; exact pxt.add (Int.le_refl _)
            change ab_W _ _ _ G62 139 [some (vR q), some (vR p), some (vj w), none, some (vz dd), some (vz cnt), some (vz (w215 / 4294967296)), none] [vz cnt216] _
            refine ab_istore d_PR_loop_139 (Nat.le_of_ble_eq_true rfl) (Nat.le_of_ble_eq_true rfl) rfl ?_
            change ab_W _ _ _ G62 141 [some (vR q), some (vR p), some (vj w), none, some (vz dd), some (vz cnt), some (vz (w215 / 4294967296)), some (vz cnt216)] [] _
            refine ab_iload d_PR_loop_141 rfl ?_
            refine ab_iload d_PR_loop_143 rfl ?_
            refine ab_callS (d' := d - 1) (as := [vz cnt216, vz cnt]) (st := []) (z_PR_pair (o := o14) (f0 := cnt216) (u0 := cnt) (by omega)) (fun oc G2 h => by rcases h with ⟨h, _⟩ <;> exact ⟨_, h⟩) (by omega) m_PR_pair ml_PR_88 st_PR_pair (Nat.le_of_ble_eq_true rfl) d_PR_loop_145 rfl ?_
            intro v G71 hq
            rcases hq with ⟨hv, hGe⟩
            cases hv
            rw [hGe]
            change ab_W _ _ _ G62 148 [some (vR q), some (vR p), some (vj w), none, some (vz dd), some (vz cnt), some (vz (w215 / 4294967296)), some (vz cnt216)] [vj (cnt216 * 4294967296 + cnt)] _
            refine ab_lret rfl d_PR_loop_148 ?_
            rw [hQ]; exact ⟨_, _, _, _, _, _, _, _, _, _, _, _, rfl, hfr, hq, hki, hne, hot, hra218, ppaI_0, pszB_0, pdnB_0, (by omega), (by omega), (by omega), (by omega), (by exact hp70), (by exact hq31), (by exact hq32), (by exact ((hkx10.tr hq33 (by omega)).tr hkx70 (by omega))), (by exact hzr), (by omega), (by omega), (by exact hla70), (by exact tkn_0), (by omega), (by omega), (by exact ((((hpx10.tr hq41 (by omega) (by omega)).tr hpx50 (by omega) (by omega)).tr hpx56 (by omega) (by omega)).tr hpx70 (by omega) (by omega)).lt (by omega) (by omega)), (by exact RP_T (r := cnt) (lpC.mk ⟨by omega, by omega⟩ (((hq33.tr hkx70 (by omega)) cnt (by omega) (by omega)).trans hsd10.2.1) (fun q => absurd q (show ¬ lz = 1 by omega)) (fun _ => ⟨((hpx70.2.1 cnt (by omega) (by omega)).trans hsN_).trans (by omega), ((hpx70.2.2.1 cnt (by omega) (by omega)).trans hsO_).trans (by omega)⟩)) (hrp56.up hpx70 (by omega) (by omega) (by omega) (by omega) (by omega)) (by omega) (fun t => absurd (hoep_ (by omega) (by omega)) t) (lpC.mk (by have t := hsd70.1; omega) (by rw [show (cnt216 * 4294967296 + cnt) / 4294967296 = cnt216 by omega]; exact hsd70.2.1) (fun q => absurd q (show ¬ lz = 1 by omega)) (fun _ => (by rw [show (cnt216 * 4294967296 + cnt) / 4294967296 = cnt216 by omega]; exact ⟨hsd70.2.2.1.trans (by omega), hsd70.2.2.2.trans (by omega)⟩))) (by omega))⟩
        · refine ab_iload d_PR_loop_97 rfl ?_
          refine ab_iload d_PR_loop_99 rfl ?_
          refine ab_callS (d' := d - 1) (as := [vz cnt, vz cnt]) (st := []) (z_PR_pair (o := o14) (f0 := cnt) (u0 := cnt) (by omega)) (fun oc G2 h => by rcases h with ⟨h, _⟩ <;> exact ⟨_, h⟩) (by omega) m_PR_pair ml_PR_88 st_PR_pair (Nat.le_of_ble_eq_true rfl) d_PR_loop_101 rfl ?_
          intro v G72 hq
          rcases hq with ⟨hv, hGe⟩
          cases hv
          rw [hGe]
          change ab_W _ _ _ G53 104 [some (vR q), some (vR p), some (vj w), none, some (vz dd), some (vz cnt), some (vz (w215 / 4294967296)), none] [vj (cnt * 4294967296 + cnt)] _
          refine ab_lret rfl d_PR_loop_104 ?_
          rw [hQ]; exact ⟨_, _, _, _, _, _, _, _, _, _, _, _, rfl, hfr, hq, hki, hne, hot, hra218, ppaI_0, pszB_0, pdnB_0, (by omega), (by omega), (by omega), (by omega), (by exact hp56), (by exact hq31), (by exact hq32), (by exact (hkx10.tr hq33 (by omega))), (by exact hzr), (by omega), (by omega), (by exact hq37), (by exact tkn_0), (by omega), (by omega), (by exact (((hpx10.tr hq41 (by omega) (by omega)).tr hpx50 (by omega) (by omega)).tr hpx56 (by omega) (by omega)).lt (by omega) (by omega)), (by exact RP_T (r := cnt) (lpC.mk ⟨by omega, by omega⟩ ((hq33 cnt (by omega) (by omega)).trans hsd10.2.1) (fun q => absurd q (show ¬ lz = 1 by omega)) (fun _ => ⟨hsN_.trans (by omega), hsO_.trans (by omega)⟩)) (hrp56.wd (by omega) (by omega)) (by omega) (fun t => absurd (hoep_ (by omega) (by omega)) t) (by rw [show (cnt * 4294967296 + cnt) / 4294967296 = cnt by omega, show w / 4294967296 = w % 4294967296 by omega]; exact (lpC.mk ⟨by omega, by omega⟩ ((hq33 cnt (by omega) (by omega)).trans hsd10.2.1) (fun q => absurd q (show ¬ lz = 1 by omega)) (fun _ => ⟨hsN_.trans (by omega), hsO_.trans (by omega)⟩))) (by omega))⟩
      · refine ab_lload_n d_PR_loop_53 rfl ?_
        refine ab_callS (d' := d - 1) (as := [vj w]) (st := [vz cnt, vR ne]) (z_PR_used (o := o14) (w := w) (by omega)) (fun oc G2 h => by rcases h with ⟨h, _⟩ <;> exact ⟨_, h⟩) (by omega) m_PR_used ml_PR_124 st_PR_used (Nat.le_of_ble_eq_true rfl) d_PR_loop_54 rfl ?_
        intro v G73 hq
        rcases hq with ⟨hv, hGe⟩
        cases hv
        rw [hGe]
        change ab_W _ _ _ G13 57 [some (vR q), some (vR p), some (vj w), none, some (vz dd), some (vz cnt), some (vz (w215 / 4294967296)), none] [vz (w % 4294967296), vz cnt, vR ne] _
        refine ab_goto (tgt := 62) d_PR_loop_57 (by decide) ?_
        refine zz_iast d_PR_loop_62 hne (by omega) (hne.2.1 (by first | omega | exact (show 18 ≤ _ by omega))) ?_
        obtain ⟨G74, eG74⟩ : ∃ z : ab_G, z = List.set G13 ne (za 808 (zu N222 cnt (w % 4294967296))) := ⟨_, rfl⟩
        have hq := hq.keep hne eG74 (by omega)
        have hki := hki.keep hne eG74 (by omega)
        have hot := hot.keep hne eG74 (by omega)
        have hp := hp.keep hne eG74 (by omega)
        have hra218 := hra218.keep hne eG74 (by omega)
        have hzr := hzr.wr hne eG74 (by omega)
        have hst := (fx.rf (o := o14) (S := [(lq + 2)]) (G := G13)).wr hne eG74 (List.mem_singleton.mpr rfl)
        have pszB_0 := szB.fr hst pszB_0 (by simp only [List.mem_cons, List.not_mem_nil, or_false]; omega) (by simp only [List.mem_cons, List.not_mem_nil, or_false]; omega)
        have pdnB_0 := dnB.fr hst ppaI_0 pdnB_0 (by simp only [List.mem_cons, List.not_mem_nil, or_false]; omega) (by simp only [List.mem_cons, List.not_mem_nil, or_false]; omega)
        have ppaI_0 := paI.fr hst ppaI_0 (by simp only [List.mem_cons, List.not_mem_nil, or_false]; omega) (by simp only [List.mem_cons, List.not_mem_nil, or_false]; omega) (by simp only [List.mem_cons, List.not_mem_nil, or_false]; omega) (by intro xx hx; simp only [List.mem_cons, List.not_mem_nil, or_false] at hx; omega)
        have hq75 := z_len eG74
        have hq76 := z_sl hne eG74 rfl
        have hfr := hfr.wr hne eG74 (by simp)
        have hne := hne.kept eG74
        change ab_W _ _ _ (List.set G13 ne (za 808 (zu N222 cnt (w % 4294967296)))) 63 [some (vR q), some (vR p), some (vj w), none, some (vz dd), some (vz cnt), some (vz (w215 / 4294967296)), none] [] _
        rw [← eG74]
        have hp77 := prok_next (a := cnt) (x := (w % 4294967296)) hq30 (by omega)
        obtain ⟨N77, eN77⟩ : ∃ z : Int → Int, z = zu N222 cnt (w % 4294967296) := ⟨_, rfl⟩
        have hne : cc o14 G74 ne (lq + 2) (za 808 N77) := by rw [← eN77.symm]; exact hne
        rw [← eN77] at hp77
        have hpx77 : pxt K221 N222 O223 RR224 cnt ru220 K221 N77 O223 RR224 := by rw [eN77]; exact pxt.setN (Int.le_refl _)
        have hrp77 : RP K221 N77 O223 RR224 ru220 (cnt + 1) cnt216 (cnt * 4294967296 + cnt) w215 (on p) := by rw [eN77]; exact hq42.setN (by omega)
        have hsN_ : N77 cnt = (w % 4294967296) := by rw [eN77]; exact zu_self _ _ _
        change ab_W _ _ _ G74 63 [some (vR q), some (vR p), some (vj w), none, some (vz dd), some (vz cnt), some (vz (w215 / 4294967296)), none] [] _
        refine ab_aload_n d_PR_loop_63 rfl ?_
        refine ab_getf (fs := [vR ki, vR ne, vR ot, vz cnt216, vz fi, vz la217, vR ra218, vz ru220, vz gr, vz wi, vz sz, vz fl, vz ve, vz mi, vR na, vR nl]) f_PR_18 d_PR_loop_64 hq.2.2 rfl ?_
        refine ab_iload d_PR_loop_67 rfl ?_
        refine ab_aload_n d_PR_loop_69 rfl ?_
        refine ab_getf (fs := [vz k_1, vz v_1, rg_1, vz pl_1, vz fl_1, ou_1, ls_1, bf_1, vz sz_1, vz mb_1, vz oe_1, vz le_1, vz mo_1, vz la_1, vz rc43]) f_PR_156 d_PR_loop_70 hp.2.2 rfl ?_
        refine zz_if_eq (tgt := 81) d_PR_loop_73 (by decide) (by omega) (fun c78 => absurd c78 (by omega)) (fun c78 => ?_)
        refine ab_iload d_PR_loop_76 rfl ?_
        refine ab_goto (tgt := 85) d_PR_loop_78 (by decide) ?_
        refine zz_iast d_PR_loop_85 hot (by omega) (hot.2.1 (by first | omega | exact (show 18 ≤ _ by omega))) ?_
        obtain ⟨G79, eG79⟩ : ∃ z : ab_G, z = List.set G74 ot (za 808 (zu O223 cnt (w215 / 4294967296))) := ⟨_, rfl⟩
        have hq := hq.keep hot eG79 (by omega)
        have hki := hki.keep hot eG79 (by omega)
        have hne := hne.keep hot eG79 (by omega)
        have hp := hp.keep hot eG79 (by omega)
        have hra218 := hra218.keep hot eG79 (by omega)
        have hzr := hzr.wr hot eG79 (by omega)
        have hst := (fx.rf (o := o14) (S := [(lq + 3)]) (G := G74)).wr hot eG79 (List.mem_singleton.mpr rfl)
        have pszB_0 := szB.fr hst pszB_0 (by simp only [List.mem_cons, List.not_mem_nil, or_false]; omega) (by simp only [List.mem_cons, List.not_mem_nil, or_false]; omega)
        have pdnB_0 := dnB.fr hst ppaI_0 pdnB_0 (by simp only [List.mem_cons, List.not_mem_nil, or_false]; omega) (by simp only [List.mem_cons, List.not_mem_nil, or_false]; omega)
        have ppaI_0 := paI.fr hst ppaI_0 (by simp only [List.mem_cons, List.not_mem_nil, or_false]; omega) (by simp only [List.mem_cons, List.not_mem_nil, or_false]; omega) (by simp only [List.mem_cons, List.not_mem_nil, or_false]; omega) (by intro xx hx; simp only [List.mem_cons, List.not_mem_nil, or_false] at hx; omega)
        have hq80 := z_len eG79
        have hq81 := z_sl hot eG79 rfl
        have hfr := hfr.wr hot eG79 (by simp)
        have hot := hot.kept eG79
        change ab_W _ _ _ (List.set G74 ot (za 808 (zu O223 cnt (w215 / 4294967296)))) 86 [some (vR q), some (vR p), some (vj w), none, some (vz dd), some (vz cnt), some (vz (w215 / 4294967296)), none] [] _
        rw [← eG79]
        have hp82 := prok_other (a := cnt) (x := (w215 / 4294967296)) hp77 (by omega) (Or.inl ((hq33 cnt (by omega) (by omega)).trans hks10))
        obtain ⟨O82, eO82⟩ : ∃ z : Int → Int, z = zu O223 cnt (w215 / 4294967296) := ⟨_, rfl⟩
        have hot : cc o14 G79 ot (lq + 3) (za 808 O82) := by rw [← eO82.symm]; exact hot
        rw [← eO82] at hp82
        have hpx82 : pxt K221 N77 O223 RR224 cnt ru220 K221 N77 O82 RR224 := by rw [eO82]; exact pxt.setO (Int.le_refl _)
        have hrp82 : RP K221 N77 O82 RR224 ru220 (cnt + 1) cnt216 (cnt * 4294967296 + cnt) w215 (on p) := by rw [eO82]; exact hrp77.setO (by omega)
        have hsO_ : O82 cnt = (w215 / 4294967296) := by rw [eO82]; exact zu_self _ _ _
        change ab_W _ _ _ G79 86 [some (vR q), some (vR p), some (vj w), none, some (vz dd), some (vz cnt), some (vz (w215 / 4294967296)), none] [] _
        refine ab_lload_n d_PR_loop_86 rfl ?_
        refine ab_callS (d' := d - 1) (as := [vj w]) (st := []) (z_PR_fresh (o := o14) (w := w) (by omega)) (fun oc G2 h => by rcases h with ⟨h, _⟩ <;> exact ⟨_, h⟩) (by omega) m_PR_fresh ml_PR_96 st_PR_fresh (Nat.le_of_ble_eq_true rfl) d_PR_loop_87 rfl ?_
        intro v G83 hq
        rcases hq with ⟨hv, hGe⟩
        cases hv
        rw [hGe]
        change ab_W _ _ _ G79 90 [some (vR q), some (vR p), some (vj w), none, some (vz dd), some (vz cnt), some (vz (w215 / 4294967296)), none] [vz (w / 4294967296)] _
        refine ab_lload_n d_PR_loop_90 rfl ?_
        refine ab_callS (d' := d - 1) (as := [vj w]) (st := [vz (w / 4294967296)]) (z_PR_used (o := o14) (w := w) (by omega)) (fun oc G2 h => by rcases h with ⟨h, _⟩ <;> exact ⟨_, h⟩) (by omega) m_PR_used ml_PR_124 st_PR_used (Nat.le_of_ble_eq_true rfl) d_PR_loop_91 rfl ?_
        intro v G84 hq
        rcases hq with ⟨hv, hGe⟩
        cases hv
        rw [hGe]
        change ab_W _ _ _ G79 94 [some (vR q), some (vR p), some (vj w), none, some (vz dd), some (vz cnt), some (vz (w215 / 4294967296)), none] [vz (w % 4294967296), vz (w / 4294967296)] _
        refine zz_icmp_ne (tgt := 105) d_PR_loop_94 (by decide) (by omega) (by omega) (fun c85 => ?_) (fun c85 => ?_)
        · refine ab_aload_n d_PR_loop_105 rfl ?_
          refine ab_getf (fs := [vz k_1, vz v_1, rg_1, vz pl_1, vz fl_1, ou_1, ls_1, bf_1, vz sz_1, vz mb_1, vz oe_1, vz le_1, vz mo_1, vz la_1, vz rc43]) f_PR_156 d_PR_loop_106 hp.2.2 rfl ?_
          refine zz_if_eq (tgt := 127) d_PR_loop_109 (by decide) (by omega) (fun c86 => absurd c86 (by omega)) (fun c86 => ?_)
          refine ab_aload_n d_PR_loop_112 rfl ?_
          refine zz_bipush d_PR_loop_113 (by decide) ?_
          refine ab_lload_n d_PR_loop_115 rfl ?_
          refine ab_callS (d' := d - 1) (as := [vj w]) (st := [vz 6, vR q]) (z_PR_fresh (o := o14) (w := w) (by omega)) (fun oc G2 h => by rcases h with ⟨h, _⟩ <;> exact ⟨_, h⟩) (by omega) m_PR_fresh ml_PR_96 st_PR_fresh (Nat.le_of_ble_eq_true rfl) d_PR_loop_116 rfl ?_
          intro v G87 hq
          rcases hq with ⟨hv, hGe⟩
          cases hv
          rw [hGe]
          change ab_W _ _ _ G79 119 [some (vR q), some (vR p), some (vj w), none, some (vz dd), some (vz cnt), some (vz (w215 / 4294967296)), none] [vz (w / 4294967296), vz 6, vR q] _
          refine ab_iload d_PR_loop_119 rfl ?_
          refine ab_callV (d' := d - 1) (as := [vz 6, vz (w / 4294967296), vz (w215 / 4294967296)]) (st := []) (r := _) (z_PR_add (o := o14) (q := q) (lq := lq) (ki := ki) (ne := ne) (ot := ot) (cnt := cnt216) (fi := fi) (la := la217) (ra := ra218) (ru := ru220) (gr := gr) (wi := wi) (sz := sz) (fl := fl) (ve := ve) (mi := mi) (na := na) (nl := nl) (K := K221) (N := N77) (O := O82) (k0 := 6) (x0 := (w / 4294967296)) (v0 := (w215 / 4294967296)) hq hki hne hot (by omega) (by omega) (by omega)) (fun oc G2 h => by rcases h with ⟨h, _⟩ | ⟨_, h, _⟩ <;> exact ⟨_, h⟩) (by omega) m_PR_add ml_PR_84 im_PR_add se_PR_add c_PR hq.2.2 (Nat.le_of_ble_eq_true rfl) d_PR_loop_121 rfl ?_
          intro v G88 hq
          rcases hq with ⟨hv, hGe, hq89⟩ | ⟨la290, hv, hfk, hlk, hsk, hNq, hNki, hNne, hNot, hq91, hq92, hq93⟩
          · cases hv
            rw [hGe]
            change ab_W _ _ _ G79 124 [some (vR q), some (vR p), some (vj w), none, some (vz dd), some (vz cnt), some (vz (w215 / 4294967296)), none] [vz 0] _
            exfalso; omega
          · cases hv
            have hzr := hzr.tr (fzr.fx hfk (by simp only [List.mem_cons, List.not_mem_nil, or_false]; omega))
            have hp := hfk.get hp (by simp only [List.mem_cons, List.not_mem_nil, or_false]; omega)
            have hra218 := hfk.get hra218 (by simp only [List.mem_cons, List.not_mem_nil, or_false]; omega)
            have pszB_0 := szB.fr hfk pszB_0 (by simp only [List.mem_cons, List.not_mem_nil, or_false]; omega) (by simp only [List.mem_cons, List.not_mem_nil, or_false]; omega)
            have pdnB_0 := dnB.fr hfk ppaI_0 pdnB_0 (by simp only [List.mem_cons, List.not_mem_nil, or_false]; omega) (by simp only [List.mem_cons, List.not_mem_nil, or_false]; omega)
            have ppaI_0 := paI.fr hfk ppaI_0 (by simp only [List.mem_cons, List.not_mem_nil, or_false]; omega) (by simp only [List.mem_cons, List.not_mem_nil, or_false]; omega) (by simp only [List.mem_cons, List.not_mem_nil, or_false]; omega) (by intro xx hx; simp only [List.mem_cons, List.not_mem_nil, or_false] at hx; omega)
            have hfr := hfr.tr hfk (by simp)
            have hq94 := hlk
            have hq95 := hsk
            have hq := hNq
            have hki := hNki
            have hne := hNne
            have hot := hNot
            change ab_W _ _ _ G88 124 [some (vR q), some (vR p), some (vj w), none, some (vz dd), some (vz cnt), some (vz (w215 / 4294967296)), none] [vz cnt216] _
            have hp96 := prok_add (k := 6) (x := (w / 4294967296)) (v := (w215 / 4294967296)) hp82 (by omega) (by omega) (by omega) (by omega) (by omega) (fun t => by omega) (fun t => absurd t (by decide)) (fun t => absurd t (by decide)) (fun t => absurd t (by decide)) (fun t => absurd t (by decide))
            obtain ⟨K96, eK96⟩ : ∃ z : Int → Int, z = zu K221 cnt216 6 := ⟨_, rfl⟩
            have hki : cc o14 G88 ki (lq + 1) (za 808 K96) := by rw [← eK96.symm]; exact hki
            obtain ⟨N96, eN96⟩ : ∃ z : Int → Int, z = zu N77 cnt216 (w / 4294967296) := ⟨_, rfl⟩
            have hne : cc o14 G88 ne (lq + 2) (za 808 N96) := by rw [← eN96.symm]; exact hne
            obtain ⟨O96, eO96⟩ : ∃ z : Int → Int, z = zu O82 cnt216 (w215 / 4294967296) := ⟨_, rfl⟩
            have hot : cc o14 G88 ot (lq + 3) (za 808 O96) := by rw [← eO96.symm]; exact hot
            rw [← eK96, ← eN96, ← eO96] at hp96
            have hla96 : laI la290 K96 (cnt216 + 1) := by rw [eK96]; exact laI_s hq37 hq93 (fun q => by omega)
            have htk96 : tkn K96 (cnt216 + 1) = tkn K221 cnt216 := by rw [eK96]; exact tkn_n (by omega) (by omega)
            have hkx96 : kext K221 K96 cnt216 := by rw [eK96]; exact kext.zu (Int.le_refl _)
            have hks96 : K96 cnt216 = 6 := by rw [eK96]; exact zu_self _ _ _
            have hsd96 : sdC K96 N96 O96 cnt216 (cnt216 + 1) cnt216 6 (w / 4294967296) (w215 / 4294967296) := ⟨⟨by omega, by omega⟩, by rw [eK96]; exact zu_self _ _ _, by rw [eN96]; exact zu_self _ _ _, by rw [eO96]; exact zu_self _ _ _⟩
            have hpx96 : pxt K221 N77 O82 RR224 cnt216 ru220 K96 N96 O96 RR224 := by rw [eK96, eN96, eO96]; exact pxt.add (Int.le_refl _)
            change ab_W _ _ _ G88 124 [some (vR q), some (vR p), some (vj w), none, some (vz dd), some (vz cnt), some (vz (w215 / 4294967296)), none] [vz cnt216] _
            refine ab_goto (tgt := 139) d_PR_loop_124 (by decide) ?_
            refine ab_istore d_PR_loop_139 (Nat.le_of_ble_eq_true rfl) (Nat.le_of_ble_eq_true rfl) rfl ?_
            change ab_W _ _ _ G88 141 [some (vR q), some (vR p), some (vj w), none, some (vz dd), some (vz cnt), some (vz (w215 / 4294967296)), some (vz cnt216)] [] _
            refine ab_iload d_PR_loop_141 rfl ?_
            refine ab_iload d_PR_loop_143 rfl ?_
            refine ab_callS (d' := d - 1) (as := [vz cnt216, vz cnt]) (st := []) (z_PR_pair (o := o14) (f0 := cnt216) (u0 := cnt) (by omega)) (fun oc G2 h => by rcases h with ⟨h, _⟩ <;> exact ⟨_, h⟩) (by omega) m_PR_pair ml_PR_88 st_PR_pair (Nat.le_of_ble_eq_true rfl) d_PR_loop_145 rfl ?_
            intro v G97 hq
            rcases hq with ⟨hv, hGe⟩
            cases hv
            rw [hGe]
            change ab_W _ _ _ G88 148 [some (vR q), some (vR p), some (vj w), none, some (vz dd), some (vz cnt), some (vz (w215 / 4294967296)), some (vz cnt216)] [vj (cnt216 * 4294967296 + cnt)] _
            refine ab_lret rfl d_PR_loop_148 ?_
            rw [hQ]; exact ⟨_, _, _, _, _, _, _, _, _, _, _, _, rfl, hfr, hq, hki, hne, hot, hra218, ppaI_0, pszB_0, pdnB_0, (by omega), (by omega), (by omega), (by omega), (by exact hp96), (by exact hq31), (by exact hq32), (by exact ((hkx10.tr hq33 (by omega)).tr hkx96 (by omega))), (by exact hzr), (by omega), (by omega), (by exact hla96), (by exact tkn_0), (by omega), (by omega), (by exact ((((hpx10.tr hq41 (by omega) (by omega)).tr hpx77 (by omega) (by omega)).tr hpx82 (by omega) (by omega)).tr hpx96 (by omega) (by omega)).lt (by omega) (by omega)), (by exact RP_T (r := cnt) (lpC.mk ⟨by omega, by omega⟩ (((hq33.tr hkx96 (by omega)) cnt (by omega) (by omega)).trans hsd10.2.1) (fun _ => ⟨((hpx96.2.1 cnt (by omega) (by omega)).trans hsN_).trans (by omega), ((hpx96.2.2.1 cnt (by omega) (by omega)).trans hsO_).trans (by omega)⟩) (fun q => absurd (show lz = 1 by omega) q)) (hrp82.up hpx96 (by omega) (by omega) (by omega) (by omega) (by omega)) (by omega) (fun t => absurd (hoep_ (by omega) (by omega)) t) (lpC.mk (by have t := hsd96.1; omega) (by rw [show (cnt216 * 4294967296 + cnt) / 4294967296 = cnt216 by omega]; exact hsd96.2.1) (fun _ => (by rw [show (cnt216 * 4294967296 + cnt) / 4294967296 = cnt216 by omega]; exact ⟨hsd96.2.2.1.trans (by omega), hsd96.2.2.2.trans (by omega)⟩)) (fun q => absurd (show lz = 1 by omega) q)) (by omega))⟩
        · refine ab_iload d_PR_loop_97 rfl ?_
          refine ab_iload d_PR_loop_99 rfl ?_
          refine ab_callS (d' := d - 1) (as := [vz cnt, vz cnt]) (st := []) (z_PR_pair (o := o14) (f0 := cnt) (u0 := cnt) (by omega)) (fun oc G2 h => by rcases h with ⟨h, _⟩ <;> exact ⟨_, h⟩) (by omega) m_PR_pair ml_PR_88 st_PR_pair (Nat.le_of_ble_eq_true rfl) d_PR_loop_101 rfl ?_
          intro v G98 hq
          rcases hq with ⟨hv, hGe⟩
          cases hv
          rw [hGe]
          change ab_W _ _ _ G79 104 [some (vR q), some (vR p), some (vj w), none, some (vz dd), some (vz cnt), some (vz (w215 / 4294967296)), none] [vj (cnt * 4294967296 + cnt)] _
          refine ab_lret rfl d_PR_loop_104 ?_
          rw [hQ]; exact ⟨_, _, _, _, _, _, _, _, _, _, _, _, rfl, hfr, hq, hki, hne, hot, hra218, ppaI_0, pszB_0, pdnB_0, (by omega), (by omega), (by omega), (by omega), (by exact hp82), (by exact hq31), (by exact hq32), (by exact (hkx10.tr hq33 (by omega))), (by exact hzr), (by omega), (by omega), (by exact hq37), (by exact tkn_0), (by omega), (by omega), (by exact (((hpx10.tr hq41 (by omega) (by omega)).tr hpx77 (by omega) (by omega)).tr hpx82 (by omega) (by omega)).lt (by omega) (by omega)), (by exact RP_T (r := cnt) (lpC.mk ⟨by omega, by omega⟩ ((hq33 cnt (by omega) (by omega)).trans hsd10.2.1) (fun _ => ⟨hsN_.trans (by omega), hsO_.trans (by omega)⟩) (fun q => absurd (show lz = 1 by omega) q)) (hrp82.wd (by omega) (by omega)) (by omega) (fun t => absurd (hoep_ (by omega) (by omega)) t) (by rw [show (cnt * 4294967296 + cnt) / 4294967296 = cnt by omega, show w / 4294967296 = w % 4294967296 by omega]; exact (lpC.mk ⟨by omega, by omega⟩ ((hq33 cnt (by omega) (by omega)).trans hsd10.2.1) (fun _ => ⟨hsN_.trans (by omega), hsO_.trans (by omega)⟩) (fun q => absurd (show lz = 1 by omega) q))) (by omega))⟩
    · refine zz_iconst d_PR_loop_19 ?_
      refine ab_goto (tgt := 25) d_PR_loop_20 (by decide) ?_
      refine ab_iload d_PR_loop_25 rfl ?_
      refine ab_callS (d' := d - 1) (as := [vz 0, vz cnt]) (st := [vR p, vR q]) (z_PR_pair (o := o) (f0 := 0) (u0 := cnt) (by omega)) (fun oc G2 h => by rcases h with ⟨h, _⟩ <;> exact ⟨_, h⟩) (by omega) m_PR_pair ml_PR_88 st_PR_pair (Nat.le_of_ble_eq_true rfl) d_PR_loop_27 rfl ?_
      intro v G99 hq
      rcases hq with ⟨hv, hGe⟩
      cases hv
      rw [hGe]
      change ab_W _ _ _ G2 30 [some (vR q), some (vR p), some (vj w), none, some (vz dd), some (vz cnt), none, none] [vj (0 * 4294967296 + cnt), vR p, vR q] _
      refine ab_iload d_PR_loop_30 rfl ?_
      refine ab_callV (d' := d - 1) (as := [vR p, vj (0 * 4294967296 + cnt), vz dd]) (st := []) (r := _) (z_PR_once (o := o) (q := q) (lq := lq) (ki := ki) (ne := ne) (ot := ot) (cnt := (cnt + 1)) (fi := fi) (la := la24) (ra := ra) (ru := ru) (gr := gr) (wi := wi) (sz := sz) (fl := fl) (ve := ve) (mi := mi) (na := na) (nl := nl) (K := K10) (N := N10) (O := O10) (RR := RR) (nr := nr) (ps := ps) (wt := wt) (bs := bs) (ph := ph) (gq := gq) (p := p) (w := (0 * 4294967296 + cnt)) (dd := dd) (cu := cu) (cs := cs) (on := on) (re := re) (rg := rg) (bq := bq) hq hki hne hot hra ppaI_0 pszB_0 pdnB_0 (by omega) (by omega) hp10 hch hr ((hkx10 0 (by omega) (by omega)).trans ck0) (by omega) hla10 (by omega) hpp (by omega) (by omega) (by omega) (by omega) (by omega) (bqo_c hp (by omega) (by omega) hbe_) (by omega) (by omega) ihR) (fun oc G2 h => by rcases h with ⟨_, _, _, _, _, _, _, _, _, _, _, _, h, _⟩ <;> exact ⟨_, h⟩) (by omega) m_PR_once ml_PR_153 im_PR_once se_PR_once c_PR hq.2.2 (Nat.le_of_ble_eq_true rfl) d_PR_loop_32 rfl ?_
      intro v G100 hq
      rcases hq with ⟨o101, w2102, cnt2103, la2104, ra2105, nr2106, ru2107, K2108, N2109, O2110, RR2111, ph2112, hv, hfk, hNq, hNki, hNne, hNot, hNra2105, pNpaI_0, pNszB_0, pNdnB_0, hq113, hq114, hq115, hq116, hq117, hq118, hq119, hq120, hq121, hq122, hq123, hq124, hq125, hq126, hq127, hq128, hq129⟩
      cases hv
      have hzr := hzr.tr hq121
      obtain ⟨rc130, hKp⟩ := hq121 _ _ _ _ _ _ _ _ _ _ _ _ _ _ _ _ hpp hp
      have hp := hKp
      have ppaI_0 := pNpaI_0
      have pszB_0 := pNszB_0
      have pdnB_0 := pNdnB_0
      have hfr := hfr.tr hfk (by simp)
      have hq131 := hfk.1
      have hq := hNq
      have hki := hNki
      have hne := hNne
      have hot := hNot
      have hra2105 := hNra2105
      change ab_W _ _ _ G100 35 [some (vR q), some (vR p), some (vj w), none, some (vz dd), some (vz cnt), none, none] [vj w2102] _
      refine ab_callS (d' := d - 1) (as := [vj w2102]) (st := []) (z_PR_fresh (o := o101) (w := w2102) (by omega)) (fun oc G2 h => by rcases h with ⟨h, _⟩ <;> exact ⟨_, h⟩) (by omega) m_PR_fresh ml_PR_96 st_PR_fresh (Nat.le_of_ble_eq_true rfl) d_PR_loop_35 rfl ?_
      intro v G132 hq
      rcases hq with ⟨hv, hGe⟩
      cases hv
      rw [hGe]
      change ab_W _ _ _ G100 38 [some (vR q), some (vR p), some (vj w), none, some (vz dd), some (vz cnt), none, none] [vz (w2102 / 4294967296)] _
      refine ab_istore d_PR_loop_38 (Nat.le_of_ble_eq_true rfl) (Nat.le_of_ble_eq_true rfl) rfl ?_
      change ab_W _ _ _ G100 40 [some (vR q), some (vR p), some (vj w), none, some (vz dd), some (vz cnt), some (vz (w2102 / 4294967296)), none] [] _
      refine ab_aload_n d_PR_loop_40 rfl ?_
      refine ab_getf (fs := [vR ki, vR ne, vR ot, vz cnt2103, vz fi, vz la2104, vR ra2105, vz ru2107, vz gr, vz wi, vz sz, vz fl, vz ve, vz mi, vR na, vR nl]) f_PR_15 d_PR_loop_41 hq.2.2 rfl ?_
      refine ab_iload d_PR_loop_44 rfl ?_
      refine ab_aload_n d_PR_loop_46 rfl ?_
      refine ab_getf (fs := [vz k_1, vz v_1, rg_1, vz pl_1, vz fl_1, ou_1, ls_1, bf_1, vz sz_1, vz mb_1, vz oe_1, vz le_1, vz mo_1, vz la_1, vz rc130]) f_PR_156 d_PR_loop_47 hp.2.2 rfl ?_
      refine zz_if_eq (tgt := 60) d_PR_loop_50 (by decide) (by omega) (fun c133 => ?_) (fun c133 => ?_)
      · refine ab_iload d_PR_loop_60 rfl ?_
        refine zz_iast d_PR_loop_62 hne (by omega) (hne.2.1 (by first | omega | exact (show 18 ≤ _ by omega))) ?_
        obtain ⟨G134, eG134⟩ : ∃ z : ab_G, z = List.set G100 ne (za 808 (zu N2109 cnt (w2102 / 4294967296))) := ⟨_, rfl⟩
        have hq := hq.keep hne eG134 (by omega)
        have hki := hki.keep hne eG134 (by omega)
        have hot := hot.keep hne eG134 (by omega)
        have hp := hp.keep hne eG134 (by omega)
        have hra2105 := hra2105.keep hne eG134 (by omega)
        have hzr := hzr.wr hne eG134 (by omega)
        have hst := (fx.rf (o := o101) (S := [(lq + 2)]) (G := G100)).wr hne eG134 (List.mem_singleton.mpr rfl)
        have pszB_0 := szB.fr hst pszB_0 (by simp only [List.mem_cons, List.not_mem_nil, or_false]; omega) (by simp only [List.mem_cons, List.not_mem_nil, or_false]; omega)
        have pdnB_0 := dnB.fr hst ppaI_0 pdnB_0 (by simp only [List.mem_cons, List.not_mem_nil, or_false]; omega) (by simp only [List.mem_cons, List.not_mem_nil, or_false]; omega)
        have ppaI_0 := paI.fr hst ppaI_0 (by simp only [List.mem_cons, List.not_mem_nil, or_false]; omega) (by simp only [List.mem_cons, List.not_mem_nil, or_false]; omega) (by simp only [List.mem_cons, List.not_mem_nil, or_false]; omega) (by intro xx hx; simp only [List.mem_cons, List.not_mem_nil, or_false] at hx; omega)
        have hq135 := z_len eG134
        have hq136 := z_sl hne eG134 rfl
        have hfr := hfr.wr hne eG134 (by simp)
        have hne := hne.kept eG134
        change ab_W _ _ _ (List.set G100 ne (za 808 (zu N2109 cnt (w2102 / 4294967296)))) 63 [some (vR q), some (vR p), some (vj w), none, some (vz dd), some (vz cnt), some (vz (w2102 / 4294967296)), none] [] _
        rw [← eG134]
        have hp137 := prok_next (a := cnt) (x := (w2102 / 4294967296)) hq117 (by omega)
        obtain ⟨N137, eN137⟩ : ∃ z : Int → Int, z = zu N2109 cnt (w2102 / 4294967296) := ⟨_, rfl⟩
        have hne : cc o101 G134 ne (lq + 2) (za 808 N137) := by rw [← eN137.symm]; exact hne
        rw [← eN137] at hp137
        have hpx137 : pxt K2108 N2109 O2110 RR2111 cnt ru2107 K2108 N137 O2110 RR2111 := by rw [eN137]; exact pxt.setN (Int.le_refl _)
        have hrp137 : RP K2108 N137 O2110 RR2111 ru2107 (cnt + 1) cnt2103 (0 * 4294967296 + cnt) w2102 (on p) := by rw [eN137]; exact hq129.setN (by omega)
        have hsN_ : N137 cnt = (w2102 / 4294967296) := by rw [eN137]; exact zu_self _ _ _
        change ab_W _ _ _ G134 63 [some (vR q), some (vR p), some (vj w), none, some (vz dd), some (vz cnt), some (vz (w2102 / 4294967296)), none] [] _
        refine ab_aload_n d_PR_loop_63 rfl ?_
        refine ab_getf (fs := [vR ki, vR ne, vR ot, vz cnt2103, vz fi, vz la2104, vR ra2105, vz ru2107, vz gr, vz wi, vz sz, vz fl, vz ve, vz mi, vR na, vR nl]) f_PR_18 d_PR_loop_64 hq.2.2 rfl ?_
        refine ab_iload d_PR_loop_67 rfl ?_
        refine ab_aload_n d_PR_loop_69 rfl ?_
        refine ab_getf (fs := [vz k_1, vz v_1, rg_1, vz pl_1, vz fl_1, ou_1, ls_1, bf_1, vz sz_1, vz mb_1, vz oe_1, vz le_1, vz mo_1, vz la_1, vz rc130]) f_PR_156 d_PR_loop_70 hp.2.2 rfl ?_
        refine zz_if_eq (tgt := 81) d_PR_loop_73 (by decide) (by omega) (fun c138 => ?_) (fun c138 => absurd c138 (by omega))
        refine ab_lload_n d_PR_loop_81 rfl ?_
        refine ab_callS (d' := d - 1) (as := [vj w]) (st := [vz cnt, vR ot]) (z_PR_used (o := o101) (w := w) (by omega)) (fun oc G2 h => by rcases h with ⟨h, _⟩ <;> exact ⟨_, h⟩) (by omega) m_PR_used ml_PR_124 st_PR_used (Nat.le_of_ble_eq_true rfl) d_PR_loop_82 rfl ?_
        intro v G139 hq
        rcases hq with ⟨hv, hGe⟩
        cases hv
        rw [hGe]
        change ab_W _ _ _ G134 85 [some (vR q), some (vR p), some (vj w), none, some (vz dd), some (vz cnt), some (vz (w2102 / 4294967296)), none] [vz (w % 4294967296), vz cnt, vR ot] _
        refine zz_iast d_PR_loop_85 hot (by omega) (hot.2.1 (by first | omega | exact (show 18 ≤ _ by omega))) ?_
        obtain ⟨G140, eG140⟩ : ∃ z : ab_G, z = List.set G134 ot (za 808 (zu O2110 cnt (w % 4294967296))) := ⟨_, rfl⟩
        have hq := hq.keep hot eG140 (by omega)
        have hki := hki.keep hot eG140 (by omega)
        have hne := hne.keep hot eG140 (by omega)
        have hp := hp.keep hot eG140 (by omega)
        have hra2105 := hra2105.keep hot eG140 (by omega)
        have hzr := hzr.wr hot eG140 (by omega)
        have hst := (fx.rf (o := o101) (S := [(lq + 3)]) (G := G134)).wr hot eG140 (List.mem_singleton.mpr rfl)
        have pszB_0 := szB.fr hst pszB_0 (by simp only [List.mem_cons, List.not_mem_nil, or_false]; omega) (by simp only [List.mem_cons, List.not_mem_nil, or_false]; omega)
        have pdnB_0 := dnB.fr hst ppaI_0 pdnB_0 (by simp only [List.mem_cons, List.not_mem_nil, or_false]; omega) (by simp only [List.mem_cons, List.not_mem_nil, or_false]; omega)
        have ppaI_0 := paI.fr hst ppaI_0 (by simp only [List.mem_cons, List.not_mem_nil, or_false]; omega) (by simp only [List.mem_cons, List.not_mem_nil, or_false]; omega) (by simp only [List.mem_cons, List.not_mem_nil, or_false]; omega) (by intro xx hx; simp only [List.mem_cons, List.not_mem_nil, or_false] at hx; omega)
        have hq141 := z_len eG140
        have hq142 := z_sl hot eG140 rfl
        have hfr := hfr.wr hot eG140 (by simp)
        have hot := hot.kept eG140
        change ab_W _ _ _ (List.set G134 ot (za 808 (zu O2110 cnt (w % 4294967296)))) 86 [some (vR q), some (vR p), some (vj w), none, some (vz dd), some (vz cnt), some (vz (w2102 / 4294967296)), none] [] _
        rw [← eG140]
        have hp143 := prok_other (a := cnt) (x := (w % 4294967296)) hp137 (by omega) (Or.inl ((hq120 cnt (by omega) (by omega)).trans hks10))
        obtain ⟨O143, eO143⟩ : ∃ z : Int → Int, z = zu O2110 cnt (w % 4294967296) := ⟨_, rfl⟩
        have hot : cc o101 G140 ot (lq + 3) (za 808 O143) := by rw [← eO143.symm]; exact hot
        rw [← eO143] at hp143
        have hpx143 : pxt K2108 N137 O2110 RR2111 cnt ru2107 K2108 N137 O143 RR2111 := by rw [eO143]; exact pxt.setO (Int.le_refl _)
        have hrp143 : RP K2108 N137 O143 RR2111 ru2107 (cnt + 1) cnt2103 (0 * 4294967296 + cnt) w2102 (on p) := by rw [eO143]; exact hrp137.setO (by omega)
        have hsO_ : O143 cnt = (w % 4294967296) := by rw [eO143]; exact zu_self _ _ _
        change ab_W _ _ _ G140 86 [some (vR q), some (vR p), some (vj w), none, some (vz dd), some (vz cnt), some (vz (w2102 / 4294967296)), none] [] _
        refine ab_lload_n d_PR_loop_86 rfl ?_
        refine ab_callS (d' := d - 1) (as := [vj w]) (st := []) (z_PR_fresh (o := o101) (w := w) (by omega)) (fun oc G2 h => by rcases h with ⟨h, _⟩ <;> exact ⟨_, h⟩) (by omega) m_PR_fresh ml_PR_96 st_PR_fresh (Nat.le_of_ble_eq_true rfl) d_PR_loop_87 rfl ?_
        intro v G144 hq
        rcases hq with ⟨hv, hGe⟩
        cases hv
        rw [hGe]
        change ab_W _ _ _ G140 90 [some (vR q), some (vR p), some (vj w), none, some (vz dd), some (vz cnt), some (vz (w2102 / 4294967296)), none] [vz (w / 4294967296)] _
        refine ab_lload_n d_PR_loop_90 rfl ?_
        refine ab_callS (d' := d - 1) (as := [vj w]) (st := [vz (w / 4294967296)]) (z_PR_used (o := o101) (w := w) (by omega)) (fun oc G2 h => by rcases h with ⟨h, _⟩ <;> exact ⟨_, h⟩) (by omega) m_PR_used ml_PR_124 st_PR_used (Nat.le_of_ble_eq_true rfl) d_PR_loop_91 rfl ?_
        intro v G145 hq
        rcases hq with ⟨hv, hGe⟩
        cases hv
        rw [hGe]
        change ab_W _ _ _ G140 94 [some (vR q), some (vR p), some (vj w), none, some (vz dd), some (vz cnt), some (vz (w2102 / 4294967296)), none] [vz (w % 4294967296), vz (w / 4294967296)] _
        refine zz_icmp_ne (tgt := 105) d_PR_loop_94 (by decide) (by omega) (by omega) (fun c146 => ?_) (fun c146 => ?_)
        · refine ab_aload_n d_PR_loop_105 rfl ?_
          refine ab_getf (fs := [vz k_1, vz v_1, rg_1, vz pl_1, vz fl_1, ou_1, ls_1, bf_1, vz sz_1, vz mb_1, vz oe_1, vz le_1, vz mo_1, vz la_1, vz rc130]) f_PR_156 d_PR_loop_106 hp.2.2 rfl ?_
          refine zz_if_eq (tgt := 127) d_PR_loop_109 (by decide) (by omega) (fun c147 => ?_) (fun c147 => absurd c147 (by omega))
          refine ab_aload_n d_PR_loop_127 rfl ?_
          refine zz_bipush d_PR_loop_128 (by decide) ?_
          refine ab_iload d_PR_loop_130 rfl ?_
          refine ab_lload_n d_PR_loop_132 rfl ?_
          refine ab_callS (d' := d - 1) (as := [vj w]) (st := [vz (w2102 / 4294967296), vz 6, vR q]) (z_PR_fresh (o := o101) (w := w) (by omega)) (fun oc G2 h => by rcases h with ⟨h, _⟩ <;> exact ⟨_, h⟩) (by omega) m_PR_fresh ml_PR_96 st_PR_fresh (Nat.le_of_ble_eq_true rfl) d_PR_loop_133 rfl ?_
          intro v G148 hq
          rcases hq with ⟨hv, hGe⟩
          cases hv
          rw [hGe]
          change ab_W _ _ _ G140 136 [some (vR q), some (vR p), some (vj w), none, some (vz dd), some (vz cnt), some (vz (w2102 / 4294967296)), none] [vz (w / 4294967296), vz (w2102 / 4294967296), vz 6, vR q] _
          refine ab_callV (d' := d - 1) (as := [vz 6, vz (w2102 / 4294967296), vz (w / 4294967296)]) (st := []) (r := _) (z_PR_add (o := o101) (q := q) (lq := lq) (ki := ki) (ne := ne) (ot := ot) (cnt := cnt2103) (fi := fi) (la := la2104) (ra := ra2105) (ru := ru2107) (gr := gr) (wi := wi) (sz := sz) (fl := fl) (ve := ve) (mi := mi) (na := na) (nl := nl) (K := K2108) (N := N137) (O := O143) (k0 := 6) (x0 := (w2102 / 4294967296)) (v0 := (w / 4294967296)) hq hki hne hot (by omega) (by omega) (by omega)) (fun oc G2 h => by rcases h with ⟨h, _⟩ | ⟨_, h, _⟩ <;> exact ⟨_, h⟩) (by omega) m_PR_add ml_PR_84 im_PR_add se_PR_add c_PR hq.2.2 (Nat.le_of_ble_eq_true rfl) d_PR_loop_136 rfl ?_
          intro v G149 hq
          rcases hq with ⟨hv, hGe, hq150⟩ | ⟨la2151, hv, hfk, hlk, hsk, hNq, hNki, hNne, hNot, hq152, hq153, hq154⟩
          · cases hv
            rw [hGe]
            change ab_W _ _ _ G140 139 [some (vR q), some (vR p), some (vj w), none, some (vz dd), some (vz cnt), some (vz (w2102 / 4294967296)), none] [vz 0] _
            exfalso; omega
          · cases hv
            have hzr := hzr.tr (fzr.fx hfk (by simp only [List.mem_cons, List.not_mem_nil, or_false]; omega))
            have hp := hfk.get hp (by simp only [List.mem_cons, List.not_mem_nil, or_false]; omega)
            have hra2105 := hfk.get hra2105 (by simp only [List.mem_cons, List.not_mem_nil, or_false]; omega)
            have pszB_0 := szB.fr hfk pszB_0 (by simp only [List.mem_cons, List.not_mem_nil, or_false]; omega) (by simp only [List.mem_cons, List.not_mem_nil, or_false]; omega)
            have pdnB_0 := dnB.fr hfk ppaI_0 pdnB_0 (by simp only [List.mem_cons, List.not_mem_nil, or_false]; omega) (by simp only [List.mem_cons, List.not_mem_nil, or_false]; omega)
            have ppaI_0 := paI.fr hfk ppaI_0 (by simp only [List.mem_cons, List.not_mem_nil, or_false]; omega) (by simp only [List.mem_cons, List.not_mem_nil, or_false]; omega) (by simp only [List.mem_cons, List.not_mem_nil, or_false]; omega) (by intro xx hx; simp only [List.mem_cons, List.not_mem_nil, or_false] at hx; omega)
            have hfr := hfr.tr hfk (by simp)
            have hq155 := hlk
            have hq156 := hsk
            have hq := hNq
            have hki := hNki
            have hne := hNne
            have hot := hNot
            change ab_W _ _ _ G149 139 [some (vR q), some (vR p), some (vj w), none, some (vz dd), some (vz cnt), some (vz (w2102 / 4294967296)), none] [vz cnt2103] _
            have hp157 := prok_add (k := 6) (x := (w2102 / 4294967296)) (v := (w / 4294967296)) hp143 (by omega) (by omega) (by omega) (by omega) (by omega) (fun t => by omega) (fun t => absurd t (by decide)) (fun t => absurd t (by decide)) (fun t => absurd t (by decide)) (fun t => absurd t (by decide))
            obtain ⟨K157, eK157⟩ : ∃ z : Int → Int, z = zu K2108 cnt2103 6 := ⟨_, rfl⟩
            have hki : cc o101 G149 ki (lq + 1) (za 808 K157) := by rw [← eK157.symm]; exact hki
            obtain ⟨N157, eN157⟩ : ∃ z : Int → Int, z = zu N137 cnt2103 (w2102 / 4294967296) := ⟨_, rfl⟩
            have hne : cc o101 G149 ne (lq + 2) (za 808 N157) := by rw [← eN157.symm]; exact hne
            obtain ⟨O157, eO157⟩ : ∃ z : Int → Int, z = zu O143 cnt2103 (w / 4294967296) := ⟨_, rfl⟩
            have hot : cc o101 G149 ot (lq + 3) (za 808 O157) := by rw [← eO157.symm]; exact hot
            rw [← eK157, ← eN157, ← eO157] at hp157
            have hla157 : laI la2151 K157 (cnt2103 + 1) := by rw [eK157]; exact laI_s hq124 hq154 (fun q => by omega)
            have htk157 : tkn K157 (cnt2103 + 1) = tkn K2108 cnt2103 := by rw [eK157]; exact tkn_n (by omega) (by omega)
            have hkx157 : kext K2108 K157 cnt2103 := by rw [eK157]; exact kext.zu (Int.le_refl _)
            have hks157 : K157 cnt2103 = 6 := by rw [eK157]; exact zu_self _ _ _
            have hsd157 : sdC K157 N157 O157 cnt2103 (cnt2103 + 1) cnt2103 6 (w2102 / 4294967296) (w / 4294967296) := ⟨⟨by omega, by omega⟩, by rw [eK157]; exact zu_self _ _ _, by rw [eN157]; exact zu_self _ _ _, by rw [eO157]; exact zu_self _ _ _⟩
            have hpx157 : pxt K2108 N137 O143 RR2111 cnt2103 ru2107 K157 N157 O157 RR2111 := by rw [eK157, eN157, eO157]; exact pxt.add (Int.le_refl _)
            change ab_W _ _ _ G149 139 [some (vR q), some (vR p), some (vj w), none, some (vz dd), some (vz cnt), some (vz (w2102 / 4294967296)), none] [vz cnt2103] _
            refine ab_istore d_PR_loop_139 (Nat.le_of_ble_eq_true rfl) (Nat.le_of_ble_eq_true rfl) rfl ?_
            change ab_W _ _ _ G149 141 [some (vR q), some (vR p), some (vj w), none, some (vz dd), some (vz cnt), some (vz (w2102 / 4294967296)), some (vz cnt2103)] [] _
            refine ab_iload d_PR_loop_141 rfl ?_
            refine ab_iload d_PR_loop_143 rfl ?_
            refine ab_callS (d' := d - 1) (as := [vz cnt2103, vz cnt]) (st := []) (z_PR_pair (o := o101) (f0 := cnt2103) (u0 := cnt) (by omega)) (fun oc G2 h => by rcases h with ⟨h, _⟩ <;> exact ⟨_, h⟩) (by omega) m_PR_pair ml_PR_88 st_PR_pair (Nat.le_of_ble_eq_true rfl) d_PR_loop_145 rfl ?_
            intro v G158 hq
            rcases hq with ⟨hv, hGe⟩
            cases hv
            rw [hGe]
            change ab_W _ _ _ G149 148 [some (vR q), some (vR p), some (vj w), none, some (vz dd), some (vz cnt), some (vz (w2102 / 4294967296)), some (vz cnt2103)] [vj (cnt2103 * 4294967296 + cnt)] _
            refine ab_lret rfl d_PR_loop_148 ?_
            rw [hQ]; exact ⟨_, _, _, _, _, _, _, _, _, _, _, _, rfl, hfr, hq, hki, hne, hot, hra2105, ppaI_0, pszB_0, pdnB_0, (by omega), (by omega), (by omega), (by omega), (by exact hp157), (by exact hq118), (by exact hq119), (by exact ((hkx10.tr hq120 (by omega)).tr hkx157 (by omega))), (by exact hzr), (by omega), (by omega), (by exact hla157), (by exact tkn_0), (by omega), (by omega), (by exact ((((hpx10.tr hq128 (by omega) (by omega)).tr hpx137 (by omega) (by omega)).tr hpx143 (by omega) (by omega)).tr hpx157 (by omega) (by omega)).lt (by omega) (by omega)), (by exact RP_T (r := cnt) (lpC.mk ⟨by omega, by omega⟩ (((hq120.tr hkx157 (by omega)) cnt (by omega) (by omega)).trans hsd10.2.1) (fun q => absurd q (show ¬ lz = 1 by omega)) (fun _ => ⟨((hpx157.2.1 cnt (by omega) (by omega)).trans hsN_).trans (by omega), ((hpx157.2.2.1 cnt (by omega) (by omega)).trans hsO_).trans (by omega)⟩)) (hrp143.up hpx157 (by omega) (by omega) (by omega) (by omega) (by omega)) (by omega) (fun _ => by omega) (lpC.mk (by have t := hsd157.1; omega) (by rw [show (cnt2103 * 4294967296 + cnt) / 4294967296 = cnt2103 by omega]; exact hsd157.2.1) (fun q => absurd q (show ¬ lz = 1 by omega)) (fun _ => (by rw [show (cnt2103 * 4294967296 + cnt) / 4294967296 = cnt2103 by omega]; exact ⟨hsd157.2.2.1.trans (by omega), hsd157.2.2.2.trans (by omega)⟩))) (by omega))⟩
        · refine ab_iload d_PR_loop_97 rfl ?_
          refine ab_iload d_PR_loop_99 rfl ?_
          refine ab_callS (d' := d - 1) (as := [vz cnt, vz cnt]) (st := []) (z_PR_pair (o := o101) (f0 := cnt) (u0 := cnt) (by omega)) (fun oc G2 h => by rcases h with ⟨h, _⟩ <;> exact ⟨_, h⟩) (by omega) m_PR_pair ml_PR_88 st_PR_pair (Nat.le_of_ble_eq_true rfl) d_PR_loop_101 rfl ?_
          intro v G159 hq
          rcases hq with ⟨hv, hGe⟩
          cases hv
          rw [hGe]
          change ab_W _ _ _ G140 104 [some (vR q), some (vR p), some (vj w), none, some (vz dd), some (vz cnt), some (vz (w2102 / 4294967296)), none] [vj (cnt * 4294967296 + cnt)] _
          refine ab_lret rfl d_PR_loop_104 ?_
          rw [hQ]; exact ⟨_, _, _, _, _, _, _, _, _, _, _, _, rfl, hfr, hq, hki, hne, hot, hra2105, ppaI_0, pszB_0, pdnB_0, (by omega), (by omega), (by omega), (by omega), (by exact hp143), (by exact hq118), (by exact hq119), (by exact (hkx10.tr hq120 (by omega))), (by exact hzr), (by omega), (by omega), (by exact hq124), (by exact tkn_0), (by omega), (by omega), (by exact (((hpx10.tr hq128 (by omega) (by omega)).tr hpx137 (by omega) (by omega)).tr hpx143 (by omega) (by omega)).lt (by omega) (by omega)), (by exact RP_T (r := cnt) (lpC.mk ⟨by omega, by omega⟩ ((hq120 cnt (by omega) (by omega)).trans hsd10.2.1) (fun q => absurd q (show ¬ lz = 1 by omega)) (fun _ => ⟨hsN_.trans (by omega), hsO_.trans (by omega)⟩)) (hrp143.wd (by omega) (by omega)) (by omega) (fun _ => by omega) (by rw [show (cnt * 4294967296 + cnt) / 4294967296 = cnt by omega, show w / 4294967296 = w % 4294967296 by omega]; exact (lpC.mk ⟨by omega, by omega⟩ ((hq120 cnt (by omega) (by omega)).trans hsd10.2.1) (fun q => absurd q (show ¬ lz = 1 by omega)) (fun _ => ⟨hsN_.trans (by omega), hsO_.trans (by omega)⟩))) (by omega))⟩
      · refine ab_lload_n d_PR_loop_53 rfl ?_
        refine ab_callS (d' := d - 1) (as := [vj w]) (st := [vz cnt, vR ne]) (z_PR_used (o := o101) (w := w) (by omega)) (fun oc G2 h => by rcases h with ⟨h, _⟩ <;> exact ⟨_, h⟩) (by omega) m_PR_used ml_PR_124 st_PR_used (Nat.le_of_ble_eq_true rfl) d_PR_loop_54 rfl ?_
        intro v G160 hq
        rcases hq with ⟨hv, hGe⟩
        cases hv
        rw [hGe]
        change ab_W _ _ _ G100 57 [some (vR q), some (vR p), some (vj w), none, some (vz dd), some (vz cnt), some (vz (w2102 / 4294967296)), none] [vz (w % 4294967296), vz cnt, vR ne] _
        refine ab_goto (tgt := 62) d_PR_loop_57 (by decide) ?_
        refine zz_iast d_PR_loop_62 hne (by omega) (hne.2.1 (by first | omega | exact (show 18 ≤ _ by omega))) ?_
        obtain ⟨G161, eG161⟩ : ∃ z : ab_G, z = List.set G100 ne (za 808 (zu N2109 cnt (w % 4294967296))) := ⟨_, rfl⟩
        have hq := hq.keep hne eG161 (by omega)
        have hki := hki.keep hne eG161 (by omega)
        have hot := hot.keep hne eG161 (by omega)
        have hp := hp.keep hne eG161 (by omega)
        have hra2105 := hra2105.keep hne eG161 (by omega)
        have hzr := hzr.wr hne eG161 (by omega)
        have hst := (fx.rf (o := o101) (S := [(lq + 2)]) (G := G100)).wr hne eG161 (List.mem_singleton.mpr rfl)
        have pszB_0 := szB.fr hst pszB_0 (by simp only [List.mem_cons, List.not_mem_nil, or_false]; omega) (by simp only [List.mem_cons, List.not_mem_nil, or_false]; omega)
        have pdnB_0 := dnB.fr hst ppaI_0 pdnB_0 (by simp only [List.mem_cons, List.not_mem_nil, or_false]; omega) (by simp only [List.mem_cons, List.not_mem_nil, or_false]; omega)
        have ppaI_0 := paI.fr hst ppaI_0 (by simp only [List.mem_cons, List.not_mem_nil, or_false]; omega) (by simp only [List.mem_cons, List.not_mem_nil, or_false]; omega) (by simp only [List.mem_cons, List.not_mem_nil, or_false]; omega) (by intro xx hx; simp only [List.mem_cons, List.not_mem_nil, or_false] at hx; omega)
        have hq162 := z_len eG161
        have hq163 := z_sl hne eG161 rfl
        have hfr := hfr.wr hne eG161 (by simp)
        have hne := hne.kept eG161
        change ab_W _ _ _ (List.set G100 ne (za 808 (zu N2109 cnt (w % 4294967296)))) 63 [some (vR q), some (vR p), some (vj w), none, some (vz dd), some (vz cnt), some (vz (w2102 / 4294967296)), none] [] _
        rw [← eG161]
        have hp164 := prok_next (a := cnt) (x := (w % 4294967296)) hq117 (by omega)
        obtain ⟨N164, eN164⟩ : ∃ z : Int → Int, z = zu N2109 cnt (w % 4294967296) := ⟨_, rfl⟩
        have hne : cc o101 G161 ne (lq + 2) (za 808 N164) := by rw [← eN164.symm]; exact hne
        rw [← eN164] at hp164
        have hpx164 : pxt K2108 N2109 O2110 RR2111 cnt ru2107 K2108 N164 O2110 RR2111 := by rw [eN164]; exact pxt.setN (Int.le_refl _)
        have hrp164 : RP K2108 N164 O2110 RR2111 ru2107 (cnt + 1) cnt2103 (0 * 4294967296 + cnt) w2102 (on p) := by rw [eN164]; exact hq129.setN (by omega)
        have hsN_ : N164 cnt = (w % 4294967296) := by rw [eN164]; exact zu_self _ _ _
        change ab_W _ _ _ G161 63 [some (vR q), some (vR p), some (vj w), none, some (vz dd), some (vz cnt), some (vz (w2102 / 4294967296)), none] [] _
        refine ab_aload_n d_PR_loop_63 rfl ?_
        refine ab_getf (fs := [vR ki, vR ne, vR ot, vz cnt2103, vz fi, vz la2104, vR ra2105, vz ru2107, vz gr, vz wi, vz sz, vz fl, vz ve, vz mi, vR na, vR nl]) f_PR_18 d_PR_loop_64 hq.2.2 rfl ?_
        refine ab_iload d_PR_loop_67 rfl ?_
        refine ab_aload_n d_PR_loop_69 rfl ?_
        refine ab_getf (fs := [vz k_1, vz v_1, rg_1, vz pl_1, vz fl_1, ou_1, ls_1, bf_1, vz sz_1, vz mb_1, vz oe_1, vz le_1, vz mo_1, vz la_1, vz rc130]) f_PR_156 d_PR_loop_70 hp.2.2 rfl ?_
        refine zz_if_eq (tgt := 81) d_PR_loop_73 (by decide) (by omega) (fun c165 => absurd c165 (by omega)) (fun c165 => ?_)
        refine ab_iload d_PR_loop_76 rfl ?_
        refine ab_goto (tgt := 85) d_PR_loop_78 (by decide) ?_
        refine zz_iast d_PR_loop_85 hot (by omega) (hot.2.1 (by first | omega | exact (show 18 ≤ _ by omega))) ?_
        obtain ⟨G166, eG166⟩ : ∃ z : ab_G, z = List.set G161 ot (za 808 (zu O2110 cnt (w2102 / 4294967296))) := ⟨_, rfl⟩
        have hq := hq.keep hot eG166 (by omega)
        have hki := hki.keep hot eG166 (by omega)
        have hne := hne.keep hot eG166 (by omega)
        have hp := hp.keep hot eG166 (by omega)
        have hra2105 := hra2105.keep hot eG166 (by omega)
        have hzr := hzr.wr hot eG166 (by omega)
        have hst := (fx.rf (o := o101) (S := [(lq + 3)]) (G := G161)).wr hot eG166 (List.mem_singleton.mpr rfl)
        have pszB_0 := szB.fr hst pszB_0 (by simp only [List.mem_cons, List.not_mem_nil, or_false]; omega) (by simp only [List.mem_cons, List.not_mem_nil, or_false]; omega)
        have pdnB_0 := dnB.fr hst ppaI_0 pdnB_0 (by simp only [List.mem_cons, List.not_mem_nil, or_false]; omega) (by simp only [List.mem_cons, List.not_mem_nil, or_false]; omega)
        have ppaI_0 := paI.fr hst ppaI_0 (by simp only [List.mem_cons, List.not_mem_nil, or_false]; omega) (by simp only [List.mem_cons, List.not_mem_nil, or_false]; omega) (by simp only [List.mem_cons, List.not_mem_nil, or_false]; omega) (by intro xx hx; simp only [List.mem_cons, List.not_mem_nil, or_false] at hx; omega)
        have hq167 := z_len eG166
        have hq168 := z_sl hot eG166 rfl
        have hfr := hfr.wr hot eG166 (by simp)
        have hot := hot.kept eG166
        change ab_W _ _ _ (List.set G161 ot (za 808 (zu O2110 cnt (w2102 / 4294967296)))) 86 [some (vR q), some (vR p), some (vj w), none, some (vz dd), some (vz cnt), some (vz (w2102 / 4294967296)), none] [] _
        rw [← eG166]
        have hp169 := prok_other (a := cnt) (x := (w2102 / 4294967296)) hp164 (by omega) (Or.inl ((hq120 cnt (by omega) (by omega)).trans hks10))
        obtain ⟨O169, eO169⟩ : ∃ z : Int → Int, z = zu O2110 cnt (w2102 / 4294967296) := ⟨_, rfl⟩
        have hot : cc o101 G166 ot (lq + 3) (za 808 O169) := by rw [← eO169.symm]; exact hot
        rw [← eO169] at hp169
        have hpx169 : pxt K2108 N164 O2110 RR2111 cnt ru2107 K2108 N164 O169 RR2111 := by rw [eO169]; exact pxt.setO (Int.le_refl _)
        have hrp169 : RP K2108 N164 O169 RR2111 ru2107 (cnt + 1) cnt2103 (0 * 4294967296 + cnt) w2102 (on p) := by rw [eO169]; exact hrp164.setO (by omega)
        have hsO_ : O169 cnt = (w2102 / 4294967296) := by rw [eO169]; exact zu_self _ _ _
        change ab_W _ _ _ G166 86 [some (vR q), some (vR p), some (vj w), none, some (vz dd), some (vz cnt), some (vz (w2102 / 4294967296)), none] [] _
        refine ab_lload_n d_PR_loop_86 rfl ?_
        refine ab_callS (d' := d - 1) (as := [vj w]) (st := []) (z_PR_fresh (o := o101) (w := w) (by omega)) (fun oc G2 h => by rcases h with ⟨h, _⟩ <;> exact ⟨_, h⟩) (by omega) m_PR_fresh ml_PR_96 st_PR_fresh (Nat.le_of_ble_eq_true rfl) d_PR_loop_87 rfl ?_
        intro v G170 hq
        rcases hq with ⟨hv, hGe⟩
        cases hv
        rw [hGe]
        change ab_W _ _ _ G166 90 [some (vR q), some (vR p), some (vj w), none, some (vz dd), some (vz cnt), some (vz (w2102 / 4294967296)), none] [vz (w / 4294967296)] _
        refine ab_lload_n d_PR_loop_90 rfl ?_
        refine ab_callS (d' := d - 1) (as := [vj w]) (st := [vz (w / 4294967296)]) (z_PR_used (o := o101) (w := w) (by omega)) (fun oc G2 h => by rcases h with ⟨h, _⟩ <;> exact ⟨_, h⟩) (by omega) m_PR_used ml_PR_124 st_PR_used (Nat.le_of_ble_eq_true rfl) d_PR_loop_91 rfl ?_
        intro v G171 hq
        rcases hq with ⟨hv, hGe⟩
        cases hv
        rw [hGe]
        change ab_W _ _ _ G166 94 [some (vR q), some (vR p), some (vj w), none, some (vz dd), some (vz cnt), some (vz (w2102 / 4294967296)), none] [vz (w % 4294967296), vz (w / 4294967296)] _
        refine zz_icmp_ne (tgt := 105) d_PR_loop_94 (by decide) (by omega) (by omega) (fun c172 => ?_) (fun c172 => ?_)
        · refine ab_aload_n d_PR_loop_105 rfl ?_
          refine ab_getf (fs := [vz k_1, vz v_1, rg_1, vz pl_1, vz fl_1, ou_1, ls_1, bf_1, vz sz_1, vz mb_1, vz oe_1, vz le_1, vz mo_1, vz la_1, vz rc130]) f_PR_156 d_PR_loop_106 hp.2.2 rfl ?_
          refine zz_if_eq (tgt := 127) d_PR_loop_109 (by decide) (by omega) (fun c173 => absurd c173 (by omega)) (fun c173 => ?_)
          refine ab_aload_n d_PR_loop_112 rfl ?_
          refine zz_bipush d_PR_loop_113 (by decide) ?_
          refine ab_lload_n d_PR_loop_115 rfl ?_
          refine ab_callS (d' := d - 1) (as := [vj w]) (st := [vz 6, vR q]) (z_PR_fresh (o := o101) (w := w) (by omega)) (fun oc G2 h => by rcases h with ⟨h, _⟩ <;> exact ⟨_, h⟩) (by omega) m_PR_fresh ml_PR_96 st_PR_fresh (Nat.le_of_ble_eq_true rfl) d_PR_loop_116 rfl ?_
          intro v G174 hq
          rcases hq with ⟨hv, hGe⟩
          cases hv
          rw [hGe]
          change ab_W _ _ _ G166 119 [some (vR q), some (vR p), some (vj w), none, some (vz dd), some (vz cnt), some (vz (w2102 / 4294967296)), none] [vz (w / 4294967296), vz 6, vR q] _
          refine ab_iload d_PR_loop_119 rfl ?_
          refine ab_callV (d' := d - 1) (as := [vz 6, vz (w / 4294967296), vz (w2102 / 4294967296)]) (st := []) (r := _) (z_PR_add (o := o101) (q := q) (lq := lq) (ki := ki) (ne := ne) (ot := ot) (cnt := cnt2103) (fi := fi) (la := la2104) (ra := ra2105) (ru := ru2107) (gr := gr) (wi := wi) (sz := sz) (fl := fl) (ve := ve) (mi := mi) (na := na) (nl := nl) (K := K2108) (N := N164) (O := O169) (k0 := 6) (x0 := (w / 4294967296)) (v0 := (w2102 / 4294967296)) hq hki hne hot (by omega) (by omega) (by omega)) (fun oc G2 h => by rcases h with ⟨h, _⟩ | ⟨_, h, _⟩ <;> exact ⟨_, h⟩) (by omega) m_PR_add ml_PR_84 im_PR_add se_PR_add c_PR hq.2.2 (Nat.le_of_ble_eq_true rfl) d_PR_loop_121 rfl ?_
          intro v G175 hq
          rcases hq with ⟨hv, hGe, hq176⟩ | ⟨la2177, hv, hfk, hlk, hsk, hNq, hNki, hNne, hNot, hq178, hq179, hq180⟩
          · cases hv
            rw [hGe]
            change ab_W _ _ _ G166 124 [some (vR q), some (vR p), some (vj w), none, some (vz dd), some (vz cnt), some (vz (w2102 / 4294967296)), none] [vz 0] _
            exfalso; omega
          · cases hv
            have hzr := hzr.tr (fzr.fx hfk (by simp only [List.mem_cons, List.not_mem_nil, or_false]; omega))
            have hp := hfk.get hp (by simp only [List.mem_cons, List.not_mem_nil, or_false]; omega)
            have hra2105 := hfk.get hra2105 (by simp only [List.mem_cons, List.not_mem_nil, or_false]; omega)
            have pszB_0 := szB.fr hfk pszB_0 (by simp only [List.mem_cons, List.not_mem_nil, or_false]; omega) (by simp only [List.mem_cons, List.not_mem_nil, or_false]; omega)
            have pdnB_0 := dnB.fr hfk ppaI_0 pdnB_0 (by simp only [List.mem_cons, List.not_mem_nil, or_false]; omega) (by simp only [List.mem_cons, List.not_mem_nil, or_false]; omega)
            have ppaI_0 := paI.fr hfk ppaI_0 (by simp only [List.mem_cons, List.not_mem_nil, or_false]; omega) (by simp only [List.mem_cons, List.not_mem_nil, or_false]; omega) (by simp only [List.mem_cons, List.not_mem_nil, or_false]; omega) (by intro xx hx; simp only [List.mem_cons, List.not_mem_nil, or_false] at hx; omega)
            have hfr := hfr.tr hfk (by simp)
            have hq181 := hlk
            have hq182 := hsk
            have hq := hNq
            have hki := hNki
            have hne := hNne
            have hot := hNot
            change ab_W _ _ _ G175 124 [some (vR q), some (vR p), some (vj w), none, some (vz dd), some (vz cnt), some (vz (w2102 / 4294967296)), none] [vz cnt2103] _
            have hp183 := prok_add (k := 6) (x := (w / 4294967296)) (v := (w2102 / 4294967296)) hp169 (by omega) (by omega) (by omega) (by omega) (by omega) (fun t => by omega) (fun t => absurd t (by decide)) (fun t => absurd t (by decide)) (fun t => absurd t (by decide)) (fun t => absurd t (by decide))
            obtain ⟨K183, eK183⟩ : ∃ z : Int → Int, z = zu K2108 cnt2103 6 := ⟨_, rfl⟩
            have hki : cc o101 G175 ki (lq + 1) (za 808 K183) := by rw [← eK183.symm]; exact hki
            obtain ⟨N183, eN183⟩ : ∃ z : Int → Int, z = zu N164 cnt2103 (w / 4294967296) := ⟨_, rfl⟩
            have hne : cc o101 G175 ne (lq + 2) (za 808 N183) := by rw [← eN183.symm]; exact hne
            obtain ⟨O183, eO183⟩ : ∃ z : Int → Int, z = zu O169 cnt2103 (w2102 / 4294967296) := ⟨_, rfl⟩
            have hot : cc o101 G175 ot (lq + 3) (za 808 O183) := by rw [← eO183.symm]; exact hot
            rw [← eK183, ← eN183, ← eO183] at hp183
            have hla183 : laI la2177 K183 (cnt2103 + 1) := by rw [eK183]; exact laI_s hq124 hq180 (fun q => by omega)
            have htk183 : tkn K183 (cnt2103 + 1) = tkn K2108 cnt2103 := by rw [eK183]; exact tkn_n (by omega) (by omega)
            have hkx183 : kext K2108 K183 cnt2103 := by rw [eK183]; exact kext.zu (Int.le_refl _)
            have hks183 : K183 cnt2103 = 6 := by rw [eK183]; exact zu_self _ _ _
            have hsd183 : sdC K183 N183 O183 cnt2103 (cnt2103 + 1) cnt2103 6 (w / 4294967296) (w2102 / 4294967296) := ⟨⟨by omega, by omega⟩, by rw [eK183]; exact zu_self _ _ _, by rw [eN183]; exact zu_self _ _ _, by rw [eO183]; exact zu_self _ _ _⟩
            have hpx183 : pxt K2108 N164 O169 RR2111 cnt2103 ru2107 K183 N183 O183 RR2111 := by rw [eK183, eN183, eO183]; exact pxt.add (Int.le_refl _)
            change ab_W _ _ _ G175 124 [some (vR q), some (vR p), some (vj w), none, some (vz dd), some (vz cnt), some (vz (w2102 / 4294967296)), none] [vz cnt2103] _
            refine ab_goto (tgt := 139) d_PR_loop_124 (by decide) ?_
            refine ab_istore d_PR_loop_139 (Nat.le_of_ble_eq_true rfl) (Nat.le_of_ble_eq_true rfl) rfl ?_
            change ab_W _ _ _ G175 141 [some (vR q), some (vR p), some (vj w), none, some (vz dd), some (vz cnt), some (vz (w2102 / 4294967296)), some (vz cnt2103)] [] _
            refine ab_iload d_PR_loop_141 rfl ?_
            refine ab_iload d_PR_loop_143 rfl ?_
            refine ab_callS (d' := d - 1) (as := [vz cnt2103, vz cnt]) (st := []) (z_PR_pair (o := o101) (f0 := cnt2103) (u0 := cnt) (by omega)) (fun oc G2 h => by rcases h with ⟨h, _⟩ <;> exact ⟨_, h⟩) (by omega) m_PR_pair ml_PR_88 st_PR_pair (Nat.le_of_ble_eq_true rfl) d_PR_loop_145 rfl ?_
            intro v G184 hq
            rcases hq with ⟨hv, hGe⟩
            cases hv
            rw [hGe]
            change ab_W _ _ _ G175 148 [some (vR q), some (vR p), some (vj w), none, some (vz dd), some (vz cnt), some (vz (w2102 / 4294967296)), some (vz cnt2103)] [vj (cnt2103 * 4294967296 + cnt)] _
            refine ab_lret rfl d_PR_loop_148 ?_
            rw [hQ]; exact ⟨_, _, _, _, _, _, _, _, _, _, _, _, rfl, hfr, hq, hki, hne, hot, hra2105, ppaI_0, pszB_0, pdnB_0, (by omega), (by omega), (by omega), (by omega), (by exact hp183), (by exact hq118), (by exact hq119), (by exact ((hkx10.tr hq120 (by omega)).tr hkx183 (by omega))), (by exact hzr), (by omega), (by omega), (by exact hla183), (by exact tkn_0), (by omega), (by omega), (by exact ((((hpx10.tr hq128 (by omega) (by omega)).tr hpx164 (by omega) (by omega)).tr hpx169 (by omega) (by omega)).tr hpx183 (by omega) (by omega)).lt (by omega) (by omega)), (by exact RP_T (r := cnt) (lpC.mk ⟨by omega, by omega⟩ (((hq120.tr hkx183 (by omega)) cnt (by omega) (by omega)).trans hsd10.2.1) (fun _ => ⟨((hpx183.2.1 cnt (by omega) (by omega)).trans hsN_).trans (by omega), ((hpx183.2.2.1 cnt (by omega) (by omega)).trans hsO_).trans (by omega)⟩) (fun q => absurd (show lz = 1 by omega) q)) (hrp169.up hpx183 (by omega) (by omega) (by omega) (by omega) (by omega)) (by omega) (fun _ => by omega) (lpC.mk (by have t := hsd183.1; omega) (by rw [show (cnt2103 * 4294967296 + cnt) / 4294967296 = cnt2103 by omega]; exact hsd183.2.1) (fun _ => (by rw [show (cnt2103 * 4294967296 + cnt) / 4294967296 = cnt2103 by omega]; exact ⟨hsd183.2.2.1.trans (by omega), hsd183.2.2.2.trans (by omega)⟩)) (fun q => absurd (show lz = 1 by omega) q)) (by omega))⟩
        · refine ab_iload d_PR_loop_97 rfl ?_
          refine ab_iload d_PR_loop_99 rfl ?_
          refine ab_callS (d' := d - 1) (as := [vz cnt, vz cnt]) (st := []) (z_PR_pair (o := o101) (f0 := cnt) (u0 := cnt) (by omega)) (fun oc G2 h => by rcases h with ⟨h, _⟩ <;> exact ⟨_, h⟩) (by omega) m_PR_pair ml_PR_88 st_PR_pair (Nat.le_of_ble_eq_true rfl) d_PR_loop_101 rfl ?_
          intro v G185 hq
          rcases hq with ⟨hv, hGe⟩
          cases hv
          rw [hGe]
          change ab_W _ _ _ G166 104 [some (vR q), some (vR p), some (vj w), none, some (vz dd), some (vz cnt), some (vz (w2102 / 4294967296)), none] [vj (cnt * 4294967296 + cnt)] _
          refine ab_lret rfl d_PR_loop_104 ?_
          rw [hQ]; exact ⟨_, _, _, _, _, _, _, _, _, _, _, _, rfl, hfr, hq, hki, hne, hot, hra2105, ppaI_0, pszB_0, pdnB_0, (by omega), (by omega), (by omega), (by omega), (by exact hp169), (by exact hq118), (by exact hq119), (by exact (hkx10.tr hq120 (by omega))), (by exact hzr), (by omega), (by omega), (by exact hq124), (by exact tkn_0), (by omega), (by omega), (by exact (((hpx10.tr hq128 (by omega) (by omega)).tr hpx164 (by omega) (by omega)).tr hpx169 (by omega) (by omega)).lt (by omega) (by omega)), (by exact RP_T (r := cnt) (lpC.mk ⟨by omega, by omega⟩ ((hq120 cnt (by omega) (by omega)).trans hsd10.2.1) (fun _ => ⟨hsN_.trans (by omega), hsO_.trans (by omega)⟩) (fun q => absurd (show lz = 1 by omega) q)) (hrp169.wd (by omega) (by omega)) (by omega) (fun _ => by omega) (by rw [show (cnt * 4294967296 + cnt) / 4294967296 = cnt by omega, show w / 4294967296 = w % 4294967296 by omega]; exact (lpC.mk ⟨by omega, by omega⟩ ((hq120 cnt (by omega) (by omega)).trans hsd10.2.1) (fun _ => ⟨hsN_.trans (by omega), hsO_.trans (by omega)⟩) (fun q => absurd (show lz = 1 by omega) q))) (by omega))⟩
