set_option maxRecDepth 100000 in
set_option maxHeartbeats 4000000 in
theorem zs_PR_addPair {X : ab_X} {d : Nat} {o : Nat → Nat} {G : ab_G} {q : Nat} {lq : Nat} {ki : Nat} {ne : Nat} {ot : Nat} {cnt : Int} {fi : Int} {la : Int} {ra : Nat} {ru : Int} {gr : Int} {wi : Int} {sz : Int} {fl : Int} {ve : Int} {mi : Int} {na : Nat} {nl : Nat} {K : Int → Int} {N : Int → Int} {O : Int → Int} {RR : Int → Int} {nr : Nat} {w : Int} {vl : Int} (hq : cc o G q lq (ab_ob 5 [vR ki, vR ne, vR ot, vz cnt, vz fi, vz la, vR ra, vz ru, vz gr, vz wi, vz sz, vz fl, vz ve, vz mi, vR na, vR nl])) (hki : cc o G ki (lq + 1) (za 808 K)) (hne : cc o G ne (lq + 2) (za 808 N)) (hot : cc o G ot (lq + 3) (za 808 O)) (hra : cc o G ra (lq + 4) (za nr RR)) (n18 : ab_n0 = 18) (cq : 100 ≤ lq ∧ 2 ≤ cnt ∧ cnt ≤ 808 ∧ 0 ≤ la ∧ la ≤ 1) (hp_ : prok K N O RR cnt ru wi) (cw : 0 ≤ w ∧ w / 4294967296 < cnt ∧ w % 4294967296 < cnt) (cv : 2 ≤ vl ∧ vl < wi) (hd : 1 ≤ d) : ab_F X d y_PR_addPair (.code y_PR_addPair b_PR_addPair 7 (some (.long))) [vR q, vz 7, vj w, vz vl] G (fun oc G2 => ∃ w2 : Int, ∃ cnt2 : Int, ∃ la2 : Int, ∃ K2 : Int → Int, ∃ N2 : Int → Int, ∃ O2 : Int → Int, oc = .returned (some (vj w2)) ∧ fx o o [lq, (lq + 1), (lq + 2), (lq + 3)] G G2 ∧ G2.length = G.length ∧ ab_slots G2 = ab_slots G ∧ cc o G2 q lq (ab_ob 5 [vR ki, vR ne, vR ot, vz cnt2, vz fi, vz la2, vR ra, vz ru, vz gr, vz wi, vz sz, vz fl, vz ve, vz mi, vR na, vR nl]) ∧ cc o G2 ki (lq + 1) (za 808 K2) ∧ cc o G2 ne (lq + 2) (za 808 N2) ∧ cc o G2 ot (lq + 3) (za 808 O2) ∧ (cnt ≤ cnt2 ∧ cnt2 ≤ 808 ∧ 0 ≤ la2 ∧ la2 ≤ 1) ∧ (0 ≤ w2 ∧ w2 / 4294967296 < cnt2 ∧ w2 % 4294967296 < cnt2) ∧ (prok K2 N2 O2 RR cnt2 ru wi) ∧ (kext K K2 cnt) ∧ (cnt2 ≤ cnt + 2)) := by
  refine ab_F_of (by decide +kernel) (Nat.le_of_ble_eq_true rfl) ?_
  obtain ⟨Q, hQ⟩ : ∃ z : Outcome → ab_G → Prop, z = (fun oc G2 => ∃ w2 : Int, ∃ cnt2 : Int, ∃ la2 : Int, ∃ K2 : Int → Int, ∃ N2 : Int → Int, ∃ O2 : Int → Int, oc = .returned (some (vj w2)) ∧ fx o o [lq, (lq + 1), (lq + 2), (lq + 3)] G G2 ∧ G2.length = G.length ∧ ab_slots G2 = ab_slots G ∧ cc o G2 q lq (ab_ob 5 [vR ki, vR ne, vR ot, vz cnt2, vz fi, vz la2, vR ra, vz ru, vz gr, vz wi, vz sz, vz fl, vz ve, vz mi, vR na, vR nl]) ∧ cc o G2 ki (lq + 1) (za 808 K2) ∧ cc o G2 ne (lq + 2) (za 808 N2) ∧ cc o G2 ot (lq + 3) (za 808 O2) ∧ (cnt ≤ cnt2 ∧ cnt2 ≤ 808 ∧ 0 ≤ la2 ∧ la2 ≤ 1) ∧ (0 ≤ w2 ∧ w2 / 4294967296 < cnt2 ∧ w2 % 4294967296 < cnt2) ∧ (prok K2 N2 O2 RR cnt2 ru wi) ∧ (kext K K2 cnt) ∧ (cnt2 ≤ cnt + 2)) := ⟨_, rfl⟩
  rw [← hQ]
  change ab_W X (ab_pl y_PR_addPair b_PR_addPair 7 (some (.long))) d G 0 [some (vR q), some (vz 7), some (vj w), none, some (vz vl), none, none] [] Q
  have hfr : fx o o [lq, (lq + 1), (lq + 2), (lq + 3)] G G := fx.rf
  have hlen : G.length = G.length := rfl
  have hsl : ab_slots G = ab_slots G := rfl
  refine ab_aload_n d_PR_addPair_0 rfl ?_
  refine ab_iload_n d_PR_addPair_1 rfl ?_
  refine ab_lload_n d_PR_addPair_2 rfl ?_
  refine ab_callS (d' := d - 1) (as := [vj w]) (st := [vz 7, vR q]) (z_PR_fresh (o := o) (w := w) (by omega)) (fun oc G2 h => by rcases h with ⟨h, _⟩ <;> exact ⟨_, h⟩) (by omega) m_PR_fresh ml_PR_96 st_PR_fresh (Nat.le_of_ble_eq_true rfl) d_PR_addPair_3 rfl ?_
  intro v G1 hq
  rcases hq with ⟨hv, hGe⟩
  cases hv
  rw [hGe]
  change ab_W _ _ _ G 6 [some (vR q), some (vz 7), some (vj w), none, some (vz vl), none, none] [vz (w / 4294967296), vz 7, vR q] _
  refine ab_iload d_PR_addPair_6 rfl ?_
  refine ab_callV (d' := d - 1) (as := [vz 7, vz (w / 4294967296), vz vl]) (st := []) (r := _) (z_PR_add (o := o) (q := q) (lq := lq) (ki := ki) (ne := ne) (ot := ot) (cnt := cnt) (fi := fi) (la := la) (ra := ra) (ru := ru) (gr := gr) (wi := wi) (sz := sz) (fl := fl) (ve := ve) (mi := mi) (na := na) (nl := nl) (K := K) (N := N) (O := O) (k0 := 7) (x0 := (w / 4294967296)) (v0 := vl) hq hki hne hot (by omega) (by omega) (by omega)) (fun oc G2 h => by rcases h with ⟨h, _⟩ | ⟨_, h, _⟩ <;> exact ⟨_, h⟩) (by omega) m_PR_add ml_PR_84 im_PR_add se_PR_add c_PR hq.2.2 (Nat.le_of_ble_eq_true rfl) d_PR_addPair_8 rfl ?_
  intro v G2 hq
  rcases hq with ⟨hv, hGe, hq3⟩ | ⟨la24, hv, hfk, hlk, hsk, hNq, hNki, hNne, hNot, hq5, hq6, hq7⟩
  · cases hv
    rw [hGe]
    change ab_W _ _ _ G 11 [some (vR q), some (vz 7), some (vj w), none, some (vz vl), none, none] [vz 0] _
    refine ab_istore d_PR_addPair_11 (Nat.le_of_ble_eq_true rfl) (Nat.le_of_ble_eq_true rfl) rfl ?_
    change ab_W _ _ _ G 13 [some (vR q), some (vz 7), some (vj w), none, some (vz vl), some (vz 0), none] [] _
    refine ab_lload_n d_PR_addPair_13 rfl ?_
    refine ab_callS (d' := d - 1) (as := [vj w]) (st := []) (z_PR_fresh (o := o) (w := w) (by omega)) (fun oc G2 h => by rcases h with ⟨h, _⟩ <;> exact ⟨_, h⟩) (by omega) m_PR_fresh ml_PR_96 st_PR_fresh (Nat.le_of_ble_eq_true rfl) d_PR_addPair_14 rfl ?_
    intro v G8 hq
    rcases hq with ⟨hv, hGe⟩
    cases hv
    rw [hGe]
    change ab_W _ _ _ G 17 [some (vR q), some (vz 7), some (vj w), none, some (vz vl), some (vz 0), none] [vz (w / 4294967296)] _
    refine ab_lload_n d_PR_addPair_17 rfl ?_
    refine ab_callS (d' := d - 1) (as := [vj w]) (st := [vz (w / 4294967296)]) (z_PR_used (o := o) (w := w) (by omega)) (fun oc G2 h => by rcases h with ⟨h, _⟩ <;> exact ⟨_, h⟩) (by omega) m_PR_used ml_PR_124 st_PR_used (Nat.le_of_ble_eq_true rfl) d_PR_addPair_18 rfl ?_
    intro v G9 hq
    rcases hq with ⟨hv, hGe⟩
    cases hv
    rw [hGe]
    change ab_W _ _ _ G 21 [some (vR q), some (vz 7), some (vj w), none, some (vz vl), some (vz 0), none] [vz (w % 4294967296), vz (w / 4294967296)] _
    refine zz_icmp_ne (tgt := 29) d_PR_addPair_21 (by decide) (by omega) (by omega) (fun c10 => ?_) (fun c10 => ?_)
    · refine ab_aload_n d_PR_addPair_29 rfl ?_
      refine ab_iload_n d_PR_addPair_30 rfl ?_
      refine ab_lload_n d_PR_addPair_31 rfl ?_
      refine ab_callS (d' := d - 1) (as := [vj w]) (st := [vz 7, vR q]) (z_PR_used (o := o) (w := w) (by omega)) (fun oc G2 h => by rcases h with ⟨h, _⟩ <;> exact ⟨_, h⟩) (by omega) m_PR_used ml_PR_124 st_PR_used (Nat.le_of_ble_eq_true rfl) d_PR_addPair_32 rfl ?_
      intro v G11 hq
      rcases hq with ⟨hv, hGe⟩
      cases hv
      rw [hGe]
      change ab_W _ _ _ G 35 [some (vR q), some (vz 7), some (vj w), none, some (vz vl), some (vz 0), none] [vz (w % 4294967296), vz 7, vR q] _
      refine ab_iload d_PR_addPair_35 rfl ?_
      refine ab_callV (d' := d - 1) (as := [vz 7, vz (w % 4294967296), vz vl]) (st := []) (r := _) (z_PR_add (o := o) (q := q) (lq := lq) (ki := ki) (ne := ne) (ot := ot) (cnt := cnt) (fi := fi) (la := la) (ra := ra) (ru := ru) (gr := gr) (wi := wi) (sz := sz) (fl := fl) (ve := ve) (mi := mi) (na := na) (nl := nl) (K := K) (N := N) (O := O) (k0 := 7) (x0 := (w % 4294967296)) (v0 := vl) hq hki hne hot (by omega) (by omega) (by omega)) (fun oc G2 h => by rcases h with ⟨h, _⟩ | ⟨_, h, _⟩ <;> exact ⟨_, h⟩) (by omega) m_PR_add ml_PR_84 im_PR_add se_PR_add c_PR hq.2.2 (Nat.le_of_ble_eq_true rfl) d_PR_addPair_37 rfl ?_
      intro v G12 hq
      rcases hq with ⟨hv, hGe, hq13⟩ | ⟨la214, hv, hfk, hlk, hsk, hNq, hNki, hNne, hNot, hq15, hq16, hq17⟩
      · cases hv
        rw [hGe]
        change ab_W _ _ _ G 40 [some (vR q), some (vz 7), some (vj w), none, some (vz vl), some (vz 0), none] [vz 0] _
        refine ab_istore d_PR_addPair_40 (Nat.le_of_ble_eq_true rfl) (Nat.le_of_ble_eq_true rfl) rfl ?_
        change ab_W _ _ _ G 42 [some (vR q), some (vz 7), some (vj w), none, some (vz vl), some (vz 0), some (vz 0)] [] _
        refine ab_iload d_PR_addPair_42 rfl ?_
        refine ab_iload d_PR_addPair_44 rfl ?_
        refine ab_callS (d' := d - 1) (as := [vz 0, vz 0]) (st := []) (z_PR_pair (o := o) (f0 := 0) (u0 := 0) (by omega)) (fun oc G2 h => by rcases h with ⟨h, _⟩ <;> exact ⟨_, h⟩) (by omega) m_PR_pair ml_PR_88 st_PR_pair (Nat.le_of_ble_eq_true rfl) d_PR_addPair_46 rfl ?_
        intro v G18 hq
        rcases hq with ⟨hv, hGe⟩
        cases hv
        rw [hGe]
        change ab_W _ _ _ G 49 [some (vR q), some (vz 7), some (vj w), none, some (vz vl), some (vz 0), some (vz 0)] [vj (0 * 4294967296 + 0)] _
        refine ab_lret rfl d_PR_addPair_49 ?_
        rw [hQ]; exact ⟨_, _, _, _, _, _, rfl, hfr, hlen, hsl, hq, hki, hne, hot, (by omega), (by omega), (by exact hp_), (by exact kext.rf), (by omega)⟩
      · cases hv
        have hra := hfk.get hra (by simp only [List.mem_cons, List.not_mem_nil, or_false]; omega)
        have hfr := hfr.tr hfk (by simp)
        have hlen := hlk.trans hlen
        have hsl := hsk.trans hsl
        have hq := hNq
        have hki := hNki
        have hne := hNne
        have hot := hNot
        change ab_W _ _ _ G12 40 [some (vR q), some (vz 7), some (vj w), none, some (vz vl), some (vz 0), none] [vz cnt] _
        exfalso; omega
    · refine ab_iload d_PR_addPair_24 rfl ?_
      refine ab_goto (tgt := 40) d_PR_addPair_26 (by decide) ?_
      refine ab_istore d_PR_addPair_40 (Nat.le_of_ble_eq_true rfl) (Nat.le_of_ble_eq_true rfl) rfl ?_
      change ab_W _ _ _ G 42 [some (vR q), some (vz 7), some (vj w), none, some (vz vl), some (vz 0), some (vz 0)] [] _
      refine ab_iload d_PR_addPair_42 rfl ?_
      refine ab_iload d_PR_addPair_44 rfl ?_
      refine ab_callS (d' := d - 1) (as := [vz 0, vz 0]) (st := []) (z_PR_pair (o := o) (f0 := 0) (u0 := 0) (by omega)) (fun oc G2 h => by rcases h with ⟨h, _⟩ <;> exact ⟨_, h⟩) (by omega) m_PR_pair ml_PR_88 st_PR_pair (Nat.le_of_ble_eq_true rfl) d_PR_addPair_46 rfl ?_
      intro v G19 hq
      rcases hq with ⟨hv, hGe⟩
      cases hv
      rw [hGe]
      change ab_W _ _ _ G 49 [some (vR q), some (vz 7), some (vj w), none, some (vz vl), some (vz 0), some (vz 0)] [vj (0 * 4294967296 + 0)] _
      refine ab_lret rfl d_PR_addPair_49 ?_
      rw [hQ]; exact ⟨_, _, _, _, _, _, rfl, hfr, hlen, hsl, hq, hki, hne, hot, (by omega), (by omega), (by exact hp_), (by exact kext.rf), (by omega)⟩
  · cases hv
    have hra := hfk.get hra (by simp only [List.mem_cons, List.not_mem_nil, or_false]; omega)
    have hfr := hfr.tr hfk (by simp)
    have hlen := hlk.trans hlen
    have hsl := hsk.trans hsl
    have hq := hNq
    have hki := hNki
    have hne := hNne
    have hot := hNot
    change ab_W _ _ _ G2 11 [some (vR q), some (vz 7), some (vj w), none, some (vz vl), none, none] [vz cnt] _
    have hp20 := prok_add (k := 7) (x := (w / 4294967296)) (v := vl) hp_ (by omega) (by omega) (by omega) (by omega) (by omega) (fun t => absurd t (by decide)) (fun t => by omega) (fun t => absurd t (by decide)) (fun t => absurd t (by decide)) (fun t => absurd t (by decide))
    obtain ⟨K20, eK20⟩ : ∃ z : Int → Int, z = zu K cnt 7 := ⟨_, rfl⟩
    have hki : cc o G2 ki (lq + 1) (za 808 K20) := by rw [← eK20.symm]; exact hki
    obtain ⟨N20, eN20⟩ : ∃ z : Int → Int, z = zu N cnt (w / 4294967296) := ⟨_, rfl⟩
    have hne : cc o G2 ne (lq + 2) (za 808 N20) := by rw [← eN20.symm]; exact hne
    obtain ⟨O20, eO20⟩ : ∃ z : Int → Int, z = zu O cnt vl := ⟨_, rfl⟩
    have hot : cc o G2 ot (lq + 3) (za 808 O20) := by rw [← eO20.symm]; exact hot
    rw [← eK20, ← eN20, ← eO20] at hp20
    have hkx20 : kext K K20 cnt := by rw [eK20]; exact kext.zu (Int.le_refl _)
    have hks20 : K20 cnt = 7 := by rw [eK20]; exact zu_self _ _ _
    change ab_W _ _ _ G2 11 [some (vR q), some (vz 7), some (vj w), none, some (vz vl), none, none] [vz cnt] _
    refine ab_istore d_PR_addPair_11 (Nat.le_of_ble_eq_true rfl) (Nat.le_of_ble_eq_true rfl) rfl ?_
    change ab_W _ _ _ G2 13 [some (vR q), some (vz 7), some (vj w), none, some (vz vl), some (vz cnt), none] [] _
    refine ab_lload_n d_PR_addPair_13 rfl ?_
    refine ab_callS (d' := d - 1) (as := [vj w]) (st := []) (z_PR_fresh (o := o) (w := w) (by omega)) (fun oc G2 h => by rcases h with ⟨h, _⟩ <;> exact ⟨_, h⟩) (by omega) m_PR_fresh ml_PR_96 st_PR_fresh (Nat.le_of_ble_eq_true rfl) d_PR_addPair_14 rfl ?_
    intro v G21 hq
    rcases hq with ⟨hv, hGe⟩
    cases hv
    rw [hGe]
    change ab_W _ _ _ G2 17 [some (vR q), some (vz 7), some (vj w), none, some (vz vl), some (vz cnt), none] [vz (w / 4294967296)] _
    refine ab_lload_n d_PR_addPair_17 rfl ?_
    refine ab_callS (d' := d - 1) (as := [vj w]) (st := [vz (w / 4294967296)]) (z_PR_used (o := o) (w := w) (by omega)) (fun oc G2 h => by rcases h with ⟨h, _⟩ <;> exact ⟨_, h⟩) (by omega) m_PR_used ml_PR_124 st_PR_used (Nat.le_of_ble_eq_true rfl) d_PR_addPair_18 rfl ?_
    intro v G22 hq
    rcases hq with ⟨hv, hGe⟩
    cases hv
    rw [hGe]
    change ab_W _ _ _ G2 21 [some (vR q), some (vz 7), some (vj w), none, some (vz vl), some (vz cnt), none] [vz (w % 4294967296), vz (w / 4294967296)] _
    refine zz_icmp_ne (tgt := 29) d_PR_addPair_21 (by decide) (by omega) (by omega) (fun c23 => ?_) (fun c23 => ?_)
    · refine ab_aload_n d_PR_addPair_29 rfl ?_
      refine ab_iload_n d_PR_addPair_30 rfl ?_
      refine ab_lload_n d_PR_addPair_31 rfl ?_
      refine ab_callS (d' := d - 1) (as := [vj w]) (st := [vz 7, vR q]) (z_PR_used (o := o) (w := w) (by omega)) (fun oc G2 h => by rcases h with ⟨h, _⟩ <;> exact ⟨_, h⟩) (by omega) m_PR_used ml_PR_124 st_PR_used (Nat.le_of_ble_eq_true rfl) d_PR_addPair_32 rfl ?_
      intro v G24 hq
      rcases hq with ⟨hv, hGe⟩
      cases hv
      rw [hGe]
      change ab_W _ _ _ G2 35 [some (vR q), some (vz 7), some (vj w), none, some (vz vl), some (vz cnt), none] [vz (w % 4294967296), vz 7, vR q] _
      refine ab_iload d_PR_addPair_35 rfl ?_
      refine ab_callV (d' := d - 1) (as := [vz 7, vz (w % 4294967296), vz vl]) (st := []) (r := _) (z_PR_add (o := o) (q := q) (lq := lq) (ki := ki) (ne := ne) (ot := ot) (cnt := (cnt + 1)) (fi := fi) (la := la24) (ra := ra) (ru := ru) (gr := gr) (wi := wi) (sz := sz) (fl := fl) (ve := ve) (mi := mi) (na := na) (nl := nl) (K := K20) (N := N20) (O := O20) (k0 := 7) (x0 := (w % 4294967296)) (v0 := vl) hq hki hne hot (by omega) (by omega) (by omega)) (fun oc G2 h => by rcases h with ⟨h, _⟩ | ⟨_, h, _⟩ <;> exact ⟨_, h⟩) (by omega) m_PR_add ml_PR_84 im_PR_add se_PR_add c_PR hq.2.2 (Nat.le_of_ble_eq_true rfl) d_PR_addPair_37 rfl ?_
      intro v G25 hq
      rcases hq with ⟨hv, hGe, hq26⟩ | ⟨la227, hv, hfk, hlk, hsk, hNq, hNki, hNne, hNot, hq28, hq29, hq30⟩
      · cases hv
        rw [hGe]
        change ab_W _ _ _ G2 40 [some (vR q), some (vz 7), some (vj w), none, some (vz vl), some (vz cnt), none] [vz 0] _
        refine ab_istore d_PR_addPair_40 (Nat.le_of_ble_eq_true rfl) (Nat.le_of_ble_eq_true rfl) rfl ?_
        change ab_W _ _ _ G2 42 [some (vR q), some (vz 7), some (vj w), none, some (vz vl), some (vz cnt), some (vz 0)] [] _
        refine ab_iload d_PR_addPair_42 rfl ?_
        refine ab_iload d_PR_addPair_44 rfl ?_
        refine ab_callS (d' := d - 1) (as := [vz cnt, vz 0]) (st := []) (z_PR_pair (o := o) (f0 := cnt) (u0 := 0) (by omega)) (fun oc G2 h => by rcases h with ⟨h, _⟩ <;> exact ⟨_, h⟩) (by omega) m_PR_pair ml_PR_88 st_PR_pair (Nat.le_of_ble_eq_true rfl) d_PR_addPair_46 rfl ?_
        intro v G31 hq
        rcases hq with ⟨hv, hGe⟩
        cases hv
        rw [hGe]
        change ab_W _ _ _ G2 49 [some (vR q), some (vz 7), some (vj w), none, some (vz vl), some (vz cnt), some (vz 0)] [vj (cnt * 4294967296 + 0)] _
        refine ab_lret rfl d_PR_addPair_49 ?_
        rw [hQ]; exact ⟨_, _, _, _, _, _, rfl, hfr, hlen, hsl, hq, hki, hne, hot, (by omega), (by omega), (by exact hp20), (by exact hkx20), (by omega)⟩
      · cases hv
        have hra := hfk.get hra (by simp only [List.mem_cons, List.not_mem_nil, or_false]; omega)
        have hfr := hfr.tr hfk (by simp)
        have hlen := hlk.trans hlen
        have hsl := hsk.trans hsl
        have hq := hNq
        have hki := hNki
        have hne := hNne
        have hot := hNot
        change ab_W _ _ _ G25 40 [some (vR q), some (vz 7), some (vj w), none, some (vz vl), some (vz cnt), none] [vz (cnt + 1)] _
        have hp32 := prok_add (k := 7) (x := (w % 4294967296)) (v := vl) hp20 (by omega) (by omega) (by omega) (by omega) (by omega) (fun t => absurd t (by decide)) (fun t => by omega) (fun t => absurd t (by decide)) (fun t => absurd t (by decide)) (fun t => absurd t (by decide))
        obtain ⟨K32, eK32⟩ : ∃ z : Int → Int, z = zu K20 (cnt + 1) 7 := ⟨_, rfl⟩
        have hki : cc o G25 ki (lq + 1) (za 808 K32) := by rw [← eK32.symm]; exact hki
        obtain ⟨N32, eN32⟩ : ∃ z : Int → Int, z = zu N20 (cnt + 1) (w % 4294967296) := ⟨_, rfl⟩
        have hne : cc o G25 ne (lq + 2) (za 808 N32) := by rw [← eN32.symm]; exact hne
        obtain ⟨O32, eO32⟩ : ∃ z : Int → Int, z = zu O20 (cnt + 1) vl := ⟨_, rfl⟩
        have hot : cc o G25 ot (lq + 3) (za 808 O32) := by rw [← eO32.symm]; exact hot
        rw [← eK32, ← eN32, ← eO32] at hp32
        have hkx32 : kext K20 K32 (cnt + 1) := by rw [eK32]; exact kext.zu (Int.le_refl _)
        have hks32 : K32 (cnt + 1) = 7 := by rw [eK32]; exact zu_self _ _ _
        change ab_W _ _ _ G25 40 [some (vR q), some (vz 7), some (vj w), none, some (vz vl), some (vz cnt), none] [vz (cnt + 1)] _
        refine ab_istore d_PR_addPair_40 (Nat.le_of_ble_eq_true rfl) (Nat.le_of_ble_eq_true rfl) rfl ?_
        change ab_W _ _ _ G25 42 [some (vR q), some (vz 7), some (vj w), none, some (vz vl), some (vz cnt), some (vz (cnt + 1))] [] _
        refine ab_iload d_PR_addPair_42 rfl ?_
        refine ab_iload d_PR_addPair_44 rfl ?_
        refine ab_callS (d' := d - 1) (as := [vz cnt, vz (cnt + 1)]) (st := []) (z_PR_pair (o := o) (f0 := cnt) (u0 := (cnt + 1)) (by omega)) (fun oc G2 h => by rcases h with ⟨h, _⟩ <;> exact ⟨_, h⟩) (by omega) m_PR_pair ml_PR_88 st_PR_pair (Nat.le_of_ble_eq_true rfl) d_PR_addPair_46 rfl ?_
        intro v G33 hq
        rcases hq with ⟨hv, hGe⟩
        cases hv
        rw [hGe]
        change ab_W _ _ _ G25 49 [some (vR q), some (vz 7), some (vj w), none, some (vz vl), some (vz cnt), some (vz (cnt + 1))] [vj (cnt * 4294967296 + (cnt + 1))] _
        refine ab_lret rfl d_PR_addPair_49 ?_
        rw [hQ]; exact ⟨_, _, _, _, _, _, rfl, hfr, hlen, hsl, hq, hki, hne, hot, (by omega), (by omega), (by exact hp32), (by exact (hkx20.tr hkx32 (by omega))), (by omega)⟩
    · refine ab_iload d_PR_addPair_24 rfl ?_
      refine ab_goto (tgt := 40) d_PR_addPair_26 (by decide) ?_
      refine ab_istore d_PR_addPair_40 (Nat.le_of_ble_eq_true rfl) (Nat.le_of_ble_eq_true rfl) rfl ?_
      change ab_W _ _ _ G2 42 [some (vR q), some (vz 7), some (vj w), none, some (vz vl), some (vz cnt), some (vz cnt)] [] _
      refine ab_iload d_PR_addPair_42 rfl ?_
      refine ab_iload d_PR_addPair_44 rfl ?_
      refine ab_callS (d' := d - 1) (as := [vz cnt, vz cnt]) (st := []) (z_PR_pair (o := o) (f0 := cnt) (u0 := cnt) (by omega)) (fun oc G2 h => by rcases h with ⟨h, _⟩ <;> exact ⟨_, h⟩) (by omega) m_PR_pair ml_PR_88 st_PR_pair (Nat.le_of_ble_eq_true rfl) d_PR_addPair_46 rfl ?_
      intro v G34 hq
      rcases hq with ⟨hv, hGe⟩
      cases hv
      rw [hGe]
      change ab_W _ _ _ G2 49 [some (vR q), some (vz 7), some (vj w), none, some (vz vl), some (vz cnt), some (vz cnt)] [vj (cnt * 4294967296 + cnt)] _
      refine ab_lret rfl d_PR_addPair_49 ?_
      rw [hQ]; exact ⟨_, _, _, _, _, _, rfl, hfr, hlen, hsl, hq, hki, hne, hot, (by omega), (by omega), (by exact hp20), (by exact hkx20), (by omega)⟩
set_option maxRecDepth 100000 in
set_option maxHeartbeats 4000000 in
theorem za_PR_addPair {X : ab_X} {d : Nat} {o : Nat → Nat} {G : ab_G} {q : Nat} {lq : Nat} {ki : Nat} {ne : Nat} {ot : Nat} {cnt : Int} {fi : Int} {la : Int} {ra : Nat} {ru : Int} {gr : Int} {wi : Int} {sz : Int} {fl : Int} {ve : Int} {mi : Int} {na : Nat} {nl : Nat} {K : Int → Int} {N : Int → Int} {O : Int → Int} {RR : Int → Int} {nr : Nat} {w : Int} {vl : Int} (hq : cc o G q lq (ab_ob 5 [vR ki, vR ne, vR ot, vz cnt, vz fi, vz la, vR ra, vz ru, vz gr, vz wi, vz sz, vz fl, vz ve, vz mi, vR na, vR nl])) (hki : cc o G ki (lq + 1) (za 808 K)) (hne : cc o G ne (lq + 2) (za 808 N)) (hot : cc o G ot (lq + 3) (za 808 O)) (hra : cc o G ra (lq + 4) (za nr RR)) (n18 : ab_n0 = 18) (cq : 100 ≤ lq ∧ 2 ≤ cnt ∧ cnt ≤ 808 ∧ 0 ≤ la ∧ la ≤ 1) (hp_ : prok K N O RR cnt ru wi) (cw : 0 ≤ w ∧ w / 4294967296 < cnt ∧ w % 4294967296 < cnt) (cv : 0 ≤ vl ∧ vl ≤ 5) (hd : 1 ≤ d) : ab_F X d y_PR_addPair (.code y_PR_addPair b_PR_addPair 7 (some (.long))) [vR q, vz 3, vj w, vz vl] G (fun oc G2 => ∃ w2 : Int, ∃ cnt2 : Int, ∃ la2 : Int, ∃ K2 : Int → Int, ∃ N2 : Int → Int, ∃ O2 : Int → Int, oc = .returned (some (vj w2)) ∧ fx o o [lq, (lq + 1), (lq + 2), (lq + 3)] G G2 ∧ G2.length = G.length ∧ ab_slots G2 = ab_slots G ∧ cc o G2 q lq (ab_ob 5 [vR ki, vR ne, vR ot, vz cnt2, vz fi, vz la2, vR ra, vz ru, vz gr, vz wi, vz sz, vz fl, vz ve, vz mi, vR na, vR nl]) ∧ cc o G2 ki (lq + 1) (za 808 K2) ∧ cc o G2 ne (lq + 2) (za 808 N2) ∧ cc o G2 ot (lq + 3) (za 808 O2) ∧ (cnt ≤ cnt2 ∧ cnt2 ≤ 808 ∧ 0 ≤ la2 ∧ la2 ≤ 1) ∧ (0 ≤ w2 ∧ w2 / 4294967296 < cnt2 ∧ w2 % 4294967296 < cnt2) ∧ (prok K2 N2 O2 RR cnt2 ru wi) ∧ (kext K K2 cnt) ∧ (cnt2 ≤ cnt + 2)) := by
  refine ab_F_of (by decide +kernel) (Nat.le_of_ble_eq_true rfl) ?_
  obtain ⟨Q, hQ⟩ : ∃ z : Outcome → ab_G → Prop, z = (fun oc G2 => ∃ w2 : Int, ∃ cnt2 : Int, ∃ la2 : Int, ∃ K2 : Int → Int, ∃ N2 : Int → Int, ∃ O2 : Int → Int, oc = .returned (some (vj w2)) ∧ fx o o [lq, (lq + 1), (lq + 2), (lq + 3)] G G2 ∧ G2.length = G.length ∧ ab_slots G2 = ab_slots G ∧ cc o G2 q lq (ab_ob 5 [vR ki, vR ne, vR ot, vz cnt2, vz fi, vz la2, vR ra, vz ru, vz gr, vz wi, vz sz, vz fl, vz ve, vz mi, vR na, vR nl]) ∧ cc o G2 ki (lq + 1) (za 808 K2) ∧ cc o G2 ne (lq + 2) (za 808 N2) ∧ cc o G2 ot (lq + 3) (za 808 O2) ∧ (cnt ≤ cnt2 ∧ cnt2 ≤ 808 ∧ 0 ≤ la2 ∧ la2 ≤ 1) ∧ (0 ≤ w2 ∧ w2 / 4294967296 < cnt2 ∧ w2 % 4294967296 < cnt2) ∧ (prok K2 N2 O2 RR cnt2 ru wi) ∧ (kext K K2 cnt) ∧ (cnt2 ≤ cnt + 2)) := ⟨_, rfl⟩
  rw [← hQ]
  change ab_W X (ab_pl y_PR_addPair b_PR_addPair 7 (some (.long))) d G 0 [some (vR q), some (vz 3), some (vj w), none, some (vz vl), none, none] [] Q
  have hfr : fx o o [lq, (lq + 1), (lq + 2), (lq + 3)] G G := fx.rf
  have hlen : G.length = G.length := rfl
  have hsl : ab_slots G = ab_slots G := rfl
  refine ab_aload_n d_PR_addPair_0 rfl ?_
  refine ab_iload_n d_PR_addPair_1 rfl ?_
  refine ab_lload_n d_PR_addPair_2 rfl ?_
  refine ab_callS (d' := d - 1) (as := [vj w]) (st := [vz 3, vR q]) (z_PR_fresh (o := o) (w := w) (by omega)) (fun oc G2 h => by rcases h with ⟨h, _⟩ <;> exact ⟨_, h⟩) (by omega) m_PR_fresh ml_PR_96 st_PR_fresh (Nat.le_of_ble_eq_true rfl) d_PR_addPair_3 rfl ?_
  intro v G1 hq
  rcases hq with ⟨hv, hGe⟩
  cases hv
  rw [hGe]
  change ab_W _ _ _ G 6 [some (vR q), some (vz 3), some (vj w), none, some (vz vl), none, none] [vz (w / 4294967296), vz 3, vR q] _
  refine ab_iload d_PR_addPair_6 rfl ?_
  refine ab_callV (d' := d - 1) (as := [vz 3, vz (w / 4294967296), vz vl]) (st := []) (r := _) (z_PR_add (o := o) (q := q) (lq := lq) (ki := ki) (ne := ne) (ot := ot) (cnt := cnt) (fi := fi) (la := la) (ra := ra) (ru := ru) (gr := gr) (wi := wi) (sz := sz) (fl := fl) (ve := ve) (mi := mi) (na := na) (nl := nl) (K := K) (N := N) (O := O) (k0 := 3) (x0 := (w / 4294967296)) (v0 := vl) hq hki hne hot (by omega) (by omega) (by omega)) (fun oc G2 h => by rcases h with ⟨h, _⟩ | ⟨_, h, _⟩ <;> exact ⟨_, h⟩) (by omega) m_PR_add ml_PR_84 im_PR_add se_PR_add c_PR hq.2.2 (Nat.le_of_ble_eq_true rfl) d_PR_addPair_8 rfl ?_
  intro v G2 hq
  rcases hq with ⟨hv, hGe, hq3⟩ | ⟨la24, hv, hfk, hlk, hsk, hNq, hNki, hNne, hNot, hq5, hq6, hq7⟩
  · cases hv
    rw [hGe]
    change ab_W _ _ _ G 11 [some (vR q), some (vz 3), some (vj w), none, some (vz vl), none, none] [vz 0] _
    refine ab_istore d_PR_addPair_11 (Nat.le_of_ble_eq_true rfl) (Nat.le_of_ble_eq_true rfl) rfl ?_
    change ab_W _ _ _ G 13 [some (vR q), some (vz 3), some (vj w), none, some (vz vl), some (vz 0), none] [] _
    refine ab_lload_n d_PR_addPair_13 rfl ?_
    refine ab_callS (d' := d - 1) (as := [vj w]) (st := []) (z_PR_fresh (o := o) (w := w) (by omega)) (fun oc G2 h => by rcases h with ⟨h, _⟩ <;> exact ⟨_, h⟩) (by omega) m_PR_fresh ml_PR_96 st_PR_fresh (Nat.le_of_ble_eq_true rfl) d_PR_addPair_14 rfl ?_
    intro v G8 hq
    rcases hq with ⟨hv, hGe⟩
    cases hv
    rw [hGe]
    change ab_W _ _ _ G 17 [some (vR q), some (vz 3), some (vj w), none, some (vz vl), some (vz 0), none] [vz (w / 4294967296)] _
    refine ab_lload_n d_PR_addPair_17 rfl ?_
    refine ab_callS (d' := d - 1) (as := [vj w]) (st := [vz (w / 4294967296)]) (z_PR_used (o := o) (w := w) (by omega)) (fun oc G2 h => by rcases h with ⟨h, _⟩ <;> exact ⟨_, h⟩) (by omega) m_PR_used ml_PR_124 st_PR_used (Nat.le_of_ble_eq_true rfl) d_PR_addPair_18 rfl ?_
    intro v G9 hq
    rcases hq with ⟨hv, hGe⟩
    cases hv
    rw [hGe]
    change ab_W _ _ _ G 21 [some (vR q), some (vz 3), some (vj w), none, some (vz vl), some (vz 0), none] [vz (w % 4294967296), vz (w / 4294967296)] _
    refine zz_icmp_ne (tgt := 29) d_PR_addPair_21 (by decide) (by omega) (by omega) (fun c10 => ?_) (fun c10 => ?_)
    · refine ab_aload_n d_PR_addPair_29 rfl ?_
      refine ab_iload_n d_PR_addPair_30 rfl ?_
      refine ab_lload_n d_PR_addPair_31 rfl ?_
      refine ab_callS (d' := d - 1) (as := [vj w]) (st := [vz 3, vR q]) (z_PR_used (o := o) (w := w) (by omega)) (fun oc G2 h => by rcases h with ⟨h, _⟩ <;> exact ⟨_, h⟩) (by omega) m_PR_used ml_PR_124 st_PR_used (Nat.le_of_ble_eq_true rfl) d_PR_addPair_32 rfl ?_
      intro v G11 hq
      rcases hq with ⟨hv, hGe⟩
      cases hv
      rw [hGe]
      change ab_W _ _ _ G 35 [some (vR q), some (vz 3), some (vj w), none, some (vz vl), some (vz 0), none] [vz (w % 4294967296), vz 3, vR q] _
      refine ab_iload d_PR_addPair_35 rfl ?_
      refine ab_callV (d' := d - 1) (as := [vz 3, vz (w % 4294967296), vz vl]) (st := []) (r := _) (z_PR_add (o := o) (q := q) (lq := lq) (ki := ki) (ne := ne) (ot := ot) (cnt := cnt) (fi := fi) (la := la) (ra := ra) (ru := ru) (gr := gr) (wi := wi) (sz := sz) (fl := fl) (ve := ve) (mi := mi) (na := na) (nl := nl) (K := K) (N := N) (O := O) (k0 := 3) (x0 := (w % 4294967296)) (v0 := vl) hq hki hne hot (by omega) (by omega) (by omega)) (fun oc G2 h => by rcases h with ⟨h, _⟩ | ⟨_, h, _⟩ <;> exact ⟨_, h⟩) (by omega) m_PR_add ml_PR_84 im_PR_add se_PR_add c_PR hq.2.2 (Nat.le_of_ble_eq_true rfl) d_PR_addPair_37 rfl ?_
      intro v G12 hq
      rcases hq with ⟨hv, hGe, hq13⟩ | ⟨la214, hv, hfk, hlk, hsk, hNq, hNki, hNne, hNot, hq15, hq16, hq17⟩
      · cases hv
        rw [hGe]
        change ab_W _ _ _ G 40 [some (vR q), some (vz 3), some (vj w), none, some (vz vl), some (vz 0), none] [vz 0] _
        refine ab_istore d_PR_addPair_40 (Nat.le_of_ble_eq_true rfl) (Nat.le_of_ble_eq_true rfl) rfl ?_
        change ab_W _ _ _ G 42 [some (vR q), some (vz 3), some (vj w), none, some (vz vl), some (vz 0), some (vz 0)] [] _
        refine ab_iload d_PR_addPair_42 rfl ?_
        refine ab_iload d_PR_addPair_44 rfl ?_
        refine ab_callS (d' := d - 1) (as := [vz 0, vz 0]) (st := []) (z_PR_pair (o := o) (f0 := 0) (u0 := 0) (by omega)) (fun oc G2 h => by rcases h with ⟨h, _⟩ <;> exact ⟨_, h⟩) (by omega) m_PR_pair ml_PR_88 st_PR_pair (Nat.le_of_ble_eq_true rfl) d_PR_addPair_46 rfl ?_
        intro v G18 hq
        rcases hq with ⟨hv, hGe⟩
        cases hv
        rw [hGe]
        change ab_W _ _ _ G 49 [some (vR q), some (vz 3), some (vj w), none, some (vz vl), some (vz 0), some (vz 0)] [vj (0 * 4294967296 + 0)] _
        refine ab_lret rfl d_PR_addPair_49 ?_
        rw [hQ]; exact ⟨_, _, _, _, _, _, rfl, hfr, hlen, hsl, hq, hki, hne, hot, (by omega), (by omega), (by exact hp_), (by exact kext.rf), (by omega)⟩
      · cases hv
        have hra := hfk.get hra (by simp only [List.mem_cons, List.not_mem_nil, or_false]; omega)
        have hfr := hfr.tr hfk (by simp)
        have hlen := hlk.trans hlen
        have hsl := hsk.trans hsl
        have hq := hNq
        have hki := hNki
        have hne := hNne
        have hot := hNot
        change ab_W _ _ _ G12 40 [some (vR q), some (vz 3), some (vj w), none, some (vz vl), some (vz 0), none] [vz cnt] _
        exfalso; omega
    · refine ab_iload d_PR_addPair_24 rfl ?_
      refine ab_goto (tgt := 40) d_PR_addPair_26 (by decide) ?_
      refine ab_istore d_PR_addPair_40 (Nat.le_of_ble_eq_true rfl) (Nat.le_of_ble_eq_true rfl) rfl ?_
      change ab_W _ _ _ G 42 [some (vR q), some (vz 3), some (vj w), none, some (vz vl), some (vz 0), some (vz 0)] [] _
      refine ab_iload d_PR_addPair_42 rfl ?_
      refine ab_iload d_PR_addPair_44 rfl ?_
      refine ab_callS (d' := d - 1) (as := [vz 0, vz 0]) (st := []) (z_PR_pair (o := o) (f0 := 0) (u0 := 0) (by omega)) (fun oc G2 h => by rcases h with ⟨h, _⟩ <;> exact ⟨_, h⟩) (by omega) m_PR_pair ml_PR_88 st_PR_pair (Nat.le_of_ble_eq_true rfl) d_PR_addPair_46 rfl ?_
      intro v G19 hq
      rcases hq with ⟨hv, hGe⟩
      cases hv
      rw [hGe]
      change ab_W _ _ _ G 49 [some (vR q), some (vz 3), some (vj w), none, some (vz vl), some (vz 0), some (vz 0)] [vj (0 * 4294967296 + 0)] _
      refine ab_lret rfl d_PR_addPair_49 ?_
      rw [hQ]; exact ⟨_, _, _, _, _, _, rfl, hfr, hlen, hsl, hq, hki, hne, hot, (by omega), (by omega), (by exact hp_), (by exact kext.rf), (by omega)⟩
  · cases hv
    have hra := hfk.get hra (by simp only [List.mem_cons, List.not_mem_nil, or_false]; omega)
    have hfr := hfr.tr hfk (by simp)
    have hlen := hlk.trans hlen
    have hsl := hsk.trans hsl
    have hq := hNq
    have hki := hNki
    have hne := hNne
    have hot := hNot
    change ab_W _ _ _ G2 11 [some (vR q), some (vz 3), some (vj w), none, some (vz vl), none, none] [vz cnt] _
    have hp20 := prok_add (k := 3) (x := (w / 4294967296)) (v := vl) hp_ (by omega) (by omega) (by omega) (by omega) (by omega) (fun t => absurd t (by decide)) (fun t => absurd t (by decide)) (fun t => by omega) (fun t => absurd t (by decide)) (fun t => absurd t (by decide))
    obtain ⟨K20, eK20⟩ : ∃ z : Int → Int, z = zu K cnt 3 := ⟨_, rfl⟩
    have hki : cc o G2 ki (lq + 1) (za 808 K20) := by rw [← eK20.symm]; exact hki
    obtain ⟨N20, eN20⟩ : ∃ z : Int → Int, z = zu N cnt (w / 4294967296) := ⟨_, rfl⟩
    have hne : cc o G2 ne (lq + 2) (za 808 N20) := by rw [← eN20.symm]; exact hne
    obtain ⟨O20, eO20⟩ : ∃ z : Int → Int, z = zu O cnt vl := ⟨_, rfl⟩
    have hot : cc o G2 ot (lq + 3) (za 808 O20) := by rw [← eO20.symm]; exact hot
    rw [← eK20, ← eN20, ← eO20] at hp20
    have hkx20 : kext K K20 cnt := by rw [eK20]; exact kext.zu (Int.le_refl _)
    have hks20 : K20 cnt = 3 := by rw [eK20]; exact zu_self _ _ _
    change ab_W _ _ _ G2 11 [some (vR q), some (vz 3), some (vj w), none, some (vz vl), none, none] [vz cnt] _
    refine ab_istore d_PR_addPair_11 (Nat.le_of_ble_eq_true rfl) (Nat.le_of_ble_eq_true rfl) rfl ?_
    change ab_W _ _ _ G2 13 [some (vR q), some (vz 3), some (vj w), none, some (vz vl), some (vz cnt), none] [] _
    refine ab_lload_n d_PR_addPair_13 rfl ?_
    refine ab_callS (d' := d - 1) (as := [vj w]) (st := []) (z_PR_fresh (o := o) (w := w) (by omega)) (fun oc G2 h => by rcases h with ⟨h, _⟩ <;> exact ⟨_, h⟩) (by omega) m_PR_fresh ml_PR_96 st_PR_fresh (Nat.le_of_ble_eq_true rfl) d_PR_addPair_14 rfl ?_
    intro v G21 hq
    rcases hq with ⟨hv, hGe⟩
    cases hv
    rw [hGe]
    change ab_W _ _ _ G2 17 [some (vR q), some (vz 3), some (vj w), none, some (vz vl), some (vz cnt), none] [vz (w / 4294967296)] _
    refine ab_lload_n d_PR_addPair_17 rfl ?_
    refine ab_callS (d' := d - 1) (as := [vj w]) (st := [vz (w / 4294967296)]) (z_PR_used (o := o) (w := w) (by omega)) (fun oc G2 h => by rcases h with ⟨h, _⟩ <;> exact ⟨_, h⟩) (by omega) m_PR_used ml_PR_124 st_PR_used (Nat.le_of_ble_eq_true rfl) d_PR_addPair_18 rfl ?_
    intro v G22 hq
    rcases hq with ⟨hv, hGe⟩
    cases hv
    rw [hGe]
    change ab_W _ _ _ G2 21 [some (vR q), some (vz 3), some (vj w), none, some (vz vl), some (vz cnt), none] [vz (w % 4294967296), vz (w / 4294967296)] _
    refine zz_icmp_ne (tgt := 29) d_PR_addPair_21 (by decide) (by omega) (by omega) (fun c23 => ?_) (fun c23 => ?_)
    · refine ab_aload_n d_PR_addPair_29 rfl ?_
      refine ab_iload_n d_PR_addPair_30 rfl ?_
      refine ab_lload_n d_PR_addPair_31 rfl ?_
      refine ab_callS (d' := d - 1) (as := [vj w]) (st := [vz 3, vR q]) (z_PR_used (o := o) (w := w) (by omega)) (fun oc G2 h => by rcases h with ⟨h, _⟩ <;> exact ⟨_, h⟩) (by omega) m_PR_used ml_PR_124 st_PR_used (Nat.le_of_ble_eq_true rfl) d_PR_addPair_32 rfl ?_
      intro v G24 hq
      rcases hq with ⟨hv, hGe⟩
      cases hv
      rw [hGe]
      change ab_W _ _ _ G2 35 [some (vR q), some (vz 3), some (vj w), none, some (vz vl), some (vz cnt), none] [vz (w % 4294967296), vz 3, vR q] _
      refine ab_iload d_PR_addPair_35 rfl ?_
      refine ab_callV (d' := d - 1) (as := [vz 3, vz (w % 4294967296), vz vl]) (st := []) (r := _) (z_PR_add (o := o) (q := q) (lq := lq) (ki := ki) (ne := ne) (ot := ot) (cnt := (cnt + 1)) (fi := fi) (la := la24) (ra := ra) (ru := ru) (gr := gr) (wi := wi) (sz := sz) (fl := fl) (ve := ve) (mi := mi) (na := na) (nl := nl) (K := K20) (N := N20) (O := O20) (k0 := 3) (x0 := (w % 4294967296)) (v0 := vl) hq hki hne hot (by omega) (by omega) (by omega)) (fun oc G2 h => by rcases h with ⟨h, _⟩ | ⟨_, h, _⟩ <;> exact ⟨_, h⟩) (by omega) m_PR_add ml_PR_84 im_PR_add se_PR_add c_PR hq.2.2 (Nat.le_of_ble_eq_true rfl) d_PR_addPair_37 rfl ?_
      intro v G25 hq
      rcases hq with ⟨hv, hGe, hq26⟩ | ⟨la227, hv, hfk, hlk, hsk, hNq, hNki, hNne, hNot, hq28, hq29, hq30⟩
      · cases hv
        rw [hGe]
        change ab_W _ _ _ G2 40 [some (vR q), some (vz 3), some (vj w), none, some (vz vl), some (vz cnt), none] [vz 0] _
        refine ab_istore d_PR_addPair_40 (Nat.le_of_ble_eq_true rfl) (Nat.le_of_ble_eq_true rfl) rfl ?_
        change ab_W _ _ _ G2 42 [some (vR q), some (vz 3), some (vj w), none, some (vz vl), some (vz cnt), some (vz 0)] [] _
        refine ab_iload d_PR_addPair_42 rfl ?_
        refine ab_iload d_PR_addPair_44 rfl ?_
        refine ab_callS (d' := d - 1) (as := [vz cnt, vz 0]) (st := []) (z_PR_pair (o := o) (f0 := cnt) (u0 := 0) (by omega)) (fun oc G2 h => by rcases h with ⟨h, _⟩ <;> exact ⟨_, h⟩) (by omega) m_PR_pair ml_PR_88 st_PR_pair (Nat.le_of_ble_eq_true rfl) d_PR_addPair_46 rfl ?_
        intro v G31 hq
        rcases hq with ⟨hv, hGe⟩
        cases hv
        rw [hGe]
        change ab_W _ _ _ G2 49 [some (vR q), some (vz 3), some (vj w), none, some (vz vl), some (vz cnt), some (vz 0)] [vj (cnt * 4294967296 + 0)] _
        refine ab_lret rfl d_PR_addPair_49 ?_
        rw [hQ]; exact ⟨_, _, _, _, _, _, rfl, hfr, hlen, hsl, hq, hki, hne, hot, (by omega), (by omega), (by exact hp20), (by exact hkx20), (by omega)⟩
      · cases hv
        have hra := hfk.get hra (by simp only [List.mem_cons, List.not_mem_nil, or_false]; omega)
        have hfr := hfr.tr hfk (by simp)
        have hlen := hlk.trans hlen
        have hsl := hsk.trans hsl
        have hq := hNq
        have hki := hNki
        have hne := hNne
        have hot := hNot
        change ab_W _ _ _ G25 40 [some (vR q), some (vz 3), some (vj w), none, some (vz vl), some (vz cnt), none] [vz (cnt + 1)] _
        have hp32 := prok_add (k := 3) (x := (w % 4294967296)) (v := vl) hp20 (by omega) (by omega) (by omega) (by omega) (by omega) (fun t => absurd t (by decide)) (fun t => absurd t (by decide)) (fun t => by omega) (fun t => absurd t (by decide)) (fun t => absurd t (by decide))
        obtain ⟨K32, eK32⟩ : ∃ z : Int → Int, z = zu K20 (cnt + 1) 3 := ⟨_, rfl⟩
        have hki : cc o G25 ki (lq + 1) (za 808 K32) := by rw [← eK32.symm]; exact hki
        obtain ⟨N32, eN32⟩ : ∃ z : Int → Int, z = zu N20 (cnt + 1) (w % 4294967296) := ⟨_, rfl⟩
        have hne : cc o G25 ne (lq + 2) (za 808 N32) := by rw [← eN32.symm]; exact hne
        obtain ⟨O32, eO32⟩ : ∃ z : Int → Int, z = zu O20 (cnt + 1) vl := ⟨_, rfl⟩
        have hot : cc o G25 ot (lq + 3) (za 808 O32) := by rw [← eO32.symm]; exact hot
        rw [← eK32, ← eN32, ← eO32] at hp32
        have hkx32 : kext K20 K32 (cnt + 1) := by rw [eK32]; exact kext.zu (Int.le_refl _)
        have hks32 : K32 (cnt + 1) = 3 := by rw [eK32]; exact zu_self _ _ _
        change ab_W _ _ _ G25 40 [some (vR q), some (vz 3), some (vj w), none, some (vz vl), some (vz cnt), none] [vz (cnt + 1)] _
        refine ab_istore d_PR_addPair_40 (Nat.le_of_ble_eq_true rfl) (Nat.le_of_ble_eq_true rfl) rfl ?_
        change ab_W _ _ _ G25 42 [some (vR q), some (vz 3), some (vj w), none, some (vz vl), some (vz cnt), some (vz (cnt + 1))] [] _
        refine ab_iload d_PR_addPair_42 rfl ?_
        refine ab_iload d_PR_addPair_44 rfl ?_
        refine ab_callS (d' := d - 1) (as := [vz cnt, vz (cnt + 1)]) (st := []) (z_PR_pair (o := o) (f0 := cnt) (u0 := (cnt + 1)) (by omega)) (fun oc G2 h => by rcases h with ⟨h, _⟩ <;> exact ⟨_, h⟩) (by omega) m_PR_pair ml_PR_88 st_PR_pair (Nat.le_of_ble_eq_true rfl) d_PR_addPair_46 rfl ?_
        intro v G33 hq
        rcases hq with ⟨hv, hGe⟩
        cases hv
        rw [hGe]
        change ab_W _ _ _ G25 49 [some (vR q), some (vz 3), some (vj w), none, some (vz vl), some (vz cnt), some (vz (cnt + 1))] [vj (cnt * 4294967296 + (cnt + 1))] _
        refine ab_lret rfl d_PR_addPair_49 ?_
        rw [hQ]; exact ⟨_, _, _, _, _, _, rfl, hfr, hlen, hsl, hq, hki, hne, hot, (by omega), (by omega), (by exact hp32), (by exact (hkx20.tr hkx32 (by omega))), (by omega)⟩
    · refine ab_iload d_PR_addPair_24 rfl ?_
      refine ab_goto (tgt := 40) d_PR_addPair_26 (by decide) ?_
      refine ab_istore d_PR_addPair_40 (Nat.le_of_ble_eq_true rfl) (Nat.le_of_ble_eq_true rfl) rfl ?_
      change ab_W _ _ _ G2 42 [some (vR q), some (vz 3), some (vj w), none, some (vz vl), some (vz cnt), some (vz cnt)] [] _
      refine ab_iload d_PR_addPair_42 rfl ?_
      refine ab_iload d_PR_addPair_44 rfl ?_
      refine ab_callS (d' := d - 1) (as := [vz cnt, vz cnt]) (st := []) (z_PR_pair (o := o) (f0 := cnt) (u0 := cnt) (by omega)) (fun oc G2 h => by rcases h with ⟨h, _⟩ <;> exact ⟨_, h⟩) (by omega) m_PR_pair ml_PR_88 st_PR_pair (Nat.le_of_ble_eq_true rfl) d_PR_addPair_46 rfl ?_
      intro v G34 hq
      rcases hq with ⟨hv, hGe⟩
      cases hv
      rw [hGe]
      change ab_W _ _ _ G2 49 [some (vR q), some (vz 3), some (vj w), none, some (vz vl), some (vz cnt), some (vz cnt)] [vj (cnt * 4294967296 + cnt)] _
      refine ab_lret rfl d_PR_addPair_49 ?_
      rw [hQ]; exact ⟨_, _, _, _, _, _, rfl, hfr, hlen, hsl, hq, hki, hne, hot, (by omega), (by omega), (by exact hp20), (by exact hkx20), (by omega)⟩
set_option maxRecDepth 100000 in
set_option maxHeartbeats 4000000 in
theorem z_PR_fork {X : ab_X} {d : Nat} {o : Nat → Nat} {G : ab_G} {q : Nat} {lq : Nat} {ki : Nat} {ne : Nat} {ot : Nat} {cnt : Int} {fi : Int} {la : Int} {ra : Nat} {ru : Int} {gr : Int} {wi : Int} {sz : Int} {fl : Int} {ve : Int} {mi : Int} {na : Nat} {nl : Nat} {K : Int → Int} {N : Int → Int} {O : Int → Int} {RR : Int → Int} {nr : Nat} {w : Int} {u : Int} (hq : cc o G q lq (ab_ob 5 [vR ki, vR ne, vR ot, vz cnt, vz fi, vz la, vR ra, vz ru, vz gr, vz wi, vz sz, vz fl, vz ve, vz mi, vR na, vR nl])) (hki : cc o G ki (lq + 1) (za 808 K)) (hne : cc o G ne (lq + 2) (za 808 N)) (hot : cc o G ot (lq + 3) (za 808 O)) (hra : cc o G ra (lq + 4) (za nr RR)) (n18 : ab_n0 = 18) (cq : 100 ≤ lq ∧ 2 ≤ cnt ∧ cnt ≤ 808 ∧ 0 ≤ la ∧ la ≤ 1) (hp_ : prok K N O RR cnt ru wi) (cw : 0 ≤ w ∧ w / 4294967296 < cnt ∧ w % 4294967296 < cnt) (cu : 0 ≤ u ∧ u / 4294967296 < cnt ∧ u % 4294967296 < cnt) (hd : 1 ≤ d) : ab_F X d y_PR_fork (.code y_PR_fork b_PR_fork 7 (some (.long))) [vR q, vj w, vj u] G (fun oc G2 => ∃ w2 : Int, ∃ cnt2 : Int, ∃ la2 : Int, ∃ K2 : Int → Int, ∃ N2 : Int → Int, ∃ O2 : Int → Int, oc = .returned (some (vj w2)) ∧ fx o o [lq, (lq + 1), (lq + 2), (lq + 3)] G G2 ∧ G2.length = G.length ∧ ab_slots G2 = ab_slots G ∧ cc o G2 q lq (ab_ob 5 [vR ki, vR ne, vR ot, vz cnt2, vz fi, vz la2, vR ra, vz ru, vz gr, vz wi, vz sz, vz fl, vz ve, vz mi, vR na, vR nl]) ∧ cc o G2 ki (lq + 1) (za 808 K2) ∧ cc o G2 ne (lq + 2) (za 808 N2) ∧ cc o G2 ot (lq + 3) (za 808 O2) ∧ (cnt ≤ cnt2 ∧ cnt2 ≤ 808 ∧ 0 ≤ la2 ∧ la2 ≤ 1) ∧ (0 ≤ w2 ∧ w2 / 4294967296 < cnt2 ∧ w2 % 4294967296 < cnt2) ∧ (prok K2 N2 O2 RR cnt2 ru wi) ∧ (kext K K2 cnt) ∧ (cnt2 ≤ cnt + 2)) := by
  refine ab_F_of (by decide +kernel) (Nat.le_of_ble_eq_true rfl) ?_
  obtain ⟨Q, hQ⟩ : ∃ z : Outcome → ab_G → Prop, z = (fun oc G2 => ∃ w2 : Int, ∃ cnt2 : Int, ∃ la2 : Int, ∃ K2 : Int → Int, ∃ N2 : Int → Int, ∃ O2 : Int → Int, oc = .returned (some (vj w2)) ∧ fx o o [lq, (lq + 1), (lq + 2), (lq + 3)] G G2 ∧ G2.length = G.length ∧ ab_slots G2 = ab_slots G ∧ cc o G2 q lq (ab_ob 5 [vR ki, vR ne, vR ot, vz cnt2, vz fi, vz la2, vR ra, vz ru, vz gr, vz wi, vz sz, vz fl, vz ve, vz mi, vR na, vR nl]) ∧ cc o G2 ki (lq + 1) (za 808 K2) ∧ cc o G2 ne (lq + 2) (za 808 N2) ∧ cc o G2 ot (lq + 3) (za 808 O2) ∧ (cnt ≤ cnt2 ∧ cnt2 ≤ 808 ∧ 0 ≤ la2 ∧ la2 ≤ 1) ∧ (0 ≤ w2 ∧ w2 / 4294967296 < cnt2 ∧ w2 % 4294967296 < cnt2) ∧ (prok K2 N2 O2 RR cnt2 ru wi) ∧ (kext K K2 cnt) ∧ (cnt2 ≤ cnt + 2)) := ⟨_, rfl⟩
  rw [← hQ]
  change ab_W X (ab_pl y_PR_fork b_PR_fork 7 (some (.long))) d G 0 [some (vR q), some (vj w), none, some (vj u), none, none, none] [] Q
  have hfr : fx o o [lq, (lq + 1), (lq + 2), (lq + 3)] G G := fx.rf
  have hlen : G.length = G.length := rfl
  have hsl : ab_slots G = ab_slots G := rfl
  refine ab_aload_n d_PR_fork_0 rfl ?_
  refine zz_bipush d_PR_fork_1 (by decide) ?_
  refine ab_lload_n d_PR_fork_3 rfl ?_
  refine ab_callS (d' := d - 1) (as := [vj w]) (st := [vz 6, vR q]) (z_PR_fresh (o := o) (w := w) (by omega)) (fun oc G2 h => by rcases h with ⟨h, _⟩ <;> exact ⟨_, h⟩) (by omega) m_PR_fresh ml_PR_96 st_PR_fresh (Nat.le_of_ble_eq_true rfl) d_PR_fork_4 rfl ?_
  intro v G1 hq
  rcases hq with ⟨hv, hGe⟩
  cases hv
  rw [hGe]
  change ab_W _ _ _ G 7 [some (vR q), some (vj w), none, some (vj u), none, none, none] [vz (w / 4294967296), vz 6, vR q] _
  refine ab_lload_n d_PR_fork_7 rfl ?_
  refine ab_callS (d' := d - 1) (as := [vj u]) (st := [vz (w / 4294967296), vz 6, vR q]) (z_PR_fresh (o := o) (w := u) (by omega)) (fun oc G2 h => by rcases h with ⟨h, _⟩ <;> exact ⟨_, h⟩) (by omega) m_PR_fresh ml_PR_96 st_PR_fresh (Nat.le_of_ble_eq_true rfl) d_PR_fork_8 rfl ?_
  intro v G2 hq
  rcases hq with ⟨hv, hGe⟩
  cases hv
  rw [hGe]
  change ab_W _ _ _ G 11 [some (vR q), some (vj w), none, some (vj u), none, none, none] [vz (u / 4294967296), vz (w / 4294967296), vz 6, vR q] _
  refine ab_callV (d' := d - 1) (as := [vz 6, vz (w / 4294967296), vz (u / 4294967296)]) (st := []) (r := _) (z_PR_add (o := o) (q := q) (lq := lq) (ki := ki) (ne := ne) (ot := ot) (cnt := cnt) (fi := fi) (la := la) (ra := ra) (ru := ru) (gr := gr) (wi := wi) (sz := sz) (fl := fl) (ve := ve) (mi := mi) (na := na) (nl := nl) (K := K) (N := N) (O := O) (k0 := 6) (x0 := (w / 4294967296)) (v0 := (u / 4294967296)) hq hki hne hot (by omega) (by omega) (by omega)) (fun oc G2 h => by rcases h with ⟨h, _⟩ | ⟨_, h, _⟩ <;> exact ⟨_, h⟩) (by omega) m_PR_add ml_PR_84 im_PR_add se_PR_add c_PR hq.2.2 (Nat.le_of_ble_eq_true rfl) d_PR_fork_11 rfl ?_
  intro v G3 hq
  rcases hq with ⟨hv, hGe, hq4⟩ | ⟨la25, hv, hfk, hlk, hsk, hNq, hNki, hNne, hNot, hq6, hq7, hq8⟩
  · cases hv
    rw [hGe]
    change ab_W _ _ _ G 14 [some (vR q), some (vj w), none, some (vj u), none, none, none] [vz 0] _
    refine ab_istore d_PR_fork_14 (Nat.le_of_ble_eq_true rfl) (Nat.le_of_ble_eq_true rfl) rfl ?_
    change ab_W _ _ _ G 16 [some (vR q), some (vj w), none, some (vj u), none, some (vz 0), none] [] _
    refine ab_lload_n d_PR_fork_16 rfl ?_
    refine ab_callS (d' := d - 1) (as := [vj w]) (st := []) (z_PR_fresh (o := o) (w := w) (by omega)) (fun oc G2 h => by rcases h with ⟨h, _⟩ <;> exact ⟨_, h⟩) (by omega) m_PR_fresh ml_PR_96 st_PR_fresh (Nat.le_of_ble_eq_true rfl) d_PR_fork_17 rfl ?_
    intro v G9 hq
    rcases hq with ⟨hv, hGe⟩
    cases hv
    rw [hGe]
    change ab_W _ _ _ G 20 [some (vR q), some (vj w), none, some (vj u), none, some (vz 0), none] [vz (w / 4294967296)] _
    refine ab_lload_n d_PR_fork_20 rfl ?_
    refine ab_callS (d' := d - 1) (as := [vj w]) (st := [vz (w / 4294967296)]) (z_PR_used (o := o) (w := w) (by omega)) (fun oc G2 h => by rcases h with ⟨h, _⟩ <;> exact ⟨_, h⟩) (by omega) m_PR_used ml_PR_124 st_PR_used (Nat.le_of_ble_eq_true rfl) d_PR_fork_21 rfl ?_
    intro v G10 hq
    rcases hq with ⟨hv, hGe⟩
    cases hv
    rw [hGe]
    change ab_W _ _ _ G 24 [some (vR q), some (vj w), none, some (vj u), none, some (vz 0), none] [vz (w % 4294967296), vz (w / 4294967296)] _
    refine zz_icmp_ne (tgt := 42) d_PR_fork_24 (by decide) (by omega) (by omega) (fun c11 => ?_) (fun c11 => ?_)
    · refine zz_iconst d_PR_fork_42 ?_
      refine ab_istore d_PR_fork_43 (Nat.le_of_ble_eq_true rfl) (Nat.le_of_ble_eq_true rfl) rfl ?_
      change ab_W _ _ _ G 45 [some (vR q), some (vj w), none, some (vj u), none, some (vz 0), some (vz 0)] [] _
      refine ab_iload d_PR_fork_45 rfl ?_
      refine ab_iload d_PR_fork_47 rfl ?_
      refine zz_if_eq (tgt := 57) d_PR_fork_49 (by decide) (by decide) (fun c12 => ?_) (fun c12 => absurd c12 (by decide))
      refine ab_aload_n d_PR_fork_57 rfl ?_
      refine zz_bipush d_PR_fork_58 (by decide) ?_
      refine ab_lload_n d_PR_fork_60 rfl ?_
      refine ab_callS (d' := d - 1) (as := [vj w]) (st := [vz 6, vR q, vz 0]) (z_PR_used (o := o) (w := w) (by omega)) (fun oc G2 h => by rcases h with ⟨h, _⟩ <;> exact ⟨_, h⟩) (by omega) m_PR_used ml_PR_124 st_PR_used (Nat.le_of_ble_eq_true rfl) d_PR_fork_61 rfl ?_
      intro v G13 hq
      rcases hq with ⟨hv, hGe⟩
      cases hv
      rw [hGe]
      change ab_W _ _ _ G 64 [some (vR q), some (vj w), none, some (vj u), none, some (vz 0), some (vz 0)] [vz (w % 4294967296), vz 6, vR q, vz 0] _
      refine ab_lload_n d_PR_fork_64 rfl ?_
      refine ab_callS (d' := d - 1) (as := [vj u]) (st := [vz (w % 4294967296), vz 6, vR q, vz 0]) (z_PR_used (o := o) (w := u) (by omega)) (fun oc G2 h => by rcases h with ⟨h, _⟩ <;> exact ⟨_, h⟩) (by omega) m_PR_used ml_PR_124 st_PR_used (Nat.le_of_ble_eq_true rfl) d_PR_fork_65 rfl ?_
      intro v G14 hq
      rcases hq with ⟨hv, hGe⟩
      cases hv
      rw [hGe]
      change ab_W _ _ _ G 68 [some (vR q), some (vj w), none, some (vj u), none, some (vz 0), some (vz 0)] [vz (u % 4294967296), vz (w % 4294967296), vz 6, vR q, vz 0] _
      refine ab_callV (d' := d - 1) (as := [vz 6, vz (w % 4294967296), vz (u % 4294967296)]) (st := [vz 0]) (r := _) (z_PR_add (o := o) (q := q) (lq := lq) (ki := ki) (ne := ne) (ot := ot) (cnt := cnt) (fi := fi) (la := la) (ra := ra) (ru := ru) (gr := gr) (wi := wi) (sz := sz) (fl := fl) (ve := ve) (mi := mi) (na := na) (nl := nl) (K := K) (N := N) (O := O) (k0 := 6) (x0 := (w % 4294967296)) (v0 := (u % 4294967296)) hq hki hne hot (by omega) (by omega) (by omega)) (fun oc G2 h => by rcases h with ⟨h, _⟩ | ⟨_, h, _⟩ <;> exact ⟨_, h⟩) (by omega) m_PR_add ml_PR_84 im_PR_add se_PR_add c_PR hq.2.2 (Nat.le_of_ble_eq_true rfl) d_PR_fork_68 rfl ?_
      intro v G15 hq
      rcases hq with ⟨hv, hGe, hq16⟩ | ⟨la217, hv, hfk, hlk, hsk, hNq, hNki, hNne, hNot, hq18, hq19, hq20⟩
      · cases hv
        rw [hGe]
        change ab_W _ _ _ G 71 [some (vR q), some (vj w), none, some (vj u), none, some (vz 0), some (vz 0)] [vz 0, vz 0] _
        refine ab_callS (d' := d - 1) (as := [vz 0, vz 0]) (st := []) (z_PR_pair (o := o) (f0 := 0) (u0 := 0) (by omega)) (fun oc G2 h => by rcases h with ⟨h, _⟩ <;> exact ⟨_, h⟩) (by omega) m_PR_pair ml_PR_88 st_PR_pair (Nat.le_of_ble_eq_true rfl) d_PR_fork_71 rfl ?_
        intro v G21 hq
        rcases hq with ⟨hv, hGe⟩
        cases hv
        rw [hGe]
        change ab_W _ _ _ G 74 [some (vR q), some (vj w), none, some (vj u), none, some (vz 0), some (vz 0)] [vj (0 * 4294967296 + 0)] _
        refine ab_lret rfl d_PR_fork_74 ?_
        rw [hQ]; exact ⟨_, _, _, _, _, _, rfl, hfr, hlen, hsl, hq, hki, hne, hot, (by omega), (by omega), (by exact hp_), (by exact kext.rf), (by omega)⟩
      · cases hv
        have hra := hfk.get hra (by simp only [List.mem_cons, List.not_mem_nil, or_false]; omega)
        have hfr := hfr.tr hfk (by simp)
        have hlen := hlk.trans hlen
        have hsl := hsk.trans hsl
        have hq := hNq
        have hki := hNki
        have hne := hNne
        have hot := hNot
        change ab_W _ _ _ G15 71 [some (vR q), some (vj w), none, some (vj u), none, some (vz 0), some (vz 0)] [vz cnt, vz 0] _
        exfalso; omega
    · refine ab_lload_n d_PR_fork_27 rfl ?_
      refine ab_callS (d' := d - 1) (as := [vj u]) (st := []) (z_PR_fresh (o := o) (w := u) (by omega)) (fun oc G2 h => by rcases h with ⟨h, _⟩ <;> exact ⟨_, h⟩) (by omega) m_PR_fresh ml_PR_96 st_PR_fresh (Nat.le_of_ble_eq_true rfl) d_PR_fork_28 rfl ?_
      intro v G22 hq
      rcases hq with ⟨hv, hGe⟩
      cases hv
      rw [hGe]
      change ab_W _ _ _ G 31 [some (vR q), some (vj w), none, some (vj u), none, some (vz 0), none] [vz (u / 4294967296)] _
      refine ab_lload_n d_PR_fork_31 rfl ?_
      refine ab_callS (d' := d - 1) (as := [vj u]) (st := [vz (u / 4294967296)]) (z_PR_used (o := o) (w := u) (by omega)) (fun oc G2 h => by rcases h with ⟨h, _⟩ <;> exact ⟨_, h⟩) (by omega) m_PR_used ml_PR_124 st_PR_used (Nat.le_of_ble_eq_true rfl) d_PR_fork_32 rfl ?_
      intro v G23 hq
      rcases hq with ⟨hv, hGe⟩
      cases hv
      rw [hGe]
      change ab_W _ _ _ G 35 [some (vR q), some (vj w), none, some (vj u), none, some (vz 0), none] [vz (u % 4294967296), vz (u / 4294967296)] _
      refine zz_icmp_ne (tgt := 42) d_PR_fork_35 (by decide) (by omega) (by omega) (fun c24 => ?_) (fun c24 => ?_)
      · refine zz_iconst d_PR_fork_42 ?_
        refine ab_istore d_PR_fork_43 (Nat.le_of_ble_eq_true rfl) (Nat.le_of_ble_eq_true rfl) rfl ?_
        change ab_W _ _ _ G 45 [some (vR q), some (vj w), none, some (vj u), none, some (vz 0), some (vz 0)] [] _
        refine ab_iload d_PR_fork_45 rfl ?_
        refine ab_iload d_PR_fork_47 rfl ?_
        refine zz_if_eq (tgt := 57) d_PR_fork_49 (by decide) (by decide) (fun c25 => ?_) (fun c25 => absurd c25 (by decide))
        refine ab_aload_n d_PR_fork_57 rfl ?_
        refine zz_bipush d_PR_fork_58 (by decide) ?_
        refine ab_lload_n d_PR_fork_60 rfl ?_
        refine ab_callS (d' := d - 1) (as := [vj w]) (st := [vz 6, vR q, vz 0]) (z_PR_used (o := o) (w := w) (by omega)) (fun oc G2 h => by rcases h with ⟨h, _⟩ <;> exact ⟨_, h⟩) (by omega) m_PR_used ml_PR_124 st_PR_used (Nat.le_of_ble_eq_true rfl) d_PR_fork_61 rfl ?_
        intro v G26 hq
        rcases hq with ⟨hv, hGe⟩
        cases hv
        rw [hGe]
        change ab_W _ _ _ G 64 [some (vR q), some (vj w), none, some (vj u), none, some (vz 0), some (vz 0)] [vz (w % 4294967296), vz 6, vR q, vz 0] _
        refine ab_lload_n d_PR_fork_64 rfl ?_
        refine ab_callS (d' := d - 1) (as := [vj u]) (st := [vz (w % 4294967296), vz 6, vR q, vz 0]) (z_PR_used (o := o) (w := u) (by omega)) (fun oc G2 h => by rcases h with ⟨h, _⟩ <;> exact ⟨_, h⟩) (by omega) m_PR_used ml_PR_124 st_PR_used (Nat.le_of_ble_eq_true rfl) d_PR_fork_65 rfl ?_
        intro v G27 hq
        rcases hq with ⟨hv, hGe⟩
        cases hv
        rw [hGe]
        change ab_W _ _ _ G 68 [some (vR q), some (vj w), none, some (vj u), none, some (vz 0), some (vz 0)] [vz (u % 4294967296), vz (w % 4294967296), vz 6, vR q, vz 0] _
        refine ab_callV (d' := d - 1) (as := [vz 6, vz (w % 4294967296), vz (u % 4294967296)]) (st := [vz 0]) (r := _) (z_PR_add (o := o) (q := q) (lq := lq) (ki := ki) (ne := ne) (ot := ot) (cnt := cnt) (fi := fi) (la := la) (ra := ra) (ru := ru) (gr := gr) (wi := wi) (sz := sz) (fl := fl) (ve := ve) (mi := mi) (na := na) (nl := nl) (K := K) (N := N) (O := O) (k0 := 6) (x0 := (w % 4294967296)) (v0 := (u % 4294967296)) hq hki hne hot (by omega) (by omega) (by omega)) (fun oc G2 h => by rcases h with ⟨h, _⟩ | ⟨_, h, _⟩ <;> exact ⟨_, h⟩) (by omega) m_PR_add ml_PR_84 im_PR_add se_PR_add c_PR hq.2.2 (Nat.le_of_ble_eq_true rfl) d_PR_fork_68 rfl ?_
        intro v G28 hq
        rcases hq with ⟨hv, hGe, hq29⟩ | ⟨la230, hv, hfk, hlk, hsk, hNq, hNki, hNne, hNot, hq31, hq32, hq33⟩
        · cases hv
          rw [hGe]
          change ab_W _ _ _ G 71 [some (vR q), some (vj w), none, some (vj u), none, some (vz 0), some (vz 0)] [vz 0, vz 0] _
          refine ab_callS (d' := d - 1) (as := [vz 0, vz 0]) (st := []) (z_PR_pair (o := o) (f0 := 0) (u0 := 0) (by omega)) (fun oc G2 h => by rcases h with ⟨h, _⟩ <;> exact ⟨_, h⟩) (by omega) m_PR_pair ml_PR_88 st_PR_pair (Nat.le_of_ble_eq_true rfl) d_PR_fork_71 rfl ?_
          intro v G34 hq
          rcases hq with ⟨hv, hGe⟩
          cases hv
          rw [hGe]
          change ab_W _ _ _ G 74 [some (vR q), some (vj w), none, some (vj u), none, some (vz 0), some (vz 0)] [vj (0 * 4294967296 + 0)] _
          refine ab_lret rfl d_PR_fork_74 ?_
          rw [hQ]; exact ⟨_, _, _, _, _, _, rfl, hfr, hlen, hsl, hq, hki, hne, hot, (by omega), (by omega), (by exact hp_), (by exact kext.rf), (by omega)⟩
        · cases hv
          have hra := hfk.get hra (by simp only [List.mem_cons, List.not_mem_nil, or_false]; omega)
          have hfr := hfr.tr hfk (by simp)
          have hlen := hlk.trans hlen
          have hsl := hsk.trans hsl
          have hq := hNq
          have hki := hNki
          have hne := hNne
          have hot := hNot
          change ab_W _ _ _ G28 71 [some (vR q), some (vj w), none, some (vj u), none, some (vz 0), some (vz 0)] [vz cnt, vz 0] _
          exfalso; omega
      · refine zz_iconst d_PR_fork_38 ?_
        refine ab_goto (tgt := 43) d_PR_fork_39 (by decide) ?_
        refine ab_istore d_PR_fork_43 (Nat.le_of_ble_eq_true rfl) (Nat.le_of_ble_eq_true rfl) rfl ?_
        change ab_W _ _ _ G 45 [some (vR q), some (vj w), none, some (vj u), none, some (vz 0), some (vz 1)] [] _
        refine ab_iload d_PR_fork_45 rfl ?_
        refine ab_iload d_PR_fork_47 rfl ?_
        refine zz_if_eq (tgt := 57) d_PR_fork_49 (by decide) (by decide) (fun c35 => absurd c35 (by decide)) (fun c35 => ?_)
        refine ab_iload d_PR_fork_52 rfl ?_
        refine ab_goto (tgt := 71) d_PR_fork_54 (by decide) ?_
        refine ab_callS (d' := d - 1) (as := [vz 0, vz 0]) (st := []) (z_PR_pair (o := o) (f0 := 0) (u0 := 0) (by omega)) (fun oc G2 h => by rcases h with ⟨h, _⟩ <;> exact ⟨_, h⟩) (by omega) m_PR_pair ml_PR_88 st_PR_pair (Nat.le_of_ble_eq_true rfl) d_PR_fork_71 rfl ?_
        intro v G36 hq
        rcases hq with ⟨hv, hGe⟩
        cases hv
        rw [hGe]
        change ab_W _ _ _ G 74 [some (vR q), some (vj w), none, some (vj u), none, some (vz 0), some (vz 1)] [vj (0 * 4294967296 + 0)] _
        refine ab_lret rfl d_PR_fork_74 ?_
        rw [hQ]; exact ⟨_, _, _, _, _, _, rfl, hfr, hlen, hsl, hq, hki, hne, hot, (by omega), (by omega), (by exact hp_), (by exact kext.rf), (by omega)⟩
  · cases hv
    have hra := hfk.get hra (by simp only [List.mem_cons, List.not_mem_nil, or_false]; omega)
    have hfr := hfr.tr hfk (by simp)
    have hlen := hlk.trans hlen
    have hsl := hsk.trans hsl
    have hq := hNq
    have hki := hNki
    have hne := hNne
    have hot := hNot
    change ab_W _ _ _ G3 14 [some (vR q), some (vj w), none, some (vj u), none, none, none] [vz cnt] _
    have hp37 := prok_add (k := 6) (x := (w / 4294967296)) (v := (u / 4294967296)) hp_ (by omega) (by omega) (by omega) (by omega) (by omega) (fun t => by omega) (fun t => absurd t (by decide)) (fun t => absurd t (by decide)) (fun t => absurd t (by decide)) (fun t => absurd t (by decide))
    obtain ⟨K37, eK37⟩ : ∃ z : Int → Int, z = zu K cnt 6 := ⟨_, rfl⟩
    have hki : cc o G3 ki (lq + 1) (za 808 K37) := by rw [← eK37.symm]; exact hki
    obtain ⟨N37, eN37⟩ : ∃ z : Int → Int, z = zu N cnt (w / 4294967296) := ⟨_, rfl⟩
    have hne : cc o G3 ne (lq + 2) (za 808 N37) := by rw [← eN37.symm]; exact hne
    obtain ⟨O37, eO37⟩ : ∃ z : Int → Int, z = zu O cnt (u / 4294967296) := ⟨_, rfl⟩
    have hot : cc o G3 ot (lq + 3) (za 808 O37) := by rw [← eO37.symm]; exact hot
    rw [← eK37, ← eN37, ← eO37] at hp37
    have hkx37 : kext K K37 cnt := by rw [eK37]; exact kext.zu (Int.le_refl _)
    have hks37 : K37 cnt = 6 := by rw [eK37]; exact zu_self _ _ _
    change ab_W _ _ _ G3 14 [some (vR q), some (vj w), none, some (vj u), none, none, none] [vz cnt] _
    refine ab_istore d_PR_fork_14 (Nat.le_of_ble_eq_true rfl) (Nat.le_of_ble_eq_true rfl) rfl ?_
    change ab_W _ _ _ G3 16 [some (vR q), some (vj w), none, some (vj u), none, some (vz cnt), none] [] _
    refine ab_lload_n d_PR_fork_16 rfl ?_
    refine ab_callS (d' := d - 1) (as := [vj w]) (st := []) (z_PR_fresh (o := o) (w := w) (by omega)) (fun oc G2 h => by rcases h with ⟨h, _⟩ <;> exact ⟨_, h⟩) (by omega) m_PR_fresh ml_PR_96 st_PR_fresh (Nat.le_of_ble_eq_true rfl) d_PR_fork_17 rfl ?_
    intro v G38 hq
    rcases hq with ⟨hv, hGe⟩
    cases hv
    rw [hGe]
    change ab_W _ _ _ G3 20 [some (vR q), some (vj w), none, some (vj u), none, some (vz cnt), none] [vz (w / 4294967296)] _
    refine ab_lload_n d_PR_fork_20 rfl ?_
    refine ab_callS (d' := d - 1) (as := [vj w]) (st := [vz (w / 4294967296)]) (z_PR_used (o := o) (w := w) (by omega)) (fun oc G2 h => by rcases h with ⟨h, _⟩ <;> exact ⟨_, h⟩) (by omega) m_PR_used ml_PR_124 st_PR_used (Nat.le_of_ble_eq_true rfl) d_PR_fork_21 rfl ?_
    intro v G39 hq
    rcases hq with ⟨hv, hGe⟩
    cases hv
    rw [hGe]
    change ab_W _ _ _ G3 24 [some (vR q), some (vj w), none, some (vj u), none, some (vz cnt), none] [vz (w % 4294967296), vz (w / 4294967296)] _
    refine zz_icmp_ne (tgt := 42) d_PR_fork_24 (by decide) (by omega) (by omega) (fun c40 => ?_) (fun c40 => ?_)
    · refine zz_iconst d_PR_fork_42 ?_
      refine ab_istore d_PR_fork_43 (Nat.le_of_ble_eq_true rfl) (Nat.le_of_ble_eq_true rfl) rfl ?_
      change ab_W _ _ _ G3 45 [some (vR q), some (vj w), none, some (vj u), none, some (vz cnt), some (vz 0)] [] _
      refine ab_iload d_PR_fork_45 rfl ?_
      refine ab_iload d_PR_fork_47 rfl ?_
      refine zz_if_eq (tgt := 57) d_PR_fork_49 (by decide) (by decide) (fun c41 => ?_) (fun c41 => absurd c41 (by decide))
      refine ab_aload_n d_PR_fork_57 rfl ?_
      refine zz_bipush d_PR_fork_58 (by decide) ?_
      refine ab_lload_n d_PR_fork_60 rfl ?_
      refine ab_callS (d' := d - 1) (as := [vj w]) (st := [vz 6, vR q, vz cnt]) (z_PR_used (o := o) (w := w) (by omega)) (fun oc G2 h => by rcases h with ⟨h, _⟩ <;> exact ⟨_, h⟩) (by omega) m_PR_used ml_PR_124 st_PR_used (Nat.le_of_ble_eq_true rfl) d_PR_fork_61 rfl ?_
      intro v G42 hq
      rcases hq with ⟨hv, hGe⟩
      cases hv
      rw [hGe]
      change ab_W _ _ _ G3 64 [some (vR q), some (vj w), none, some (vj u), none, some (vz cnt), some (vz 0)] [vz (w % 4294967296), vz 6, vR q, vz cnt] _
      refine ab_lload_n d_PR_fork_64 rfl ?_
      refine ab_callS (d' := d - 1) (as := [vj u]) (st := [vz (w % 4294967296), vz 6, vR q, vz cnt]) (z_PR_used (o := o) (w := u) (by omega)) (fun oc G2 h => by rcases h with ⟨h, _⟩ <;> exact ⟨_, h⟩) (by omega) m_PR_used ml_PR_124 st_PR_used (Nat.le_of_ble_eq_true rfl) d_PR_fork_65 rfl ?_
      intro v G43 hq
      rcases hq with ⟨hv, hGe⟩
      cases hv
      rw [hGe]
      change ab_W _ _ _ G3 68 [some (vR q), some (vj w), none, some (vj u), none, some (vz cnt), some (vz 0)] [vz (u % 4294967296), vz (w % 4294967296), vz 6, vR q, vz cnt] _
      refine ab_callV (d' := d - 1) (as := [vz 6, vz (w % 4294967296), vz (u % 4294967296)]) (st := [vz cnt]) (r := _) (z_PR_add (o := o) (q := q) (lq := lq) (ki := ki) (ne := ne) (ot := ot) (cnt := (cnt + 1)) (fi := fi) (la := la25) (ra := ra) (ru := ru) (gr := gr) (wi := wi) (sz := sz) (fl := fl) (ve := ve) (mi := mi) (na := na) (nl := nl) (K := K37) (N := N37) (O := O37) (k0 := 6) (x0 := (w % 4294967296)) (v0 := (u % 4294967296)) hq hki hne hot (by omega) (by omega) (by omega)) (fun oc G2 h => by rcases h with ⟨h, _⟩ | ⟨_, h, _⟩ <;> exact ⟨_, h⟩) (by omega) m_PR_add ml_PR_84 im_PR_add se_PR_add c_PR hq.2.2 (Nat.le_of_ble_eq_true rfl) d_PR_fork_68 rfl ?_
      intro v G44 hq
      rcases hq with ⟨hv, hGe, hq45⟩ | ⟨la246, hv, hfk, hlk, hsk, hNq, hNki, hNne, hNot, hq47, hq48, hq49⟩
      · cases hv
        rw [hGe]
        change ab_W _ _ _ G3 71 [some (vR q), some (vj w), none, some (vj u), none, some (vz cnt), some (vz 0)] [vz 0, vz cnt] _
        refine ab_callS (d' := d - 1) (as := [vz cnt, vz 0]) (st := []) (z_PR_pair (o := o) (f0 := cnt) (u0 := 0) (by omega)) (fun oc G2 h => by rcases h with ⟨h, _⟩ <;> exact ⟨_, h⟩) (by omega) m_PR_pair ml_PR_88 st_PR_pair (Nat.le_of_ble_eq_true rfl) d_PR_fork_71 rfl ?_
        intro v G50 hq
        rcases hq with ⟨hv, hGe⟩
        cases hv
        rw [hGe]
        change ab_W _ _ _ G3 74 [some (vR q), some (vj w), none, some (vj u), none, some (vz cnt), some (vz 0)] [vj (cnt * 4294967296 + 0)] _
        refine ab_lret rfl d_PR_fork_74 ?_
        rw [hQ]; exact ⟨_, _, _, _, _, _, rfl, hfr, hlen, hsl, hq, hki, hne, hot, (by omega), (by omega), (by exact hp37), (by exact hkx37), (by omega)⟩
      · cases hv
        have hra := hfk.get hra (by simp only [List.mem_cons, List.not_mem_nil, or_false]; omega)
        have hfr := hfr.tr hfk (by simp)
        have hlen := hlk.trans hlen
        have hsl := hsk.trans hsl
        have hq := hNq
        have hki := hNki
        have hne := hNne
        have hot := hNot
        change ab_W _ _ _ G44 71 [some (vR q), some (vj w), none, some (vj u), none, some (vz cnt), some (vz 0)] [vz (cnt + 1), vz cnt] _
        have hp51 := prok_add (k := 6) (x := (w % 4294967296)) (v := (u % 4294967296)) hp37 (by omega) (by omega) (by omega) (by omega) (by omega) (fun t => by omega) (fun t => absurd t (by decide)) (fun t => absurd t (by decide)) (fun t => absurd t (by decide)) (fun t => absurd t (by decide))
        obtain ⟨K51, eK51⟩ : ∃ z : Int → Int, z = zu K37 (cnt + 1) 6 := ⟨_, rfl⟩
        have hki : cc o G44 ki (lq + 1) (za 808 K51) := by rw [← eK51.symm]; exact hki
        obtain ⟨N51, eN51⟩ : ∃ z : Int → Int, z = zu N37 (cnt + 1) (w % 4294967296) := ⟨_, rfl⟩
        have hne : cc o G44 ne (lq + 2) (za 808 N51) := by rw [← eN51.symm]; exact hne
        obtain ⟨O51, eO51⟩ : ∃ z : Int → Int, z = zu O37 (cnt + 1) (u % 4294967296) := ⟨_, rfl⟩
        have hot : cc o G44 ot (lq + 3) (za 808 O51) := by rw [← eO51.symm]; exact hot
        rw [← eK51, ← eN51, ← eO51] at hp51
        have hkx51 : kext K37 K51 (cnt + 1) := by rw [eK51]; exact kext.zu (Int.le_refl _)
        have hks51 : K51 (cnt + 1) = 6 := by rw [eK51]; exact zu_self _ _ _
        change ab_W _ _ _ G44 71 [some (vR q), some (vj w), none, some (vj u), none, some (vz cnt), some (vz 0)] [vz (cnt + 1), vz cnt] _
        refine ab_callS (d' := d - 1) (as := [vz cnt, vz (cnt + 1)]) (st := []) (z_PR_pair (o := o) (f0 := cnt) (u0 := (cnt + 1)) (by omega)) (fun oc G2 h => by rcases h with ⟨h, _⟩ <;> exact ⟨_, h⟩) (by omega) m_PR_pair ml_PR_88 st_PR_pair (Nat.le_of_ble_eq_true rfl) d_PR_fork_71 rfl ?_
        intro v G52 hq
        rcases hq with ⟨hv, hGe⟩
        cases hv
        rw [hGe]
        change ab_W _ _ _ G44 74 [some (vR q), some (vj w), none, some (vj u), none, some (vz cnt), some (vz 0)] [vj (cnt * 4294967296 + (cnt + 1))] _
        refine ab_lret rfl d_PR_fork_74 ?_
        rw [hQ]; exact ⟨_, _, _, _, _, _, rfl, hfr, hlen, hsl, hq, hki, hne, hot, (by omega), (by omega), (by exact hp51), (by exact (hkx37.tr hkx51 (by omega))), (by omega)⟩
    · refine ab_lload_n d_PR_fork_27 rfl ?_
      refine ab_callS (d' := d - 1) (as := [vj u]) (st := []) (z_PR_fresh (o := o) (w := u) (by omega)) (fun oc G2 h => by rcases h with ⟨h, _⟩ <;> exact ⟨_, h⟩) (by omega) m_PR_fresh ml_PR_96 st_PR_fresh (Nat.le_of_ble_eq_true rfl) d_PR_fork_28 rfl ?_
      intro v G53 hq
      rcases hq with ⟨hv, hGe⟩
      cases hv
      rw [hGe]
      change ab_W _ _ _ G3 31 [some (vR q), some (vj w), none, some (vj u), none, some (vz cnt), none] [vz (u / 4294967296)] _
      refine ab_lload_n d_PR_fork_31 rfl ?_
      refine ab_callS (d' := d - 1) (as := [vj u]) (st := [vz (u / 4294967296)]) (z_PR_used (o := o) (w := u) (by omega)) (fun oc G2 h => by rcases h with ⟨h, _⟩ <;> exact ⟨_, h⟩) (by omega) m_PR_used ml_PR_124 st_PR_used (Nat.le_of_ble_eq_true rfl) d_PR_fork_32 rfl ?_
      intro v G54 hq
      rcases hq with ⟨hv, hGe⟩
      cases hv
      rw [hGe]
      change ab_W _ _ _ G3 35 [some (vR q), some (vj w), none, some (vj u), none, some (vz cnt), none] [vz (u % 4294967296), vz (u / 4294967296)] _
      refine zz_icmp_ne (tgt := 42) d_PR_fork_35 (by decide) (by omega) (by omega) (fun c55 => ?_) (fun c55 => ?_)
      · refine zz_iconst d_PR_fork_42 ?_
        refine ab_istore d_PR_fork_43 (Nat.le_of_ble_eq_true rfl) (Nat.le_of_ble_eq_true rfl) rfl ?_
        change ab_W _ _ _ G3 45 [some (vR q), some (vj w), none, some (vj u), none, some (vz cnt), some (vz 0)] [] _
        refine ab_iload d_PR_fork_45 rfl ?_
        refine ab_iload d_PR_fork_47 rfl ?_
        refine zz_if_eq (tgt := 57) d_PR_fork_49 (by decide) (by decide) (fun c56 => ?_) (fun c56 => absurd c56 (by decide))
        refine ab_aload_n d_PR_fork_57 rfl ?_
        refine zz_bipush d_PR_fork_58 (by decide) ?_
        refine ab_lload_n d_PR_fork_60 rfl ?_
        refine ab_callS (d' := d - 1) (as := [vj w]) (st := [vz 6, vR q, vz cnt]) (z_PR_used (o := o) (w := w) (by omega)) (fun oc G2 h => by rcases h with ⟨h, _⟩ <;> exact ⟨_, h⟩) (by omega) m_PR_used ml_PR_124 st_PR_used (Nat.le_of_ble_eq_true rfl) d_PR_fork_61 rfl ?_
        intro v G57 hq
        rcases hq with ⟨hv, hGe⟩
        cases hv
        rw [hGe]
        change ab_W _ _ _ G3 64 [some (vR q), some (vj w), none, some (vj u), none, some (vz cnt), some (vz 0)] [vz (w % 4294967296), vz 6, vR q, vz cnt] _
        refine ab_lload_n d_PR_fork_64 rfl ?_
        refine ab_callS (d' := d - 1) (as := [vj u]) (st := [vz (w % 4294967296), vz 6, vR q, vz cnt]) (z_PR_used (o := o) (w := u) (by omega)) (fun oc G2 h => by rcases h with ⟨h, _⟩ <;> exact ⟨_, h⟩) (by omega) m_PR_used ml_PR_124 st_PR_used (Nat.le_of_ble_eq_true rfl) d_PR_fork_65 rfl ?_
        intro v G58 hq
        rcases hq with ⟨hv, hGe⟩
        cases hv
        rw [hGe]
        change ab_W _ _ _ G3 68 [some (vR q), some (vj w), none, some (vj u), none, some (vz cnt), some (vz 0)] [vz (u % 4294967296), vz (w % 4294967296), vz 6, vR q, vz cnt] _
        refine ab_callV (d' := d - 1) (as := [vz 6, vz (w % 4294967296), vz (u % 4294967296)]) (st := [vz cnt]) (r := _) (z_PR_add (o := o) (q := q) (lq := lq) (ki := ki) (ne := ne) (ot := ot) (cnt := (cnt + 1)) (fi := fi) (la := la25) (ra := ra) (ru := ru) (gr := gr) (wi := wi) (sz := sz) (fl := fl) (ve := ve) (mi := mi) (na := na) (nl := nl) (K := K37) (N := N37) (O := O37) (k0 := 6) (x0 := (w % 4294967296)) (v0 := (u % 4294967296)) hq hki hne hot (by omega) (by omega) (by omega)) (fun oc G2 h => by rcases h with ⟨h, _⟩ | ⟨_, h, _⟩ <;> exact ⟨_, h⟩) (by omega) m_PR_add ml_PR_84 im_PR_add se_PR_add c_PR hq.2.2 (Nat.le_of_ble_eq_true rfl) d_PR_fork_68 rfl ?_
        intro v G59 hq
        rcases hq with ⟨hv, hGe, hq60⟩ | ⟨la261, hv, hfk, hlk, hsk, hNq, hNki, hNne, hNot, hq62, hq63, hq64⟩
        · cases hv
          rw [hGe]
          change ab_W _ _ _ G3 71 [some (vR q), some (vj w), none, some (vj u), none, some (vz cnt), some (vz 0)] [vz 0, vz cnt] _
          refine ab_callS (d' := d - 1) (as := [vz cnt, vz 0]) (st := []) (z_PR_pair (o := o) (f0 := cnt) (u0 := 0) (by omega)) (fun oc G2 h => by rcases h with ⟨h, _⟩ <;> exact ⟨_, h⟩) (by omega) m_PR_pair ml_PR_88 st_PR_pair (Nat.le_of_ble_eq_true rfl) d_PR_fork_71 rfl ?_
          intro v G65 hq
          rcases hq with ⟨hv, hGe⟩
          cases hv
          rw [hGe]
          change ab_W _ _ _ G3 74 [some (vR q), some (vj w), none, some (vj u), none, some (vz cnt), some (vz 0)] [vj (cnt * 4294967296 + 0)] _
          refine ab_lret rfl d_PR_fork_74 ?_
          rw [hQ]; exact ⟨_, _, _, _, _, _, rfl, hfr, hlen, hsl, hq, hki, hne, hot, (by omega), (by omega), (by exact hp37), (by exact hkx37), (by omega)⟩
        · cases hv
          have hra := hfk.get hra (by simp only [List.mem_cons, List.not_mem_nil, or_false]; omega)
          have hfr := hfr.tr hfk (by simp)
          have hlen := hlk.trans hlen
          have hsl := hsk.trans hsl
          have hq := hNq
          have hki := hNki
          have hne := hNne
          have hot := hNot
          change ab_W _ _ _ G59 71 [some (vR q), some (vj w), none, some (vj u), none, some (vz cnt), some (vz 0)] [vz (cnt + 1), vz cnt] _
          have hp66 := prok_add (k := 6) (x := (w % 4294967296)) (v := (u % 4294967296)) hp37 (by omega) (by omega) (by omega) (by omega) (by omega) (fun t => by omega) (fun t => absurd t (by decide)) (fun t => absurd t (by decide)) (fun t => absurd t (by decide)) (fun t => absurd t (by decide))
          obtain ⟨K66, eK66⟩ : ∃ z : Int → Int, z = zu K37 (cnt + 1) 6 := ⟨_, rfl⟩
          have hki : cc o G59 ki (lq + 1) (za 808 K66) := by rw [← eK66.symm]; exact hki
          obtain ⟨N66, eN66⟩ : ∃ z : Int → Int, z = zu N37 (cnt + 1) (w % 4294967296) := ⟨_, rfl⟩
          have hne : cc o G59 ne (lq + 2) (za 808 N66) := by rw [← eN66.symm]; exact hne
          obtain ⟨O66, eO66⟩ : ∃ z : Int → Int, z = zu O37 (cnt + 1) (u % 4294967296) := ⟨_, rfl⟩
          have hot : cc o G59 ot (lq + 3) (za 808 O66) := by rw [← eO66.symm]; exact hot
          rw [← eK66, ← eN66, ← eO66] at hp66
          have hkx66 : kext K37 K66 (cnt + 1) := by rw [eK66]; exact kext.zu (Int.le_refl _)
          have hks66 : K66 (cnt + 1) = 6 := by rw [eK66]; exact zu_self _ _ _
          change ab_W _ _ _ G59 71 [some (vR q), some (vj w), none, some (vj u), none, some (vz cnt), some (vz 0)] [vz (cnt + 1), vz cnt] _
          refine ab_callS (d' := d - 1) (as := [vz cnt, vz (cnt + 1)]) (st := []) (z_PR_pair (o := o) (f0 := cnt) (u0 := (cnt + 1)) (by omega)) (fun oc G2 h => by rcases h with ⟨h, _⟩ <;> exact ⟨_, h⟩) (by omega) m_PR_pair ml_PR_88 st_PR_pair (Nat.le_of_ble_eq_true rfl) d_PR_fork_71 rfl ?_
          intro v G67 hq
          rcases hq with ⟨hv, hGe⟩
          cases hv
          rw [hGe]
          change ab_W _ _ _ G59 74 [some (vR q), some (vj w), none, some (vj u), none, some (vz cnt), some (vz 0)] [vj (cnt * 4294967296 + (cnt + 1))] _
          refine ab_lret rfl d_PR_fork_74 ?_
          rw [hQ]; exact ⟨_, _, _, _, _, _, rfl, hfr, hlen, hsl, hq, hki, hne, hot, (by omega), (by omega), (by exact hp66), (by exact (hkx37.tr hkx66 (by omega))), (by omega)⟩
      · refine zz_iconst d_PR_fork_38 ?_
        refine ab_goto (tgt := 43) d_PR_fork_39 (by decide) ?_
        refine ab_istore d_PR_fork_43 (Nat.le_of_ble_eq_true rfl) (Nat.le_of_ble_eq_true rfl) rfl ?_
        change ab_W _ _ _ G3 45 [some (vR q), some (vj w), none, some (vj u), none, some (vz cnt), some (vz 1)] [] _
        refine ab_iload d_PR_fork_45 rfl ?_
        refine ab_iload d_PR_fork_47 rfl ?_
        refine zz_if_eq (tgt := 57) d_PR_fork_49 (by decide) (by decide) (fun c68 => absurd c68 (by decide)) (fun c68 => ?_)
        refine ab_iload d_PR_fork_52 rfl ?_
        refine ab_goto (tgt := 71) d_PR_fork_54 (by decide) ?_
        refine ab_callS (d' := d - 1) (as := [vz cnt, vz cnt]) (st := []) (z_PR_pair (o := o) (f0 := cnt) (u0 := cnt) (by omega)) (fun oc G2 h => by rcases h with ⟨h, _⟩ <;> exact ⟨_, h⟩) (by omega) m_PR_pair ml_PR_88 st_PR_pair (Nat.le_of_ble_eq_true rfl) d_PR_fork_71 rfl ?_
        intro v G69 hq
        rcases hq with ⟨hv, hGe⟩
        cases hv
        rw [hGe]
        change ab_W _ _ _ G3 74 [some (vR q), some (vj w), none, some (vj u), none, some (vz cnt), some (vz 1)] [vj (cnt * 4294967296 + cnt)] _
        refine ab_lret rfl d_PR_fork_74 ?_
        rw [hQ]; exact ⟨_, _, _, _, _, _, rfl, hfr, hlen, hsl, hq, hki, hne, hot, (by omega), (by omega), (by exact hp37), (by exact hkx37), (by omega)⟩
set_option maxRecDepth 100000 in
set_option maxHeartbeats 4000000 in
theorem z_PR_once {X : ab_X} {d : Nat} {o : Nat → Nat} {G : ab_G} {q : Nat} {lq : Nat} {ki : Nat} {ne : Nat} {ot : Nat} {cnt : Int} {fi : Int} {la : Int} {ra : Nat} {ru : Int} {gr : Int} {wi : Int} {sz : Int} {fl : Int} {ve : Int} {mi : Int} {na : Nat} {nl : Nat} {K : Int → Int} {N : Int → Int} {O : Int → Int} {RR : Int → Int} {nr : Nat} {ps : Nat → Nat} {wt : Nat → Nat} {bs : Nat} {ph : Int} {gq : Int} {p : Nat} {w : Int} {dd : Int} {cu : Nat → Int} {bq : Int} (hq : cc o G q lq (ab_ob 5 [vR ki, vR ne, vR ot, vz cnt, vz fi, vz la, vR ra, vz ru, vz gr, vz wi, vz sz, vz fl, vz ve, vz mi, vR na, vR nl])) (hki : cc o G ki (lq + 1) (za 808 K)) (hne : cc o G ne (lq + 2) (za 808 N)) (hot : cc o G ot (lq + 3) (za 808 O)) (hra : cc o G ra (lq + 4) (za nr RR)) (ppaI_0 : paI o G 0 ps wt bs gq (prc RR ru) ph) (pszB_0 : szB o G 0 ps cu) (n18 : ab_n0 = 18) (cq : 100 ≤ lq ∧ 2 ≤ cnt ∧ cnt ≤ 808 ∧ 0 ≤ la ∧ la ≤ 1 ∧ 0 ≤ ru ∧ ru ≤ ↑nr ∧ ↑nr ≤ (100000 : Int) ∧ 32 ≤ nr ∧ 0 ≤ ph ∧ ru + ph ≤ 50000) (hp_ : prok K N O RR cnt ru wi) (hch : rch RR ru) (hr : hrr RR ↑nr) (ck0 : K 0 = 9) (cg_ : 0 ≤ gq ∧ gq ≤ 9 ∧ wi = 2 * (gq + 1)) (hpp : ps p = 90) (cw : 0 ≤ w ∧ w / 4294967296 < cnt ∧ w % 4294967296 < cnt) (cdd : 0 ≤ dd ∧ dd ≤ 30) (hdd : 6 * (31 - dd) + 6 ≤ (↑d : Int)) (rc : 32 * G.length + 103300 ≤ 32 * (ab_n0 + room_1.cells) + nr) (rs : ab_slots G + 200000 ≤ room_1.slots + 2 * nr) (hbq : bqo G cu p bq) (ihR : ∀ {d : Nat} {o : Nat → Nat} {G : ab_G} {q : Nat} {lq : Nat} {ki : Nat} {ne : Nat} {ot : Nat} {cnt : Int} {fi : Int} {la : Int} {ra : Nat} {ru : Int} {gr : Int} {wi : Int} {sz : Int} {fl : Int} {ve : Int} {mi : Int} {na : Nat} {nl : Nat} {K : Int → Int} {N : Int → Int} {O : Int → Int} {RR : Int → Int} {nr : Nat} {ps : Nat → Nat} {wt : Nat → Nat} {bs : Nat} {ph : Int} {gq : Int} {p : Nat} {w : Int} {cu : Nat → Int} {bq : Int}, (cc o G q lq (ab_ob 5 [vR ki, vR ne, vR ot, vz cnt, vz fi, vz la, vR ra, vz ru, vz gr, vz wi, vz sz, vz fl, vz ve, vz mi, vR na, vR nl])) → (cc o G ki (lq + 1) (za 808 K)) → (cc o G ne (lq + 2) (za 808 N)) → (cc o G ot (lq + 3) (za 808 O)) → (cc o G ra (lq + 4) (za nr RR)) → (paI o G 0 ps wt bs gq (prc RR ru) ph) → (szB o G 0 ps cu) → (ab_n0 = 18) → (100 ≤ lq ∧ 2 ≤ cnt ∧ cnt ≤ 808 ∧ 0 ≤ la ∧ la ≤ 1 ∧ 0 ≤ ru ∧ ru ≤ ↑nr ∧ ↑nr ≤ (100000 : Int) ∧ 32 ≤ nr ∧ 0 ≤ ph ∧ ru + ph ≤ 50000) → (prok K N O RR cnt ru wi) → (rch RR ru) → (hrr RR ↑nr) → (K 0 = 9) → (0 ≤ gq ∧ gq ≤ 9 ∧ wi = 2 * (gq + 1)) → (ps p = 90) → (0 ≤ w ∧ w / 4294967296 < cnt ∧ w % 4294967296 < cnt) → (0 ≤ (dd + 1) ∧ (dd + 1) ≤ 31) → (6 * (31 - (dd + 1)) + 10 ≤ (↑d : Int)) → (bqr G cu p bq) → (32 * G.length + 103300 ≤ 32 * (ab_n0 + room_1.cells) + nr) → (ab_slots G + 200000 ≤ room_1.slots + 2 * nr) → ab_F X d y_PR_rows (.code y_PR_rows b_PR_rows 8 (some (.long))) [vR q, vR p, vj w, vz (dd + 1)] G (fun oc G2 => ∃ o2 : Nat → Nat, ∃ w2 : Int, ∃ cnt2 : Int, ∃ la2 : Int, ∃ ra2 : Nat, ∃ nr2 : Nat, ∃ ru2 : Int, ∃ K2 : Int → Int, ∃ N2 : Int → Int, ∃ O2 : Int → Int, ∃ RR2 : Int → Int, ∃ ph2 : Int, oc = .returned (some (vj w2)) ∧ fx o o2 [lq, (lq + 1), (lq + 2), (lq + 3), (lq + 4), 90] G G2 ∧ cc o2 G2 q lq (ab_ob 5 [vR ki, vR ne, vR ot, vz cnt2, vz fi, vz la2, vR ra2, vz ru2, vz gr, vz wi, vz sz, vz fl, vz ve, vz mi, vR na, vR nl]) ∧ cc o2 G2 ki (lq + 1) (za 808 K2) ∧ cc o2 G2 ne (lq + 2) (za 808 N2) ∧ cc o2 G2 ot (lq + 3) (za 808 O2) ∧ cc o2 G2 ra2 (lq + 4) (za nr2 RR2) ∧ paI o2 G2 0 ps wt bs gq (prc RR2 ru2) ph2 ∧ szB o2 G2 0 ps cu ∧ (cnt ≤ cnt2 ∧ cnt2 ≤ 808 ∧ 0 ≤ la2 ∧ la2 ≤ 1) ∧ (0 ≤ w2 ∧ w2 / 4294967296 < cnt2 ∧ w2 % 4294967296 < cnt2) ∧ (0 ≤ ru2 ∧ ru2 ≤ ↑nr2 ∧ ↑nr2 ≤ (100000 : Int) ∧ nr ≤ nr2) ∧ (0 ≤ ph2 ∧ ru2 + ph2 ≤ ru + ph) ∧ (prok K2 N2 O2 RR2 cnt2 ru2 wi) ∧ (hrr RR2 ↑nr2) ∧ (rch RR2 ru2) ∧ (kext K K2 cnt) ∧ (fzr ps o o2 G G2) ∧ (32 * G2.length + nr ≤ 32 * G.length + nr2) ∧ (ab_slots G2 + 2 * nr ≤ ab_slots G + 2 * nr2) ∧ (cnt2 ≤ cnt + 2 * bq))) : ab_F X d y_PR_once (.code y_PR_once b_PR_once 7 (some (.long))) [vR q, vR p, vj w, vz dd] G (fun oc G2 => ∃ o2 : Nat → Nat, ∃ w2 : Int, ∃ cnt2 : Int, ∃ la2 : Int, ∃ ra2 : Nat, ∃ nr2 : Nat, ∃ ru2 : Int, ∃ K2 : Int → Int, ∃ N2 : Int → Int, ∃ O2 : Int → Int, ∃ RR2 : Int → Int, ∃ ph2 : Int, oc = .returned (some (vj w2)) ∧ fx o o2 [lq, (lq + 1), (lq + 2), (lq + 3), (lq + 4), 90] G G2 ∧ cc o2 G2 q lq (ab_ob 5 [vR ki, vR ne, vR ot, vz cnt2, vz fi, vz la2, vR ra2, vz ru2, vz gr, vz wi, vz sz, vz fl, vz ve, vz mi, vR na, vR nl]) ∧ cc o2 G2 ki (lq + 1) (za 808 K2) ∧ cc o2 G2 ne (lq + 2) (za 808 N2) ∧ cc o2 G2 ot (lq + 3) (za 808 O2) ∧ cc o2 G2 ra2 (lq + 4) (za nr2 RR2) ∧ paI o2 G2 0 ps wt bs gq (prc RR2 ru2) ph2 ∧ szB o2 G2 0 ps cu ∧ (cnt ≤ cnt2 ∧ cnt2 ≤ 808 ∧ 0 ≤ la2 ∧ la2 ≤ 1) ∧ (0 ≤ w2 ∧ w2 / 4294967296 < cnt2 ∧ w2 % 4294967296 < cnt2) ∧ (0 ≤ ru2 ∧ ru2 ≤ ↑nr2 ∧ ↑nr2 ≤ (100000 : Int) ∧ nr ≤ nr2) ∧ (0 ≤ ph2 ∧ ru2 + ph2 ≤ ru + ph) ∧ (prok K2 N2 O2 RR2 cnt2 ru2 wi) ∧ (hrr RR2 ↑nr2) ∧ (rch RR2 ru2) ∧ (kext K K2 cnt) ∧ (fzr ps o o2 G G2) ∧ (32 * G2.length + nr ≤ 32 * G.length + nr2) ∧ (ab_slots G2 + 2 * nr ≤ ab_slots G + 2 * nr2) ∧ (cnt2 ≤ cnt + 2 * bq)) := by
  refine ab_F_of (by decide +kernel) (Nat.le_of_ble_eq_true rfl) ?_
  obtain ⟨Q, hQ⟩ : ∃ z : Outcome → ab_G → Prop, z = (fun oc G2 => ∃ o2 : Nat → Nat, ∃ w2 : Int, ∃ cnt2 : Int, ∃ la2 : Int, ∃ ra2 : Nat, ∃ nr2 : Nat, ∃ ru2 : Int, ∃ K2 : Int → Int, ∃ N2 : Int → Int, ∃ O2 : Int → Int, ∃ RR2 : Int → Int, ∃ ph2 : Int, oc = .returned (some (vj w2)) ∧ fx o o2 [lq, (lq + 1), (lq + 2), (lq + 3), (lq + 4), 90] G G2 ∧ cc o2 G2 q lq (ab_ob 5 [vR ki, vR ne, vR ot, vz cnt2, vz fi, vz la2, vR ra2, vz ru2, vz gr, vz wi, vz sz, vz fl, vz ve, vz mi, vR na, vR nl]) ∧ cc o2 G2 ki (lq + 1) (za 808 K2) ∧ cc o2 G2 ne (lq + 2) (za 808 N2) ∧ cc o2 G2 ot (lq + 3) (za 808 O2) ∧ cc o2 G2 ra2 (lq + 4) (za nr2 RR2) ∧ paI o2 G2 0 ps wt bs gq (prc RR2 ru2) ph2 ∧ szB o2 G2 0 ps cu ∧ (cnt ≤ cnt2 ∧ cnt2 ≤ 808 ∧ 0 ≤ la2 ∧ la2 ≤ 1) ∧ (0 ≤ w2 ∧ w2 / 4294967296 < cnt2 ∧ w2 % 4294967296 < cnt2) ∧ (0 ≤ ru2 ∧ ru2 ≤ ↑nr2 ∧ ↑nr2 ≤ (100000 : Int) ∧ nr ≤ nr2) ∧ (0 ≤ ph2 ∧ ru2 + ph2 ≤ ru + ph) ∧ (prok K2 N2 O2 RR2 cnt2 ru2 wi) ∧ (hrr RR2 ↑nr2) ∧ (rch RR2 ru2) ∧ (kext K K2 cnt) ∧ (fzr ps o o2 G G2) ∧ (32 * G2.length + nr ≤ 32 * G.length + nr2) ∧ (ab_slots G2 + 2 * nr ≤ ab_slots G + 2 * nr2) ∧ (cnt2 ≤ cnt + 2 * bq)) := ⟨_, rfl⟩
  rw [← hQ]
  change ab_W X (ab_pl y_PR_once b_PR_once 7 (some (.long))) d G 0 [some (vR q), some (vR p), some (vj w), none, some (vz dd), none, none] [] Q
  have hfr : fx o o [lq, (lq + 1), (lq + 2), (lq + 3), (lq + 4), 90] G G := fx.rf
  have hzr : fzr ps o o G G := fzr.rf
  obtain ⟨k_1, v_1, rg_1, pl_1, fl_1, ou_1, ls_1, bf_1, sz_1, mb_1, oe_1, le_1, mo_1, la_1, rc_1, hp, hn1, hb1, hg1, ho1, hl1, hf1⟩ := ppaI_0.1 p hpp
  have hB1 := hb1
  unfold pnB at hB1
  have hK1 := hn1.1
  have hbe_ := bqo_e hp (by omega) (by omega) hbq
  have hlv_ := lvc_0 pszB_0.c0 ls_1
  refine ab_aload_n d_PR_once_0 rfl ?_
  refine ab_getf (fs := [vz k_1, vz v_1, rg_1, vz pl_1, vz fl_1, ou_1, ls_1, bf_1, vz sz_1, vz mb_1, vz oe_1, vz le_1, vz mo_1, vz la_1, vz rc_1]) f_PR_162 d_PR_once_1 hp.2.2 rfl ?_
  refine zz_iconst d_PR_once_4 ?_
  refine zz_icmp_ne (tgt := 26) d_PR_once_5 (by decide) (by omega) (by decide) (fun c2 => ?_) (fun c2 => ?_)
  · refine ab_aload_n d_PR_once_26 rfl ?_
    refine ab_getf (fs := [vz k_1, vz v_1, rg_1, vz pl_1, vz fl_1, ou_1, ls_1, bf_1, vz sz_1, vz mb_1, vz oe_1, vz le_1, vz mo_1, vz la_1, vz rc_1]) f_PR_162 d_PR_once_27 hp.2.2 rfl ?_
    refine zz_iconst d_PR_once_30 ?_
    refine zz_icmp_ne (tgt := 75) d_PR_once_31 (by decide) (by omega) (by decide) (fun c3 => ?_) (fun c3 => absurd c3 (by omega))
    refine ab_aload_n d_PR_once_75 rfl ?_
    refine ab_getf (fs := [vz k_1, vz v_1, rg_1, vz pl_1, vz fl_1, ou_1, ls_1, bf_1, vz sz_1, vz mb_1, vz oe_1, vz le_1, vz mo_1, vz la_1, vz rc_1]) f_PR_162 d_PR_once_76 hp.2.2 rfl ?_
    refine zz_iconst d_PR_once_79 ?_
    refine zz_icmp_ne (tgt := 94) d_PR_once_80 (by decide) (by omega) (by decide) (fun c4 => ?_) (fun c4 => ?_)
    · refine ab_aload_n d_PR_once_94 rfl ?_
      refine ab_aload_n d_PR_once_95 rfl ?_
      refine ab_getf (fs := [vz k_1, vz v_1, rg_1, vz pl_1, vz fl_1, ou_1, ls_1, bf_1, vz sz_1, vz mb_1, vz oe_1, vz le_1, vz mo_1, vz la_1, vz rc_1]) f_PR_162 d_PR_once_96 hp.2.2 rfl ?_
      refine ab_lload_n d_PR_once_99 rfl ?_
      refine ab_callS (d' := d - 1) (as := [vj w]) (st := [vz k_1, vR q]) (z_PR_used (o := o) (w := w) (by omega)) (fun oc G2 h => by rcases h with ⟨h, _⟩ <;> exact ⟨_, h⟩) (by omega) m_PR_used ml_PR_124 st_PR_used (Nat.le_of_ble_eq_true rfl) d_PR_once_100 rfl ?_
      intro v G5 hq
      rcases hq with ⟨hv, hGe⟩
      cases hv
      rw [hGe]
      change ab_W _ _ _ G 103 [some (vR q), some (vR p), some (vj w), none, some (vz dd), none, none] [vz (w % 4294967296), vz k_1, vR q] _
      refine ab_aload_n d_PR_once_103 rfl ?_
      refine ab_getf (fs := [vz k_1, vz v_1, rg_1, vz pl_1, vz fl_1, ou_1, ls_1, bf_1, vz sz_1, vz mb_1, vz oe_1, vz le_1, vz mo_1, vz la_1, vz rc_1]) f_PR_162 d_PR_once_104 hp.2.2 rfl ?_
      refine zz_iconst d_PR_once_107 ?_
      refine zz_icmp_ne (tgt := 119) d_PR_once_108 (by decide) (by omega) (by decide) (fun c6 => ?_) (fun c6 => ?_)
      · refine ab_aload_n d_PR_once_119 rfl ?_
        refine ab_getf (fs := [vz k_1, vz v_1, rg_1, vz pl_1, vz fl_1, ou_1, ls_1, bf_1, vz sz_1, vz mb_1, vz oe_1, vz le_1, vz mo_1, vz la_1, vz rc_1]) f_PR_165 d_PR_once_120 hp.2.2 rfl ?_
        refine ab_callV (d' := d - 1) (as := [vz k_1, vz (w % 4294967296), vz v_1]) (st := []) (r := _) (z_PR_add (o := o) (q := q) (lq := lq) (ki := ki) (ne := ne) (ot := ot) (cnt := cnt) (fi := fi) (la := la) (ra := ra) (ru := ru) (gr := gr) (wi := wi) (sz := sz) (fl := fl) (ve := ve) (mi := mi) (na := na) (nl := nl) (K := K) (N := N) (O := O) (k0 := k_1) (x0 := (w % 4294967296)) (v0 := v_1) hq hki hne hot (by omega) (by omega) (by omega)) (fun oc G2 h => by rcases h with ⟨h, _⟩ | ⟨_, h, _⟩ <;> exact ⟨_, h⟩) (by omega) m_PR_add ml_PR_84 im_PR_add se_PR_add c_PR hq.2.2 (Nat.le_of_ble_eq_true rfl) d_PR_once_123 rfl ?_
        intro v G7 hq
        rcases hq with ⟨hv, hGe, hq8⟩ | ⟨la29, hv, hfk, hlk, hsk, hNq, hNki, hNne, hNot, hq10, hq11, hq12⟩
        · cases hv
          rw [hGe]
          change ab_W _ _ _ G 126 [some (vR q), some (vR p), some (vj w), none, some (vz dd), none, none] [vz 0] _
          refine ab_istore d_PR_once_126 (Nat.le_of_ble_eq_true rfl) (Nat.le_of_ble_eq_true rfl) rfl ?_
          change ab_W _ _ _ G 128 [some (vR q), some (vR p), some (vj w), none, some (vz dd), some (vz 0), none] [] _
          refine ab_iload d_PR_once_128 rfl ?_
          refine ab_iload d_PR_once_130 rfl ?_
          refine ab_callS (d' := d - 1) (as := [vz 0, vz 0]) (st := []) (z_PR_pair (o := o) (f0 := 0) (u0 := 0) (by omega)) (fun oc G2 h => by rcases h with ⟨h, _⟩ <;> exact ⟨_, h⟩) (by omega) m_PR_pair ml_PR_88 st_PR_pair (Nat.le_of_ble_eq_true rfl) d_PR_once_132 rfl ?_
          intro v G15 hq
          rcases hq with ⟨hv, hGe⟩
          cases hv
          rw [hGe]
          change ab_W _ _ _ G 135 [some (vR q), some (vR p), some (vj w), none, some (vz dd), some (vz 0), none] [vj (0 * 4294967296 + 0)] _
          refine ab_lret rfl d_PR_once_135 ?_
          rw [hQ]; exact ⟨_, _, _, _, _, _, _, _, _, _, _, _, rfl, hfr, hq, hki, hne, hot, hra, ppaI_0, pszB_0, (by omega), (by omega), (by omega), (by omega), (by exact hp_), (by exact hr), (by exact hch), (by exact kext.rf), (by exact hzr), (by omega), (by omega), (by first | (have t := pin_v (k := k_1) (v := v_1) (by omega) (by omega); omega) | (have t := pin_1 (k := k_1) (v := v_1) (by omega); omega) | (have t := pin_0 k_1 v_1; omega))⟩
        · cases hv
          have hzr := hzr.tr (fzr.fx hfk (by simp only [List.mem_cons, List.not_mem_nil, or_false]; omega))
          have hra := hfk.get hra (by simp only [List.mem_cons, List.not_mem_nil, or_false]; omega)
          have hp := hfk.get hp (by simp only [List.mem_cons, List.not_mem_nil, or_false]; omega)
          have pszB_0 := szB.fr hfk pszB_0 (by simp only [List.mem_cons, List.not_mem_nil, or_false]; omega) (by simp only [List.mem_cons, List.not_mem_nil, or_false]; omega)
          have ppaI_0 := paI.fr hfk ppaI_0 (by simp only [List.mem_cons, List.not_mem_nil, or_false]; omega) (by simp only [List.mem_cons, List.not_mem_nil, or_false]; omega) (by simp only [List.mem_cons, List.not_mem_nil, or_false]; omega) (by intro xx hx; simp only [List.mem_cons, List.not_mem_nil, or_false] at hx; omega)
          have hfr := hfr.tr hfk (by simp)
          have hq13 := hlk
          have hq14 := hsk
          have hq := hNq
          have hki := hNki
          have hne := hNne
          have hot := hNot
          change ab_W _ _ _ G7 126 [some (vR q), some (vR p), some (vj w), none, some (vz dd), none, none] [vz cnt] _
          have hp16 := prok_add (k := k_1) (x := (w % 4294967296)) (v := v_1) hp_ (by omega) (by omega) (by omega) (by omega) (by omega) (fun t => absurd t (by omega)) (fun t => absurd t (by omega)) (fun t => absurd t (by omega)) (fun t => by have hv0 := hn1.2.1 (by omega); omega) (fun t => absurd t (by omega))
          obtain ⟨K16, eK16⟩ : ∃ z : Int → Int, z = zu K cnt k_1 := ⟨_, rfl⟩
          have hki : cc o G7 ki (lq + 1) (za 808 K16) := by rw [← eK16.symm]; exact hki
          obtain ⟨N16, eN16⟩ : ∃ z : Int → Int, z = zu N cnt (w % 4294967296) := ⟨_, rfl⟩
          have hne : cc o G7 ne (lq + 2) (za 808 N16) := by rw [← eN16.symm]; exact hne
          obtain ⟨O16, eO16⟩ : ∃ z : Int → Int, z = zu O cnt v_1 := ⟨_, rfl⟩
          have hot : cc o G7 ot (lq + 3) (za 808 O16) := by rw [← eO16.symm]; exact hot
          rw [← eK16, ← eN16, ← eO16] at hp16
          have hkx16 : kext K K16 cnt := by rw [eK16]; exact kext.zu (Int.le_refl _)
          have hks16 : K16 cnt = k_1 := by rw [eK16]; exact zu_self _ _ _
          change ab_W _ _ _ G7 126 [some (vR q), some (vR p), some (vj w), none, some (vz dd), none, none] [vz cnt] _
          refine ab_istore d_PR_once_126 (Nat.le_of_ble_eq_true rfl) (Nat.le_of_ble_eq_true rfl) rfl ?_
          change ab_W _ _ _ G7 128 [some (vR q), some (vR p), some (vj w), none, some (vz dd), some (vz cnt), none] [] _
          refine ab_iload d_PR_once_128 rfl ?_
          refine ab_iload d_PR_once_130 rfl ?_
          refine ab_callS (d' := d - 1) (as := [vz cnt, vz cnt]) (st := []) (z_PR_pair (o := o) (f0 := cnt) (u0 := cnt) (by omega)) (fun oc G2 h => by rcases h with ⟨h, _⟩ <;> exact ⟨_, h⟩) (by omega) m_PR_pair ml_PR_88 st_PR_pair (Nat.le_of_ble_eq_true rfl) d_PR_once_132 rfl ?_
          intro v G17 hq
          rcases hq with ⟨hv, hGe⟩
          cases hv
          rw [hGe]
          change ab_W _ _ _ G7 135 [some (vR q), some (vR p), some (vj w), none, some (vz dd), some (vz cnt), none] [vj (cnt * 4294967296 + cnt)] _
          refine ab_lret rfl d_PR_once_135 ?_
          rw [hQ]; exact ⟨_, _, _, _, _, _, _, _, _, _, _, _, rfl, hfr, hq, hki, hne, hot, hra, ppaI_0, pszB_0, (by omega), (by omega), (by omega), (by omega), (by exact hp16), (by exact hr), (by exact hch), (by exact hkx16), (by exact hzr), (by omega), (by omega), (by first | (have t := pin_v (k := k_1) (v := v_1) (by omega) (by omega); omega) | (have t := pin_1 (k := k_1) (v := v_1) (by omega); omega) | (have t := pin_0 k_1 v_1; omega))⟩
      · refine ab_aload_n d_PR_once_111 rfl ?_
        refine ab_aload_n d_PR_once_112 rfl ?_
        refine ab_callV (d' := d - 1) (as := [vR p]) (st := [vz (w % 4294967296), vz k_1, vR q]) (r := _) (z_PR_recordOf (o := o) (q := q) (lq := lq) (ki := ki) (ne := ne) (ot := ot) (cnt := cnt) (fi := fi) (la := la) (ra := ra) (ru := ru) (gr := gr) (wi := wi) (sz := sz) (fl := fl) (ve := ve) (mi := mi) (na := na) (nl := nl) (RR := RR) (nr := nr) (kp := k_1) (vp := v_1) (rgp := rg_1) (plp := pl_1) (flp := fl_1) (oup := ou_1) (lsp := ls_1) (bfp := bf_1) (szp := sz_1) (mbp := mb_1) (oep := oe_1) (lep := le_1) (mop := mo_1) (lap := la_1) (rcp := rc_1) (ps := ps) (wt := wt) (bs := bs) (ph := ph) (gq := gq) (p := p) (cu := cu) hq hra hp ppaI_0 pszB_0 (by omega) (by omega) hp_ hch hr hpp (by omega) hn1 (by omega) (by omega) (by omega)) (fun oc G2 h => by rcases h with ⟨_, _, _, _, _, _, _, _, h, _⟩ <;> exact ⟨_, h⟩) (by omega) m_PR_recordOf ml_PR_172 im_PR_recordOf se_PR_recordOf c_PR hq.2.2 (Nat.le_of_ble_eq_true rfl) d_PR_once_113 rfl ?_
        intro v G18 hq
        rcases hq with ⟨o19, v20, ra221, nr222, ru223, RR224, ph225, rc226, hv, hfk, hNq, hNra221, hNp, pNpaI_0, pNszB_0, hq27, hq28, hq29, hq30, hq31, hq32, hq33, hq34, hq35, hq36⟩
        cases hv
        have hzr := hzr.tr hq34
        have hki := hfk.get hki (by simp only [List.mem_cons, List.not_mem_nil, or_false]; omega)
        have hne := hfk.get hne (by simp only [List.mem_cons, List.not_mem_nil, or_false]; omega)
        have hot := hfk.get hot (by simp only [List.mem_cons, List.not_mem_nil, or_false]; omega)
        have ppaI_0 := pNpaI_0
        have pszB_0 := pNszB_0
        have hfr := hfr.tr hfk (by simp)
        have hq37 := hfk.1
        have hq := hNq
        have hra221 := hNra221
        have hp := hNp
        change ab_W _ _ _ G18 116 [some (vR q), some (vR p), some (vj w), none, some (vz dd), none, none] [vz v20, vz (w % 4294967296), vz k_1, vR q] _
        refine ab_goto (tgt := 123) d_PR_once_116 (by decide) ?_
        refine ab_callV (d' := d - 1) (as := [vz k_1, vz (w % 4294967296), vz v20]) (st := []) (r := _) (z_PR_add (o := o19) (q := q) (lq := lq) (ki := ki) (ne := ne) (ot := ot) (cnt := cnt) (fi := fi) (la := la) (ra := ra221) (ru := ru223) (gr := gr) (wi := wi) (sz := sz) (fl := fl) (ve := ve) (mi := mi) (na := na) (nl := nl) (K := K) (N := N) (O := O) (k0 := k_1) (x0 := (w % 4294967296)) (v0 := v20) hq hki hne hot (by omega) (by omega) (by omega)) (fun oc G2 h => by rcases h with ⟨h, _⟩ | ⟨_, h, _⟩ <;> exact ⟨_, h⟩) (by omega) m_PR_add ml_PR_84 im_PR_add se_PR_add c_PR hq.2.2 (Nat.le_of_ble_eq_true rfl) d_PR_once_123 rfl ?_
        intro v G38 hq
        rcases hq with ⟨hv, hGe, hq39⟩ | ⟨la240, hv, hfk, hlk, hsk, hNq, hNki, hNne, hNot, hq41, hq42, hq43⟩
        · cases hv
          rw [hGe]
          change ab_W _ _ _ G18 126 [some (vR q), some (vR p), some (vj w), none, some (vz dd), none, none] [vz 0] _
          refine ab_istore d_PR_once_126 (Nat.le_of_ble_eq_true rfl) (Nat.le_of_ble_eq_true rfl) rfl ?_
          change ab_W _ _ _ G18 128 [some (vR q), some (vR p), some (vj w), none, some (vz dd), some (vz 0), none] [] _
          refine ab_iload d_PR_once_128 rfl ?_
          refine ab_iload d_PR_once_130 rfl ?_
          refine ab_callS (d' := d - 1) (as := [vz 0, vz 0]) (st := []) (z_PR_pair (o := o19) (f0 := 0) (u0 := 0) (by omega)) (fun oc G2 h => by rcases h with ⟨h, _⟩ <;> exact ⟨_, h⟩) (by omega) m_PR_pair ml_PR_88 st_PR_pair (Nat.le_of_ble_eq_true rfl) d_PR_once_132 rfl ?_
          intro v G46 hq
          rcases hq with ⟨hv, hGe⟩
          cases hv
          rw [hGe]
          change ab_W _ _ _ G18 135 [some (vR q), some (vR p), some (vj w), none, some (vz dd), some (vz 0), none] [vj (0 * 4294967296 + 0)] _
          refine ab_lret rfl d_PR_once_135 ?_
          rw [hQ]; exact ⟨_, _, _, _, _, _, _, _, _, _, _, _, rfl, hfr, hq, hki, hne, hot, hra221, ppaI_0, pszB_0, (by omega), (by omega), (by omega), (by omega), (by exact hq30), (by exact hq31), (by exact hq29), (by exact kext.rf), (by exact hzr), (by omega), (by omega), (by first | (have t := pin_v (k := k_1) (v := v_1) (by omega) (by omega); omega) | (have t := pin_1 (k := k_1) (v := v_1) (by omega); omega) | (have t := pin_0 k_1 v_1; omega))⟩
        · cases hv
          have hzr := hzr.tr (fzr.fx hfk (by simp only [List.mem_cons, List.not_mem_nil, or_false]; omega))
          have hp := hfk.get hp (by simp only [List.mem_cons, List.not_mem_nil, or_false]; omega)
          have hra221 := hfk.get hra221 (by simp only [List.mem_cons, List.not_mem_nil, or_false]; omega)
          have pszB_0 := szB.fr hfk pszB_0 (by simp only [List.mem_cons, List.not_mem_nil, or_false]; omega) (by simp only [List.mem_cons, List.not_mem_nil, or_false]; omega)
          have ppaI_0 := paI.fr hfk ppaI_0 (by simp only [List.mem_cons, List.not_mem_nil, or_false]; omega) (by simp only [List.mem_cons, List.not_mem_nil, or_false]; omega) (by simp only [List.mem_cons, List.not_mem_nil, or_false]; omega) (by intro xx hx; simp only [List.mem_cons, List.not_mem_nil, or_false] at hx; omega)
          have hfr := hfr.tr hfk (by simp)
          have hq44 := hlk
          have hq45 := hsk
          have hq := hNq
          have hki := hNki
          have hne := hNne
          have hot := hNot
          change ab_W _ _ _ G38 126 [some (vR q), some (vR p), some (vj w), none, some (vz dd), none, none] [vz cnt] _
          have hp47 := prok_add (k := k_1) (x := (w % 4294967296)) (v := v20) hq30 (by omega) (by omega) (by omega) (by omega) (by omega) (fun t => absurd t (by omega)) (fun t => absurd t (by omega)) (fun t => absurd t (by omega)) (fun t => by have hv0 := hn1.2.1 (by omega); omega) (fun t => hq27)
          obtain ⟨K47, eK47⟩ : ∃ z : Int → Int, z = zu K cnt k_1 := ⟨_, rfl⟩
          have hki : cc o19 G38 ki (lq + 1) (za 808 K47) := by rw [← eK47.symm]; exact hki
          obtain ⟨N47, eN47⟩ : ∃ z : Int → Int, z = zu N cnt (w % 4294967296) := ⟨_, rfl⟩
          have hne : cc o19 G38 ne (lq + 2) (za 808 N47) := by rw [← eN47.symm]; exact hne
          obtain ⟨O47, eO47⟩ : ∃ z : Int → Int, z = zu O cnt v20 := ⟨_, rfl⟩
          have hot : cc o19 G38 ot (lq + 3) (za 808 O47) := by rw [← eO47.symm]; exact hot
          rw [← eK47, ← eN47, ← eO47] at hp47
          have hkx47 : kext K K47 cnt := by rw [eK47]; exact kext.zu (Int.le_refl _)
          have hks47 : K47 cnt = k_1 := by rw [eK47]; exact zu_self _ _ _
          change ab_W _ _ _ G38 126 [some (vR q), some (vR p), some (vj w), none, some (vz dd), none, none] [vz cnt] _
          refine ab_istore d_PR_once_126 (Nat.le_of_ble_eq_true rfl) (Nat.le_of_ble_eq_true rfl) rfl ?_
          change ab_W _ _ _ G38 128 [some (vR q), some (vR p), some (vj w), none, some (vz dd), some (vz cnt), none] [] _
          refine ab_iload d_PR_once_128 rfl ?_
          refine ab_iload d_PR_once_130 rfl ?_
          refine ab_callS (d' := d - 1) (as := [vz cnt, vz cnt]) (st := []) (z_PR_pair (o := o19) (f0 := cnt) (u0 := cnt) (by omega)) (fun oc G2 h => by rcases h with ⟨h, _⟩ <;> exact ⟨_, h⟩) (by omega) m_PR_pair ml_PR_88 st_PR_pair (Nat.le_of_ble_eq_true rfl) d_PR_once_132 rfl ?_
          intro v G48 hq
          rcases hq with ⟨hv, hGe⟩
          cases hv
          rw [hGe]
          change ab_W _ _ _ G38 135 [some (vR q), some (vR p), some (vj w), none, some (vz dd), some (vz cnt), none] [vj (cnt * 4294967296 + cnt)] _
          refine ab_lret rfl d_PR_once_135 ?_
          rw [hQ]; exact ⟨_, _, _, _, _, _, _, _, _, _, _, _, rfl, hfr, hq, hki, hne, hot, hra221, ppaI_0, pszB_0, (by omega), (by omega), (by omega), (by omega), (by exact hp47), (by exact hq31), (by exact hq29), (by exact hkx47), (by exact hzr), (by omega), (by omega), (by first | (have t := pin_v (k := k_1) (v := v_1) (by omega) (by omega); omega) | (have t := pin_1 (k := k_1) (v := v_1) (by omega); omega) | (have t := pin_0 k_1 v_1; omega))⟩
    · have hv3 := hn1.2.2.1 (by omega)
      refine ab_aload_n d_PR_once_83 rfl ?_
      refine zz_iconst d_PR_once_84 ?_
      refine ab_lload_n d_PR_once_85 rfl ?_
      refine ab_aload_n d_PR_once_86 rfl ?_
      refine ab_getf (fs := [vz k_1, vz v_1, rg_1, vz pl_1, vz fl_1, ou_1, ls_1, bf_1, vz sz_1, vz mb_1, vz oe_1, vz le_1, vz mo_1, vz la_1, vz rc_1]) f_PR_165 d_PR_once_87 hp.2.2 rfl ?_
      refine ab_callV (d' := d - 1) (as := [vz 3, vj w, vz v_1]) (st := []) (r := _) (za_PR_addPair (o := o) (q := q) (lq := lq) (ki := ki) (ne := ne) (ot := ot) (cnt := cnt) (fi := fi) (la := la) (ra := ra) (ru := ru) (gr := gr) (wi := wi) (sz := sz) (fl := fl) (ve := ve) (mi := mi) (na := na) (nl := nl) (K := K) (N := N) (O := O) (RR := RR) (nr := nr) (w := w) (vl := v_1) hq hki hne hot hra (by omega) (by omega) hp_ (by omega) (by omega) (by omega)) (fun oc G2 h => by rcases h with ⟨_, _, _, _, _, _, h, _⟩ <;> exact ⟨_, h⟩) (by omega) m_PR_addPair ml_PR_168 im_PR_addPair se_PR_addPair c_PR hq.2.2 (Nat.le_of_ble_eq_true rfl) d_PR_once_90 rfl ?_
      intro v G49 hq
      rcases hq with ⟨w250, cnt251, la252, K253, N254, O255, hv, hfk, hlk, hsk, hNq, hNki, hNne, hNot, hq56, hq57, hq58, hq59, hq60⟩
      cases hv
      have hzr := hzr.tr (fzr.fx hfk (by simp only [List.mem_cons, List.not_mem_nil, or_false]; omega))
      have hra := hfk.get hra (by simp only [List.mem_cons, List.not_mem_nil, or_false]; omega)
      have hp := hfk.get hp (by simp only [List.mem_cons, List.not_mem_nil, or_false]; omega)
      have pszB_0 := szB.fr hfk pszB_0 (by simp only [List.mem_cons, List.not_mem_nil, or_false]; omega) (by simp only [List.mem_cons, List.not_mem_nil, or_false]; omega)
      have ppaI_0 := paI.fr hfk ppaI_0 (by simp only [List.mem_cons, List.not_mem_nil, or_false]; omega) (by simp only [List.mem_cons, List.not_mem_nil, or_false]; omega) (by simp only [List.mem_cons, List.not_mem_nil, or_false]; omega) (by intro xx hx; simp only [List.mem_cons, List.not_mem_nil, or_false] at hx; omega)
      have hfr := hfr.tr hfk (by simp)
      have hq61 := hlk
      have hq62 := hsk
      have hq := hNq
      have hki := hNki
      have hne := hNne
      have hot := hNot
      change ab_W _ _ _ G49 93 [some (vR q), some (vR p), some (vj w), none, some (vz dd), none, none] [vj w250] _
      refine ab_lret rfl d_PR_once_93 ?_
      rw [hQ]; exact ⟨_, _, _, _, _, _, _, _, _, _, _, _, rfl, hfr, hq, hki, hne, hot, hra, ppaI_0, pszB_0, (by omega), (by omega), (by omega), (by omega), (by exact hq58), (by exact hr), (by exact hch), (by exact hq59), (by exact hzr), (by omega), (by omega), (by first | (have t := pin_v (k := k_1) (v := v_1) (by omega) (by omega); omega) | (have t := pin_1 (k := k_1) (v := v_1) (by omega); omega) | (have t := pin_0 k_1 v_1; omega))⟩
  · refine ab_aload_n d_PR_once_8 rfl ?_
    refine ab_getf (fs := [vz k_1, vz v_1, rg_1, vz pl_1, vz fl_1, ou_1, ls_1, bf_1, vz sz_1, vz mb_1, vz oe_1, vz le_1, vz mo_1, vz la_1, vz rc_1]) f_PR_165 d_PR_once_9 hp.2.2 rfl ?_
    refine zz_if_ne (tgt := 26) d_PR_once_12 (by decide) (by omega) (fun c63 => ?_) (fun c63 => ?_)
    · refine ab_aload_n d_PR_once_26 rfl ?_
      refine ab_getf (fs := [vz k_1, vz v_1, rg_1, vz pl_1, vz fl_1, ou_1, ls_1, bf_1, vz sz_1, vz mb_1, vz oe_1, vz le_1, vz mo_1, vz la_1, vz rc_1]) f_PR_162 d_PR_once_27 hp.2.2 rfl ?_
      refine zz_iconst d_PR_once_30 ?_
      refine zz_icmp_ne (tgt := 75) d_PR_once_31 (by decide) (by omega) (by decide) (fun c64 => absurd c64 (by omega)) (fun c64 => ?_)
      have hv4 := hn1.2.2.2.1 (by omega)
      refine ab_aload_n d_PR_once_34 rfl ?_
      refine ab_aload_n d_PR_once_35 rfl ?_
      refine ab_aload_n d_PR_once_36 rfl ?_
      refine zz_bipush d_PR_once_37 (by decide) ?_
      refine ab_lload_n d_PR_once_39 rfl ?_
      refine zz_iconst d_PR_once_40 ?_
      refine ab_aload_n d_PR_once_41 rfl ?_
      refine ab_getf (fs := [vz k_1, vz v_1, rg_1, vz pl_1, vz fl_1, ou_1, ls_1, bf_1, vz sz_1, vz mb_1, vz oe_1, vz le_1, vz mo_1, vz la_1, vz rc_1]) f_PR_165 d_PR_once_42 hp.2.2 rfl ?_
      refine zz_imul d_PR_once_45 ?_
      refine zz_iconst d_PR_once_46 ?_
      refine zz_iadd d_PR_once_47 ?_
      refine ab_callV (d' := d - 1) (as := [vz 7, vj w, vz ((2 * v_1) + 1)]) (st := [vR p, vR q]) (r := _) (zs_PR_addPair (o := o) (q := q) (lq := lq) (ki := ki) (ne := ne) (ot := ot) (cnt := cnt) (fi := fi) (la := la) (ra := ra) (ru := ru) (gr := gr) (wi := wi) (sz := sz) (fl := fl) (ve := ve) (mi := mi) (na := na) (nl := nl) (K := K) (N := N) (O := O) (RR := RR) (nr := nr) (w := w) (vl := ((2 * v_1) + 1)) hq hki hne hot hra (by omega) (by omega) hp_ (by omega) (by omega) (by omega)) (fun oc G2 h => by rcases h with ⟨_, _, _, _, _, _, h, _⟩ <;> exact ⟨_, h⟩) (by omega) m_PR_addPair ml_PR_168 im_PR_addPair se_PR_addPair c_PR hq.2.2 (Nat.le_of_ble_eq_true rfl) d_PR_once_48 rfl ?_
      intro v G65 hq
      rcases hq with ⟨w266, cnt267, la268, K269, N270, O271, hv, hfk, hlk, hsk, hNq, hNki, hNne, hNot, hq72, hq73, hq74, hq75, hq76⟩
      cases hv
      have hzr := hzr.tr (fzr.fx hfk (by simp only [List.mem_cons, List.not_mem_nil, or_false]; omega))
      have hra := hfk.get hra (by simp only [List.mem_cons, List.not_mem_nil, or_false]; omega)
      have hp := hfk.get hp (by simp only [List.mem_cons, List.not_mem_nil, or_false]; omega)
      have pszB_0 := szB.fr hfk pszB_0 (by simp only [List.mem_cons, List.not_mem_nil, or_false]; omega) (by simp only [List.mem_cons, List.not_mem_nil, or_false]; omega)
      have ppaI_0 := paI.fr hfk ppaI_0 (by simp only [List.mem_cons, List.not_mem_nil, or_false]; omega) (by simp only [List.mem_cons, List.not_mem_nil, or_false]; omega) (by simp only [List.mem_cons, List.not_mem_nil, or_false]; omega) (by intro xx hx; simp only [List.mem_cons, List.not_mem_nil, or_false] at hx; omega)
      have hfr := hfr.tr hfk (by simp)
      have hq77 := hlk
      have hq78 := hsk
      have hq := hNq
      have hki := hNki
      have hne := hNne
      have hot := hNot
      change ab_W _ _ _ G65 51 [some (vR q), some (vR p), some (vj w), none, some (vz dd), none, none] [vj w266, vR p, vR q] _
      refine ab_iload d_PR_once_51 rfl ?_
      refine zz_iconst d_PR_once_53 ?_
      refine zz_iadd d_PR_once_54 ?_
      refine ab_callV (d' := d - 1) (as := [vR p, vj w266, vz (dd + 1)]) (st := []) (r := _) (ihR (o := o) (q := q) (lq := lq) (ki := ki) (ne := ne) (ot := ot) (cnt := cnt267) (fi := fi) (la := la268) (ra := ra) (ru := ru) (gr := gr) (wi := wi) (sz := sz) (fl := fl) (ve := ve) (mi := mi) (na := na) (nl := nl) (K := K269) (N := N270) (O := O271) (RR := RR) (nr := nr) (ps := ps) (wt := wt) (bs := bs) (ph := ph) (gq := gq) (p := p) (w := w266) (cu := cu) (bq := (lvc cu ls_1)) hq hki hne hot hra ppaI_0 pszB_0 (by omega) (by omega) hq74 hch hr ((hq75 0 (by omega) (by omega)).trans ck0) (by omega) hpp (by omega) (by omega) (by omega) (bqr_c hp ⟨hlv_, Int.le_refl _⟩) (by omega) (by omega)) (fun oc G2 h => by rcases h with ⟨_, _, _, _, _, _, _, _, _, _, _, _, h, _⟩ <;> exact ⟨_, h⟩) (by omega) m_PR_rows ml_PR_92 im_PR_rows se_PR_rows c_PR hq.2.2 (Nat.le_of_ble_eq_true rfl) d_PR_once_55 rfl ?_
      intro v G79 hq
      rcases hq with ⟨o80, w281, cnt282, la283, ra284, nr285, ru286, K287, N288, O289, RR290, ph291, hv, hfk, hNq, hNki, hNne, hNot, hNra284, pNpaI_0, pNszB_0, hq92, hq93, hq94, hq95, hq96, hq97, hq98, hq99, hq100, hq101, hq102, hq103⟩
      cases hv
      have hzr := hzr.tr hq100
      obtain ⟨rc104, hKp⟩ := hq100 _ _ _ _ _ _ _ _ _ _ _ _ _ _ _ _ hpp hp
      have hp := hKp
      have ppaI_0 := pNpaI_0
      have pszB_0 := pNszB_0
      have hfr := hfr.tr hfk (by simp)
      have hq105 := hfk.1
      have hq := hNq
      have hki := hNki
      have hne := hNne
      have hot := hNot
      have hra284 := hNra284
      change ab_W _ _ _ G79 58 [some (vR q), some (vR p), some (vj w), none, some (vz dd), none, none] [vj w281] _
      refine ab_lstore d_PR_once_58 (Nat.le_of_ble_eq_true rfl) (Nat.le_of_ble_eq_true rfl) rfl ?_
      change ab_W _ _ _ G79 60 [some (vR q), some (vR p), some (vj w), none, some (vz dd), some (vj w281), none] [] _
      refine ab_aload_n d_PR_once_60 rfl ?_
      refine zz_bipush d_PR_once_61 (by decide) ?_
      refine ab_lload d_PR_once_63 rfl ?_
      refine zz_iconst d_PR_once_65 ?_
      refine ab_aload_n d_PR_once_66 rfl ?_
      refine ab_getf (fs := [vz k_1, vz v_1, rg_1, vz pl_1, vz fl_1, ou_1, ls_1, bf_1, vz sz_1, vz mb_1, vz oe_1, vz le_1, vz mo_1, vz la_1, vz rc104]) f_PR_165 d_PR_once_67 hp.2.2 rfl ?_
      refine zz_imul d_PR_once_70 ?_
      refine ab_callV (d' := d - 1) (as := [vz 7, vj w281, vz (2 * v_1)]) (st := []) (r := _) (zs_PR_addPair (o := o80) (q := q) (lq := lq) (ki := ki) (ne := ne) (ot := ot) (cnt := cnt282) (fi := fi) (la := la283) (ra := ra284) (ru := ru286) (gr := gr) (wi := wi) (sz := sz) (fl := fl) (ve := ve) (mi := mi) (na := na) (nl := nl) (K := K287) (N := N288) (O := O289) (RR := RR290) (nr := nr285) (w := w281) (vl := (2 * v_1)) hq hki hne hot hra284 (by omega) (by omega) hq96 (by omega) (by omega) (by omega)) (fun oc G2 h => by rcases h with ⟨_, _, _, _, _, _, h, _⟩ <;> exact ⟨_, h⟩) (by omega) m_PR_addPair ml_PR_168 im_PR_addPair se_PR_addPair c_PR hq.2.2 (Nat.le_of_ble_eq_true rfl) d_PR_once_71 rfl ?_
      intro v G106 hq
      rcases hq with ⟨w2107, cnt2108, la2109, K2110, N2111, O2112, hv, hfk, hlk, hsk, hNq, hNki, hNne, hNot, hq113, hq114, hq115, hq116, hq117⟩
      cases hv
      have hzr := hzr.tr (fzr.fx hfk (by simp only [List.mem_cons, List.not_mem_nil, or_false]; omega))
      have hp := hfk.get hp (by simp only [List.mem_cons, List.not_mem_nil, or_false]; omega)
      have hra284 := hfk.get hra284 (by simp only [List.mem_cons, List.not_mem_nil, or_false]; omega)
      have pszB_0 := szB.fr hfk pszB_0 (by simp only [List.mem_cons, List.not_mem_nil, or_false]; omega) (by simp only [List.mem_cons, List.not_mem_nil, or_false]; omega)
      have ppaI_0 := paI.fr hfk ppaI_0 (by simp only [List.mem_cons, List.not_mem_nil, or_false]; omega) (by simp only [List.mem_cons, List.not_mem_nil, or_false]; omega) (by simp only [List.mem_cons, List.not_mem_nil, or_false]; omega) (by intro xx hx; simp only [List.mem_cons, List.not_mem_nil, or_false] at hx; omega)
      have hfr := hfr.tr hfk (by simp)
      have hq118 := hlk
      have hq119 := hsk
      have hq := hNq
      have hki := hNki
      have hne := hNne
      have hot := hNot
      change ab_W _ _ _ G106 74 [some (vR q), some (vR p), some (vj w), none, some (vz dd), some (vj w281), none] [vj w2107] _
      refine ab_lret rfl d_PR_once_74 ?_
      rw [hQ]; exact ⟨_, _, _, _, _, _, _, _, _, _, _, _, rfl, hfr, hq, hki, hne, hot, hra284, ppaI_0, pszB_0, (by omega), (by omega), (by omega), (by omega), (by exact hq115), (by exact hq97), (by exact hq98), (by exact ((hq75.tr hq99 (by omega)).tr hq116 (by omega))), (by exact hzr), (by omega), (by omega), (by first | (have t := pin_v (k := k_1) (v := v_1) (by omega) (by omega); omega) | (have t := pin_1 (k := k_1) (v := v_1) (by omega); omega) | (have t := pin_0 k_1 v_1; omega))⟩
    · refine ab_aload_n d_PR_once_15 rfl ?_
      refine ab_aload_n d_PR_once_16 rfl ?_
      refine ab_lload_n d_PR_once_17 rfl ?_
      refine ab_iload d_PR_once_18 rfl ?_
      refine zz_iconst d_PR_once_20 ?_
      refine zz_iadd d_PR_once_21 ?_
      refine ab_callV (d' := d - 1) (as := [vR p, vj w, vz (dd + 1)]) (st := []) (r := _) (ihR (o := o) (q := q) (lq := lq) (ki := ki) (ne := ne) (ot := ot) (cnt := cnt) (fi := fi) (la := la) (ra := ra) (ru := ru) (gr := gr) (wi := wi) (sz := sz) (fl := fl) (ve := ve) (mi := mi) (na := na) (nl := nl) (K := K) (N := N) (O := O) (RR := RR) (nr := nr) (ps := ps) (wt := wt) (bs := bs) (ph := ph) (gq := gq) (p := p) (w := w) (cu := cu) (bq := (lvc cu ls_1)) hq hki hne hot hra ppaI_0 pszB_0 (by omega) (by omega) hp_ hch hr ck0 (by omega) hpp (by omega) (by omega) (by omega) (bqr_c hp ⟨hlv_, Int.le_refl _⟩) (by omega) (by omega)) (fun oc G2 h => by rcases h with ⟨_, _, _, _, _, _, _, _, _, _, _, _, h, _⟩ <;> exact ⟨_, h⟩) (by omega) m_PR_rows ml_PR_92 im_PR_rows se_PR_rows c_PR hq.2.2 (Nat.le_of_ble_eq_true rfl) d_PR_once_22 rfl ?_
      intro v G120 hq
      rcases hq with ⟨o121, w2122, cnt2123, la2124, ra2125, nr2126, ru2127, K2128, N2129, O2130, RR2131, ph2132, hv, hfk, hNq, hNki, hNne, hNot, hNra2125, pNpaI_0, pNszB_0, hq133, hq134, hq135, hq136, hq137, hq138, hq139, hq140, hq141, hq142, hq143, hq144⟩
      cases hv
      have hzr := hzr.tr hq141
      obtain ⟨rc145, hKp⟩ := hq141 _ _ _ _ _ _ _ _ _ _ _ _ _ _ _ _ hpp hp
      have hp := hKp
      have ppaI_0 := pNpaI_0
      have pszB_0 := pNszB_0
      have hfr := hfr.tr hfk (by simp)
      have hq146 := hfk.1
      have hq := hNq
      have hki := hNki
      have hne := hNne
      have hot := hNot
      have hra2125 := hNra2125
      change ab_W _ _ _ G120 25 [some (vR q), some (vR p), some (vj w), none, some (vz dd), none, none] [vj w2122] _
      refine ab_lret rfl d_PR_once_25 ?_
      rw [hQ]; exact ⟨_, _, _, _, _, _, _, _, _, _, _, _, rfl, hfr, hq, hki, hne, hot, hra2125, ppaI_0, pszB_0, (by omega), (by omega), (by omega), (by omega), (by exact hq137), (by exact hq138), (by exact hq139), (by exact hq140), (by exact hzr), (by omega), (by omega), (by first | (have t := pin_v (k := k_1) (v := v_1) (by omega) (by omega); omega) | (have t := pin_1 (k := k_1) (v := v_1) (by omega); omega) | (have t := pin_0 k_1 v_1; omega))⟩
set_option maxRecDepth 100000 in
set_option maxHeartbeats 4000000 in
theorem z_PR_loop {X : ab_X} {d : Nat} {o : Nat → Nat} {G : ab_G} {q : Nat} {lq : Nat} {ki : Nat} {ne : Nat} {ot : Nat} {cnt : Int} {fi : Int} {la : Int} {ra : Nat} {ru : Int} {gr : Int} {wi : Int} {sz : Int} {fl : Int} {ve : Int} {mi : Int} {na : Nat} {nl : Nat} {K : Int → Int} {N : Int → Int} {O : Int → Int} {RR : Int → Int} {nr : Nat} {ps : Nat → Nat} {wt : Nat → Nat} {bs : Nat} {ph : Int} {gq : Int} {p : Nat} {w : Int} {dd : Int} {cu : Nat → Int} {bq : Int} (hq : cc o G q lq (ab_ob 5 [vR ki, vR ne, vR ot, vz cnt, vz fi, vz la, vR ra, vz ru, vz gr, vz wi, vz sz, vz fl, vz ve, vz mi, vR na, vR nl])) (hki : cc o G ki (lq + 1) (za 808 K)) (hne : cc o G ne (lq + 2) (za 808 N)) (hot : cc o G ot (lq + 3) (za 808 O)) (hra : cc o G ra (lq + 4) (za nr RR)) (ppaI_0 : paI o G 0 ps wt bs gq (prc RR ru) ph) (pszB_0 : szB o G 0 ps cu) (n18 : ab_n0 = 18) (cq : 100 ≤ lq ∧ 2 ≤ cnt ∧ cnt ≤ 808 ∧ 0 ≤ la ∧ la ≤ 1 ∧ 0 ≤ ru ∧ ru ≤ ↑nr ∧ ↑nr ≤ (100000 : Int) ∧ 32 ≤ nr ∧ 0 ≤ ph ∧ ru + ph ≤ 50000) (hp_ : prok K N O RR cnt ru wi) (hch : rch RR ru) (hr : hrr RR ↑nr) (ck0 : K 0 = 9) (cg_ : 0 ≤ gq ∧ gq ≤ 9 ∧ wi = 2 * (gq + 1)) (hpp : ps p = 90) (cw : 0 ≤ w ∧ w / 4294967296 < cnt ∧ w % 4294967296 < cnt) (cdd : 0 ≤ dd ∧ dd ≤ 30) (hdd : 6 * (31 - dd) + 7 ≤ (↑d : Int)) (rc : 32 * G.length + 103300 ≤ 32 * (ab_n0 + room_1.cells) + nr) (rs : ab_slots G + 200000 ≤ room_1.slots + 2 * nr) (hbq : bqo G cu p bq) (ihR : ∀ {d : Nat} {o : Nat → Nat} {G : ab_G} {q : Nat} {lq : Nat} {ki : Nat} {ne : Nat} {ot : Nat} {cnt : Int} {fi : Int} {la : Int} {ra : Nat} {ru : Int} {gr : Int} {wi : Int} {sz : Int} {fl : Int} {ve : Int} {mi : Int} {na : Nat} {nl : Nat} {K : Int → Int} {N : Int → Int} {O : Int → Int} {RR : Int → Int} {nr : Nat} {ps : Nat → Nat} {wt : Nat → Nat} {bs : Nat} {ph : Int} {gq : Int} {p : Nat} {w : Int} {cu : Nat → Int} {bq : Int}, (cc o G q lq (ab_ob 5 [vR ki, vR ne, vR ot, vz cnt, vz fi, vz la, vR ra, vz ru, vz gr, vz wi, vz sz, vz fl, vz ve, vz mi, vR na, vR nl])) → (cc o G ki (lq + 1) (za 808 K)) → (cc o G ne (lq + 2) (za 808 N)) → (cc o G ot (lq + 3) (za 808 O)) → (cc o G ra (lq + 4) (za nr RR)) → (paI o G 0 ps wt bs gq (prc RR ru) ph) → (szB o G 0 ps cu) → (ab_n0 = 18) → (100 ≤ lq ∧ 2 ≤ cnt ∧ cnt ≤ 808 ∧ 0 ≤ la ∧ la ≤ 1 ∧ 0 ≤ ru ∧ ru ≤ ↑nr ∧ ↑nr ≤ (100000 : Int) ∧ 32 ≤ nr ∧ 0 ≤ ph ∧ ru + ph ≤ 50000) → (prok K N O RR cnt ru wi) → (rch RR ru) → (hrr RR ↑nr) → (K 0 = 9) → (0 ≤ gq ∧ gq ≤ 9 ∧ wi = 2 * (gq + 1)) → (ps p = 90) → (0 ≤ w ∧ w / 4294967296 < cnt ∧ w % 4294967296 < cnt) → (0 ≤ (dd + 1) ∧ (dd + 1) ≤ 31) → (6 * (31 - (dd + 1)) + 10 ≤ (↑d : Int)) → (bqr G cu p bq) → (32 * G.length + 103300 ≤ 32 * (ab_n0 + room_1.cells) + nr) → (ab_slots G + 200000 ≤ room_1.slots + 2 * nr) → ab_F X d y_PR_rows (.code y_PR_rows b_PR_rows 8 (some (.long))) [vR q, vR p, vj w, vz (dd + 1)] G (fun oc G2 => ∃ o2 : Nat → Nat, ∃ w2 : Int, ∃ cnt2 : Int, ∃ la2 : Int, ∃ ra2 : Nat, ∃ nr2 : Nat, ∃ ru2 : Int, ∃ K2 : Int → Int, ∃ N2 : Int → Int, ∃ O2 : Int → Int, ∃ RR2 : Int → Int, ∃ ph2 : Int, oc = .returned (some (vj w2)) ∧ fx o o2 [lq, (lq + 1), (lq + 2), (lq + 3), (lq + 4), 90] G G2 ∧ cc o2 G2 q lq (ab_ob 5 [vR ki, vR ne, vR ot, vz cnt2, vz fi, vz la2, vR ra2, vz ru2, vz gr, vz wi, vz sz, vz fl, vz ve, vz mi, vR na, vR nl]) ∧ cc o2 G2 ki (lq + 1) (za 808 K2) ∧ cc o2 G2 ne (lq + 2) (za 808 N2) ∧ cc o2 G2 ot (lq + 3) (za 808 O2) ∧ cc o2 G2 ra2 (lq + 4) (za nr2 RR2) ∧ paI o2 G2 0 ps wt bs gq (prc RR2 ru2) ph2 ∧ szB o2 G2 0 ps cu ∧ (cnt ≤ cnt2 ∧ cnt2 ≤ 808 ∧ 0 ≤ la2 ∧ la2 ≤ 1) ∧ (0 ≤ w2 ∧ w2 / 4294967296 < cnt2 ∧ w2 % 4294967296 < cnt2) ∧ (0 ≤ ru2 ∧ ru2 ≤ ↑nr2 ∧ ↑nr2 ≤ (100000 : Int) ∧ nr ≤ nr2) ∧ (0 ≤ ph2 ∧ ru2 + ph2 ≤ ru + ph) ∧ (prok K2 N2 O2 RR2 cnt2 ru2 wi) ∧ (hrr RR2 ↑nr2) ∧ (rch RR2 ru2) ∧ (kext K K2 cnt) ∧ (fzr ps o o2 G G2) ∧ (32 * G2.length + nr ≤ 32 * G.length + nr2) ∧ (ab_slots G2 + 2 * nr ≤ ab_slots G + 2 * nr2) ∧ (cnt2 ≤ cnt + 2 * bq))) : ab_F X d y_PR_loop (.code y_PR_loop b_PR_loop 8 (some (.long))) [vR q, vR p, vj w, vz dd] G (fun oc G2 => ∃ o2 : Nat → Nat, ∃ w2 : Int, ∃ cnt2 : Int, ∃ la2 : Int, ∃ ra2 : Nat, ∃ nr2 : Nat, ∃ ru2 : Int, ∃ K2 : Int → Int, ∃ N2 : Int → Int, ∃ O2 : Int → Int, ∃ RR2 : Int → Int, ∃ ph2 : Int, oc = .returned (some (vj w2)) ∧ fx o o2 [lq, (lq + 1), (lq + 2), (lq + 3), (lq + 4), 90] G G2 ∧ cc o2 G2 q lq (ab_ob 5 [vR ki, vR ne, vR ot, vz cnt2, vz fi, vz la2, vR ra2, vz ru2, vz gr, vz wi, vz sz, vz fl, vz ve, vz mi, vR na, vR nl]) ∧ cc o2 G2 ki (lq + 1) (za 808 K2) ∧ cc o2 G2 ne (lq + 2) (za 808 N2) ∧ cc o2 G2 ot (lq + 3) (za 808 O2) ∧ cc o2 G2 ra2 (lq + 4) (za nr2 RR2) ∧ paI o2 G2 0 ps wt bs gq (prc RR2 ru2) ph2 ∧ szB o2 G2 0 ps cu ∧ (cnt ≤ cnt2 ∧ cnt2 ≤ 808 ∧ 0 ≤ la2 ∧ la2 ≤ 1) ∧ (0 ≤ w2 ∧ w2 / 4294967296 < cnt2 ∧ w2 % 4294967296 < cnt2) ∧ (0 ≤ ru2 ∧ ru2 ≤ ↑nr2 ∧ ↑nr2 ≤ (100000 : Int) ∧ nr ≤ nr2) ∧ (0 ≤ ph2 ∧ ru2 + ph2 ≤ ru + ph) ∧ (prok K2 N2 O2 RR2 cnt2 ru2 wi) ∧ (hrr RR2 ↑nr2) ∧ (rch RR2 ru2) ∧ (kext K K2 cnt) ∧ (fzr ps o o2 G G2) ∧ (32 * G2.length + nr ≤ 32 * G.length + nr2) ∧ (ab_slots G2 + 2 * nr ≤ ab_slots G + 2 * nr2) ∧ (cnt2 ≤ cnt + 2 * bq + 2)) := by
  refine ab_F_of (by decide +kernel) (Nat.le_of_ble_eq_true rfl) ?_
  obtain ⟨Q, hQ⟩ : ∃ z : Outcome → ab_G → Prop, z = (fun oc G2 => ∃ o2 : Nat → Nat, ∃ w2 : Int, ∃ cnt2 : Int, ∃ la2 : Int, ∃ ra2 : Nat, ∃ nr2 : Nat, ∃ ru2 : Int, ∃ K2 : Int → Int, ∃ N2 : Int → Int, ∃ O2 : Int → Int, ∃ RR2 : Int → Int, ∃ ph2 : Int, oc = .returned (some (vj w2)) ∧ fx o o2 [lq, (lq + 1), (lq + 2), (lq + 3), (lq + 4), 90] G G2 ∧ cc o2 G2 q lq (ab_ob 5 [vR ki, vR ne, vR ot, vz cnt2, vz fi, vz la2, vR ra2, vz ru2, vz gr, vz wi, vz sz, vz fl, vz ve, vz mi, vR na, vR nl]) ∧ cc o2 G2 ki (lq + 1) (za 808 K2) ∧ cc o2 G2 ne (lq + 2) (za 808 N2) ∧ cc o2 G2 ot (lq + 3) (za 808 O2) ∧ cc o2 G2 ra2 (lq + 4) (za nr2 RR2) ∧ paI o2 G2 0 ps wt bs gq (prc RR2 ru2) ph2 ∧ szB o2 G2 0 ps cu ∧ (cnt ≤ cnt2 ∧ cnt2 ≤ 808 ∧ 0 ≤ la2 ∧ la2 ≤ 1) ∧ (0 ≤ w2 ∧ w2 / 4294967296 < cnt2 ∧ w2 % 4294967296 < cnt2) ∧ (0 ≤ ru2 ∧ ru2 ≤ ↑nr2 ∧ ↑nr2 ≤ (100000 : Int) ∧ nr ≤ nr2) ∧ (0 ≤ ph2 ∧ ru2 + ph2 ≤ ru + ph) ∧ (prok K2 N2 O2 RR2 cnt2 ru2 wi) ∧ (hrr RR2 ↑nr2) ∧ (rch RR2 ru2) ∧ (kext K K2 cnt) ∧ (fzr ps o o2 G G2) ∧ (32 * G2.length + nr ≤ 32 * G.length + nr2) ∧ (ab_slots G2 + 2 * nr ≤ ab_slots G + 2 * nr2) ∧ (cnt2 ≤ cnt + 2 * bq + 2)) := ⟨_, rfl⟩
  rw [← hQ]
  change ab_W X (ab_pl y_PR_loop b_PR_loop 8 (some (.long))) d G 0 [some (vR q), some (vR p), some (vj w), none, some (vz dd), none, none, none] [] Q
  have hfr : fx o o [lq, (lq + 1), (lq + 2), (lq + 3), (lq + 4), 90] G G := fx.rf
  have hzr : fzr ps o o G G := fzr.rf
  obtain ⟨k_1, v_1, rg_1, pl_1, fl_1, ou_1, ls_1, bf_1, sz_1, mb_1, oe_1, le_1, mo_1, la_1, rc_1, hp, hn1, hb1, hg1, ho1, hl1, hf1⟩ := ppaI_0.1 p hpp
  have hB1 := hb1
  unfold pnB at hB1
  have hK1 := hn1.1
  have hbe_ := bqo_e hp (by omega) (by omega) hbq
  have hlv_ := lvc_0 pszB_0.c0 ls_1
  refine ab_aload_n d_PR_loop_0 rfl ?_
  refine zz_bipush d_PR_loop_1 (by decide) ?_
  refine zz_iconst d_PR_loop_3 ?_
  refine zz_iconst d_PR_loop_4 ?_
  refine ab_callV (d' := d - 1) (as := [vz 6, vz 0, vz 0]) (st := []) (r := _) (z_PR_add (o := o) (q := q) (lq := lq) (ki := ki) (ne := ne) (ot := ot) (cnt := cnt) (fi := fi) (la := la) (ra := ra) (ru := ru) (gr := gr) (wi := wi) (sz := sz) (fl := fl) (ve := ve) (mi := mi) (na := na) (nl := nl) (K := K) (N := N) (O := O) (k0 := 6) (x0 := 0) (v0 := 0) hq hki hne hot (by omega) (by omega) (by omega)) (fun oc G2 h => by rcases h with ⟨h, _⟩ | ⟨_, h, _⟩ <;> exact ⟨_, h⟩) (by omega) m_PR_add ml_PR_84 im_PR_add se_PR_add c_PR hq.2.2 (Nat.le_of_ble_eq_true rfl) d_PR_loop_5 rfl ?_
  intro v G2 hq
  rcases hq with ⟨hv, hGe, hq3⟩ | ⟨la24, hv, hfk, hlk, hsk, hNq, hNki, hNne, hNot, hq5, hq6, hq7⟩
  · cases hv
    rw [hGe]
    change ab_W _ _ _ G 8 [some (vR q), some (vR p), some (vj w), none, some (vz dd), none, none, none] [vz 0] _
    refine ab_istore d_PR_loop_8 (Nat.le_of_ble_eq_true rfl) (Nat.le_of_ble_eq_true rfl) rfl ?_
    change ab_W _ _ _ G 10 [some (vR q), some (vR p), some (vj w), none, some (vz dd), some (vz 0), none, none] [] _
    refine ab_aload_n d_PR_loop_10 rfl ?_
    refine ab_aload_n d_PR_loop_11 rfl ?_
    refine ab_aload_n d_PR_loop_12 rfl ?_
    refine ab_getf (fs := [vz k_1, vz v_1, rg_1, vz pl_1, vz fl_1, ou_1, ls_1, bf_1, vz sz_1, vz mb_1, vz oe_1, vz le_1, vz mo_1, vz la_1, vz rc_1]) f_PR_159 d_PR_loop_13 hp.2.2 rfl ?_
    refine zz_if_eq (tgt := 23) d_PR_loop_16 (by decide) (by omega) (fun c10 => ?_) (fun c10 => ?_)
    · refine ab_iload d_PR_loop_23 rfl ?_
      refine ab_iload d_PR_loop_25 rfl ?_
      refine ab_callS (d' := d - 1) (as := [vz 0, vz 0]) (st := [vR p, vR q]) (z_PR_pair (o := o) (f0 := 0) (u0 := 0) (by omega)) (fun oc G2 h => by rcases h with ⟨h, _⟩ <;> exact ⟨_, h⟩) (by omega) m_PR_pair ml_PR_88 st_PR_pair (Nat.le_of_ble_eq_true rfl) d_PR_loop_27 rfl ?_
      intro v G11 hq
      rcases hq with ⟨hv, hGe⟩
      cases hv
      rw [hGe]
      change ab_W _ _ _ G 30 [some (vR q), some (vR p), some (vj w), none, some (vz dd), some (vz 0), none, none] [vj (0 * 4294967296 + 0), vR p, vR q] _
      refine ab_iload d_PR_loop_30 rfl ?_
      refine ab_callV (d' := d - 1) (as := [vR p, vj (0 * 4294967296 + 0), vz dd]) (st := []) (r := _) (z_PR_once (o := o) (q := q) (lq := lq) (ki := ki) (ne := ne) (ot := ot) (cnt := cnt) (fi := fi) (la := la) (ra := ra) (ru := ru) (gr := gr) (wi := wi) (sz := sz) (fl := fl) (ve := ve) (mi := mi) (na := na) (nl := nl) (K := K) (N := N) (O := O) (RR := RR) (nr := nr) (ps := ps) (wt := wt) (bs := bs) (ph := ph) (gq := gq) (p := p) (w := (0 * 4294967296 + 0)) (dd := dd) (cu := cu) (bq := bq) hq hki hne hot hra ppaI_0 pszB_0 (by omega) (by omega) hp_ hch hr ck0 (by omega) hpp (by omega) (by omega) (by omega) (by omega) (by omega) (bqo_c hp (by omega) (by omega) hbe_) ihR) (fun oc G2 h => by rcases h with ⟨_, _, _, _, _, _, _, _, _, _, _, _, h, _⟩ <;> exact ⟨_, h⟩) (by omega) m_PR_once ml_PR_153 im_PR_once se_PR_once c_PR hq.2.2 (Nat.le_of_ble_eq_true rfl) d_PR_loop_32 rfl ?_
      intro v G12 hq
      rcases hq with ⟨o13, w214, cnt215, la216, ra217, nr218, ru219, K220, N221, O222, RR223, ph224, hv, hfk, hNq, hNki, hNne, hNot, hNra217, pNpaI_0, pNszB_0, hq25, hq26, hq27, hq28, hq29, hq30, hq31, hq32, hq33, hq34, hq35, hq36⟩
      cases hv
      have hzr := hzr.tr hq33
      obtain ⟨rc37, hKp⟩ := hq33 _ _ _ _ _ _ _ _ _ _ _ _ _ _ _ _ hpp hp
      have hp := hKp
      have ppaI_0 := pNpaI_0
      have pszB_0 := pNszB_0
      have hfr := hfr.tr hfk (by simp)
      have hq38 := hfk.1
      have hq := hNq
      have hki := hNki
      have hne := hNne
      have hot := hNot
      have hra217 := hNra217
      change ab_W _ _ _ G12 35 [some (vR q), some (vR p), some (vj w), none, some (vz dd), some (vz 0), none, none] [vj w214] _
      refine ab_callS (d' := d - 1) (as := [vj w214]) (st := []) (z_PR_fresh (o := o13) (w := w214) (by omega)) (fun oc G2 h => by rcases h with ⟨h, _⟩ <;> exact ⟨_, h⟩) (by omega) m_PR_fresh ml_PR_96 st_PR_fresh (Nat.le_of_ble_eq_true rfl) d_PR_loop_35 rfl ?_
      intro v G39 hq
      rcases hq with ⟨hv, hGe⟩
      cases hv
      rw [hGe]
      change ab_W _ _ _ G12 38 [some (vR q), some (vR p), some (vj w), none, some (vz dd), some (vz 0), none, none] [vz (w214 / 4294967296)] _
      refine ab_istore d_PR_loop_38 (Nat.le_of_ble_eq_true rfl) (Nat.le_of_ble_eq_true rfl) rfl ?_
      change ab_W _ _ _ G12 40 [some (vR q), some (vR p), some (vj w), none, some (vz dd), some (vz 0), some (vz (w214 / 4294967296)), none] [] _
      refine ab_aload_n d_PR_loop_40 rfl ?_
      refine ab_getf (fs := [vR ki, vR ne, vR ot, vz cnt215, vz fi, vz la216, vR ra217, vz ru219, vz gr, vz wi, vz sz, vz fl, vz ve, vz mi, vR na, vR nl]) f_PR_15 d_PR_loop_41 hq.2.2 rfl ?_
      refine ab_iload d_PR_loop_44 rfl ?_
      refine ab_aload_n d_PR_loop_46 rfl ?_
      refine ab_getf (fs := [vz k_1, vz v_1, rg_1, vz pl_1, vz fl_1, ou_1, ls_1, bf_1, vz sz_1, vz mb_1, vz oe_1, vz le_1, vz mo_1, vz la_1, vz rc37]) f_PR_156 d_PR_loop_47 hp.2.2 rfl ?_
      refine zz_if_eq (tgt := 60) d_PR_loop_50 (by decide) (by omega) (fun c40 => ?_) (fun c40 => ?_)
      · refine ab_iload d_PR_loop_60 rfl ?_
        refine zz_iast d_PR_loop_62 hne (by omega) (hne.2.1 (by first | omega | exact (show 18 ≤ _ by omega))) ?_
        obtain ⟨G41, eG41⟩ : ∃ z : ab_G, z = List.set G12 ne (za 808 (zu N221 0 (w214 / 4294967296))) := ⟨_, rfl⟩
        have hq := hq.keep hne eG41 (by omega)
        have hki := hki.keep hne eG41 (by omega)
        have hot := hot.keep hne eG41 (by omega)
        have hp := hp.keep hne eG41 (by omega)
        have hra217 := hra217.keep hne eG41 (by omega)
        have hzr := hzr.wr hne eG41 (by omega)
        have hst := (fx.rf (o := o13) (S := [(lq + 2)]) (G := G12)).wr hne eG41 (List.mem_singleton.mpr rfl)
        have pszB_0 := szB.fr hst pszB_0 (by simp only [List.mem_cons, List.not_mem_nil, or_false]; omega) (by simp only [List.mem_cons, List.not_mem_nil, or_false]; omega)
        have ppaI_0 := paI.fr hst ppaI_0 (by simp only [List.mem_cons, List.not_mem_nil, or_false]; omega) (by simp only [List.mem_cons, List.not_mem_nil, or_false]; omega) (by simp only [List.mem_cons, List.not_mem_nil, or_false]; omega) (by intro xx hx; simp only [List.mem_cons, List.not_mem_nil, or_false] at hx; omega)
        have hq42 := z_len eG41
        have hq43 := z_sl hne eG41 rfl
        have hfr := hfr.wr hne eG41 (by simp)
        have hne := hne.kept eG41
        change ab_W _ _ _ (List.set G12 ne (za 808 (zu N221 0 (w214 / 4294967296)))) 63 [some (vR q), some (vR p), some (vj w), none, some (vz dd), some (vz 0), some (vz (w214 / 4294967296)), none] [] _
        rw [← eG41]
        have hp44 := prok_next (a := 0) (x := (w214 / 4294967296)) hq29 (by omega)
        obtain ⟨N44, eN44⟩ : ∃ z : Int → Int, z = zu N221 0 (w214 / 4294967296) := ⟨_, rfl⟩
        have hne : cc o13 G41 ne (lq + 2) (za 808 N44) := by rw [← eN44.symm]; exact hne
        rw [← eN44] at hp44
        change ab_W _ _ _ G41 63 [some (vR q), some (vR p), some (vj w), none, some (vz dd), some (vz 0), some (vz (w214 / 4294967296)), none] [] _
        refine ab_aload_n d_PR_loop_63 rfl ?_
        refine ab_getf (fs := [vR ki, vR ne, vR ot, vz cnt215, vz fi, vz la216, vR ra217, vz ru219, vz gr, vz wi, vz sz, vz fl, vz ve, vz mi, vR na, vR nl]) f_PR_18 d_PR_loop_64 hq.2.2 rfl ?_
        refine ab_iload d_PR_loop_67 rfl ?_
        refine ab_aload_n d_PR_loop_69 rfl ?_
        refine ab_getf (fs := [vz k_1, vz v_1, rg_1, vz pl_1, vz fl_1, ou_1, ls_1, bf_1, vz sz_1, vz mb_1, vz oe_1, vz le_1, vz mo_1, vz la_1, vz rc37]) f_PR_156 d_PR_loop_70 hp.2.2 rfl ?_
        refine zz_if_eq (tgt := 81) d_PR_loop_73 (by decide) (by omega) (fun c45 => ?_) (fun c45 => absurd c45 (by omega))
        refine ab_lload_n d_PR_loop_81 rfl ?_
        refine ab_callS (d' := d - 1) (as := [vj w]) (st := [vz 0, vR ot]) (z_PR_used (o := o13) (w := w) (by omega)) (fun oc G2 h => by rcases h with ⟨h, _⟩ <;> exact ⟨_, h⟩) (by omega) m_PR_used ml_PR_124 st_PR_used (Nat.le_of_ble_eq_true rfl) d_PR_loop_82 rfl ?_
        intro v G46 hq
        rcases hq with ⟨hv, hGe⟩
        cases hv
        rw [hGe]
        change ab_W _ _ _ G41 85 [some (vR q), some (vR p), some (vj w), none, some (vz dd), some (vz 0), some (vz (w214 / 4294967296)), none] [vz (w % 4294967296), vz 0, vR ot] _
        refine zz_iast d_PR_loop_85 hot (by omega) (hot.2.1 (by first | omega | exact (show 18 ≤ _ by omega))) ?_
        obtain ⟨G47, eG47⟩ : ∃ z : ab_G, z = List.set G41 ot (za 808 (zu O222 0 (w % 4294967296))) := ⟨_, rfl⟩
        have hq := hq.keep hot eG47 (by omega)
        have hki := hki.keep hot eG47 (by omega)
        have hne := hne.keep hot eG47 (by omega)
        have hp := hp.keep hot eG47 (by omega)
        have hra217 := hra217.keep hot eG47 (by omega)
        have hzr := hzr.wr hot eG47 (by omega)
        have hst := (fx.rf (o := o13) (S := [(lq + 3)]) (G := G41)).wr hot eG47 (List.mem_singleton.mpr rfl)
        have pszB_0 := szB.fr hst pszB_0 (by simp only [List.mem_cons, List.not_mem_nil, or_false]; omega) (by simp only [List.mem_cons, List.not_mem_nil, or_false]; omega)
        have ppaI_0 := paI.fr hst ppaI_0 (by simp only [List.mem_cons, List.not_mem_nil, or_false]; omega) (by simp only [List.mem_cons, List.not_mem_nil, or_false]; omega) (by simp only [List.mem_cons, List.not_mem_nil, or_false]; omega) (by intro xx hx; simp only [List.mem_cons, List.not_mem_nil, or_false] at hx; omega)
        have hq48 := z_len eG47
        have hq49 := z_sl hot eG47 rfl
        have hfr := hfr.wr hot eG47 (by simp)
        have hot := hot.kept eG47
        change ab_W _ _ _ (List.set G41 ot (za 808 (zu O222 0 (w % 4294967296)))) 86 [some (vR q), some (vR p), some (vj w), none, some (vz dd), some (vz 0), some (vz (w214 / 4294967296)), none] [] _
        rw [← eG47]
        have hp50 := prok_other (a := 0) (x := (w % 4294967296)) hp44 (by omega) (Or.inr ((hq32 0 (by omega) (by omega)).trans ck0))
        obtain ⟨O50, eO50⟩ : ∃ z : Int → Int, z = zu O222 0 (w % 4294967296) := ⟨_, rfl⟩
        have hot : cc o13 G47 ot (lq + 3) (za 808 O50) := by rw [← eO50.symm]; exact hot
        rw [← eO50] at hp50
        change ab_W _ _ _ G47 86 [some (vR q), some (vR p), some (vj w), none, some (vz dd), some (vz 0), some (vz (w214 / 4294967296)), none] [] _
        refine ab_lload_n d_PR_loop_86 rfl ?_
        refine ab_callS (d' := d - 1) (as := [vj w]) (st := []) (z_PR_fresh (o := o13) (w := w) (by omega)) (fun oc G2 h => by rcases h with ⟨h, _⟩ <;> exact ⟨_, h⟩) (by omega) m_PR_fresh ml_PR_96 st_PR_fresh (Nat.le_of_ble_eq_true rfl) d_PR_loop_87 rfl ?_
        intro v G51 hq
        rcases hq with ⟨hv, hGe⟩
        cases hv
        rw [hGe]
        change ab_W _ _ _ G47 90 [some (vR q), some (vR p), some (vj w), none, some (vz dd), some (vz 0), some (vz (w214 / 4294967296)), none] [vz (w / 4294967296)] _
        refine ab_lload_n d_PR_loop_90 rfl ?_
        refine ab_callS (d' := d - 1) (as := [vj w]) (st := [vz (w / 4294967296)]) (z_PR_used (o := o13) (w := w) (by omega)) (fun oc G2 h => by rcases h with ⟨h, _⟩ <;> exact ⟨_, h⟩) (by omega) m_PR_used ml_PR_124 st_PR_used (Nat.le_of_ble_eq_true rfl) d_PR_loop_91 rfl ?_
        intro v G52 hq
        rcases hq with ⟨hv, hGe⟩
        cases hv
        rw [hGe]
        change ab_W _ _ _ G47 94 [some (vR q), some (vR p), some (vj w), none, some (vz dd), some (vz 0), some (vz (w214 / 4294967296)), none] [vz (w % 4294967296), vz (w / 4294967296)] _
        refine zz_icmp_ne (tgt := 105) d_PR_loop_94 (by decide) (by omega) (by omega) (fun c53 => ?_) (fun c53 => ?_)
        · refine ab_aload_n d_PR_loop_105 rfl ?_
          refine ab_getf (fs := [vz k_1, vz v_1, rg_1, vz pl_1, vz fl_1, ou_1, ls_1, bf_1, vz sz_1, vz mb_1, vz oe_1, vz le_1, vz mo_1, vz la_1, vz rc37]) f_PR_156 d_PR_loop_106 hp.2.2 rfl ?_
          refine zz_if_eq (tgt := 127) d_PR_loop_109 (by decide) (by omega) (fun c54 => ?_) (fun c54 => absurd c54 (by omega))
          refine ab_aload_n d_PR_loop_127 rfl ?_
          refine zz_bipush d_PR_loop_128 (by decide) ?_
          refine ab_iload d_PR_loop_130 rfl ?_
          refine ab_lload_n d_PR_loop_132 rfl ?_
          refine ab_callS (d' := d - 1) (as := [vj w]) (st := [vz (w214 / 4294967296), vz 6, vR q]) (z_PR_fresh (o := o13) (w := w) (by omega)) (fun oc G2 h => by rcases h with ⟨h, _⟩ <;> exact ⟨_, h⟩) (by omega) m_PR_fresh ml_PR_96 st_PR_fresh (Nat.le_of_ble_eq_true rfl) d_PR_loop_133 rfl ?_
          intro v G55 hq
          rcases hq with ⟨hv, hGe⟩
          cases hv
          rw [hGe]
          change ab_W _ _ _ G47 136 [some (vR q), some (vR p), some (vj w), none, some (vz dd), some (vz 0), some (vz (w214 / 4294967296)), none] [vz (w / 4294967296), vz (w214 / 4294967296), vz 6, vR q] _
          refine ab_callV (d' := d - 1) (as := [vz 6, vz (w214 / 4294967296), vz (w / 4294967296)]) (st := []) (r := _) (z_PR_add (o := o13) (q := q) (lq := lq) (ki := ki) (ne := ne) (ot := ot) (cnt := cnt215) (fi := fi) (la := la216) (ra := ra217) (ru := ru219) (gr := gr) (wi := wi) (sz := sz) (fl := fl) (ve := ve) (mi := mi) (na := na) (nl := nl) (K := K220) (N := N44) (O := O50) (k0 := 6) (x0 := (w214 / 4294967296)) (v0 := (w / 4294967296)) hq hki hne hot (by omega) (by omega) (by omega)) (fun oc G2 h => by rcases h with ⟨h, _⟩ | ⟨_, h, _⟩ <;> exact ⟨_, h⟩) (by omega) m_PR_add ml_PR_84 im_PR_add se_PR_add c_PR hq.2.2 (Nat.le_of_ble_eq_true rfl) d_PR_loop_136 rfl ?_
          intro v G56 hq
          rcases hq with ⟨hv, hGe, hq57⟩ | ⟨la258, hv, hfk, hlk, hsk, hNq, hNki, hNne, hNot, hq59, hq60, hq61⟩
          · cases hv
            rw [hGe]
            change ab_W _ _ _ G47 139 [some (vR q), some (vR p), some (vj w), none, some (vz dd), some (vz 0), some (vz (w214 / 4294967296)), none] [vz 0] _
            refine ab_istore d_PR_loop_139 (Nat.le_of_ble_eq_true rfl) (Nat.le_of_ble_eq_true rfl) rfl ?_
            change ab_W _ _ _ G47 141 [some (vR q), some (vR p), some (vj w), none, some (vz dd), some (vz 0), some (vz (w214 / 4294967296)), some (vz 0)] [] _
            refine ab_iload d_PR_loop_141 rfl ?_
            refine ab_iload d_PR_loop_143 rfl ?_
            refine ab_callS (d' := d - 1) (as := [vz 0, vz 0]) (st := []) (z_PR_pair (o := o13) (f0 := 0) (u0 := 0) (by omega)) (fun oc G2 h => by rcases h with ⟨h, _⟩ <;> exact ⟨_, h⟩) (by omega) m_PR_pair ml_PR_88 st_PR_pair (Nat.le_of_ble_eq_true rfl) d_PR_loop_145 rfl ?_
            intro v G64 hq
            rcases hq with ⟨hv, hGe⟩
            cases hv
            rw [hGe]
            change ab_W _ _ _ G47 148 [some (vR q), some (vR p), some (vj w), none, some (vz dd), some (vz 0), some (vz (w214 / 4294967296)), some (vz 0)] [vj (0 * 4294967296 + 0)] _
            refine ab_lret rfl d_PR_loop_148 ?_
            rw [hQ]; exact ⟨_, _, _, _, _, _, _, _, _, _, _, _, rfl, hfr, hq, hki, hne, hot, hra217, ppaI_0, pszB_0, (by omega), (by omega), (by omega), (by omega), (by exact hp50), (by exact hq30), (by exact hq31), (by exact hq32), (by exact hzr), (by omega), (by omega), (by omega)⟩
          · cases hv
            have hzr := hzr.tr (fzr.fx hfk (by simp only [List.mem_cons, List.not_mem_nil, or_false]; omega))
            have hp := hfk.get hp (by simp only [List.mem_cons, List.not_mem_nil, or_false]; omega)
            have hra217 := hfk.get hra217 (by simp only [List.mem_cons, List.not_mem_nil, or_false]; omega)
            have pszB_0 := szB.fr hfk pszB_0 (by simp only [List.mem_cons, List.not_mem_nil, or_false]; omega) (by simp only [List.mem_cons, List.not_mem_nil, or_false]; omega)
            have ppaI_0 := paI.fr hfk ppaI_0 (by simp only [List.mem_cons, List.not_mem_nil, or_false]; omega) (by simp only [List.mem_cons, List.not_mem_nil, or_false]; omega) (by simp only [List.mem_cons, List.not_mem_nil, or_false]; omega) (by intro xx hx; simp only [List.mem_cons, List.not_mem_nil, or_false] at hx; omega)
            have hfr := hfr.tr hfk (by simp)
            have hq62 := hlk
            have hq63 := hsk
            have hq := hNq
            have hki := hNki
            have hne := hNne
            have hot := hNot
            change ab_W _ _ _ G56 139 [some (vR q), some (vR p), some (vj w), none, some (vz dd), some (vz 0), some (vz (w214 / 4294967296)), none] [vz cnt215] _
            exfalso; omega
        · refine ab_iload d_PR_loop_97 rfl ?_
          refine ab_iload d_PR_loop_99 rfl ?_
          refine ab_callS (d' := d - 1) (as := [vz 0, vz 0]) (st := []) (z_PR_pair (o := o13) (f0 := 0) (u0 := 0) (by omega)) (fun oc G2 h => by rcases h with ⟨h, _⟩ <;> exact ⟨_, h⟩) (by omega) m_PR_pair ml_PR_88 st_PR_pair (Nat.le_of_ble_eq_true rfl) d_PR_loop_101 rfl ?_
          intro v G65 hq
          rcases hq with ⟨hv, hGe⟩
          cases hv
          rw [hGe]
          change ab_W _ _ _ G47 104 [some (vR q), some (vR p), some (vj w), none, some (vz dd), some (vz 0), some (vz (w214 / 4294967296)), none] [vj (0 * 4294967296 + 0)] _
          refine ab_lret rfl d_PR_loop_104 ?_
          rw [hQ]; exact ⟨_, _, _, _, _, _, _, _, _, _, _, _, rfl, hfr, hq, hki, hne, hot, hra217, ppaI_0, pszB_0, (by omega), (by omega), (by omega), (by omega), (by exact hp50), (by exact hq30), (by exact hq31), (by exact hq32), (by exact hzr), (by omega), (by omega), (by omega)⟩
      · refine ab_lload_n d_PR_loop_53 rfl ?_
        refine ab_callS (d' := d - 1) (as := [vj w]) (st := [vz 0, vR ne]) (z_PR_used (o := o13) (w := w) (by omega)) (fun oc G2 h => by rcases h with ⟨h, _⟩ <;> exact ⟨_, h⟩) (by omega) m_PR_used ml_PR_124 st_PR_used (Nat.le_of_ble_eq_true rfl) d_PR_loop_54 rfl ?_
        intro v G66 hq
        rcases hq with ⟨hv, hGe⟩
        cases hv
        rw [hGe]
        change ab_W _ _ _ G12 57 [some (vR q), some (vR p), some (vj w), none, some (vz dd), some (vz 0), some (vz (w214 / 4294967296)), none] [vz (w % 4294967296), vz 0, vR ne] _
        refine ab_goto (tgt := 62) d_PR_loop_57 (by decide) ?_
        refine zz_iast d_PR_loop_62 hne (by omega) (hne.2.1 (by first | omega | exact (show 18 ≤ _ by omega))) ?_
        obtain ⟨G67, eG67⟩ : ∃ z : ab_G, z = List.set G12 ne (za 808 (zu N221 0 (w % 4294967296))) := ⟨_, rfl⟩
        have hq := hq.keep hne eG67 (by omega)
        have hki := hki.keep hne eG67 (by omega)
        have hot := hot.keep hne eG67 (by omega)
        have hp := hp.keep hne eG67 (by omega)
        have hra217 := hra217.keep hne eG67 (by omega)
        have hzr := hzr.wr hne eG67 (by omega)
        have hst := (fx.rf (o := o13) (S := [(lq + 2)]) (G := G12)).wr hne eG67 (List.mem_singleton.mpr rfl)
        have pszB_0 := szB.fr hst pszB_0 (by simp only [List.mem_cons, List.not_mem_nil, or_false]; omega) (by simp only [List.mem_cons, List.not_mem_nil, or_false]; omega)
        have ppaI_0 := paI.fr hst ppaI_0 (by simp only [List.mem_cons, List.not_mem_nil, or_false]; omega) (by simp only [List.mem_cons, List.not_mem_nil, or_false]; omega) (by simp only [List.mem_cons, List.not_mem_nil, or_false]; omega) (by intro xx hx; simp only [List.mem_cons, List.not_mem_nil, or_false] at hx; omega)
        have hq68 := z_len eG67
        have hq69 := z_sl hne eG67 rfl
        have hfr := hfr.wr hne eG67 (by simp)
        have hne := hne.kept eG67
        change ab_W _ _ _ (List.set G12 ne (za 808 (zu N221 0 (w % 4294967296)))) 63 [some (vR q), some (vR p), some (vj w), none, some (vz dd), some (vz 0), some (vz (w214 / 4294967296)), none] [] _
        rw [← eG67]
        have hp70 := prok_next (a := 0) (x := (w % 4294967296)) hq29 (by omega)
        obtain ⟨N70, eN70⟩ : ∃ z : Int → Int, z = zu N221 0 (w % 4294967296) := ⟨_, rfl⟩
        have hne : cc o13 G67 ne (lq + 2) (za 808 N70) := by rw [← eN70.symm]; exact hne
        rw [← eN70] at hp70
        change ab_W _ _ _ G67 63 [some (vR q), some (vR p), some (vj w), none, some (vz dd), some (vz 0), some (vz (w214 / 4294967296)), none] [] _
        refine ab_aload_n d_PR_loop_63 rfl ?_
        refine ab_getf (fs := [vR ki, vR ne, vR ot, vz cnt215, vz fi, vz la216, vR ra217, vz ru219, vz gr, vz wi, vz sz, vz fl, vz ve, vz mi, vR na, vR nl]) f_PR_18 d_PR_loop_64 hq.2.2 rfl ?_
        refine ab_iload d_PR_loop_67 rfl ?_
        refine ab_aload_n d_PR_loop_69 rfl ?_
        refine ab_getf (fs := [vz k_1, vz v_1, rg_1, vz pl_1, vz fl_1, ou_1, ls_1, bf_1, vz sz_1, vz mb_1, vz oe_1, vz le_1, vz mo_1, vz la_1, vz rc37]) f_PR_156 d_PR_loop_70 hp.2.2 rfl ?_
        refine zz_if_eq (tgt := 81) d_PR_loop_73 (by decide) (by omega) (fun c71 => absurd c71 (by omega)) (fun c71 => ?_)
        refine ab_iload d_PR_loop_76 rfl ?_
        refine ab_goto (tgt := 85) d_PR_loop_78 (by decide) ?_
        refine zz_iast d_PR_loop_85 hot (by omega) (hot.2.1 (by first | omega | exact (show 18 ≤ _ by omega))) ?_
        obtain ⟨G72, eG72⟩ : ∃ z : ab_G, z = List.set G67 ot (za 808 (zu O222 0 (w214 / 4294967296))) := ⟨_, rfl⟩
        have hq := hq.keep hot eG72 (by omega)
        have hki := hki.keep hot eG72 (by omega)
        have hne := hne.keep hot eG72 (by omega)
        have hp := hp.keep hot eG72 (by omega)
        have hra217 := hra217.keep hot eG72 (by omega)
        have hzr := hzr.wr hot eG72 (by omega)
        have hst := (fx.rf (o := o13) (S := [(lq + 3)]) (G := G67)).wr hot eG72 (List.mem_singleton.mpr rfl)
        have pszB_0 := szB.fr hst pszB_0 (by simp only [List.mem_cons, List.not_mem_nil, or_false]; omega) (by simp only [List.mem_cons, List.not_mem_nil, or_false]; omega)
        have ppaI_0 := paI.fr hst ppaI_0 (by simp only [List.mem_cons, List.not_mem_nil, or_false]; omega) (by simp only [List.mem_cons, List.not_mem_nil, or_false]; omega) (by simp only [List.mem_cons, List.not_mem_nil, or_false]; omega) (by intro xx hx; simp only [List.mem_cons, List.not_mem_nil, or_false] at hx; omega)
        have hq73 := z_len eG72
        have hq74 := z_sl hot eG72 rfl
        have hfr := hfr.wr hot eG72 (by simp)
        have hot := hot.kept eG72
        change ab_W _ _ _ (List.set G67 ot (za 808 (zu O222 0 (w214 / 4294967296)))) 86 [some (vR q), some (vR p), some (vj w), none, some (vz dd), some (vz 0), some (vz (w214 / 4294967296)), none] [] _
        rw [← eG72]
        have hp75 := prok_other (a := 0) (x := (w214 / 4294967296)) hp70 (by omega) (Or.inr ((hq32 0 (by omega) (by omega)).trans ck0))
        obtain ⟨O75, eO75⟩ : ∃ z : Int → Int, z = zu O222 0 (w214 / 4294967296) := ⟨_, rfl⟩
        have hot : cc o13 G72 ot (lq + 3) (za 808 O75) := by rw [← eO75.symm]; exact hot
        rw [← eO75] at hp75
        change ab_W _ _ _ G72 86 [some (vR q), some (vR p), some (vj w), none, some (vz dd), some (vz 0), some (vz (w214 / 4294967296)), none] [] _
        refine ab_lload_n d_PR_loop_86 rfl ?_
        refine ab_callS (d' := d - 1) (as := [vj w]) (st := []) (z_PR_fresh (o := o13) (w := w) (by omega)) (fun oc G2 h => by rcases h with ⟨h, _⟩ <;> exact ⟨_, h⟩) (by omega) m_PR_fresh ml_PR_96 st_PR_fresh (Nat.le_of_ble_eq_true rfl) d_PR_loop_87 rfl ?_
        intro v G76 hq
        rcases hq with ⟨hv, hGe⟩
        cases hv
        rw [hGe]
        change ab_W _ _ _ G72 90 [some (vR q), some (vR p), some (vj w), none, some (vz dd), some (vz 0), some (vz (w214 / 4294967296)), none] [vz (w / 4294967296)] _
        refine ab_lload_n d_PR_loop_90 rfl ?_
        refine ab_callS (d' := d - 1) (as := [vj w]) (st := [vz (w / 4294967296)]) (z_PR_used (o := o13) (w := w) (by omega)) (fun oc G2 h => by rcases h with ⟨h, _⟩ <;> exact ⟨_, h⟩) (by omega) m_PR_used ml_PR_124 st_PR_used (Nat.le_of_ble_eq_true rfl) d_PR_loop_91 rfl ?_
        intro v G77 hq
        rcases hq with ⟨hv, hGe⟩
        cases hv
        rw [hGe]
        change ab_W _ _ _ G72 94 [some (vR q), some (vR p), some (vj w), none, some (vz dd), some (vz 0), some (vz (w214 / 4294967296)), none] [vz (w % 4294967296), vz (w / 4294967296)] _
        refine zz_icmp_ne (tgt := 105) d_PR_loop_94 (by decide) (by omega) (by omega) (fun c78 => ?_) (fun c78 => ?_)
        · refine ab_aload_n d_PR_loop_105 rfl ?_
          refine ab_getf (fs := [vz k_1, vz v_1, rg_1, vz pl_1, vz fl_1, ou_1, ls_1, bf_1, vz sz_1, vz mb_1, vz oe_1, vz le_1, vz mo_1, vz la_1, vz rc37]) f_PR_156 d_PR_loop_106 hp.2.2 rfl ?_
          refine zz_if_eq (tgt := 127) d_PR_loop_109 (by decide) (by omega) (fun c79 => absurd c79 (by omega)) (fun c79 => ?_)
          refine ab_aload_n d_PR_loop_112 rfl ?_
          refine zz_bipush d_PR_loop_113 (by decide) ?_
          refine ab_lload_n d_PR_loop_115 rfl ?_
          refine ab_callS (d' := d - 1) (as := [vj w]) (st := [vz 6, vR q]) (z_PR_fresh (o := o13) (w := w) (by omega)) (fun oc G2 h => by rcases h with ⟨h, _⟩ <;> exact ⟨_, h⟩) (by omega) m_PR_fresh ml_PR_96 st_PR_fresh (Nat.le_of_ble_eq_true rfl) d_PR_loop_116 rfl ?_
          intro v G80 hq
          rcases hq with ⟨hv, hGe⟩
          cases hv
          rw [hGe]
          change ab_W _ _ _ G72 119 [some (vR q), some (vR p), some (vj w), none, some (vz dd), some (vz 0), some (vz (w214 / 4294967296)), none] [vz (w / 4294967296), vz 6, vR q] _
          refine ab_iload d_PR_loop_119 rfl ?_
          refine ab_callV (d' := d - 1) (as := [vz 6, vz (w / 4294967296), vz (w214 / 4294967296)]) (st := []) (r := _) (z_PR_add (o := o13) (q := q) (lq := lq) (ki := ki) (ne := ne) (ot := ot) (cnt := cnt215) (fi := fi) (la := la216) (ra := ra217) (ru := ru219) (gr := gr) (wi := wi) (sz := sz) (fl := fl) (ve := ve) (mi := mi) (na := na) (nl := nl) (K := K220) (N := N70) (O := O75) (k0 := 6) (x0 := (w / 4294967296)) (v0 := (w214 / 4294967296)) hq hki hne hot (by omega) (by omega) (by omega)) (fun oc G2 h => by rcases h with ⟨h, _⟩ | ⟨_, h, _⟩ <;> exact ⟨_, h⟩) (by omega) m_PR_add ml_PR_84 im_PR_add se_PR_add c_PR hq.2.2 (Nat.le_of_ble_eq_true rfl) d_PR_loop_121 rfl ?_
          intro v G81 hq
          rcases hq with ⟨hv, hGe, hq82⟩ | ⟨la283, hv, hfk, hlk, hsk, hNq, hNki, hNne, hNot, hq84, hq85, hq86⟩
          · cases hv
            rw [hGe]
            change ab_W _ _ _ G72 124 [some (vR q), some (vR p), some (vj w), none, some (vz dd), some (vz 0), some (vz (w214 / 4294967296)), none] [vz 0] _
            refine ab_goto (tgt := 139) d_PR_loop_124 (by decide) ?_
            refine ab_istore d_PR_loop_139 (Nat.le_of_ble_eq_true rfl) (Nat.le_of_ble_eq_true rfl) rfl ?_
            change ab_W _ _ _ G72 141 [some (vR q), some (vR p), some (vj w), none, some (vz dd), some (vz 0), some (vz (w214 / 4294967296)), some (vz 0)] [] _
            refine ab_iload d_PR_loop_141 rfl ?_
            refine ab_iload d_PR_loop_143 rfl ?_
            refine ab_callS (d' := d - 1) (as := [vz 0, vz 0]) (st := []) (z_PR_pair (o := o13) (f0 := 0) (u0 := 0) (by omega)) (fun oc G2 h => by rcases h with ⟨h, _⟩ <;> exact ⟨_, h⟩) (by omega) m_PR_pair ml_PR_88 st_PR_pair (Nat.le_of_ble_eq_true rfl) d_PR_loop_145 rfl ?_
            intro v G89 hq
            rcases hq with ⟨hv, hGe⟩
            cases hv
            rw [hGe]
            change ab_W _ _ _ G72 148 [some (vR q), some (vR p), some (vj w), none, some (vz dd), some (vz 0), some (vz (w214 / 4294967296)), some (vz 0)] [vj (0 * 4294967296 + 0)] _
            refine ab_lret rfl d_PR_loop_148 ?_
            rw [hQ]; exact ⟨_, _, _, _, _, _, _, _, _, _, _, _, rfl, hfr, hq, hki, hne, hot, hra217, ppaI_0, pszB_0, (by omega), (by omega), (by omega), (by omega), (by exact hp75), (by exact hq30), (by exact hq31), (by exact hq32), (by exact hzr), (by omega), (by omega), (by omega)⟩
          · cases hv
            have hzr := hzr.tr (fzr.fx hfk (by simp only [List.mem_cons, List.not_mem_nil, or_false]; omega))
            have hp := hfk.get hp (by simp only [List.mem_cons, List.not_mem_nil, or_false]; omega)
            have hra217 := hfk.get hra217 (by simp only [List.mem_cons, List.not_mem_nil, or_false]; omega)
            have pszB_0 := szB.fr hfk pszB_0 (by simp only [List.mem_cons, List.not_mem_nil, or_false]; omega) (by simp only [List.mem_cons, List.not_mem_nil, or_false]; omega)
            have ppaI_0 := paI.fr hfk ppaI_0 (by simp only [List.mem_cons, List.not_mem_nil, or_false]; omega) (by simp only [List.mem_cons, List.not_mem_nil, or_false]; omega) (by simp only [List.mem_cons, List.not_mem_nil, or_false]; omega) (by intro xx hx; simp only [List.mem_cons, List.not_mem_nil, or_false] at hx; omega)
            have hfr := hfr.tr hfk (by simp)
            have hq87 := hlk
            have hq88 := hsk
            have hq := hNq
            have hki := hNki
            have hne := hNne
            have hot := hNot
            change ab_W _ _ _ G81 124 [some (vR q), some (vR p), some (vj w), none, some (vz dd), some (vz 0), some (vz (w214 / 4294967296)), none] [vz cnt215] _
            exfalso; omega
        · refine ab_iload d_PR_loop_97 rfl ?_
          refine ab_iload d_PR_loop_99 rfl ?_
          refine ab_callS (d' := d - 1) (as := [vz 0, vz 0]) (st := []) (z_PR_pair (o := o13) (f0 := 0) (u0 := 0) (by omega)) (fun oc G2 h => by rcases h with ⟨h, _⟩ <;> exact ⟨_, h⟩) (by omega) m_PR_pair ml_PR_88 st_PR_pair (Nat.le_of_ble_eq_true rfl) d_PR_loop_101 rfl ?_
          intro v G90 hq
          rcases hq with ⟨hv, hGe⟩
          cases hv
          rw [hGe]
          change ab_W _ _ _ G72 104 [some (vR q), some (vR p), some (vj w), none, some (vz dd), some (vz 0), some (vz (w214 / 4294967296)), none] [vj (0 * 4294967296 + 0)] _
          refine ab_lret rfl d_PR_loop_104 ?_
          rw [hQ]; exact ⟨_, _, _, _, _, _, _, _, _, _, _, _, rfl, hfr, hq, hki, hne, hot, hra217, ppaI_0, pszB_0, (by omega), (by omega), (by omega), (by omega), (by exact hp75), (by exact hq30), (by exact hq31), (by exact hq32), (by exact hzr), (by omega), (by omega), (by omega)⟩
    · refine zz_iconst d_PR_loop_19 ?_
      refine ab_goto (tgt := 25) d_PR_loop_20 (by decide) ?_
      refine ab_iload d_PR_loop_25 rfl ?_
      refine ab_callS (d' := d - 1) (as := [vz 0, vz 0]) (st := [vR p, vR q]) (z_PR_pair (o := o) (f0 := 0) (u0 := 0) (by omega)) (fun oc G2 h => by rcases h with ⟨h, _⟩ <;> exact ⟨_, h⟩) (by omega) m_PR_pair ml_PR_88 st_PR_pair (Nat.le_of_ble_eq_true rfl) d_PR_loop_27 rfl ?_
      intro v G91 hq
      rcases hq with ⟨hv, hGe⟩
      cases hv
      rw [hGe]
      change ab_W _ _ _ G 30 [some (vR q), some (vR p), some (vj w), none, some (vz dd), some (vz 0), none, none] [vj (0 * 4294967296 + 0), vR p, vR q] _
      refine ab_iload d_PR_loop_30 rfl ?_
      refine ab_callV (d' := d - 1) (as := [vR p, vj (0 * 4294967296 + 0), vz dd]) (st := []) (r := _) (z_PR_once (o := o) (q := q) (lq := lq) (ki := ki) (ne := ne) (ot := ot) (cnt := cnt) (fi := fi) (la := la) (ra := ra) (ru := ru) (gr := gr) (wi := wi) (sz := sz) (fl := fl) (ve := ve) (mi := mi) (na := na) (nl := nl) (K := K) (N := N) (O := O) (RR := RR) (nr := nr) (ps := ps) (wt := wt) (bs := bs) (ph := ph) (gq := gq) (p := p) (w := (0 * 4294967296 + 0)) (dd := dd) (cu := cu) (bq := bq) hq hki hne hot hra ppaI_0 pszB_0 (by omega) (by omega) hp_ hch hr ck0 (by omega) hpp (by omega) (by omega) (by omega) (by omega) (by omega) (bqo_c hp (by omega) (by omega) hbe_) ihR) (fun oc G2 h => by rcases h with ⟨_, _, _, _, _, _, _, _, _, _, _, _, h, _⟩ <;> exact ⟨_, h⟩) (by omega) m_PR_once ml_PR_153 im_PR_once se_PR_once c_PR hq.2.2 (Nat.le_of_ble_eq_true rfl) d_PR_loop_32 rfl ?_
      intro v G92 hq
      rcases hq with ⟨o93, w294, cnt295, la296, ra297, nr298, ru299, K2100, N2101, O2102, RR2103, ph2104, hv, hfk, hNq, hNki, hNne, hNot, hNra297, pNpaI_0, pNszB_0, hq105, hq106, hq107, hq108, hq109, hq110, hq111, hq112, hq113, hq114, hq115, hq116⟩
      cases hv
      have hzr := hzr.tr hq113
      obtain ⟨rc117, hKp⟩ := hq113 _ _ _ _ _ _ _ _ _ _ _ _ _ _ _ _ hpp hp
      have hp := hKp
      have ppaI_0 := pNpaI_0
      have pszB_0 := pNszB_0
      have hfr := hfr.tr hfk (by simp)
      have hq118 := hfk.1
      have hq := hNq
      have hki := hNki
      have hne := hNne
      have hot := hNot
      have hra297 := hNra297
      change ab_W _ _ _ G92 35 [some (vR q), some (vR p), some (vj w), none, some (vz dd), some (vz 0), none, none] [vj w294] _
      refine ab_callS (d' := d - 1) (as := [vj w294]) (st := []) (z_PR_fresh (o := o93) (w := w294) (by omega)) (fun oc G2 h => by rcases h with ⟨h, _⟩ <;> exact ⟨_, h⟩) (by omega) m_PR_fresh ml_PR_96 st_PR_fresh (Nat.le_of_ble_eq_true rfl) d_PR_loop_35 rfl ?_
      intro v G119 hq
      rcases hq with ⟨hv, hGe⟩
      cases hv
      rw [hGe]
      change ab_W _ _ _ G92 38 [some (vR q), some (vR p), some (vj w), none, some (vz dd), some (vz 0), none, none] [vz (w294 / 4294967296)] _
      refine ab_istore d_PR_loop_38 (Nat.le_of_ble_eq_true rfl) (Nat.le_of_ble_eq_true rfl) rfl ?_
      change ab_W _ _ _ G92 40 [some (vR q), some (vR p), some (vj w), none, some (vz dd), some (vz 0), some (vz (w294 / 4294967296)), none] [] _
      refine ab_aload_n d_PR_loop_40 rfl ?_
      refine ab_getf (fs := [vR ki, vR ne, vR ot, vz cnt295, vz fi, vz la296, vR ra297, vz ru299, vz gr, vz wi, vz sz, vz fl, vz ve, vz mi, vR na, vR nl]) f_PR_15 d_PR_loop_41 hq.2.2 rfl ?_
      refine ab_iload d_PR_loop_44 rfl ?_
      refine ab_aload_n d_PR_loop_46 rfl ?_
      refine ab_getf (fs := [vz k_1, vz v_1, rg_1, vz pl_1, vz fl_1, ou_1, ls_1, bf_1, vz sz_1, vz mb_1, vz oe_1, vz le_1, vz mo_1, vz la_1, vz rc117]) f_PR_156 d_PR_loop_47 hp.2.2 rfl ?_
      refine zz_if_eq (tgt := 60) d_PR_loop_50 (by decide) (by omega) (fun c120 => ?_) (fun c120 => ?_)
      · refine ab_iload d_PR_loop_60 rfl ?_
        refine zz_iast d_PR_loop_62 hne (by omega) (hne.2.1 (by first | omega | exact (show 18 ≤ _ by omega))) ?_
        obtain ⟨G121, eG121⟩ : ∃ z : ab_G, z = List.set G92 ne (za 808 (zu N2101 0 (w294 / 4294967296))) := ⟨_, rfl⟩
        have hq := hq.keep hne eG121 (by omega)
        have hki := hki.keep hne eG121 (by omega)
        have hot := hot.keep hne eG121 (by omega)
        have hp := hp.keep hne eG121 (by omega)
        have hra297 := hra297.keep hne eG121 (by omega)
        have hzr := hzr.wr hne eG121 (by omega)
        have hst := (fx.rf (o := o93) (S := [(lq + 2)]) (G := G92)).wr hne eG121 (List.mem_singleton.mpr rfl)
        have pszB_0 := szB.fr hst pszB_0 (by simp only [List.mem_cons, List.not_mem_nil, or_false]; omega) (by simp only [List.mem_cons, List.not_mem_nil, or_false]; omega)
        have ppaI_0 := paI.fr hst ppaI_0 (by simp only [List.mem_cons, List.not_mem_nil, or_false]; omega) (by simp only [List.mem_cons, List.not_mem_nil, or_false]; omega) (by simp only [List.mem_cons, List.not_mem_nil, or_false]; omega) (by intro xx hx; simp only [List.mem_cons, List.not_mem_nil, or_false] at hx; omega)
        have hq122 := z_len eG121
        have hq123 := z_sl hne eG121 rfl
        have hfr := hfr.wr hne eG121 (by simp)
        have hne := hne.kept eG121
        change ab_W _ _ _ (List.set G92 ne (za 808 (zu N2101 0 (w294 / 4294967296)))) 63 [some (vR q), some (vR p), some (vj w), none, some (vz dd), some (vz 0), some (vz (w294 / 4294967296)), none] [] _
        rw [← eG121]
        have hp124 := prok_next (a := 0) (x := (w294 / 4294967296)) hq109 (by omega)
        obtain ⟨N124, eN124⟩ : ∃ z : Int → Int, z = zu N2101 0 (w294 / 4294967296) := ⟨_, rfl⟩
        have hne : cc o93 G121 ne (lq + 2) (za 808 N124) := by rw [← eN124.symm]; exact hne
        rw [← eN124] at hp124
        change ab_W _ _ _ G121 63 [some (vR q), some (vR p), some (vj w), none, some (vz dd), some (vz 0), some (vz (w294 / 4294967296)), none] [] _
        refine ab_aload_n d_PR_loop_63 rfl ?_
        refine ab_getf (fs := [vR ki, vR ne, vR ot, vz cnt295, vz fi, vz la296, vR ra297, vz ru299, vz gr, vz wi, vz sz, vz fl, vz ve, vz mi, vR na, vR nl]) f_PR_18 d_PR_loop_64 hq.2.2 rfl ?_
        refine ab_iload d_PR_loop_67 rfl ?_
        refine ab_aload_n d_PR_loop_69 rfl ?_
        refine ab_getf (fs := [vz k_1, vz v_1, rg_1, vz pl_1, vz fl_1, ou_1, ls_1, bf_1, vz sz_1, vz mb_1, vz oe_1, vz le_1, vz mo_1, vz la_1, vz rc117]) f_PR_156 d_PR_loop_70 hp.2.2 rfl ?_
        refine zz_if_eq (tgt := 81) d_PR_loop_73 (by decide) (by omega) (fun c125 => ?_) (fun c125 => absurd c125 (by omega))
        refine ab_lload_n d_PR_loop_81 rfl ?_
        refine ab_callS (d' := d - 1) (as := [vj w]) (st := [vz 0, vR ot]) (z_PR_used (o := o93) (w := w) (by omega)) (fun oc G2 h => by rcases h with ⟨h, _⟩ <;> exact ⟨_, h⟩) (by omega) m_PR_used ml_PR_124 st_PR_used (Nat.le_of_ble_eq_true rfl) d_PR_loop_82 rfl ?_
        intro v G126 hq
        rcases hq with ⟨hv, hGe⟩
        cases hv
        rw [hGe]
        change ab_W _ _ _ G121 85 [some (vR q), some (vR p), some (vj w), none, some (vz dd), some (vz 0), some (vz (w294 / 4294967296)), none] [vz (w % 4294967296), vz 0, vR ot] _
        refine zz_iast d_PR_loop_85 hot (by omega) (hot.2.1 (by first | omega | exact (show 18 ≤ _ by omega))) ?_
        obtain ⟨G127, eG127⟩ : ∃ z : ab_G, z = List.set G121 ot (za 808 (zu O2102 0 (w % 4294967296))) := ⟨_, rfl⟩
        have hq := hq.keep hot eG127 (by omega)
        have hki := hki.keep hot eG127 (by omega)
        have hne := hne.keep hot eG127 (by omega)
        have hp := hp.keep hot eG127 (by omega)
        have hra297 := hra297.keep hot eG127 (by omega)
        have hzr := hzr.wr hot eG127 (by omega)
        have hst := (fx.rf (o := o93) (S := [(lq + 3)]) (G := G121)).wr hot eG127 (List.mem_singleton.mpr rfl)
        have pszB_0 := szB.fr hst pszB_0 (by simp only [List.mem_cons, List.not_mem_nil, or_false]; omega) (by simp only [List.mem_cons, List.not_mem_nil, or_false]; omega)
        have ppaI_0 := paI.fr hst ppaI_0 (by simp only [List.mem_cons, List.not_mem_nil, or_false]; omega) (by simp only [List.mem_cons, List.not_mem_nil, or_false]; omega) (by simp only [List.mem_cons, List.not_mem_nil, or_false]; omega) (by intro xx hx; simp only [List.mem_cons, List.not_mem_nil, or_false] at hx; omega)
        have hq128 := z_len eG127
        have hq129 := z_sl hot eG127 rfl
        have hfr := hfr.wr hot eG127 (by simp)
        have hot := hot.kept eG127
        change ab_W _ _ _ (List.set G121 ot (za 808 (zu O2102 0 (w % 4294967296)))) 86 [some (vR q), some (vR p), some (vj w), none, some (vz dd), some (vz 0), some (vz (w294 / 4294967296)), none] [] _
        rw [← eG127]
        have hp130 := prok_other (a := 0) (x := (w % 4294967296)) hp124 (by omega) (Or.inr ((hq112 0 (by omega) (by omega)).trans ck0))
        obtain ⟨O130, eO130⟩ : ∃ z : Int → Int, z = zu O2102 0 (w % 4294967296) := ⟨_, rfl⟩
        have hot : cc o93 G127 ot (lq + 3) (za 808 O130) := by rw [← eO130.symm]; exact hot
        rw [← eO130] at hp130
        change ab_W _ _ _ G127 86 [some (vR q), some (vR p), some (vj w), none, some (vz dd), some (vz 0), some (vz (w294 / 4294967296)), none] [] _
        refine ab_lload_n d_PR_loop_86 rfl ?_
        refine ab_callS (d' := d - 1) (as := [vj w]) (st := []) (z_PR_fresh (o := o93) (w := w) (by omega)) (fun oc G2 h => by rcases h with ⟨h, _⟩ <;> exact ⟨_, h⟩) (by omega) m_PR_fresh ml_PR_96 st_PR_fresh (Nat.le_of_ble_eq_true rfl) d_PR_loop_87 rfl ?_
        intro v G131 hq
        rcases hq with ⟨hv, hGe⟩
        cases hv
        rw [hGe]
        change ab_W _ _ _ G127 90 [some (vR q), some (vR p), some (vj w), none, some (vz dd), some (vz 0), some (vz (w294 / 4294967296)), none] [vz (w / 4294967296)] _
        refine ab_lload_n d_PR_loop_90 rfl ?_
        refine ab_callS (d' := d - 1) (as := [vj w]) (st := [vz (w / 4294967296)]) (z_PR_used (o := o93) (w := w) (by omega)) (fun oc G2 h => by rcases h with ⟨h, _⟩ <;> exact ⟨_, h⟩) (by omega) m_PR_used ml_PR_124 st_PR_used (Nat.le_of_ble_eq_true rfl) d_PR_loop_91 rfl ?_
        intro v G132 hq
        rcases hq with ⟨hv, hGe⟩
        cases hv
        rw [hGe]
        change ab_W _ _ _ G127 94 [some (vR q), some (vR p), some (vj w), none, some (vz dd), some (vz 0), some (vz (w294 / 4294967296)), none] [vz (w % 4294967296), vz (w / 4294967296)] _
        refine zz_icmp_ne (tgt := 105) d_PR_loop_94 (by decide) (by omega) (by omega) (fun c133 => ?_) (fun c133 => ?_)
        · refine ab_aload_n d_PR_loop_105 rfl ?_
          refine ab_getf (fs := [vz k_1, vz v_1, rg_1, vz pl_1, vz fl_1, ou_1, ls_1, bf_1, vz sz_1, vz mb_1, vz oe_1, vz le_1, vz mo_1, vz la_1, vz rc117]) f_PR_156 d_PR_loop_106 hp.2.2 rfl ?_
          refine zz_if_eq (tgt := 127) d_PR_loop_109 (by decide) (by omega) (fun c134 => ?_) (fun c134 => absurd c134 (by omega))
          refine ab_aload_n d_PR_loop_127 rfl ?_
          refine zz_bipush d_PR_loop_128 (by decide) ?_
          refine ab_iload d_PR_loop_130 rfl ?_
          refine ab_lload_n d_PR_loop_132 rfl ?_
          refine ab_callS (d' := d - 1) (as := [vj w]) (st := [vz (w294 / 4294967296), vz 6, vR q]) (z_PR_fresh (o := o93) (w := w) (by omega)) (fun oc G2 h => by rcases h with ⟨h, _⟩ <;> exact ⟨_, h⟩) (by omega) m_PR_fresh ml_PR_96 st_PR_fresh (Nat.le_of_ble_eq_true rfl) d_PR_loop_133 rfl ?_
          intro v G135 hq
          rcases hq with ⟨hv, hGe⟩
          cases hv
          rw [hGe]
          change ab_W _ _ _ G127 136 [some (vR q), some (vR p), some (vj w), none, some (vz dd), some (vz 0), some (vz (w294 / 4294967296)), none] [vz (w / 4294967296), vz (w294 / 4294967296), vz 6, vR q] _
          refine ab_callV (d' := d - 1) (as := [vz 6, vz (w294 / 4294967296), vz (w / 4294967296)]) (st := []) (r := _) (z_PR_add (o := o93) (q := q) (lq := lq) (ki := ki) (ne := ne) (ot := ot) (cnt := cnt295) (fi := fi) (la := la296) (ra := ra297) (ru := ru299) (gr := gr) (wi := wi) (sz := sz) (fl := fl) (ve := ve) (mi := mi) (na := na) (nl := nl) (K := K2100) (N := N124) (O := O130) (k0 := 6) (x0 := (w294 / 4294967296)) (v0 := (w / 4294967296)) hq hki hne hot (by omega) (by omega) (by omega)) (fun oc G2 h => by rcases h with ⟨h, _⟩ | ⟨_, h, _⟩ <;> exact ⟨_, h⟩) (by omega) m_PR_add ml_PR_84 im_PR_add se_PR_add c_PR hq.2.2 (Nat.le_of_ble_eq_true rfl) d_PR_loop_136 rfl ?_
          intro v G136 hq
          rcases hq with ⟨hv, hGe, hq137⟩ | ⟨la2138, hv, hfk, hlk, hsk, hNq, hNki, hNne, hNot, hq139, hq140, hq141⟩
          · cases hv
            rw [hGe]
            change ab_W _ _ _ G127 139 [some (vR q), some (vR p), some (vj w), none, some (vz dd), some (vz 0), some (vz (w294 / 4294967296)), none] [vz 0] _
            refine ab_istore d_PR_loop_139 (Nat.le_of_ble_eq_true rfl) (Nat.le_of_ble_eq_true rfl) rfl ?_
            change ab_W _ _ _ G127 141 [some (vR q), some (vR p), some (vj w), none, some (vz dd), some (vz 0), some (vz (w294 / 4294967296)), some (vz 0)] [] _
            refine ab_iload d_PR_loop_141 rfl ?_
            refine ab_iload d_PR_loop_143 rfl ?_
            refine ab_callS (d' := d - 1) (as := [vz 0, vz 0]) (st := []) (z_PR_pair (o := o93) (f0 := 0) (u0 := 0) (by omega)) (fun oc G2 h => by rcases h with ⟨h, _⟩ <;> exact ⟨_, h⟩) (by omega) m_PR_pair ml_PR_88 st_PR_pair (Nat.le_of_ble_eq_true rfl) d_PR_loop_145 rfl ?_
            intro v G144 hq
            rcases hq with ⟨hv, hGe⟩
            cases hv
            rw [hGe]
            change ab_W _ _ _ G127 148 [some (vR q), some (vR p), some (vj w), none, some (vz dd), some (vz 0), some (vz (w294 / 4294967296)), some (vz 0)] [vj (0 * 4294967296 + 0)] _
            refine ab_lret rfl d_PR_loop_148 ?_
            rw [hQ]; exact ⟨_, _, _, _, _, _, _, _, _, _, _, _, rfl, hfr, hq, hki, hne, hot, hra297, ppaI_0, pszB_0, (by omega), (by omega), (by omega), (by omega), (by exact hp130), (by exact hq110), (by exact hq111), (by exact hq112), (by exact hzr), (by omega), (by omega), (by omega)⟩
          · cases hv
            have hzr := hzr.tr (fzr.fx hfk (by simp only [List.mem_cons, List.not_mem_nil, or_false]; omega))
            have hp := hfk.get hp (by simp only [List.mem_cons, List.not_mem_nil, or_false]; omega)
            have hra297 := hfk.get hra297 (by simp only [List.mem_cons, List.not_mem_nil, or_false]; omega)
            have pszB_0 := szB.fr hfk pszB_0 (by simp only [List.mem_cons, List.not_mem_nil, or_false]; omega) (by simp only [List.mem_cons, List.not_mem_nil, or_false]; omega)
            have ppaI_0 := paI.fr hfk ppaI_0 (by simp only [List.mem_cons, List.not_mem_nil, or_false]; omega) (by simp only [List.mem_cons, List.not_mem_nil, or_false]; omega) (by simp only [List.mem_cons, List.not_mem_nil, or_false]; omega) (by intro xx hx; simp only [List.mem_cons, List.not_mem_nil, or_false] at hx; omega)
            have hfr := hfr.tr hfk (by simp)
            have hq142 := hlk
            have hq143 := hsk
            have hq := hNq
            have hki := hNki
            have hne := hNne
            have hot := hNot
            change ab_W _ _ _ G136 139 [some (vR q), some (vR p), some (vj w), none, some (vz dd), some (vz 0), some (vz (w294 / 4294967296)), none] [vz cnt295] _
            exfalso; omega
        · refine ab_iload d_PR_loop_97 rfl ?_
          refine ab_iload d_PR_loop_99 rfl ?_
          refine ab_callS (d' := d - 1) (as := [vz 0, vz 0]) (st := []) (z_PR_pair (o := o93) (f0 := 0) (u0 := 0) (by omega)) (fun oc G2 h => by rcases h with ⟨h, _⟩ <;> exact ⟨_, h⟩) (by omega) m_PR_pair ml_PR_88 st_PR_pair (Nat.le_of_ble_eq_true rfl) d_PR_loop_101 rfl ?_
          intro v G145 hq
          rcases hq with ⟨hv, hGe⟩
          cases hv
          rw [hGe]
          change ab_W _ _ _ G127 104 [some (vR q), some (vR p), some (vj w), none, some (vz dd), some (vz 0), some (vz (w294 / 4294967296)), none] [vj (0 * 4294967296 + 0)] _
          refine ab_lret rfl d_PR_loop_104 ?_
          rw [hQ]; exact ⟨_, _, _, _, _, _, _, _, _, _, _, _, rfl, hfr, hq, hki, hne, hot, hra297, ppaI_0, pszB_0, (by omega), (by omega), (by omega), (by omega), (by exact hp130), (by exact hq110), (by exact hq111), (by exact hq112), (by exact hzr), (by omega), (by omega), (by omega)⟩
      · refine ab_lload_n d_PR_loop_53 rfl ?_
        refine ab_callS (d' := d - 1) (as := [vj w]) (st := [vz 0, vR ne]) (z_PR_used (o := o93) (w := w) (by omega)) (fun oc G2 h => by rcases h with ⟨h, _⟩ <;> exact ⟨_, h⟩) (by omega) m_PR_used ml_PR_124 st_PR_used (Nat.le_of_ble_eq_true rfl) d_PR_loop_54 rfl ?_
        intro v G146 hq
        rcases hq with ⟨hv, hGe⟩
        cases hv
        rw [hGe]
        change ab_W _ _ _ G92 57 [some (vR q), some (vR p), some (vj w), none, some (vz dd), some (vz 0), some (vz (w294 / 4294967296)), none] [vz (w % 4294967296), vz 0, vR ne] _
        refine ab_goto (tgt := 62) d_PR_loop_57 (by decide) ?_
        refine zz_iast d_PR_loop_62 hne (by omega) (hne.2.1 (by first | omega | exact (show 18 ≤ _ by omega))) ?_
        obtain ⟨G147, eG147⟩ : ∃ z : ab_G, z = List.set G92 ne (za 808 (zu N2101 0 (w % 4294967296))) := ⟨_, rfl⟩
        have hq := hq.keep hne eG147 (by omega)
        have hki := hki.keep hne eG147 (by omega)
        have hot := hot.keep hne eG147 (by omega)
        have hp := hp.keep hne eG147 (by omega)
        have hra297 := hra297.keep hne eG147 (by omega)
        have hzr := hzr.wr hne eG147 (by omega)
        have hst := (fx.rf (o := o93) (S := [(lq + 2)]) (G := G92)).wr hne eG147 (List.mem_singleton.mpr rfl)
        have pszB_0 := szB.fr hst pszB_0 (by simp only [List.mem_cons, List.not_mem_nil, or_false]; omega) (by simp only [List.mem_cons, List.not_mem_nil, or_false]; omega)
        have ppaI_0 := paI.fr hst ppaI_0 (by simp only [List.mem_cons, List.not_mem_nil, or_false]; omega) (by simp only [List.mem_cons, List.not_mem_nil, or_false]; omega) (by simp only [List.mem_cons, List.not_mem_nil, or_false]; omega) (by intro xx hx; simp only [List.mem_cons, List.not_mem_nil, or_false] at hx; omega)
        have hq148 := z_len eG147
        have hq149 := z_sl hne eG147 rfl
        have hfr := hfr.wr hne eG147 (by simp)
        have hne := hne.kept eG147
        change ab_W _ _ _ (List.set G92 ne (za 808 (zu N2101 0 (w % 4294967296)))) 63 [some (vR q), some (vR p), some (vj w), none, some (vz dd), some (vz 0), some (vz (w294 / 4294967296)), none] [] _
        rw [← eG147]
        have hp150 := prok_next (a := 0) (x := (w % 4294967296)) hq109 (by omega)
        obtain ⟨N150, eN150⟩ : ∃ z : Int → Int, z = zu N2101 0 (w % 4294967296) := ⟨_, rfl⟩
        have hne : cc o93 G147 ne (lq + 2) (za 808 N150) := by rw [← eN150.symm]; exact hne
        rw [← eN150] at hp150
        change ab_W _ _ _ G147 63 [some (vR q), some (vR p), some (vj w), none, some (vz dd), some (vz 0), some (vz (w294 / 4294967296)), none] [] _
        refine ab_aload_n d_PR_loop_63 rfl ?_
        refine ab_getf (fs := [vR ki, vR ne, vR ot, vz cnt295, vz fi, vz la296, vR ra297, vz ru299, vz gr, vz wi, vz sz, vz fl, vz ve, vz mi, vR na, vR nl]) f_PR_18 d_PR_loop_64 hq.2.2 rfl ?_
        refine ab_iload d_PR_loop_67 rfl ?_
        refine ab_aload_n d_PR_loop_69 rfl ?_
        refine ab_getf (fs := [vz k_1, vz v_1, rg_1, vz pl_1, vz fl_1, ou_1, ls_1, bf_1, vz sz_1, vz mb_1, vz oe_1, vz le_1, vz mo_1, vz la_1, vz rc117]) f_PR_156 d_PR_loop_70 hp.2.2 rfl ?_
        refine zz_if_eq (tgt := 81) d_PR_loop_73 (by decide) (by omega) (fun c151 => absurd c151 (by omega)) (fun c151 => ?_)
        refine ab_iload d_PR_loop_76 rfl ?_
        refine ab_goto (tgt := 85) d_PR_loop_78 (by decide) ?_
        refine zz_iast d_PR_loop_85 hot (by omega) (hot.2.1 (by first | omega | exact (show 18 ≤ _ by omega))) ?_
        obtain ⟨G152, eG152⟩ : ∃ z : ab_G, z = List.set G147 ot (za 808 (zu O2102 0 (w294 / 4294967296))) := ⟨_, rfl⟩
        have hq := hq.keep hot eG152 (by omega)
        have hki := hki.keep hot eG152 (by omega)
        have hne := hne.keep hot eG152 (by omega)
        have hp := hp.keep hot eG152 (by omega)
        have hra297 := hra297.keep hot eG152 (by omega)
        have hzr := hzr.wr hot eG152 (by omega)
        have hst := (fx.rf (o := o93) (S := [(lq + 3)]) (G := G147)).wr hot eG152 (List.mem_singleton.mpr rfl)
        have pszB_0 := szB.fr hst pszB_0 (by simp only [List.mem_cons, List.not_mem_nil, or_false]; omega) (by simp only [List.mem_cons, List.not_mem_nil, or_false]; omega)
        have ppaI_0 := paI.fr hst ppaI_0 (by simp only [List.mem_cons, List.not_mem_nil, or_false]; omega) (by simp only [List.mem_cons, List.not_mem_nil, or_false]; omega) (by simp only [List.mem_cons, List.not_mem_nil, or_false]; omega) (by intro xx hx; simp only [List.mem_cons, List.not_mem_nil, or_false] at hx; omega)
        have hq153 := z_len eG152
        have hq154 := z_sl hot eG152 rfl
        have hfr := hfr.wr hot eG152 (by simp)
        have hot := hot.kept eG152
        change ab_W _ _ _ (List.set G147 ot (za 808 (zu O2102 0 (w294 / 4294967296)))) 86 [some (vR q), some (vR p), some (vj w), none, some (vz dd), some (vz 0), some (vz (w294 / 4294967296)), none] [] _
        rw [← eG152]
        have hp155 := prok_other (a := 0) (x := (w294 / 4294967296)) hp150 (by omega) (Or.inr ((hq112 0 (by omega) (by omega)).trans ck0))
        obtain ⟨O155, eO155⟩ : ∃ z : Int → Int, z = zu O2102 0 (w294 / 4294967296) := ⟨_, rfl⟩
        have hot : cc o93 G152 ot (lq + 3) (za 808 O155) := by rw [← eO155.symm]; exact hot
        rw [← eO155] at hp155
        change ab_W _ _ _ G152 86 [some (vR q), some (vR p), some (vj w), none, some (vz dd), some (vz 0), some (vz (w294 / 4294967296)), none] [] _
        refine ab_lload_n d_PR_loop_86 rfl ?_
        refine ab_callS (d' := d - 1) (as := [vj w]) (st := []) (z_PR_fresh (o := o93) (w := w) (by omega)) (fun oc G2 h => by rcases h with ⟨h, _⟩ <;> exact ⟨_, h⟩) (by omega) m_PR_fresh ml_PR_96 st_PR_fresh (Nat.le_of_ble_eq_true rfl) d_PR_loop_87 rfl ?_
        intro v G156 hq
        rcases hq with ⟨hv, hGe⟩
        cases hv
        rw [hGe]
        change ab_W _ _ _ G152 90 [some (vR q), some (vR p), some (vj w), none, some (vz dd), some (vz 0), some (vz (w294 / 4294967296)), none] [vz (w / 4294967296)] _
        refine ab_lload_n d_PR_loop_90 rfl ?_
        refine ab_callS (d' := d - 1) (as := [vj w]) (st := [vz (w / 4294967296)]) (z_PR_used (o := o93) (w := w) (by omega)) (fun oc G2 h => by rcases h with ⟨h, _⟩ <;> exact ⟨_, h⟩) (by omega) m_PR_used ml_PR_124 st_PR_used (Nat.le_of_ble_eq_true rfl) d_PR_loop_91 rfl ?_
        intro v G157 hq
        rcases hq with ⟨hv, hGe⟩
        cases hv
        rw [hGe]
        change ab_W _ _ _ G152 94 [some (vR q), some (vR p), some (vj w), none, some (vz dd), some (vz 0), some (vz (w294 / 4294967296)), none] [vz (w % 4294967296), vz (w / 4294967296)] _
        refine zz_icmp_ne (tgt := 105) d_PR_loop_94 (by decide) (by omega) (by omega) (fun c158 => ?_) (fun c158 => ?_)
        · refine ab_aload_n d_PR_loop_105 rfl ?_
          refine ab_getf (fs := [vz k_1, vz v_1, rg_1, vz pl_1, vz fl_1, ou_1, ls_1, bf_1, vz sz_1, vz mb_1, vz oe_1, vz le_1, vz mo_1, vz la_1, vz rc117]) f_PR_156 d_PR_loop_106 hp.2.2 rfl ?_
          refine zz_if_eq (tgt := 127) d_PR_loop_109 (by decide) (by omega) (fun c159 => absurd c159 (by omega)) (fun c159 => ?_)
          refine ab_aload_n d_PR_loop_112 rfl ?_
          refine zz_bipush d_PR_loop_113 (by decide) ?_
          refine ab_lload_n d_PR_loop_115 rfl ?_
          refine ab_callS (d' := d - 1) (as := [vj w]) (st := [vz 6, vR q]) (z_PR_fresh (o := o93) (w := w) (by omega)) (fun oc G2 h => by rcases h with ⟨h, _⟩ <;> exact ⟨_, h⟩) (by omega) m_PR_fresh ml_PR_96 st_PR_fresh (Nat.le_of_ble_eq_true rfl) d_PR_loop_116 rfl ?_
          intro v G160 hq
          rcases hq with ⟨hv, hGe⟩
          cases hv
          rw [hGe]
          change ab_W _ _ _ G152 119 [some (vR q), some (vR p), some (vj w), none, some (vz dd), some (vz 0), some (vz (w294 / 4294967296)), none] [vz (w / 4294967296), vz 6, vR q] _
          refine ab_iload d_PR_loop_119 rfl ?_
          refine ab_callV (d' := d - 1) (as := [vz 6, vz (w / 4294967296), vz (w294 / 4294967296)]) (st := []) (r := _) (z_PR_add (o := o93) (q := q) (lq := lq) (ki := ki) (ne := ne) (ot := ot) (cnt := cnt295) (fi := fi) (la := la296) (ra := ra297) (ru := ru299) (gr := gr) (wi := wi) (sz := sz) (fl := fl) (ve := ve) (mi := mi) (na := na) (nl := nl) (K := K2100) (N := N150) (O := O155) (k0 := 6) (x0 := (w / 4294967296)) (v0 := (w294 / 4294967296)) hq hki hne hot (by omega) (by omega) (by omega)) (fun oc G2 h => by rcases h with ⟨h, _⟩ | ⟨_, h, _⟩ <;> exact ⟨_, h⟩) (by omega) m_PR_add ml_PR_84 im_PR_add se_PR_add c_PR hq.2.2 (Nat.le_of_ble_eq_true rfl) d_PR_loop_121 rfl ?_
          intro v G161 hq
          rcases hq with ⟨hv, hGe, hq162⟩ | ⟨la2163, hv, hfk, hlk, hsk, hNq, hNki, hNne, hNot, hq164, hq165, hq166⟩
          · cases hv
            rw [hGe]
            change ab_W _ _ _ G152 124 [some (vR q), some (vR p), some (vj w), none, some (vz dd), some (vz 0), some (vz (w294 / 4294967296)), none] [vz 0] _
            refine ab_goto (tgt := 139) d_PR_loop_124 (by decide) ?_
            refine ab_istore d_PR_loop_139 (Nat.le_of_ble_eq_true rfl) (Nat.le_of_ble_eq_true rfl) rfl ?_
            change ab_W _ _ _ G152 141 [some (vR q), some (vR p), some (vj w), none, some (vz dd), some (vz 0), some (vz (w294 / 4294967296)), some (vz 0)] [] _
            refine ab_iload d_PR_loop_141 rfl ?_
            refine ab_iload d_PR_loop_143 rfl ?_
            refine ab_callS (d' := d - 1) (as := [vz 0, vz 0]) (st := []) (z_PR_pair (o := o93) (f0 := 0) (u0 := 0) (by omega)) (fun oc G2 h => by rcases h with ⟨h, _⟩ <;> exact ⟨_, h⟩) (by omega) m_PR_pair ml_PR_88 st_PR_pair (Nat.le_of_ble_eq_true rfl) d_PR_loop_145 rfl ?_
            intro v G169 hq
            rcases hq with ⟨hv, hGe⟩
            cases hv
            rw [hGe]
            change ab_W _ _ _ G152 148 [some (vR q), some (vR p), some (vj w), none, some (vz dd), some (vz 0), some (vz (w294 / 4294967296)), some (vz 0)] [vj (0 * 4294967296 + 0)] _
            refine ab_lret rfl d_PR_loop_148 ?_
            rw [hQ]; exact ⟨_, _, _, _, _, _, _, _, _, _, _, _, rfl, hfr, hq, hki, hne, hot, hra297, ppaI_0, pszB_0, (by omega), (by omega), (by omega), (by omega), (by exact hp155), (by exact hq110), (by exact hq111), (by exact hq112), (by exact hzr), (by omega), (by omega), (by omega)⟩
          · cases hv
            have hzr := hzr.tr (fzr.fx hfk (by simp only [List.mem_cons, List.not_mem_nil, or_false]; omega))
            have hp := hfk.get hp (by simp only [List.mem_cons, List.not_mem_nil, or_false]; omega)
            have hra297 := hfk.get hra297 (by simp only [List.mem_cons, List.not_mem_nil, or_false]; omega)
            have pszB_0 := szB.fr hfk pszB_0 (by simp only [List.mem_cons, List.not_mem_nil, or_false]; omega) (by simp only [List.mem_cons, List.not_mem_nil, or_false]; omega)
            have ppaI_0 := paI.fr hfk ppaI_0 (by simp only [List.mem_cons, List.not_mem_nil, or_false]; omega) (by simp only [List.mem_cons, List.not_mem_nil, or_false]; omega) (by simp only [List.mem_cons, List.not_mem_nil, or_false]; omega) (by intro xx hx; simp only [List.mem_cons, List.not_mem_nil, or_false] at hx; omega)
            have hfr := hfr.tr hfk (by simp)
            have hq167 := hlk
            have hq168 := hsk
            have hq := hNq
            have hki := hNki
            have hne := hNne
            have hot := hNot
            change ab_W _ _ _ G161 124 [some (vR q), some (vR p), some (vj w), none, some (vz dd), some (vz 0), some (vz (w294 / 4294967296)), none] [vz cnt295] _
            exfalso; omega
        · refine ab_iload d_PR_loop_97 rfl ?_
          refine ab_iload d_PR_loop_99 rfl ?_
          refine ab_callS (d' := d - 1) (as := [vz 0, vz 0]) (st := []) (z_PR_pair (o := o93) (f0 := 0) (u0 := 0) (by omega)) (fun oc G2 h => by rcases h with ⟨h, _⟩ <;> exact ⟨_, h⟩) (by omega) m_PR_pair ml_PR_88 st_PR_pair (Nat.le_of_ble_eq_true rfl) d_PR_loop_101 rfl ?_
          intro v G170 hq
          rcases hq with ⟨hv, hGe⟩
          cases hv
          rw [hGe]
          change ab_W _ _ _ G152 104 [some (vR q), some (vR p), some (vj w), none, some (vz dd), some (vz 0), some (vz (w294 / 4294967296)), none] [vj (0 * 4294967296 + 0)] _
          refine ab_lret rfl d_PR_loop_104 ?_
          rw [hQ]; exact ⟨_, _, _, _, _, _, _, _, _, _, _, _, rfl, hfr, hq, hki, hne, hot, hra297, ppaI_0, pszB_0, (by omega), (by omega), (by omega), (by omega), (by exact hp155), (by exact hq110), (by exact hq111), (by exact hq112), (by exact hzr), (by omega), (by omega), (by omega)⟩
  · cases hv
    have hzr := hzr.tr (fzr.fx hfk (by simp only [List.mem_cons, List.not_mem_nil, or_false]; omega))
    have hra := hfk.get hra (by simp only [List.mem_cons, List.not_mem_nil, or_false]; omega)
    have hp := hfk.get hp (by simp only [List.mem_cons, List.not_mem_nil, or_false]; omega)
    have pszB_0 := szB.fr hfk pszB_0 (by simp only [List.mem_cons, List.not_mem_nil, or_false]; omega) (by simp only [List.mem_cons, List.not_mem_nil, or_false]; omega)
    have ppaI_0 := paI.fr hfk ppaI_0 (by simp only [List.mem_cons, List.not_mem_nil, or_false]; omega) (by simp only [List.mem_cons, List.not_mem_nil, or_false]; omega) (by simp only [List.mem_cons, List.not_mem_nil, or_false]; omega) (by intro xx hx; simp only [List.mem_cons, List.not_mem_nil, or_false] at hx; omega)
    have hfr := hfr.tr hfk (by simp)
    have hq8 := hlk
    have hq9 := hsk
    have hq := hNq
    have hki := hNki
    have hne := hNne
    have hot := hNot
    change ab_W _ _ _ G2 8 [some (vR q), some (vR p), some (vj w), none, some (vz dd), none, none, none] [vz cnt] _
    have hp171 := prok_add (k := 6) (x := 0) (v := 0) hp_ (by omega) (by omega) (by omega) (by omega) (by omega) (fun t => by omega) (fun t => absurd t (by decide)) (fun t => absurd t (by decide)) (fun t => absurd t (by decide)) (fun t => absurd t (by decide))
    obtain ⟨K171, eK171⟩ : ∃ z : Int → Int, z = zu K cnt 6 := ⟨_, rfl⟩
    have hki : cc o G2 ki (lq + 1) (za 808 K171) := by rw [← eK171.symm]; exact hki
    obtain ⟨N171, eN171⟩ : ∃ z : Int → Int, z = zu N cnt 0 := ⟨_, rfl⟩
    have hne : cc o G2 ne (lq + 2) (za 808 N171) := by rw [← eN171.symm]; exact hne
    obtain ⟨O171, eO171⟩ : ∃ z : Int → Int, z = zu O cnt 0 := ⟨_, rfl⟩
    have hot : cc o G2 ot (lq + 3) (za 808 O171) := by rw [← eO171.symm]; exact hot
    rw [← eK171, ← eN171, ← eO171] at hp171
    have hkx171 : kext K K171 cnt := by rw [eK171]; exact kext.zu (Int.le_refl _)
    have hks171 : K171 cnt = 6 := by rw [eK171]; exact zu_self _ _ _
    change ab_W _ _ _ G2 8 [some (vR q), some (vR p), some (vj w), none, some (vz dd), none, none, none] [vz cnt] _
    refine ab_istore d_PR_loop_8 (Nat.le_of_ble_eq_true rfl) (Nat.le_of_ble_eq_true rfl) rfl ?_
    change ab_W _ _ _ G2 10 [some (vR q), some (vR p), some (vj w), none, some (vz dd), some (vz cnt), none, none] [] _
    refine ab_aload_n d_PR_loop_10 rfl ?_
    refine ab_aload_n d_PR_loop_11 rfl ?_
    refine ab_aload_n d_PR_loop_12 rfl ?_
    refine ab_getf (fs := [vz k_1, vz v_1, rg_1, vz pl_1, vz fl_1, ou_1, ls_1, bf_1, vz sz_1, vz mb_1, vz oe_1, vz le_1, vz mo_1, vz la_1, vz rc_1]) f_PR_159 d_PR_loop_13 hp.2.2 rfl ?_
    refine zz_if_eq (tgt := 23) d_PR_loop_16 (by decide) (by omega) (fun c172 => ?_) (fun c172 => ?_)
    · refine ab_iload d_PR_loop_23 rfl ?_
      refine ab_iload d_PR_loop_25 rfl ?_
      refine ab_callS (d' := d - 1) (as := [vz cnt, vz cnt]) (st := [vR p, vR q]) (z_PR_pair (o := o) (f0 := cnt) (u0 := cnt) (by omega)) (fun oc G2 h => by rcases h with ⟨h, _⟩ <;> exact ⟨_, h⟩) (by omega) m_PR_pair ml_PR_88 st_PR_pair (Nat.le_of_ble_eq_true rfl) d_PR_loop_27 rfl ?_
      intro v G173 hq
      rcases hq with ⟨hv, hGe⟩
      cases hv
      rw [hGe]
      change ab_W _ _ _ G2 30 [some (vR q), some (vR p), some (vj w), none, some (vz dd), some (vz cnt), none, none] [vj (cnt * 4294967296 + cnt), vR p, vR q] _
      refine ab_iload d_PR_loop_30 rfl ?_
      refine ab_callV (d' := d - 1) (as := [vR p, vj (cnt * 4294967296 + cnt), vz dd]) (st := []) (r := _) (z_PR_once (o := o) (q := q) (lq := lq) (ki := ki) (ne := ne) (ot := ot) (cnt := (cnt + 1)) (fi := fi) (la := la24) (ra := ra) (ru := ru) (gr := gr) (wi := wi) (sz := sz) (fl := fl) (ve := ve) (mi := mi) (na := na) (nl := nl) (K := K171) (N := N171) (O := O171) (RR := RR) (nr := nr) (ps := ps) (wt := wt) (bs := bs) (ph := ph) (gq := gq) (p := p) (w := (cnt * 4294967296 + cnt)) (dd := dd) (cu := cu) (bq := bq) hq hki hne hot hra ppaI_0 pszB_0 (by omega) (by omega) hp171 hch hr ((hkx171 0 (by omega) (by omega)).trans ck0) (by omega) hpp (by omega) (by omega) (by omega) (by omega) (by omega) (bqo_c hp (by omega) (by omega) hbe_) ihR) (fun oc G2 h => by rcases h with ⟨_, _, _, _, _, _, _, _, _, _, _, _, h, _⟩ <;> exact ⟨_, h⟩) (by omega) m_PR_once ml_PR_153 im_PR_once se_PR_once c_PR hq.2.2 (Nat.le_of_ble_eq_true rfl) d_PR_loop_32 rfl ?_
      intro v G174 hq
      rcases hq with ⟨o175, w2176, cnt2177, la2178, ra2179, nr2180, ru2181, K2182, N2183, O2184, RR2185, ph2186, hv, hfk, hNq, hNki, hNne, hNot, hNra2179, pNpaI_0, pNszB_0, hq187, hq188, hq189, hq190, hq191, hq192, hq193, hq194, hq195, hq196, hq197, hq198⟩
      cases hv
      have hzr := hzr.tr hq195
      obtain ⟨rc199, hKp⟩ := hq195 _ _ _ _ _ _ _ _ _ _ _ _ _ _ _ _ hpp hp
      have hp := hKp
      have ppaI_0 := pNpaI_0
      have pszB_0 := pNszB_0
      have hfr := hfr.tr hfk (by simp)
      have hq200 := hfk.1
      have hq := hNq
      have hki := hNki
      have hne := hNne
      have hot := hNot
      have hra2179 := hNra2179
      change ab_W _ _ _ G174 35 [some (vR q), some (vR p), some (vj w), none, some (vz dd), some (vz cnt), none, none] [vj w2176] _
      refine ab_callS (d' := d - 1) (as := [vj w2176]) (st := []) (z_PR_fresh (o := o175) (w := w2176) (by omega)) (fun oc G2 h => by rcases h with ⟨h, _⟩ <;> exact ⟨_, h⟩) (by omega) m_PR_fresh ml_PR_96 st_PR_fresh (Nat.le_of_ble_eq_true rfl) d_PR_loop_35 rfl ?_
      intro v G201 hq
      rcases hq with ⟨hv, hGe⟩
      cases hv
      rw [hGe]
      change ab_W _ _ _ G174 38 [some (vR q), some (vR p), some (vj w), none, some (vz dd), some (vz cnt), none, none] [vz (w2176 / 4294967296)] _
      refine ab_istore d_PR_loop_38 (Nat.le_of_ble_eq_true rfl) (Nat.le_of_ble_eq_true rfl) rfl ?_
      change ab_W _ _ _ G174 40 [some (vR q), some (vR p), some (vj w), none, some (vz dd), some (vz cnt), some (vz (w2176 / 4294967296)), none] [] _
      refine ab_aload_n d_PR_loop_40 rfl ?_
      refine ab_getf (fs := [vR ki, vR ne, vR ot, vz cnt2177, vz fi, vz la2178, vR ra2179, vz ru2181, vz gr, vz wi, vz sz, vz fl, vz ve, vz mi, vR na, vR nl]) f_PR_15 d_PR_loop_41 hq.2.2 rfl ?_
      refine ab_iload d_PR_loop_44 rfl ?_
      refine ab_aload_n d_PR_loop_46 rfl ?_
      refine ab_getf (fs := [vz k_1, vz v_1, rg_1, vz pl_1, vz fl_1, ou_1, ls_1, bf_1, vz sz_1, vz mb_1, vz oe_1, vz le_1, vz mo_1, vz la_1, vz rc199]) f_PR_156 d_PR_loop_47 hp.2.2 rfl ?_
      refine zz_if_eq (tgt := 60) d_PR_loop_50 (by decide) (by omega) (fun c202 => ?_) (fun c202 => ?_)
      · refine ab_iload d_PR_loop_60 rfl ?_
        refine zz_iast d_PR_loop_62 hne (by omega) (hne.2.1 (by first | omega | exact (show 18 ≤ _ by omega))) ?_
        obtain ⟨G203, eG203⟩ : ∃ z : ab_G, z = List.set G174 ne (za 808 (zu N2183 cnt (w2176 / 4294967296))) := ⟨_, rfl⟩
        have hq := hq.keep hne eG203 (by omega)
        have hki := hki.keep hne eG203 (by omega)
        have hot := hot.keep hne eG203 (by omega)
        have hp := hp.keep hne eG203 (by omega)
        have hra2179 := hra2179.keep hne eG203 (by omega)
        have hzr := hzr.wr hne eG203 (by omega)
        have hst := (fx.rf (o := o175) (S := [(lq + 2)]) (G := G174)).wr hne eG203 (List.mem_singleton.mpr rfl)
        have pszB_0 := szB.fr hst pszB_0 (by simp only [List.mem_cons, List.not_mem_nil, or_false]; omega) (by simp only [List.mem_cons, List.not_mem_nil, or_false]; omega)
        have ppaI_0 := paI.fr hst ppaI_0 (by simp only [List.mem_cons, List.not_mem_nil, or_false]; omega) (by simp only [List.mem_cons, List.not_mem_nil, or_false]; omega) (by simp only [List.mem_cons, List.not_mem_nil, or_false]; omega) (by intro xx hx; simp only [List.mem_cons, List.not_mem_nil, or_false] at hx; omega)
        have hq204 := z_len eG203
        have hq205 := z_sl hne eG203 rfl
        have hfr := hfr.wr hne eG203 (by simp)
        have hne := hne.kept eG203
        change ab_W _ _ _ (List.set G174 ne (za 808 (zu N2183 cnt (w2176 / 4294967296)))) 63 [some (vR q), some (vR p), some (vj w), none, some (vz dd), some (vz cnt), some (vz (w2176 / 4294967296)), none] [] _
        rw [← eG203]
        have hp206 := prok_next (a := cnt) (x := (w2176 / 4294967296)) hq191 (by omega)
        obtain ⟨N206, eN206⟩ : ∃ z : Int → Int, z = zu N2183 cnt (w2176 / 4294967296) := ⟨_, rfl⟩
        have hne : cc o175 G203 ne (lq + 2) (za 808 N206) := by rw [← eN206.symm]; exact hne
        rw [← eN206] at hp206
        change ab_W _ _ _ G203 63 [some (vR q), some (vR p), some (vj w), none, some (vz dd), some (vz cnt), some (vz (w2176 / 4294967296)), none] [] _
        refine ab_aload_n d_PR_loop_63 rfl ?_
        refine ab_getf (fs := [vR ki, vR ne, vR ot, vz cnt2177, vz fi, vz la2178, vR ra2179, vz ru2181, vz gr, vz wi, vz sz, vz fl, vz ve, vz mi, vR na, vR nl]) f_PR_18 d_PR_loop_64 hq.2.2 rfl ?_
        refine ab_iload d_PR_loop_67 rfl ?_
        refine ab_aload_n d_PR_loop_69 rfl ?_
        refine ab_getf (fs := [vz k_1, vz v_1, rg_1, vz pl_1, vz fl_1, ou_1, ls_1, bf_1, vz sz_1, vz mb_1, vz oe_1, vz le_1, vz mo_1, vz la_1, vz rc199]) f_PR_156 d_PR_loop_70 hp.2.2 rfl ?_
        refine zz_if_eq (tgt := 81) d_PR_loop_73 (by decide) (by omega) (fun c207 => ?_) (fun c207 => absurd c207 (by omega))
        refine ab_lload_n d_PR_loop_81 rfl ?_
        refine ab_callS (d' := d - 1) (as := [vj w]) (st := [vz cnt, vR ot]) (z_PR_used (o := o175) (w := w) (by omega)) (fun oc G2 h => by rcases h with ⟨h, _⟩ <;> exact ⟨_, h⟩) (by omega) m_PR_used ml_PR_124 st_PR_used (Nat.le_of_ble_eq_true rfl) d_PR_loop_82 rfl ?_
        intro v G208 hq
        rcases hq with ⟨hv, hGe⟩
        cases hv
        rw [hGe]
        change ab_W _ _ _ G203 85 [some (vR q), some (vR p), some (vj w), none, some (vz dd), some (vz cnt), some (vz (w2176 / 4294967296)), none] [vz (w % 4294967296), vz cnt, vR ot] _
        refine zz_iast d_PR_loop_85 hot (by omega) (hot.2.1 (by first | omega | exact (show 18 ≤ _ by omega))) ?_
        obtain ⟨G209, eG209⟩ : ∃ z : ab_G, z = List.set G203 ot (za 808 (zu O2184 cnt (w % 4294967296))) := ⟨_, rfl⟩
        have hq := hq.keep hot eG209 (by omega)
        have hki := hki.keep hot eG209 (by omega)
        have hne := hne.keep hot eG209 (by omega)
        have hp := hp.keep hot eG209 (by omega)
        have hra2179 := hra2179.keep hot eG209 (by omega)
        have hzr := hzr.wr hot eG209 (by omega)
        have hst := (fx.rf (o := o175) (S := [(lq + 3)]) (G := G203)).wr hot eG209 (List.mem_singleton.mpr rfl)
        have pszB_0 := szB.fr hst pszB_0 (by simp only [List.mem_cons, List.not_mem_nil, or_false]; omega) (by simp only [List.mem_cons, List.not_mem_nil, or_false]; omega)
        have ppaI_0 := paI.fr hst ppaI_0 (by simp only [List.mem_cons, List.not_mem_nil, or_false]; omega) (by simp only [List.mem_cons, List.not_mem_nil, or_false]; omega) (by simp only [List.mem_cons, List.not_mem_nil, or_false]; omega) (by intro xx hx; simp only [List.mem_cons, List.not_mem_nil, or_false] at hx; omega)
        have hq210 := z_len eG209
        have hq211 := z_sl hot eG209 rfl
        have hfr := hfr.wr hot eG209 (by simp)
        have hot := hot.kept eG209
        change ab_W _ _ _ (List.set G203 ot (za 808 (zu O2184 cnt (w % 4294967296)))) 86 [some (vR q), some (vR p), some (vj w), none, some (vz dd), some (vz cnt), some (vz (w2176 / 4294967296)), none] [] _
        rw [← eG209]
        have hp212 := prok_other (a := cnt) (x := (w % 4294967296)) hp206 (by omega) (Or.inl ((hq194 cnt (by omega) (by omega)).trans hks171))
        obtain ⟨O212, eO212⟩ : ∃ z : Int → Int, z = zu O2184 cnt (w % 4294967296) := ⟨_, rfl⟩
        have hot : cc o175 G209 ot (lq + 3) (za 808 O212) := by rw [← eO212.symm]; exact hot
        rw [← eO212] at hp212
        change ab_W _ _ _ G209 86 [some (vR q), some (vR p), some (vj w), none, some (vz dd), some (vz cnt), some (vz (w2176 / 4294967296)), none] [] _
        refine ab_lload_n d_PR_loop_86 rfl ?_
        refine ab_callS (d' := d - 1) (as := [vj w]) (st := []) (z_PR_fresh (o := o175) (w := w) (by omega)) (fun oc G2 h => by rcases h with ⟨h, _⟩ <;> exact ⟨_, h⟩) (by omega) m_PR_fresh ml_PR_96 st_PR_fresh (Nat.le_of_ble_eq_true rfl) d_PR_loop_87 rfl ?_
        intro v G213 hq
        rcases hq with ⟨hv, hGe⟩
        cases hv
        rw [hGe]
        change ab_W _ _ _ G209 90 [some (vR q), some (vR p), some (vj w), none, some (vz dd), some (vz cnt), some (vz (w2176 / 4294967296)), none] [vz (w / 4294967296)] _
        refine ab_lload_n d_PR_loop_90 rfl ?_
        refine ab_callS (d' := d - 1) (as := [vj w]) (st := [vz (w / 4294967296)]) (z_PR_used (o := o175) (w := w) (by omega)) (fun oc G2 h => by rcases h with ⟨h, _⟩ <;> exact ⟨_, h⟩) (by omega) m_PR_used ml_PR_124 st_PR_used (Nat.le_of_ble_eq_true rfl) d_PR_loop_91 rfl ?_
        intro v G214 hq
        rcases hq with ⟨hv, hGe⟩
        cases hv
        rw [hGe]
        change ab_W _ _ _ G209 94 [some (vR q), some (vR p), some (vj w), none, some (vz dd), some (vz cnt), some (vz (w2176 / 4294967296)), none] [vz (w % 4294967296), vz (w / 4294967296)] _
        refine zz_icmp_ne (tgt := 105) d_PR_loop_94 (by decide) (by omega) (by omega) (fun c215 => ?_) (fun c215 => ?_)
        · refine ab_aload_n d_PR_loop_105 rfl ?_
          refine ab_getf (fs := [vz k_1, vz v_1, rg_1, vz pl_1, vz fl_1, ou_1, ls_1, bf_1, vz sz_1, vz mb_1, vz oe_1, vz le_1, vz mo_1, vz la_1, vz rc199]) f_PR_156 d_PR_loop_106 hp.2.2 rfl ?_
          refine zz_if_eq (tgt := 127) d_PR_loop_109 (by decide) (by omega) (fun c216 => ?_) (fun c216 => absurd c216 (by omega))
          refine ab_aload_n d_PR_loop_127 rfl ?_
          refine zz_bipush d_PR_loop_128 (by decide) ?_
          refine ab_iload d_PR_loop_130 rfl ?_
          refine ab_lload_n d_PR_loop_132 rfl ?_
          refine ab_callS (d' := d - 1) (as := [vj w]) (st := [vz (w2176 / 4294967296), vz 6, vR q]) (z_PR_fresh (o := o175) (w := w) (by omega)) (fun oc G2 h => by rcases h with ⟨h, _⟩ <;> exact ⟨_, h⟩) (by omega) m_PR_fresh ml_PR_96 st_PR_fresh (Nat.le_of_ble_eq_true rfl) d_PR_loop_133 rfl ?_
          intro v G217 hq
          rcases hq with ⟨hv, hGe⟩
          cases hv
          rw [hGe]
          change ab_W _ _ _ G209 136 [some (vR q), some (vR p), some (vj w), none, some (vz dd), some (vz cnt), some (vz (w2176 / 4294967296)), none] [vz (w / 4294967296), vz (w2176 / 4294967296), vz 6, vR q] _
          refine ab_callV (d' := d - 1) (as := [vz 6, vz (w2176 / 4294967296), vz (w / 4294967296)]) (st := []) (r := _) (z_PR_add (o := o175) (q := q) (lq := lq) (ki := ki) (ne := ne) (ot := ot) (cnt := cnt2177) (fi := fi) (la := la2178) (ra := ra2179) (ru := ru2181) (gr := gr) (wi := wi) (sz := sz) (fl := fl) (ve := ve) (mi := mi) (na := na) (nl := nl) (K := K2182) (N := N206) (O := O212) (k0 := 6) (x0 := (w2176 / 4294967296)) (v0 := (w / 4294967296)) hq hki hne hot (by omega) (by omega) (by omega)) (fun oc G2 h => by rcases h with ⟨h, _⟩ | ⟨_, h, _⟩ <;> exact ⟨_, h⟩) (by omega) m_PR_add ml_PR_84 im_PR_add se_PR_add c_PR hq.2.2 (Nat.le_of_ble_eq_true rfl) d_PR_loop_136 rfl ?_
          intro v G218 hq
          rcases hq with ⟨hv, hGe, hq219⟩ | ⟨la2220, hv, hfk, hlk, hsk, hNq, hNki, hNne, hNot, hq221, hq222, hq223⟩
          · cases hv
            rw [hGe]
            change ab_W _ _ _ G209 139 [some (vR q), some (vR p), some (vj w), none, some (vz dd), some (vz cnt), some (vz (w2176 / 4294967296)), none] [vz 0] _
            refine ab_istore d_PR_loop_139 (Nat.le_of_ble_eq_true rfl) (Nat.le_of_ble_eq_true rfl) rfl ?_
            change ab_W _ _ _ G209 141 [some (vR q), some (vR p), some (vj w), none, some (vz dd), some (vz cnt), some (vz (w2176 / 4294967296)), some (vz 0)] [] _
            refine ab_iload d_PR_loop_141 rfl ?_
            refine ab_iload d_PR_loop_143 rfl ?_
            refine ab_callS (d' := d - 1) (as := [vz 0, vz cnt]) (st := []) (z_PR_pair (o := o175) (f0 := 0) (u0 := cnt) (by omega)) (fun oc G2 h => by rcases h with ⟨h, _⟩ <;> exact ⟨_, h⟩) (by omega) m_PR_pair ml_PR_88 st_PR_pair (Nat.le_of_ble_eq_true rfl) d_PR_loop_145 rfl ?_
            intro v G226 hq
            rcases hq with ⟨hv, hGe⟩
            cases hv
            rw [hGe]
            change ab_W _ _ _ G209 148 [some (vR q), some (vR p), some (vj w), none, some (vz dd), some (vz cnt), some (vz (w2176 / 4294967296)), some (vz 0)] [vj (0 * 4294967296 + cnt)] _
            refine ab_lret rfl d_PR_loop_148 ?_
            rw [hQ]; exact ⟨_, _, _, _, _, _, _, _, _, _, _, _, rfl, hfr, hq, hki, hne, hot, hra2179, ppaI_0, pszB_0, (by omega), (by omega), (by omega), (by omega), (by exact hp212), (by exact hq192), (by exact hq193), (by exact (hkx171.tr hq194 (by omega))), (by exact hzr), (by omega), (by omega), (by omega)⟩
          · cases hv
            have hzr := hzr.tr (fzr.fx hfk (by simp only [List.mem_cons, List.not_mem_nil, or_false]; omega))
            have hp := hfk.get hp (by simp only [List.mem_cons, List.not_mem_nil, or_false]; omega)
            have hra2179 := hfk.get hra2179 (by simp only [List.mem_cons, List.not_mem_nil, or_false]; omega)
            have pszB_0 := szB.fr hfk pszB_0 (by simp only [List.mem_cons, List.not_mem_nil, or_false]; omega) (by simp only [List.mem_cons, List.not_mem_nil, or_false]; omega)
            have ppaI_0 := paI.fr hfk ppaI_0 (by simp only [List.mem_cons, List.not_mem_nil, or_false]; omega) (by simp only [List.mem_cons, List.not_mem_nil, or_false]; omega) (by simp only [List.mem_cons, List.not_mem_nil, or_false]; omega) (by intro xx hx; simp only [List.mem_cons, List.not_mem_nil, or_false] at hx; omega)
            have hfr := hfr.tr hfk (by simp)
            have hq224 := hlk
            have hq225 := hsk
            have hq := hNq
            have hki := hNki
            have hne := hNne
            have hot := hNot
            change ab_W _ _ _ G218 139 [some (vR q), some (vR p), some (vj w), none, some (vz dd), some (vz cnt), some (vz (w2176 / 4294967296)), none] [vz cnt2177] _
            have hp227 := prok_add (k := 6) (x := (w2176 / 4294967296)) (v := (w / 4294967296)) hp212 (by omega) (by omega) (by omega) (by omega) (by omega) (fun t => by omega) (fun t => absurd t (by decide)) (fun t => absurd t (by decide)) (fun t => absurd t (by decide)) (fun t => absurd t (by decide))
            obtain ⟨K227, eK227⟩ : ∃ z : Int → Int, z = zu K2182 cnt2177 6 := ⟨_, rfl⟩
            have hki : cc o175 G218 ki (lq + 1) (za 808 K227) := by rw [← eK227.symm]; exact hki
            obtain ⟨N227, eN227⟩ : ∃ z : Int → Int, z = zu N206 cnt2177 (w2176 / 4294967296) := ⟨_, rfl⟩
            have hne : cc o175 G218 ne (lq + 2) (za 808 N227) := by rw [← eN227.symm]; exact hne
            obtain ⟨O227, eO227⟩ : ∃ z : Int → Int, z = zu O212 cnt2177 (w / 4294967296) := ⟨_, rfl⟩
            have hot : cc o175 G218 ot (lq + 3) (za 808 O227) := by rw [← eO227.symm]; exact hot
            rw [← eK227, ← eN227, ← eO227] at hp227
            have hkx227 : kext K2182 K227 cnt2177 := by rw [eK227]; exact kext.zu (Int.le_refl _)
            have hks227 : K227 cnt2177 = 6 := by rw [eK227]; exact zu_self _ _ _
            change ab_W _ _ _ G218 139 [some (vR q), some (vR p), some (vj w), none, some (vz dd), some (vz cnt), some (vz (w2176 / 4294967296)), none] [vz cnt2177] _
            refine ab_istore d_PR_loop_139 (Nat.le_of_ble_eq_true rfl) (Nat.le_of_ble_eq_true rfl) rfl ?_
            change ab_W _ _ _ G218 141 [some (vR q), some (vR p), some (vj w), none, some (vz dd), some (vz cnt), some (vz (w2176 / 4294967296)), some (vz cnt2177)] [] _
            refine ab_iload d_PR_loop_141 rfl ?_
            refine ab_iload d_PR_loop_143 rfl ?_
            refine ab_callS (d' := d - 1) (as := [vz cnt2177, vz cnt]) (st := []) (z_PR_pair (o := o175) (f0 := cnt2177) (u0 := cnt) (by omega)) (fun oc G2 h => by rcases h with ⟨h, _⟩ <;> exact ⟨_, h⟩) (by omega) m_PR_pair ml_PR_88 st_PR_pair (Nat.le_of_ble_eq_true rfl) d_PR_loop_145 rfl ?_
            intro v G228 hq
            rcases hq with ⟨hv, hGe⟩
            cases hv
            rw [hGe]
            change ab_W _ _ _ G218 148 [some (vR q), some (vR p), some (vj w), none, some (vz dd), some (vz cnt), some (vz (w2176 / 4294967296)), some (vz cnt2177)] [vj (cnt2177 * 4294967296 + cnt)] _
            refine ab_lret rfl d_PR_loop_148 ?_
            rw [hQ]; exact ⟨_, _, _, _, _, _, _, _, _, _, _, _, rfl, hfr, hq, hki, hne, hot, hra2179, ppaI_0, pszB_0, (by omega), (by omega), (by omega), (by omega), (by exact hp227), (by exact hq192), (by exact hq193), (by exact ((hkx171.tr hq194 (by omega)).tr hkx227 (by omega))), (by exact hzr), (by omega), (by omega), (by omega)⟩
        · refine ab_iload d_PR_loop_97 rfl ?_
          refine ab_iload d_PR_loop_99 rfl ?_
          refine ab_callS (d' := d - 1) (as := [vz cnt, vz cnt]) (st := []) (z_PR_pair (o := o175) (f0 := cnt) (u0 := cnt) (by omega)) (fun oc G2 h => by rcases h with ⟨h, _⟩ <;> exact ⟨_, h⟩) (by omega) m_PR_pair ml_PR_88 st_PR_pair (Nat.le_of_ble_eq_true rfl) d_PR_loop_101 rfl ?_
          intro v G229 hq
          rcases hq with ⟨hv, hGe⟩
          cases hv
          rw [hGe]
          change ab_W _ _ _ G209 104 [some (vR q), some (vR p), some (vj w), none, some (vz dd), some (vz cnt), some (vz (w2176 / 4294967296)), none] [vj (cnt * 4294967296 + cnt)] _
          refine ab_lret rfl d_PR_loop_104 ?_
          rw [hQ]; exact ⟨_, _, _, _, _, _, _, _, _, _, _, _, rfl, hfr, hq, hki, hne, hot, hra2179, ppaI_0, pszB_0, (by omega), (by omega), (by omega), (by omega), (by exact hp212), (by exact hq192), (by exact hq193), (by exact (hkx171.tr hq194 (by omega))), (by exact hzr), (by omega), (by omega), (by omega)⟩
      · refine ab_lload_n d_PR_loop_53 rfl ?_
        refine ab_callS (d' := d - 1) (as := [vj w]) (st := [vz cnt, vR ne]) (z_PR_used (o := o175) (w := w) (by omega)) (fun oc G2 h => by rcases h with ⟨h, _⟩ <;> exact ⟨_, h⟩) (by omega) m_PR_used ml_PR_124 st_PR_used (Nat.le_of_ble_eq_true rfl) d_PR_loop_54 rfl ?_
        intro v G230 hq
        rcases hq with ⟨hv, hGe⟩
        cases hv
        rw [hGe]
        change ab_W _ _ _ G174 57 [some (vR q), some (vR p), some (vj w), none, some (vz dd), some (vz cnt), some (vz (w2176 / 4294967296)), none] [vz (w % 4294967296), vz cnt, vR ne] _
        refine ab_goto (tgt := 62) d_PR_loop_57 (by decide) ?_
        refine zz_iast d_PR_loop_62 hne (by omega) (hne.2.1 (by first | omega | exact (show 18 ≤ _ by omega))) ?_
        obtain ⟨G231, eG231⟩ : ∃ z : ab_G, z = List.set G174 ne (za 808 (zu N2183 cnt (w % 4294967296))) := ⟨_, rfl⟩
        have hq := hq.keep hne eG231 (by omega)
        have hki := hki.keep hne eG231 (by omega)
        have hot := hot.keep hne eG231 (by omega)
        have hp := hp.keep hne eG231 (by omega)
        have hra2179 := hra2179.keep hne eG231 (by omega)
        have hzr := hzr.wr hne eG231 (by omega)
        have hst := (fx.rf (o := o175) (S := [(lq + 2)]) (G := G174)).wr hne eG231 (List.mem_singleton.mpr rfl)
        have pszB_0 := szB.fr hst pszB_0 (by simp only [List.mem_cons, List.not_mem_nil, or_false]; omega) (by simp only [List.mem_cons, List.not_mem_nil, or_false]; omega)
        have ppaI_0 := paI.fr hst ppaI_0 (by simp only [List.mem_cons, List.not_mem_nil, or_false]; omega) (by simp only [List.mem_cons, List.not_mem_nil, or_false]; omega) (by simp only [List.mem_cons, List.not_mem_nil, or_false]; omega) (by intro xx hx; simp only [List.mem_cons, List.not_mem_nil, or_false] at hx; omega)
        have hq232 := z_len eG231
        have hq233 := z_sl hne eG231 rfl
        have hfr := hfr.wr hne eG231 (by simp)
        have hne := hne.kept eG231
        change ab_W _ _ _ (List.set G174 ne (za 808 (zu N2183 cnt (w % 4294967296)))) 63 [some (vR q), some (vR p), some (vj w), none, some (vz dd), some (vz cnt), some (vz (w2176 / 4294967296)), none] [] _
        rw [← eG231]
        have hp234 := prok_next (a := cnt) (x := (w % 4294967296)) hq191 (by omega)
        obtain ⟨N234, eN234⟩ : ∃ z : Int → Int, z = zu N2183 cnt (w % 4294967296) := ⟨_, rfl⟩
        have hne : cc o175 G231 ne (lq + 2) (za 808 N234) := by rw [← eN234.symm]; exact hne
        rw [← eN234] at hp234
        change ab_W _ _ _ G231 63 [some (vR q), some (vR p), some (vj w), none, some (vz dd), some (vz cnt), some (vz (w2176 / 4294967296)), none] [] _
        refine ab_aload_n d_PR_loop_63 rfl ?_
        refine ab_getf (fs := [vR ki, vR ne, vR ot, vz cnt2177, vz fi, vz la2178, vR ra2179, vz ru2181, vz gr, vz wi, vz sz, vz fl, vz ve, vz mi, vR na, vR nl]) f_PR_18 d_PR_loop_64 hq.2.2 rfl ?_
        refine ab_iload d_PR_loop_67 rfl ?_
        refine ab_aload_n d_PR_loop_69 rfl ?_
        refine ab_getf (fs := [vz k_1, vz v_1, rg_1, vz pl_1, vz fl_1, ou_1, ls_1, bf_1, vz sz_1, vz mb_1, vz oe_1, vz le_1, vz mo_1, vz la_1, vz rc199]) f_PR_156 d_PR_loop_70 hp.2.2 rfl ?_
        refine zz_if_eq (tgt := 81) d_PR_loop_73 (by decide) (by omega) (fun c235 => absurd c235 (by omega)) (fun c235 => ?_)
        refine ab_iload d_PR_loop_76 rfl ?_
        refine ab_goto (tgt := 85) d_PR_loop_78 (by decide) ?_
        refine zz_iast d_PR_loop_85 hot (by omega) (hot.2.1 (by first | omega | exact (show 18 ≤ _ by omega))) ?_
        obtain ⟨G236, eG236⟩ : ∃ z : ab_G, z = List.set G231 ot (za 808 (zu O2184 cnt (w2176 / 4294967296))) := ⟨_, rfl⟩
        have hq := hq.keep hot eG236 (by omega)
        have hki := hki.keep hot eG236 (by omega)
        have hne := hne.keep hot eG236 (by omega)
        have hp := hp.keep hot eG236 (by omega)
        have hra2179 := hra2179.keep hot eG236 (by omega)
        have hzr := hzr.wr hot eG236 (by omega)
        have hst := (fx.rf (o := o175) (S := [(lq + 3)]) (G := G231)).wr hot eG236 (List.mem_singleton.mpr rfl)
        have pszB_0 := szB.fr hst pszB_0 (by simp only [List.mem_cons, List.not_mem_nil, or_false]; omega) (by simp only [List.mem_cons, List.not_mem_nil, or_false]; omega)
        have ppaI_0 := paI.fr hst ppaI_0 (by simp only [List.mem_cons, List.not_mem_nil, or_false]; omega) (by simp only [List.mem_cons, List.not_mem_nil, or_false]; omega) (by simp only [List.mem_cons, List.not_mem_nil, or_false]; omega) (by intro xx hx; simp only [List.mem_cons, List.not_mem_nil, or_false] at hx; omega)
        have hq237 := z_len eG236
        have hq238 := z_sl hot eG236 rfl
        have hfr := hfr.wr hot eG236 (by simp)
        have hot := hot.kept eG236
        change ab_W _ _ _ (List.set G231 ot (za 808 (zu O2184 cnt (w2176 / 4294967296)))) 86 [some (vR q), some (vR p), some (vj w), none, some (vz dd), some (vz cnt), some (vz (w2176 / 4294967296)), none] [] _
        rw [← eG236]
        have hp239 := prok_other (a := cnt) (x := (w2176 / 4294967296)) hp234 (by omega) (Or.inl ((hq194 cnt (by omega) (by omega)).trans hks171))
        obtain ⟨O239, eO239⟩ : ∃ z : Int → Int, z = zu O2184 cnt (w2176 / 4294967296) := ⟨_, rfl⟩
        have hot : cc o175 G236 ot (lq + 3) (za 808 O239) := by rw [← eO239.symm]; exact hot
        rw [← eO239] at hp239
        change ab_W _ _ _ G236 86 [some (vR q), some (vR p), some (vj w), none, some (vz dd), some (vz cnt), some (vz (w2176 / 4294967296)), none] [] _
        refine ab_lload_n d_PR_loop_86 rfl ?_
        refine ab_callS (d' := d - 1) (as := [vj w]) (st := []) (z_PR_fresh (o := o175) (w := w) (by omega)) (fun oc G2 h => by rcases h with ⟨h, _⟩ <;> exact ⟨_, h⟩) (by omega) m_PR_fresh ml_PR_96 st_PR_fresh (Nat.le_of_ble_eq_true rfl) d_PR_loop_87 rfl ?_
        intro v G240 hq
        rcases hq with ⟨hv, hGe⟩
        cases hv
        rw [hGe]
        change ab_W _ _ _ G236 90 [some (vR q), some (vR p), some (vj w), none, some (vz dd), some (vz cnt), some (vz (w2176 / 4294967296)), none] [vz (w / 4294967296)] _
        refine ab_lload_n d_PR_loop_90 rfl ?_
        refine ab_callS (d' := d - 1) (as := [vj w]) (st := [vz (w / 4294967296)]) (z_PR_used (o := o175) (w := w) (by omega)) (fun oc G2 h => by rcases h with ⟨h, _⟩ <;> exact ⟨_, h⟩) (by omega) m_PR_used ml_PR_124 st_PR_used (Nat.le_of_ble_eq_true rfl) d_PR_loop_91 rfl ?_
        intro v G241 hq
        rcases hq with ⟨hv, hGe⟩
        cases hv
        rw [hGe]
        change ab_W _ _ _ G236 94 [some (vR q), some (vR p), some (vj w), none, some (vz dd), some (vz cnt), some (vz (w2176 / 4294967296)), none] [vz (w % 4294967296), vz (w / 4294967296)] _
        refine zz_icmp_ne (tgt := 105) d_PR_loop_94 (by decide) (by omega) (by omega) (fun c242 => ?_) (fun c242 => ?_)
        · refine ab_aload_n d_PR_loop_105 rfl ?_
          refine ab_getf (fs := [vz k_1, vz v_1, rg_1, vz pl_1, vz fl_1, ou_1, ls_1, bf_1, vz sz_1, vz mb_1, vz oe_1, vz le_1, vz mo_1, vz la_1, vz rc199]) f_PR_156 d_PR_loop_106 hp.2.2 rfl ?_
          refine zz_if_eq (tgt := 127) d_PR_loop_109 (by decide) (by omega) (fun c243 => absurd c243 (by omega)) (fun c243 => ?_)
          refine ab_aload_n d_PR_loop_112 rfl ?_
          refine zz_bipush d_PR_loop_113 (by decide) ?_
          refine ab_lload_n d_PR_loop_115 rfl ?_
          refine ab_callS (d' := d - 1) (as := [vj w]) (st := [vz 6, vR q]) (z_PR_fresh (o := o175) (w := w) (by omega)) (fun oc G2 h => by rcases h with ⟨h, _⟩ <;> exact ⟨_, h⟩) (by omega) m_PR_fresh ml_PR_96 st_PR_fresh (Nat.le_of_ble_eq_true rfl) d_PR_loop_116 rfl ?_
          intro v G244 hq
          rcases hq with ⟨hv, hGe⟩
          cases hv
          rw [hGe]
          change ab_W _ _ _ G236 119 [some (vR q), some (vR p), some (vj w), none, some (vz dd), some (vz cnt), some (vz (w2176 / 4294967296)), none] [vz (w / 4294967296), vz 6, vR q] _
          refine ab_iload d_PR_loop_119 rfl ?_
          refine ab_callV (d' := d - 1) (as := [vz 6, vz (w / 4294967296), vz (w2176 / 4294967296)]) (st := []) (r := _) (z_PR_add (o := o175) (q := q) (lq := lq) (ki := ki) (ne := ne) (ot := ot) (cnt := cnt2177) (fi := fi) (la := la2178) (ra := ra2179) (ru := ru2181) (gr := gr) (wi := wi) (sz := sz) (fl := fl) (ve := ve) (mi := mi) (na := na) (nl := nl) (K := K2182) (N := N234) (O := O239) (k0 := 6) (x0 := (w / 4294967296)) (v0 := (w2176 / 4294967296)) hq hki hne hot (by omega) (by omega) (by omega)) (fun oc G2 h => by rcases h with ⟨h, _⟩ | ⟨_, h, _⟩ <;> exact ⟨_, h⟩) (by omega) m_PR_add ml_PR_84 im_PR_add se_PR_add c_PR hq.2.2 (Nat.le_of_ble_eq_true rfl) d_PR_loop_121 rfl ?_
          intro v G245 hq
          rcases hq with ⟨hv, hGe, hq246⟩ | ⟨la2247, hv, hfk, hlk, hsk, hNq, hNki, hNne, hNot, hq248, hq249, hq250⟩
          · cases hv
            rw [hGe]
            change ab_W _ _ _ G236 124 [some (vR q), some (vR p), some (vj w), none, some (vz dd), some (vz cnt), some (vz (w2176 / 4294967296)), none] [vz 0] _
            refine ab_goto (tgt := 139) d_PR_loop_124 (by decide) ?_
            refine ab_istore d_PR_loop_139 (Nat.le_of_ble_eq_true rfl) (Nat.le_of_ble_eq_true rfl) rfl ?_
            change ab_W _ _ _ G236 141 [some (vR q), some (vR p), some (vj w), none, some (vz dd), some (vz cnt), some (vz (w2176 / 4294967296)), some (vz 0)] [] _
            refine ab_iload d_PR_loop_141 rfl ?_
            refine ab_iload d_PR_loop_143 rfl ?_
            refine ab_callS (d' := d - 1) (as := [vz 0, vz cnt]) (st := []) (z_PR_pair (o := o175) (f0 := 0) (u0 := cnt) (by omega)) (fun oc G2 h => by rcases h with ⟨h, _⟩ <;> exact ⟨_, h⟩) (by omega) m_PR_pair ml_PR_88 st_PR_pair (Nat.le_of_ble_eq_true rfl) d_PR_loop_145 rfl ?_
            intro v G253 hq
            rcases hq with ⟨hv, hGe⟩
            cases hv
            rw [hGe]
            change ab_W _ _ _ G236 148 [some (vR q), some (vR p), some (vj w), none, some (vz dd), some (vz cnt), some (vz (w2176 / 4294967296)), some (vz 0)] [vj (0 * 4294967296 + cnt)] _
            refine ab_lret rfl d_PR_loop_148 ?_
            rw [hQ]; exact ⟨_, _, _, _, _, _, _, _, _, _, _, _, rfl, hfr, hq, hki, hne, hot, hra2179, ppaI_0, pszB_0, (by omega), (by omega), (by omega), (by omega), (by exact hp239), (by exact hq192), (by exact hq193), (by exact (hkx171.tr hq194 (by omega))), (by exact hzr), (by omega), (by omega), (by omega)⟩
          · cases hv
            have hzr := hzr.tr (fzr.fx hfk (by simp only [List.mem_cons, List.not_mem_nil, or_false]; omega))
            have hp := hfk.get hp (by simp only [List.mem_cons, List.not_mem_nil, or_false]; omega)
            have hra2179 := hfk.get hra2179 (by simp only [List.mem_cons, List.not_mem_nil, or_false]; omega)
            have pszB_0 := szB.fr hfk pszB_0 (by simp only [List.mem_cons, List.not_mem_nil, or_false]; omega) (by simp only [List.mem_cons, List.not_mem_nil, or_false]; omega)
            have ppaI_0 := paI.fr hfk ppaI_0 (by simp only [List.mem_cons, List.not_mem_nil, or_false]; omega) (by simp only [List.mem_cons, List.not_mem_nil, or_false]; omega) (by simp only [List.mem_cons, List.not_mem_nil, or_false]; omega) (by intro xx hx; simp only [List.mem_cons, List.not_mem_nil, or_false] at hx; omega)
            have hfr := hfr.tr hfk (by simp)
            have hq251 := hlk
            have hq252 := hsk
            have hq := hNq
            have hki := hNki
            have hne := hNne
            have hot := hNot
            change ab_W _ _ _ G245 124 [some (vR q), some (vR p), some (vj w), none, some (vz dd), some (vz cnt), some (vz (w2176 / 4294967296)), none] [vz cnt2177] _
            have hp254 := prok_add (k := 6) (x := (w / 4294967296)) (v := (w2176 / 4294967296)) hp239 (by omega) (by omega) (by omega) (by omega) (by omega) (fun t => by omega) (fun t => absurd t (by decide)) (fun t => absurd t (by decide)) (fun t => absurd t (by decide)) (fun t => absurd t (by decide))
            obtain ⟨K254, eK254⟩ : ∃ z : Int → Int, z = zu K2182 cnt2177 6 := ⟨_, rfl⟩
            have hki : cc o175 G245 ki (lq + 1) (za 808 K254) := by rw [← eK254.symm]; exact hki
            obtain ⟨N254, eN254⟩ : ∃ z : Int → Int, z = zu N234 cnt2177 (w / 4294967296) := ⟨_, rfl⟩
            have hne : cc o175 G245 ne (lq + 2) (za 808 N254) := by rw [← eN254.symm]; exact hne
            obtain ⟨O254, eO254⟩ : ∃ z : Int → Int, z = zu O239 cnt2177 (w2176 / 4294967296) := ⟨_, rfl⟩
            have hot : cc o175 G245 ot (lq + 3) (za 808 O254) := by rw [← eO254.symm]; exact hot
            rw [← eK254, ← eN254, ← eO254] at hp254
            have hkx254 : kext K2182 K254 cnt2177 := by rw [eK254]; exact kext.zu (Int.le_refl _)
            have hks254 : K254 cnt2177 = 6 := by rw [eK254]; exact zu_self _ _ _
            change ab_W _ _ _ G245 124 [some (vR q), some (vR p), some (vj w), none, some (vz dd), some (vz cnt), some (vz (w2176 / 4294967296)), none] [vz cnt2177] _
            refine ab_goto (tgt := 139) d_PR_loop_124 (by decide) ?_
            refine ab_istore d_PR_loop_139 (Nat.le_of_ble_eq_true rfl) (Nat.le_of_ble_eq_true rfl) rfl ?_
            change ab_W _ _ _ G245 141 [some (vR q), some (vR p), some (vj w), none, some (vz dd), some (vz cnt), some (vz (w2176 / 4294967296)), some (vz cnt2177)] [] _
            refine ab_iload d_PR_loop_141 rfl ?_
            refine ab_iload d_PR_loop_143 rfl ?_
            refine ab_callS (d' := d - 1) (as := [vz cnt2177, vz cnt]) (st := []) (z_PR_pair (o := o175) (f0 := cnt2177) (u0 := cnt) (by omega)) (fun oc G2 h => by rcases h with ⟨h, _⟩ <;> exact ⟨_, h⟩) (by omega) m_PR_pair ml_PR_88 st_PR_pair (Nat.le_of_ble_eq_true rfl) d_PR_loop_145 rfl ?_
            intro v G255 hq
            rcases hq with ⟨hv, hGe⟩
            cases hv
            rw [hGe]
            change ab_W _ _ _ G245 148 [some (vR q), some (vR p), some (vj w), none, some (vz dd), some (vz cnt), some (vz (w2176 / 4294967296)), some (vz cnt2177)] [vj (cnt2177 * 4294967296 + cnt)] _
            refine ab_lret rfl d_PR_loop_148 ?_
            rw [hQ]; exact ⟨_, _, _, _, _, _, _, _, _, _, _, _, rfl, hfr, hq, hki, hne, hot, hra2179, ppaI_0, pszB_0, (by omega), (by omega), (by omega), (by omega), (by exact hp254), (by exact hq192), (by exact hq193), (by exact ((hkx171.tr hq194 (by omega)).tr hkx254 (by omega))), (by exact hzr), (by omega), (by omega), (by omega)⟩
        · refine ab_iload d_PR_loop_97 rfl ?_
          refine ab_iload d_PR_loop_99 rfl ?_
          refine ab_callS (d' := d - 1) (as := [vz cnt, vz cnt]) (st := []) (z_PR_pair (o := o175) (f0 := cnt) (u0 := cnt) (by omega)) (fun oc G2 h => by rcases h with ⟨h, _⟩ <;> exact ⟨_, h⟩) (by omega) m_PR_pair ml_PR_88 st_PR_pair (Nat.le_of_ble_eq_true rfl) d_PR_loop_101 rfl ?_
          intro v G256 hq
          rcases hq with ⟨hv, hGe⟩
          cases hv
          rw [hGe]
          change ab_W _ _ _ G236 104 [some (vR q), some (vR p), some (vj w), none, some (vz dd), some (vz cnt), some (vz (w2176 / 4294967296)), none] [vj (cnt * 4294967296 + cnt)] _
          refine ab_lret rfl d_PR_loop_104 ?_
          rw [hQ]; exact ⟨_, _, _, _, _, _, _, _, _, _, _, _, rfl, hfr, hq, hki, hne, hot, hra2179, ppaI_0, pszB_0, (by omega), (by omega), (by omega), (by omega), (by exact hp239), (by exact hq192), (by exact hq193), (by exact (hkx171.tr hq194 (by omega))), (by exact hzr), (by omega), (by omega), (by omega)⟩
    · refine zz_iconst d_PR_loop_19 ?_
      refine ab_goto (tgt := 25) d_PR_loop_20 (by decide) ?_
      refine ab_iload d_PR_loop_25 rfl ?_
      refine ab_callS (d' := d - 1) (as := [vz 0, vz cnt]) (st := [vR p, vR q]) (z_PR_pair (o := o) (f0 := 0) (u0 := cnt) (by omega)) (fun oc G2 h => by rcases h with ⟨h, _⟩ <;> exact ⟨_, h⟩) (by omega) m_PR_pair ml_PR_88 st_PR_pair (Nat.le_of_ble_eq_true rfl) d_PR_loop_27 rfl ?_
      intro v G257 hq
      rcases hq with ⟨hv, hGe⟩
      cases hv
      rw [hGe]
      change ab_W _ _ _ G2 30 [some (vR q), some (vR p), some (vj w), none, some (vz dd), some (vz cnt), none, none] [vj (0 * 4294967296 + cnt), vR p, vR q] _
      refine ab_iload d_PR_loop_30 rfl ?_
      refine ab_callV (d' := d - 1) (as := [vR p, vj (0 * 4294967296 + cnt), vz dd]) (st := []) (r := _) (z_PR_once (o := o) (q := q) (lq := lq) (ki := ki) (ne := ne) (ot := ot) (cnt := (cnt + 1)) (fi := fi) (la := la24) (ra := ra) (ru := ru) (gr := gr) (wi := wi) (sz := sz) (fl := fl) (ve := ve) (mi := mi) (na := na) (nl := nl) (K := K171) (N := N171) (O := O171) (RR := RR) (nr := nr) (ps := ps) (wt := wt) (bs := bs) (ph := ph) (gq := gq) (p := p) (w := (0 * 4294967296 + cnt)) (dd := dd) (cu := cu) (bq := bq) hq hki hne hot hra ppaI_0 pszB_0 (by omega) (by omega) hp171 hch hr ((hkx171 0 (by omega) (by omega)).trans ck0) (by omega) hpp (by omega) (by omega) (by omega) (by omega) (by omega) (bqo_c hp (by omega) (by omega) hbe_) ihR) (fun oc G2 h => by rcases h with ⟨_, _, _, _, _, _, _, _, _, _, _, _, h, _⟩ <;> exact ⟨_, h⟩) (by omega) m_PR_once ml_PR_153 im_PR_once se_PR_once c_PR hq.2.2 (Nat.le_of_ble_eq_true rfl) d_PR_loop_32 rfl ?_
      intro v G258 hq
      rcases hq with ⟨o259, w2260, cnt2261, la2262, ra2263, nr2264, ru2265, K2266, N2267, O2268, RR2269, ph2270, hv, hfk, hNq, hNki, hNne, hNot, hNra2263, pNpaI_0, pNszB_0, hq271, hq272, hq273, hq274, hq275, hq276, hq277, hq278, hq279, hq280, hq281, hq282⟩
      cases hv
      have hzr := hzr.tr hq279
      obtain ⟨rc283, hKp⟩ := hq279 _ _ _ _ _ _ _ _ _ _ _ _ _ _ _ _ hpp hp
      have hp := hKp
      have ppaI_0 := pNpaI_0
      have pszB_0 := pNszB_0
      have hfr := hfr.tr hfk (by simp)
      have hq284 := hfk.1
      have hq := hNq
      have hki := hNki
      have hne := hNne
      have hot := hNot
      have hra2263 := hNra2263
      change ab_W _ _ _ G258 35 [some (vR q), some (vR p), some (vj w), none, some (vz dd), some (vz cnt), none, none] [vj w2260] _
      refine ab_callS (d' := d - 1) (as := [vj w2260]) (st := []) (z_PR_fresh (o := o259) (w := w2260) (by omega)) (fun oc G2 h => by rcases h with ⟨h, _⟩ <;> exact ⟨_, h⟩) (by omega) m_PR_fresh ml_PR_96 st_PR_fresh (Nat.le_of_ble_eq_true rfl) d_PR_loop_35 rfl ?_
      intro v G285 hq
      rcases hq with ⟨hv, hGe⟩
      cases hv
      rw [hGe]
      change ab_W _ _ _ G258 38 [some (vR q), some (vR p), some (vj w), none, some (vz dd), some (vz cnt), none, none] [vz (w2260 / 4294967296)] _
      refine ab_istore d_PR_loop_38 (Nat.le_of_ble_eq_true rfl) (Nat.le_of_ble_eq_true rfl) rfl ?_
      change ab_W _ _ _ G258 40 [some (vR q), some (vR p), some (vj w), none, some (vz dd), some (vz cnt), some (vz (w2260 / 4294967296)), none] [] _
      refine ab_aload_n d_PR_loop_40 rfl ?_
      refine ab_getf (fs := [vR ki, vR ne, vR ot, vz cnt2261, vz fi, vz la2262, vR ra2263, vz ru2265, vz gr, vz wi, vz sz, vz fl, vz ve, vz mi, vR na, vR nl]) f_PR_15 d_PR_loop_41 hq.2.2 rfl ?_
      refine ab_iload d_PR_loop_44 rfl ?_
      refine ab_aload_n d_PR_loop_46 rfl ?_
      refine ab_getf (fs := [vz k_1, vz v_1, rg_1, vz pl_1, vz fl_1, ou_1, ls_1, bf_1, vz sz_1, vz mb_1, vz oe_1, vz le_1, vz mo_1, vz la_1, vz rc283]) f_PR_156 d_PR_loop_47 hp.2.2 rfl ?_
      refine zz_if_eq (tgt := 60) d_PR_loop_50 (by decide) (by omega) (fun c286 => ?_) (fun c286 => ?_)
      · refine ab_iload d_PR_loop_60 rfl ?_
        refine zz_iast d_PR_loop_62 hne (by omega) (hne.2.1 (by first | omega | exact (show 18 ≤ _ by omega))) ?_
        obtain ⟨G287, eG287⟩ : ∃ z : ab_G, z = List.set G258 ne (za 808 (zu N2267 cnt (w2260 / 4294967296))) := ⟨_, rfl⟩
        have hq := hq.keep hne eG287 (by omega)
        have hki := hki.keep hne eG287 (by omega)
        have hot := hot.keep hne eG287 (by omega)
        have hp := hp.keep hne eG287 (by omega)
        have hra2263 := hra2263.keep hne eG287 (by omega)
        have hzr := hzr.wr hne eG287 (by omega)
        have hst := (fx.rf (o := o259) (S := [(lq + 2)]) (G := G258)).wr hne eG287 (List.mem_singleton.mpr rfl)
        have pszB_0 := szB.fr hst pszB_0 (by simp only [List.mem_cons, List.not_mem_nil, or_false]; omega) (by simp only [List.mem_cons, List.not_mem_nil, or_false]; omega)
        have ppaI_0 := paI.fr hst ppaI_0 (by simp only [List.mem_cons, List.not_mem_nil, or_false]; omega) (by simp only [List.mem_cons, List.not_mem_nil, or_false]; omega) (by simp only [List.mem_cons, List.not_mem_nil, or_false]; omega) (by intro xx hx; simp only [List.mem_cons, List.not_mem_nil, or_false] at hx; omega)
        have hq288 := z_len eG287
        have hq289 := z_sl hne eG287 rfl
        have hfr := hfr.wr hne eG287 (by simp)
        have hne := hne.kept eG287
        change ab_W _ _ _ (List.set G258 ne (za 808 (zu N2267 cnt (w2260 / 4294967296)))) 63 [some (vR q), some (vR p), some (vj w), none, some (vz dd), some (vz cnt), some (vz (w2260 / 4294967296)), none] [] _
        rw [← eG287]
        have hp290 := prok_next (a := cnt) (x := (w2260 / 4294967296)) hq275 (by omega)
        obtain ⟨N290, eN290⟩ : ∃ z : Int → Int, z = zu N2267 cnt (w2260 / 4294967296) := ⟨_, rfl⟩
        have hne : cc o259 G287 ne (lq + 2) (za 808 N290) := by rw [← eN290.symm]; exact hne
        rw [← eN290] at hp290
        change ab_W _ _ _ G287 63 [some (vR q), some (vR p), some (vj w), none, some (vz dd), some (vz cnt), some (vz (w2260 / 4294967296)), none] [] _
        refine ab_aload_n d_PR_loop_63 rfl ?_
        refine ab_getf (fs := [vR ki, vR ne, vR ot, vz cnt2261, vz fi, vz la2262, vR ra2263, vz ru2265, vz gr, vz wi, vz sz, vz fl, vz ve, vz mi, vR na, vR nl]) f_PR_18 d_PR_loop_64 hq.2.2 rfl ?_
        refine ab_iload d_PR_loop_67 rfl ?_
        refine ab_aload_n d_PR_loop_69 rfl ?_
        refine ab_getf (fs := [vz k_1, vz v_1, rg_1, vz pl_1, vz fl_1, ou_1, ls_1, bf_1, vz sz_1, vz mb_1, vz oe_1, vz le_1, vz mo_1, vz la_1, vz rc283]) f_PR_156 d_PR_loop_70 hp.2.2 rfl ?_
        refine zz_if_eq (tgt := 81) d_PR_loop_73 (by decide) (by omega) (fun c291 => ?_) (fun c291 => absurd c291 (by omega))
        refine ab_lload_n d_PR_loop_81 rfl ?_
        refine ab_callS (d' := d - 1) (as := [vj w]) (st := [vz cnt, vR ot]) (z_PR_used (o := o259) (w := w) (by omega)) (fun oc G2 h => by rcases h with ⟨h, _⟩ <;> exact ⟨_, h⟩) (by omega) m_PR_used ml_PR_124 st_PR_used (Nat.le_of_ble_eq_true rfl) d_PR_loop_82 rfl ?_
        intro v G292 hq
        rcases hq with ⟨hv, hGe⟩
        cases hv
        rw [hGe]
        change ab_W _ _ _ G287 85 [some (vR q), some (vR p), some (vj w), none, some (vz dd), some (vz cnt), some (vz (w2260 / 4294967296)), none] [vz (w % 4294967296), vz cnt, vR ot] _
        refine zz_iast d_PR_loop_85 hot (by omega) (hot.2.1 (by first | omega | exact (show 18 ≤ _ by omega))) ?_
        obtain ⟨G293, eG293⟩ : ∃ z : ab_G, z = List.set G287 ot (za 808 (zu O2268 cnt (w % 4294967296))) := ⟨_, rfl⟩
        have hq := hq.keep hot eG293 (by omega)
        have hki := hki.keep hot eG293 (by omega)
        have hne := hne.keep hot eG293 (by omega)
        have hp := hp.keep hot eG293 (by omega)
        have hra2263 := hra2263.keep hot eG293 (by omega)
        have hzr := hzr.wr hot eG293 (by omega)
        have hst := (fx.rf (o := o259) (S := [(lq + 3)]) (G := G287)).wr hot eG293 (List.mem_singleton.mpr rfl)
        have pszB_0 := szB.fr hst pszB_0 (by simp only [List.mem_cons, List.not_mem_nil, or_false]; omega) (by simp only [List.mem_cons, List.not_mem_nil, or_false]; omega)
        have ppaI_0 := paI.fr hst ppaI_0 (by simp only [List.mem_cons, List.not_mem_nil, or_false]; omega) (by simp only [List.mem_cons, List.not_mem_nil, or_false]; omega) (by simp only [List.mem_cons, List.not_mem_nil, or_false]; omega) (by intro xx hx; simp only [List.mem_cons, List.not_mem_nil, or_false] at hx; omega)
        have hq294 := z_len eG293
        have hq295 := z_sl hot eG293 rfl
        have hfr := hfr.wr hot eG293 (by simp)
        have hot := hot.kept eG293
        change ab_W _ _ _ (List.set G287 ot (za 808 (zu O2268 cnt (w % 4294967296)))) 86 [some (vR q), some (vR p), some (vj w), none, some (vz dd), some (vz cnt), some (vz (w2260 / 4294967296)), none] [] _
        rw [← eG293]
        have hp296 := prok_other (a := cnt) (x := (w % 4294967296)) hp290 (by omega) (Or.inl ((hq278 cnt (by omega) (by omega)).trans hks171))
        obtain ⟨O296, eO296⟩ : ∃ z : Int → Int, z = zu O2268 cnt (w % 4294967296) := ⟨_, rfl⟩
        have hot : cc o259 G293 ot (lq + 3) (za 808 O296) := by rw [← eO296.symm]; exact hot
        rw [← eO296] at hp296
        change ab_W _ _ _ G293 86 [some (vR q), some (vR p), some (vj w), none, some (vz dd), some (vz cnt), some (vz (w2260 / 4294967296)), none] [] _
        refine ab_lload_n d_PR_loop_86 rfl ?_
        refine ab_callS (d' := d - 1) (as := [vj w]) (st := []) (z_PR_fresh (o := o259) (w := w) (by omega)) (fun oc G2 h => by rcases h with ⟨h, _⟩ <;> exact ⟨_, h⟩) (by omega) m_PR_fresh ml_PR_96 st_PR_fresh (Nat.le_of_ble_eq_true rfl) d_PR_loop_87 rfl ?_
        intro v G297 hq
        rcases hq with ⟨hv, hGe⟩
        cases hv
        rw [hGe]
        change ab_W _ _ _ G293 90 [some (vR q), some (vR p), some (vj w), none, some (vz dd), some (vz cnt), some (vz (w2260 / 4294967296)), none] [vz (w / 4294967296)] _
        refine ab_lload_n d_PR_loop_90 rfl ?_
        refine ab_callS (d' := d - 1) (as := [vj w]) (st := [vz (w / 4294967296)]) (z_PR_used (o := o259) (w := w) (by omega)) (fun oc G2 h => by rcases h with ⟨h, _⟩ <;> exact ⟨_, h⟩) (by omega) m_PR_used ml_PR_124 st_PR_used (Nat.le_of_ble_eq_true rfl) d_PR_loop_91 rfl ?_
        intro v G298 hq
        rcases hq with ⟨hv, hGe⟩
        cases hv
        rw [hGe]
        change ab_W _ _ _ G293 94 [some (vR q), some (vR p), some (vj w), none, some (vz dd), some (vz cnt), some (vz (w2260 / 4294967296)), none] [vz (w % 4294967296), vz (w / 4294967296)] _
        refine zz_icmp_ne (tgt := 105) d_PR_loop_94 (by decide) (by omega) (by omega) (fun c299 => ?_) (fun c299 => ?_)
        · refine ab_aload_n d_PR_loop_105 rfl ?_
          refine ab_getf (fs := [vz k_1, vz v_1, rg_1, vz pl_1, vz fl_1, ou_1, ls_1, bf_1, vz sz_1, vz mb_1, vz oe_1, vz le_1, vz mo_1, vz la_1, vz rc283]) f_PR_156 d_PR_loop_106 hp.2.2 rfl ?_
          refine zz_if_eq (tgt := 127) d_PR_loop_109 (by decide) (by omega) (fun c300 => ?_) (fun c300 => absurd c300 (by omega))
          refine ab_aload_n d_PR_loop_127 rfl ?_
          refine zz_bipush d_PR_loop_128 (by decide) ?_
          refine ab_iload d_PR_loop_130 rfl ?_
          refine ab_lload_n d_PR_loop_132 rfl ?_
          refine ab_callS (d' := d - 1) (as := [vj w]) (st := [vz (w2260 / 4294967296), vz 6, vR q]) (z_PR_fresh (o := o259) (w := w) (by omega)) (fun oc G2 h => by rcases h with ⟨h, _⟩ <;> exact ⟨_, h⟩) (by omega) m_PR_fresh ml_PR_96 st_PR_fresh (Nat.le_of_ble_eq_true rfl) d_PR_loop_133 rfl ?_
          intro v G301 hq
          rcases hq with ⟨hv, hGe⟩
          cases hv
          rw [hGe]
          change ab_W _ _ _ G293 136 [some (vR q), some (vR p), some (vj w), none, some (vz dd), some (vz cnt), some (vz (w2260 / 4294967296)), none] [vz (w / 4294967296), vz (w2260 / 4294967296), vz 6, vR q] _
          refine ab_callV (d' := d - 1) (as := [vz 6, vz (w2260 / 4294967296), vz (w / 4294967296)]) (st := []) (r := _) (z_PR_add (o := o259) (q := q) (lq := lq) (ki := ki) (ne := ne) (ot := ot) (cnt := cnt2261) (fi := fi) (la := la2262) (ra := ra2263) (ru := ru2265) (gr := gr) (wi := wi) (sz := sz) (fl := fl) (ve := ve) (mi := mi) (na := na) (nl := nl) (K := K2266) (N := N290) (O := O296) (k0 := 6) (x0 := (w2260 / 4294967296)) (v0 := (w / 4294967296)) hq hki hne hot (by omega) (by omega) (by omega)) (fun oc G2 h => by rcases h with ⟨h, _⟩ | ⟨_, h, _⟩ <;> exact ⟨_, h⟩) (by omega) m_PR_add ml_PR_84 im_PR_add se_PR_add c_PR hq.2.2 (Nat.le_of_ble_eq_true rfl) d_PR_loop_136 rfl ?_
          intro v G302 hq
          rcases hq with ⟨hv, hGe, hq303⟩ | ⟨la2304, hv, hfk, hlk, hsk, hNq, hNki, hNne, hNot, hq305, hq306, hq307⟩
          · cases hv
            rw [hGe]
            change ab_W _ _ _ G293 139 [some (vR q), some (vR p), some (vj w), none, some (vz dd), some (vz cnt), some (vz (w2260 / 4294967296)), none] [vz 0] _
            refine ab_istore d_PR_loop_139 (Nat.le_of_ble_eq_true rfl) (Nat.le_of_ble_eq_true rfl) rfl ?_
            change ab_W _ _ _ G293 141 [some (vR q), some (vR p), some (vj w), none, some (vz dd), some (vz cnt), some (vz (w2260 / 4294967296)), some (vz 0)] [] _
            refine ab_iload d_PR_loop_141 rfl ?_
            refine ab_iload d_PR_loop_143 rfl ?_
            refine ab_callS (d' := d - 1) (as := [vz 0, vz cnt]) (st := []) (z_PR_pair (o := o259) (f0 := 0) (u0 := cnt) (by omega)) (fun oc G2 h => by rcases h with ⟨h, _⟩ <;> exact ⟨_, h⟩) (by omega) m_PR_pair ml_PR_88 st_PR_pair (Nat.le_of_ble_eq_true rfl) d_PR_loop_145 rfl ?_
            intro v G310 hq
            rcases hq with ⟨hv, hGe⟩
            cases hv
            rw [hGe]
            change ab_W _ _ _ G293 148 [some (vR q), some (vR p), some (vj w), none, some (vz dd), some (vz cnt), some (vz (w2260 / 4294967296)), some (vz 0)] [vj (0 * 4294967296 + cnt)] _
            refine ab_lret rfl d_PR_loop_148 ?_
            rw [hQ]; exact ⟨_, _, _, _, _, _, _, _, _, _, _, _, rfl, hfr, hq, hki, hne, hot, hra2263, ppaI_0, pszB_0, (by omega), (by omega), (by omega), (by omega), (by exact hp296), (by exact hq276), (by exact hq277), (by exact (hkx171.tr hq278 (by omega))), (by exact hzr), (by omega), (by omega), (by omega)⟩
          · cases hv
            have hzr := hzr.tr (fzr.fx hfk (by simp only [List.mem_cons, List.not_mem_nil, or_false]; omega))
            have hp := hfk.get hp (by simp only [List.mem_cons, List.not_mem_nil, or_false]; omega)
            have hra2263 := hfk.get hra2263 (by simp only [List.mem_cons, List.not_mem_nil, or_false]; omega)
            have pszB_0 := szB.fr hfk pszB_0 (by simp only [List.mem_cons, List.not_mem_nil, or_false]; omega) (by simp only [List.mem_cons, List.not_mem_nil, or_false]; omega)
            have ppaI_0 := paI.fr hfk ppaI_0 (by simp only [List.mem_cons, List.not_mem_nil, or_false]; omega) (by simp only [List.mem_cons, List.not_mem_nil, or_false]; omega) (by simp only [List.mem_cons, List.not_mem_nil, or_false]; omega) (by intro xx hx; simp only [List.mem_cons, List.not_mem_nil, or_false] at hx; omega)
            have hfr := hfr.tr hfk (by simp)
            have hq308 := hlk
            have hq309 := hsk
            have hq := hNq
            have hki := hNki
            have hne := hNne
            have hot := hNot
            change ab_W _ _ _ G302 139 [some (vR q), some (vR p), some (vj w), none, some (vz dd), some (vz cnt), some (vz (w2260 / 4294967296)), none] [vz cnt2261] _
            have hp311 := prok_add (k := 6) (x := (w2260 / 4294967296)) (v := (w / 4294967296)) hp296 (by omega) (by omega) (by omega) (by omega) (by omega) (fun t => by omega) (fun t => absurd t (by decide)) (fun t => absurd t (by decide)) (fun t => absurd t (by decide)) (fun t => absurd t (by decide))
            obtain ⟨K311, eK311⟩ : ∃ z : Int → Int, z = zu K2266 cnt2261 6 := ⟨_, rfl⟩
            have hki : cc o259 G302 ki (lq + 1) (za 808 K311) := by rw [← eK311.symm]; exact hki
            obtain ⟨N311, eN311⟩ : ∃ z : Int → Int, z = zu N290 cnt2261 (w2260 / 4294967296) := ⟨_, rfl⟩
            have hne : cc o259 G302 ne (lq + 2) (za 808 N311) := by rw [← eN311.symm]; exact hne
            obtain ⟨O311, eO311⟩ : ∃ z : Int → Int, z = zu O296 cnt2261 (w / 4294967296) := ⟨_, rfl⟩
            have hot : cc o259 G302 ot (lq + 3) (za 808 O311) := by rw [← eO311.symm]; exact hot
            rw [← eK311, ← eN311, ← eO311] at hp311
            have hkx311 : kext K2266 K311 cnt2261 := by rw [eK311]; exact kext.zu (Int.le_refl _)
            have hks311 : K311 cnt2261 = 6 := by rw [eK311]; exact zu_self _ _ _
            change ab_W _ _ _ G302 139 [some (vR q), some (vR p), some (vj w), none, some (vz dd), some (vz cnt), some (vz (w2260 / 4294967296)), none] [vz cnt2261] _
            refine ab_istore d_PR_loop_139 (Nat.le_of_ble_eq_true rfl) (Nat.le_of_ble_eq_true rfl) rfl ?_
            change ab_W _ _ _ G302 141 [some (vR q), some (vR p), some (vj w), none, some (vz dd), some (vz cnt), some (vz (w2260 / 4294967296)), some (vz cnt2261)] [] _
            refine ab_iload d_PR_loop_141 rfl ?_
            refine ab_iload d_PR_loop_143 rfl ?_
            refine ab_callS (d' := d - 1) (as := [vz cnt2261, vz cnt]) (st := []) (z_PR_pair (o := o259) (f0 := cnt2261) (u0 := cnt) (by omega)) (fun oc G2 h => by rcases h with ⟨h, _⟩ <;> exact ⟨_, h⟩) (by omega) m_PR_pair ml_PR_88 st_PR_pair (Nat.le_of_ble_eq_true rfl) d_PR_loop_145 rfl ?_
            intro v G312 hq
            rcases hq with ⟨hv, hGe⟩
            cases hv
            rw [hGe]
            change ab_W _ _ _ G302 148 [some (vR q), some (vR p), some (vj w), none, some (vz dd), some (vz cnt), some (vz (w2260 / 4294967296)), some (vz cnt2261)] [vj (cnt2261 * 4294967296 + cnt)] _
            refine ab_lret rfl d_PR_loop_148 ?_
            rw [hQ]; exact ⟨_, _, _, _, _, _, _, _, _, _, _, _, rfl, hfr, hq, hki, hne, hot, hra2263, ppaI_0, pszB_0, (by omega), (by omega), (by omega), (by omega), (by exact hp311), (by exact hq276), (by exact hq277), (by exact ((hkx171.tr hq278 (by omega)).tr hkx311 (by omega))), (by exact hzr), (by omega), (by omega), (by omega)⟩
        · refine ab_iload d_PR_loop_97 rfl ?_
          refine ab_iload d_PR_loop_99 rfl ?_
          refine ab_callS (d' := d - 1) (as := [vz cnt, vz cnt]) (st := []) (z_PR_pair (o := o259) (f0 := cnt) (u0 := cnt) (by omega)) (fun oc G2 h => by rcases h with ⟨h, _⟩ <;> exact ⟨_, h⟩) (by omega) m_PR_pair ml_PR_88 st_PR_pair (Nat.le_of_ble_eq_true rfl) d_PR_loop_101 rfl ?_
          intro v G313 hq
          rcases hq with ⟨hv, hGe⟩
          cases hv
          rw [hGe]
          change ab_W _ _ _ G293 104 [some (vR q), some (vR p), some (vj w), none, some (vz dd), some (vz cnt), some (vz (w2260 / 4294967296)), none] [vj (cnt * 4294967296 + cnt)] _
          refine ab_lret rfl d_PR_loop_104 ?_
          rw [hQ]; exact ⟨_, _, _, _, _, _, _, _, _, _, _, _, rfl, hfr, hq, hki, hne, hot, hra2263, ppaI_0, pszB_0, (by omega), (by omega), (by omega), (by omega), (by exact hp296), (by exact hq276), (by exact hq277), (by exact (hkx171.tr hq278 (by omega))), (by exact hzr), (by omega), (by omega), (by omega)⟩
      · refine ab_lload_n d_PR_loop_53 rfl ?_
        refine ab_callS (d' := d - 1) (as := [vj w]) (st := [vz cnt, vR ne]) (z_PR_used (o := o259) (w := w) (by omega)) (fun oc G2 h => by rcases h with ⟨h, _⟩ <;> exact ⟨_, h⟩) (by omega) m_PR_used ml_PR_124 st_PR_used (Nat.le_of_ble_eq_true rfl) d_PR_loop_54 rfl ?_
        intro v G314 hq
        rcases hq with ⟨hv, hGe⟩
        cases hv
        rw [hGe]
        change ab_W _ _ _ G258 57 [some (vR q), some (vR p), some (vj w), none, some (vz dd), some (vz cnt), some (vz (w2260 / 4294967296)), none] [vz (w % 4294967296), vz cnt, vR ne] _
        refine ab_goto (tgt := 62) d_PR_loop_57 (by decide) ?_
        refine zz_iast d_PR_loop_62 hne (by omega) (hne.2.1 (by first | omega | exact (show 18 ≤ _ by omega))) ?_
        obtain ⟨G315, eG315⟩ : ∃ z : ab_G, z = List.set G258 ne (za 808 (zu N2267 cnt (w % 4294967296))) := ⟨_, rfl⟩
        have hq := hq.keep hne eG315 (by omega)
        have hki := hki.keep hne eG315 (by omega)
        have hot := hot.keep hne eG315 (by omega)
        have hp := hp.keep hne eG315 (by omega)
        have hra2263 := hra2263.keep hne eG315 (by omega)
        have hzr := hzr.wr hne eG315 (by omega)
        have hst := (fx.rf (o := o259) (S := [(lq + 2)]) (G := G258)).wr hne eG315 (List.mem_singleton.mpr rfl)
        have pszB_0 := szB.fr hst pszB_0 (by simp only [List.mem_cons, List.not_mem_nil, or_false]; omega) (by simp only [List.mem_cons, List.not_mem_nil, or_false]; omega)
        have ppaI_0 := paI.fr hst ppaI_0 (by simp only [List.mem_cons, List.not_mem_nil, or_false]; omega) (by simp only [List.mem_cons, List.not_mem_nil, or_false]; omega) (by simp only [List.mem_cons, List.not_mem_nil, or_false]; omega) (by intro xx hx; simp only [List.mem_cons, List.not_mem_nil, or_false] at hx; omega)
        have hq316 := z_len eG315
        have hq317 := z_sl hne eG315 rfl
        have hfr := hfr.wr hne eG315 (by simp)
        have hne := hne.kept eG315
        change ab_W _ _ _ (List.set G258 ne (za 808 (zu N2267 cnt (w % 4294967296)))) 63 [some (vR q), some (vR p), some (vj w), none, some (vz dd), some (vz cnt), some (vz (w2260 / 4294967296)), none] [] _
        rw [← eG315]
        have hp318 := prok_next (a := cnt) (x := (w % 4294967296)) hq275 (by omega)
        obtain ⟨N318, eN318⟩ : ∃ z : Int → Int, z = zu N2267 cnt (w % 4294967296) := ⟨_, rfl⟩
        have hne : cc o259 G315 ne (lq + 2) (za 808 N318) := by rw [← eN318.symm]; exact hne
        rw [← eN318] at hp318
        change ab_W _ _ _ G315 63 [some (vR q), some (vR p), some (vj w), none, some (vz dd), some (vz cnt), some (vz (w2260 / 4294967296)), none] [] _
        refine ab_aload_n d_PR_loop_63 rfl ?_
        refine ab_getf (fs := [vR ki, vR ne, vR ot, vz cnt2261, vz fi, vz la2262, vR ra2263, vz ru2265, vz gr, vz wi, vz sz, vz fl, vz ve, vz mi, vR na, vR nl]) f_PR_18 d_PR_loop_64 hq.2.2 rfl ?_
        refine ab_iload d_PR_loop_67 rfl ?_
        refine ab_aload_n d_PR_loop_69 rfl ?_
        refine ab_getf (fs := [vz k_1, vz v_1, rg_1, vz pl_1, vz fl_1, ou_1, ls_1, bf_1, vz sz_1, vz mb_1, vz oe_1, vz le_1, vz mo_1, vz la_1, vz rc283]) f_PR_156 d_PR_loop_70 hp.2.2 rfl ?_
        refine zz_if_eq (tgt := 81) d_PR_loop_73 (by decide) (by omega) (fun c319 => absurd c319 (by omega)) (fun c319 => ?_)
        refine ab_iload d_PR_loop_76 rfl ?_
        refine ab_goto (tgt := 85) d_PR_loop_78 (by decide) ?_
        refine zz_iast d_PR_loop_85 hot (by omega) (hot.2.1 (by first | omega | exact (show 18 ≤ _ by omega))) ?_
        obtain ⟨G320, eG320⟩ : ∃ z : ab_G, z = List.set G315 ot (za 808 (zu O2268 cnt (w2260 / 4294967296))) := ⟨_, rfl⟩
        have hq := hq.keep hot eG320 (by omega)
        have hki := hki.keep hot eG320 (by omega)
        have hne := hne.keep hot eG320 (by omega)
        have hp := hp.keep hot eG320 (by omega)
        have hra2263 := hra2263.keep hot eG320 (by omega)
        have hzr := hzr.wr hot eG320 (by omega)
        have hst := (fx.rf (o := o259) (S := [(lq + 3)]) (G := G315)).wr hot eG320 (List.mem_singleton.mpr rfl)
        have pszB_0 := szB.fr hst pszB_0 (by simp only [List.mem_cons, List.not_mem_nil, or_false]; omega) (by simp only [List.mem_cons, List.not_mem_nil, or_false]; omega)
        have ppaI_0 := paI.fr hst ppaI_0 (by simp only [List.mem_cons, List.not_mem_nil, or_false]; omega) (by simp only [List.mem_cons, List.not_mem_nil, or_false]; omega) (by simp only [List.mem_cons, List.not_mem_nil, or_false]; omega) (by intro xx hx; simp only [List.mem_cons, List.not_mem_nil, or_false] at hx; omega)
        have hq321 := z_len eG320
        have hq322 := z_sl hot eG320 rfl
        have hfr := hfr.wr hot eG320 (by simp)
        have hot := hot.kept eG320
        change ab_W _ _ _ (List.set G315 ot (za 808 (zu O2268 cnt (w2260 / 4294967296)))) 86 [some (vR q), some (vR p), some (vj w), none, some (vz dd), some (vz cnt), some (vz (w2260 / 4294967296)), none] [] _
        rw [← eG320]
        have hp323 := prok_other (a := cnt) (x := (w2260 / 4294967296)) hp318 (by omega) (Or.inl ((hq278 cnt (by omega) (by omega)).trans hks171))
        obtain ⟨O323, eO323⟩ : ∃ z : Int → Int, z = zu O2268 cnt (w2260 / 4294967296) := ⟨_, rfl⟩
        have hot : cc o259 G320 ot (lq + 3) (za 808 O323) := by rw [← eO323.symm]; exact hot
        rw [← eO323] at hp323
        change ab_W _ _ _ G320 86 [some (vR q), some (vR p), some (vj w), none, some (vz dd), some (vz cnt), some (vz (w2260 / 4294967296)), none] [] _
        refine ab_lload_n d_PR_loop_86 rfl ?_
        refine ab_callS (d' := d - 1) (as := [vj w]) (st := []) (z_PR_fresh (o := o259) (w := w) (by omega)) (fun oc G2 h => by rcases h with ⟨h, _⟩ <;> exact ⟨_, h⟩) (by omega) m_PR_fresh ml_PR_96 st_PR_fresh (Nat.le_of_ble_eq_true rfl) d_PR_loop_87 rfl ?_
        intro v G324 hq
        rcases hq with ⟨hv, hGe⟩
        cases hv
        rw [hGe]
        change ab_W _ _ _ G320 90 [some (vR q), some (vR p), some (vj w), none, some (vz dd), some (vz cnt), some (vz (w2260 / 4294967296)), none] [vz (w / 4294967296)] _
        refine ab_lload_n d_PR_loop_90 rfl ?_
        refine ab_callS (d' := d - 1) (as := [vj w]) (st := [vz (w / 4294967296)]) (z_PR_used (o := o259) (w := w) (by omega)) (fun oc G2 h => by rcases h with ⟨h, _⟩ <;> exact ⟨_, h⟩) (by omega) m_PR_used ml_PR_124 st_PR_used (Nat.le_of_ble_eq_true rfl) d_PR_loop_91 rfl ?_
        intro v G325 hq
        rcases hq with ⟨hv, hGe⟩
        cases hv
        rw [hGe]
        change ab_W _ _ _ G320 94 [some (vR q), some (vR p), some (vj w), none, some (vz dd), some (vz cnt), some (vz (w2260 / 4294967296)), none] [vz (w % 4294967296), vz (w / 4294967296)] _
        refine zz_icmp_ne (tgt := 105) d_PR_loop_94 (by decide) (by omega) (by omega) (fun c326 => ?_) (fun c326 => ?_)
        · refine ab_aload_n d_PR_loop_105 rfl ?_
          refine ab_getf (fs := [vz k_1, vz v_1, rg_1, vz pl_1, vz fl_1, ou_1, ls_1, bf_1, vz sz_1, vz mb_1, vz oe_1, vz le_1, vz mo_1, vz la_1, vz rc283]) f_PR_156 d_PR_loop_106 hp.2.2 rfl ?_
          refine zz_if_eq (tgt := 127) d_PR_loop_109 (by decide) (by omega) (fun c327 => absurd c327 (by omega)) (fun c327 => ?_)
          refine ab_aload_n d_PR_loop_112 rfl ?_
          refine zz_bipush d_PR_loop_113 (by decide) ?_
          refine ab_lload_n d_PR_loop_115 rfl ?_
          refine ab_callS (d' := d - 1) (as := [vj w]) (st := [vz 6, vR q]) (z_PR_fresh (o := o259) (w := w) (by omega)) (fun oc G2 h => by rcases h with ⟨h, _⟩ <;> exact ⟨_, h⟩) (by omega) m_PR_fresh ml_PR_96 st_PR_fresh (Nat.le_of_ble_eq_true rfl) d_PR_loop_116 rfl ?_
          intro v G328 hq
          rcases hq with ⟨hv, hGe⟩
          cases hv
          rw [hGe]
          change ab_W _ _ _ G320 119 [some (vR q), some (vR p), some (vj w), none, some (vz dd), some (vz cnt), some (vz (w2260 / 4294967296)), none] [vz (w / 4294967296), vz 6, vR q] _
          refine ab_iload d_PR_loop_119 rfl ?_
          refine ab_callV (d' := d - 1) (as := [vz 6, vz (w / 4294967296), vz (w2260 / 4294967296)]) (st := []) (r := _) (z_PR_add (o := o259) (q := q) (lq := lq) (ki := ki) (ne := ne) (ot := ot) (cnt := cnt2261) (fi := fi) (la := la2262) (ra := ra2263) (ru := ru2265) (gr := gr) (wi := wi) (sz := sz) (fl := fl) (ve := ve) (mi := mi) (na := na) (nl := nl) (K := K2266) (N := N318) (O := O323) (k0 := 6) (x0 := (w / 4294967296)) (v0 := (w2260 / 4294967296)) hq hki hne hot (by omega) (by omega) (by omega)) (fun oc G2 h => by rcases h with ⟨h, _⟩ | ⟨_, h, _⟩ <;> exact ⟨_, h⟩) (by omega) m_PR_add ml_PR_84 im_PR_add se_PR_add c_PR hq.2.2 (Nat.le_of_ble_eq_true rfl) d_PR_loop_121 rfl ?_
          intro v G329 hq
          rcases hq with ⟨hv, hGe, hq330⟩ | ⟨la2331, hv, hfk, hlk, hsk, hNq, hNki, hNne, hNot, hq332, hq333, hq334⟩
          · cases hv
            rw [hGe]
            change ab_W _ _ _ G320 124 [some (vR q), some (vR p), some (vj w), none, some (vz dd), some (vz cnt), some (vz (w2260 / 4294967296)), none] [vz 0] _
            refine ab_goto (tgt := 139) d_PR_loop_124 (by decide) ?_
            refine ab_istore d_PR_loop_139 (Nat.le_of_ble_eq_true rfl) (Nat.le_of_ble_eq_true rfl) rfl ?_
            change ab_W _ _ _ G320 141 [some (vR q), some (vR p), some (vj w), none, some (vz dd), some (vz cnt), some (vz (w2260 / 4294967296)), some (vz 0)] [] _
            refine ab_iload d_PR_loop_141 rfl ?_
            refine ab_iload d_PR_loop_143 rfl ?_
            refine ab_callS (d' := d - 1) (as := [vz 0, vz cnt]) (st := []) (z_PR_pair (o := o259) (f0 := 0) (u0 := cnt) (by omega)) (fun oc G2 h => by rcases h with ⟨h, _⟩ <;> exact ⟨_, h⟩) (by omega) m_PR_pair ml_PR_88 st_PR_pair (Nat.le_of_ble_eq_true rfl) d_PR_loop_145 rfl ?_
            intro v G337 hq
            rcases hq with ⟨hv, hGe⟩
            cases hv
            rw [hGe]
            change ab_W _ _ _ G320 148 [some (vR q), some (vR p), some (vj w), none, some (vz dd), some (vz cnt), some (vz (w2260 / 4294967296)), some (vz 0)] [vj (0 * 4294967296 + cnt)] _
            refine ab_lret rfl d_PR_loop_148 ?_
            rw [hQ]; exact ⟨_, _, _, _, _, _, _, _, _, _, _, _, rfl, hfr, hq, hki, hne, hot, hra2263, ppaI_0, pszB_0, (by omega), (by omega), (by omega), (by omega), (by exact hp323), (by exact hq276), (by exact hq277), (by exact (hkx171.tr hq278 (by omega))), (by exact hzr), (by omega), (by omega), (by omega)⟩
          · cases hv
            have hzr := hzr.tr (fzr.fx hfk (by simp only [List.mem_cons, List.not_mem_nil, or_false]; omega))
            have hp := hfk.get hp (by simp only [List.mem_cons, List.not_mem_nil, or_false]; omega)
            have hra2263 := hfk.get hra2263 (by simp only [List.mem_cons, List.not_mem_nil, or_false]; omega)
            have pszB_0 := szB.fr hfk pszB_0 (by simp only [List.mem_cons, List.not_mem_nil, or_false]; omega) (by simp only [List.mem_cons, List.not_mem_nil, or_false]; omega)
            have ppaI_0 := paI.fr hfk ppaI_0 (by simp only [List.mem_cons, List.not_mem_nil, or_false]; omega) (by simp only [List.mem_cons, List.not_mem_nil, or_false]; omega) (by simp only [List.mem_cons, List.not_mem_nil, or_false]; omega) (by intro xx hx; simp only [List.mem_cons, List.not_mem_nil, or_false] at hx; omega)
            have hfr := hfr.tr hfk (by simp)
            have hq335 := hlk
            have hq336 := hsk
            have hq := hNq
            have hki := hNki
            have hne := hNne
            have hot := hNot
            change ab_W _ _ _ G329 124 [some (vR q), some (vR p), some (vj w), none, some (vz dd), some (vz cnt), some (vz (w2260 / 4294967296)), none] [vz cnt2261] _
            have hp338 := prok_add (k := 6) (x := (w / 4294967296)) (v := (w2260 / 4294967296)) hp323 (by omega) (by omega) (by omega) (by omega) (by omega) (fun t => by omega) (fun t => absurd t (by decide)) (fun t => absurd t (by decide)) (fun t => absurd t (by decide)) (fun t => absurd t (by decide))
            obtain ⟨K338, eK338⟩ : ∃ z : Int → Int, z = zu K2266 cnt2261 6 := ⟨_, rfl⟩
            have hki : cc o259 G329 ki (lq + 1) (za 808 K338) := by rw [← eK338.symm]; exact hki
            obtain ⟨N338, eN338⟩ : ∃ z : Int → Int, z = zu N318 cnt2261 (w / 4294967296) := ⟨_, rfl⟩
            have hne : cc o259 G329 ne (lq + 2) (za 808 N338) := by rw [← eN338.symm]; exact hne
            obtain ⟨O338, eO338⟩ : ∃ z : Int → Int, z = zu O323 cnt2261 (w2260 / 4294967296) := ⟨_, rfl⟩
            have hot : cc o259 G329 ot (lq + 3) (za 808 O338) := by rw [← eO338.symm]; exact hot
            rw [← eK338, ← eN338, ← eO338] at hp338
            have hkx338 : kext K2266 K338 cnt2261 := by rw [eK338]; exact kext.zu (Int.le_refl _)
            have hks338 : K338 cnt2261 = 6 := by rw [eK338]; exact zu_self _ _ _
            change ab_W _ _ _ G329 124 [some (vR q), some (vR p), some (vj w), none, some (vz dd), some (vz cnt), some (vz (w2260 / 4294967296)), none] [vz cnt2261] _
            refine ab_goto (tgt := 139) d_PR_loop_124 (by decide) ?_
            refine ab_istore d_PR_loop_139 (Nat.le_of_ble_eq_true rfl) (Nat.le_of_ble_eq_true rfl) rfl ?_
            change ab_W _ _ _ G329 141 [some (vR q), some (vR p), some (vj w), none, some (vz dd), some (vz cnt), some (vz (w2260 / 4294967296)), some (vz cnt2261)] [] _
            refine ab_iload d_PR_loop_141 rfl ?_
            refine ab_iload d_PR_loop_143 rfl ?_
            refine ab_callS (d' := d - 1) (as := [vz cnt2261, vz cnt]) (st := []) (z_PR_pair (o := o259) (f0 := cnt2261) (u0 := cnt) (by omega)) (fun oc G2 h => by rcases h with ⟨h, _⟩ <;> exact ⟨_, h⟩) (by omega) m_PR_pair ml_PR_88 st_PR_pair (Nat.le_of_ble_eq_true rfl) d_PR_loop_145 rfl ?_
            intro v G339 hq
            rcases hq with ⟨hv, hGe⟩
            cases hv
            rw [hGe]
            change ab_W _ _ _ G329 148 [some (vR q), some (vR p), some (vj w), none, some (vz dd), some (vz cnt), some (vz (w2260 / 4294967296)), some (vz cnt2261)] [vj (cnt2261 * 4294967296 + cnt)] _
            refine ab_lret rfl d_PR_loop_148 ?_
            rw [hQ]; exact ⟨_, _, _, _, _, _, _, _, _, _, _, _, rfl, hfr, hq, hki, hne, hot, hra2263, ppaI_0, pszB_0, (by omega), (by omega), (by omega), (by omega), (by exact hp338), (by exact hq276), (by exact hq277), (by exact ((hkx171.tr hq278 (by omega)).tr hkx338 (by omega))), (by exact hzr), (by omega), (by omega), (by omega)⟩
        · refine ab_iload d_PR_loop_97 rfl ?_
          refine ab_iload d_PR_loop_99 rfl ?_
          refine ab_callS (d' := d - 1) (as := [vz cnt, vz cnt]) (st := []) (z_PR_pair (o := o259) (f0 := cnt) (u0 := cnt) (by omega)) (fun oc G2 h => by rcases h with ⟨h, _⟩ <;> exact ⟨_, h⟩) (by omega) m_PR_pair ml_PR_88 st_PR_pair (Nat.le_of_ble_eq_true rfl) d_PR_loop_101 rfl ?_
          intro v G340 hq
          rcases hq with ⟨hv, hGe⟩
          cases hv
          rw [hGe]
          change ab_W _ _ _ G320 104 [some (vR q), some (vR p), some (vj w), none, some (vz dd), some (vz cnt), some (vz (w2260 / 4294967296)), none] [vj (cnt * 4294967296 + cnt)] _
          refine ab_lret rfl d_PR_loop_104 ?_
          rw [hQ]; exact ⟨_, _, _, _, _, _, _, _, _, _, _, _, rfl, hfr, hq, hki, hne, hot, hra2263, ppaI_0, pszB_0, (by omega), (by omega), (by omega), (by omega), (by exact hp323), (by exact hq276), (by exact hq277), (by exact (hkx171.tr hq278 (by omega))), (by exact hzr), (by omega), (by omega), (by omega)⟩
