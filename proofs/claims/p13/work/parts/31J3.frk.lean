set_option maxRecDepth 100000 in
set_option maxHeartbeats 4000000 in
theorem zs_PR_addPair {X : ab_X} {d : Nat} {o : Nat → Nat} {G : ab_G} {q : Nat} {lq : Nat} {ki : Nat} {ne : Nat} {ot : Nat} {cnt : Int} {fi : Int} {la : Int} {ra : Nat} {ru : Int} {gr : Int} {wi : Int} {sz : Int} {fl : Int} {ve : Int} {mi : Int} {na : Nat} {nl : Nat} {K : Int → Int} {N : Int → Int} {O : Int → Int} {RR : Int → Int} {nr : Nat} {w : Int} {vl : Int} (hq : cc o G q lq (ab_ob 5 [vR ki, vR ne, vR ot, vz cnt, vz fi, vz la, vR ra, vz ru, vz gr, vz wi, vz sz, vz fl, vz ve, vz mi, vR na, vR nl])) (hki : cc o G ki (lq + 1) (za 808 K)) (hne : cc o G ne (lq + 2) (za 808 N)) (hot : cc o G ot (lq + 3) (za 808 O)) (hra : cc o G ra (lq + 4) (za nr RR)) (n18 : ab_n0 = 18) (cq : 100 ≤ lq ∧ 2 ≤ cnt ∧ cnt ≤ 808 ∧ 0 ≤ la ∧ la ≤ 1) (hp_ : prok K N O RR cnt ru wi) (cw : 0 ≤ w ∧ w / 4294967296 < cnt ∧ w % 4294967296 < cnt) (cv : 2 ≤ vl ∧ vl < wi) (hd : 1 ≤ d) : ab_F X d y_PR_addPair (.code y_PR_addPair b_PR_addPair 7 (some (.long))) [vR q, vz 7, vj w, vz vl] G (fun oc G2 => ∃ w2 : Int, ∃ cnt2 : Int, ∃ la2 : Int, ∃ K2 : Int → Int, ∃ N2 : Int → Int, ∃ O2 : Int → Int, oc = .returned (some (vj w2)) ∧ fx o o [lq, (lq + 1), (lq + 2), (lq + 3)] G G2 ∧ G2.length = G.length ∧ ab_slots G2 = ab_slots G ∧ cc o G2 q lq (ab_ob 5 [vR ki, vR ne, vR ot, vz cnt2, vz fi, vz la2, vR ra, vz ru, vz gr, vz wi, vz sz, vz fl, vz ve, vz mi, vR na, vR nl]) ∧ cc o G2 ki (lq + 1) (za 808 K2) ∧ cc o G2 ne (lq + 2) (za 808 N2) ∧ cc o G2 ot (lq + 3) (za 808 O2) ∧ (cnt ≤ cnt2 ∧ cnt2 ≤ 808 ∧ 0 ≤ la2 ∧ la2 ≤ 1) ∧ (0 ≤ w2 ∧ w2 / 4294967296 < cnt2 ∧ w2 % 4294967296 < cnt2) ∧ (prok K2 N2 O2 RR cnt2 ru wi) ∧ (kext K K2 cnt)) := by
  refine ab_F_of (by decide +kernel) (Nat.le_of_ble_eq_true rfl) ?_
  obtain ⟨Q, hQ⟩ : ∃ z : Outcome → ab_G → Prop, z = (fun oc G2 => ∃ w2 : Int, ∃ cnt2 : Int, ∃ la2 : Int, ∃ K2 : Int → Int, ∃ N2 : Int → Int, ∃ O2 : Int → Int, oc = .returned (some (vj w2)) ∧ fx o o [lq, (lq + 1), (lq + 2), (lq + 3)] G G2 ∧ G2.length = G.length ∧ ab_slots G2 = ab_slots G ∧ cc o G2 q lq (ab_ob 5 [vR ki, vR ne, vR ot, vz cnt2, vz fi, vz la2, vR ra, vz ru, vz gr, vz wi, vz sz, vz fl, vz ve, vz mi, vR na, vR nl]) ∧ cc o G2 ki (lq + 1) (za 808 K2) ∧ cc o G2 ne (lq + 2) (za 808 N2) ∧ cc o G2 ot (lq + 3) (za 808 O2) ∧ (cnt ≤ cnt2 ∧ cnt2 ≤ 808 ∧ 0 ≤ la2 ∧ la2 ≤ 1) ∧ (0 ≤ w2 ∧ w2 / 4294967296 < cnt2 ∧ w2 % 4294967296 < cnt2) ∧ (prok K2 N2 O2 RR cnt2 ru wi) ∧ (kext K K2 cnt)) := ⟨_, rfl⟩
  rw [← hQ]
  change ab_W X (ab_pl y_PR_addPair b_PR_addPair 7 (some (.long))) d G 0 [some (vR q), some (vz 7), some (vj w), none, some (vz vl), none, none] [] Q
  have hfr : fx o o [lq, (lq + 1), (lq + 2), (lq + 3)] G G := fx.rf
  have hlen : G.length = G.length := rfl
  have hsl : ab_slots G = ab_slots G := rfl
  refine ab_aload_n d_PR_addPair_0 rfl ?_
  refine ab_iload_n d_PR_addPair_1 rfl ?_
  refine ab_lload_n d_PR_addPair_2 rfl ?_
  refine ab_callS (d' := d - 1) (as := [vj w]) (st := [vz 7, vR q]) (z_PR_fresh (o := o) (w := w) (by omega)) (fun oc G2 h => by rcases h with ⟨h, _⟩ <;> exact ⟨_, h⟩) (by omega) m_PR_fresh ml_PR_96 st_PR_fresh (Nat.le_of_ble_eq_true rfl) d_PR_addPair_3 rfl ?_
  intro v G1 hq
  rcases hq with ⟨hv, hGe⟩
  cases hv
  rw [hGe]
  change ab_W _ _ _ G 6 [some (vR q), some (vz 7), some (vj w), none, some (vz vl), none, none] [vz (w / 4294967296), vz 7, vR q] _
  refine ab_iload d_PR_addPair_6 rfl ?_
  refine ab_callV (d' := d - 1) (as := [vz 7, vz (w / 4294967296), vz vl]) (st := []) (r := _) (z_PR_add (o := o) (q := q) (lq := lq) (ki := ki) (ne := ne) (ot := ot) (cnt := cnt) (fi := fi) (la := la) (ra := ra) (ru := ru) (gr := gr) (wi := wi) (sz := sz) (fl := fl) (ve := ve) (mi := mi) (na := na) (nl := nl) (K := K) (N := N) (O := O) (k0 := 7) (x0 := (w / 4294967296)) (v0 := vl) hq hki hne hot (by omega) (by omega) (by omega)) (fun oc G2 h => by rcases h with ⟨h, _⟩ | ⟨_, h, _⟩ <;> exact ⟨_, h⟩) (by omega) m_PR_add ml_PR_84 im_PR_add se_PR_add c_PR hq.2.2 (Nat.le_of_ble_eq_true rfl) d_PR_addPair_8 rfl ?_
  intro v G2 hq
  rcases hq with ⟨hv, hGe, hq3⟩ | ⟨la24, hv, hfk, hlk, hsk, hNq, hNki, hNne, hNot, hq5, hq6, hq7⟩
  · cases hv
    rw [hGe]
    change ab_W _ _ _ G 11 [some (vR q), some (vz 7), some (vj w), none, some (vz vl), none, none] [vz 0] _
    refine ab_istore d_PR_addPair_11 (Nat.le_of_ble_eq_true rfl) (Nat.le_of_ble_eq_true rfl) rfl ?_
    change ab_W _ _ _ G 13 [some (vR q), some (vz 7), some (vj w), none, some (vz vl), some (vz 0), none] [] _
    refine ab_lload_n d_PR_addPair_13 rfl ?_
    refine ab_callS (d' := d - 1) (as := [vj w]) (st := []) (z_PR_fresh (o := o) (w := w) (by omega)) (fun oc G2 h => by rcases h with ⟨h, _⟩ <;> exact ⟨_, h⟩) (by omega) m_PR_fresh ml_PR_96 st_PR_fresh (Nat.le_of_ble_eq_true rfl) d_PR_addPair_14 rfl ?_
    intro v G8 hq
    rcases hq with ⟨hv, hGe⟩
    cases hv
    rw [hGe]
    change ab_W _ _ _ G 17 [some (vR q), some (vz 7), some (vj w), none, some (vz vl), some (vz 0), none] [vz (w / 4294967296)] _
    refine ab_lload_n d_PR_addPair_17 rfl ?_
    refine ab_callS (d' := d - 1) (as := [vj w]) (st := [vz (w / 4294967296)]) (z_PR_used (o := o) (w := w) (by omega)) (fun oc G2 h => by rcases h with ⟨h, _⟩ <;> exact ⟨_, h⟩) (by omega) m_PR_used ml_PR_124 st_PR_used (Nat.le_of_ble_eq_true rfl) d_PR_addPair_18 rfl ?_
    intro v G9 hq
    rcases hq with ⟨hv, hGe⟩
    cases hv
    rw [hGe]
    change ab_W _ _ _ G 21 [some (vR q), some (vz 7), some (vj w), none, some (vz vl), some (vz 0), none] [vz (w % 4294967296), vz (w / 4294967296)] _
    refine zz_icmp_ne (tgt := 29) d_PR_addPair_21 (by decide) (by omega) (by omega) (fun c10 => ?_) (fun c10 => ?_)
    · refine ab_aload_n d_PR_addPair_29 rfl ?_
      refine ab_iload_n d_PR_addPair_30 rfl ?_
      refine ab_lload_n d_PR_addPair_31 rfl ?_
      refine ab_callS (d' := d - 1) (as := [vj w]) (st := [vz 7, vR q]) (z_PR_used (o := o) (w := w) (by omega)) (fun oc G2 h => by rcases h with ⟨h, _⟩ <;> exact ⟨_, h⟩) (by omega) m_PR_used ml_PR_124 st_PR_used (Nat.le_of_ble_eq_true rfl) d_PR_addPair_32 rfl ?_
      intro v G11 hq
      rcases hq with ⟨hv, hGe⟩
      cases hv
      rw [hGe]
      change ab_W _ _ _ G 35 [some (vR q), some (vz 7), some (vj w), none, some (vz vl), some (vz 0), none] [vz (w % 4294967296), vz 7, vR q] _
      refine ab_iload d_PR_addPair_35 rfl ?_
      refine ab_callV (d' := d - 1) (as := [vz 7, vz (w % 4294967296), vz vl]) (st := []) (r := _) (z_PR_add (o := o) (q := q) (lq := lq) (ki := ki) (ne := ne) (ot := ot) (cnt := cnt) (fi := fi) (la := la) (ra := ra) (ru := ru) (gr := gr) (wi := wi) (sz := sz) (fl := fl) (ve := ve) (mi := mi) (na := na) (nl := nl) (K := K) (N := N) (O := O) (k0 := 7) (x0 := (w % 4294967296)) (v0 := vl) hq hki hne hot (by omega) (by omega) (by omega)) (fun oc G2 h => by rcases h with ⟨h, _⟩ | ⟨_, h, _⟩ <;> exact ⟨_, h⟩) (by omega) m_PR_add ml_PR_84 im_PR_add se_PR_add c_PR hq.2.2 (Nat.le_of_ble_eq_true rfl) d_PR_addPair_37 rfl ?_
      intro v G12 hq
      rcases hq with ⟨hv, hGe, hq13⟩ | ⟨la214, hv, hfk, hlk, hsk, hNq, hNki, hNne, hNot, hq15, hq16, hq17⟩
      · cases hv
        rw [hGe]
        change ab_W _ _ _ G 40 [some (vR q), some (vz 7), some (vj w), none, some (vz vl), some (vz 0), none] [vz 0] _
        refine ab_istore d_PR_addPair_40 (Nat.le_of_ble_eq_true rfl) (Nat.le_of_ble_eq_true rfl) rfl ?_
        change ab_W _ _ _ G 42 [some (vR q), some (vz 7), some (vj w), none, some (vz vl), some (vz 0), some (vz 0)] [] _
        refine ab_iload d_PR_addPair_42 rfl ?_
        refine ab_iload d_PR_addPair_44 rfl ?_
        refine ab_callS (d' := d - 1) (as := [vz 0, vz 0]) (st := []) (z_PR_pair (o := o) (f0 := 0) (u0 := 0) (by omega)) (fun oc G2 h => by rcases h with ⟨h, _⟩ <;> exact ⟨_, h⟩) (by omega) m_PR_pair ml_PR_88 st_PR_pair (Nat.le_of_ble_eq_true rfl) d_PR_addPair_46 rfl ?_
        intro v G18 hq
        rcases hq with ⟨hv, hGe⟩
        cases hv
        rw [hGe]
        change ab_W _ _ _ G 49 [some (vR q), some (vz 7), some (vj w), none, some (vz vl), some (vz 0), some (vz 0)] [vj (0 * 4294967296 + 0)] _
        refine ab_lret rfl d_PR_addPair_49 ?_
        rw [hQ]; exact ⟨_, _, _, _, _, _, rfl, hfr, hlen, hsl, hq, hki, hne, hot, (by omega), (by omega), (by exact hp_), (by exact kext.rf)⟩
      · cases hv
        have hra := hfk.get hra (by simp only [List.mem_cons, List.not_mem_nil, or_false]; omega)
        have hfr := hfr.tr hfk (by simp)
        have hlen := hlk.trans hlen
        have hsl := hsk.trans hsl
        have hq := hNq
        have hki := hNki
        have hne := hNne
        have hot := hNot
        change ab_W _ _ _ G12 40 [some (vR q), some (vz 7), some (vj w), none, some (vz vl), some (vz 0), none] [vz cnt] _
        exfalso; omega
    · refine ab_iload d_PR_addPair_24 rfl ?_
      refine ab_goto (tgt := 40) d_PR_addPair_26 (by decide) ?_
      refine ab_istore d_PR_addPair_40 (Nat.le_of_ble_eq_true rfl) (Nat.le_of_ble_eq_true rfl) rfl ?_
      change ab_W _ _ _ G 42 [some (vR q), some (vz 7), some (vj w), none, some (vz vl), some (vz 0), some (vz 0)] [] _
      refine ab_iload d_PR_addPair_42 rfl ?_
      refine ab_iload d_PR_addPair_44 rfl ?_
      refine ab_callS (d' := d - 1) (as := [vz 0, vz 0]) (st := []) (z_PR_pair (o := o) (f0 := 0) (u0 := 0) (by omega)) (fun oc G2 h => by rcases h with ⟨h, _⟩ <;> exact ⟨_, h⟩) (by omega) m_PR_pair ml_PR_88 st_PR_pair (Nat.le_of_ble_eq_true rfl) d_PR_addPair_46 rfl ?_
      intro v G19 hq
      rcases hq with ⟨hv, hGe⟩
      cases hv
      rw [hGe]
      change ab_W _ _ _ G 49 [some (vR q), some (vz 7), some (vj w), none, some (vz vl), some (vz 0), some (vz 0)] [vj (0 * 4294967296 + 0)] _
      refine ab_lret rfl d_PR_addPair_49 ?_
      rw [hQ]; exact ⟨_, _, _, _, _, _, rfl, hfr, hlen, hsl, hq, hki, hne, hot, (by omega), (by omega), (by exact hp_), (by exact kext.rf)⟩
  · cases hv
    have hra := hfk.get hra (by simp only [List.mem_cons, List.not_mem_nil, or_false]; omega)
    have hfr := hfr.tr hfk (by simp)
    have hlen := hlk.trans hlen
    have hsl := hsk.trans hsl
    have hq := hNq
    have hki := hNki
    have hne := hNne
    have hot := hNot
    change ab_W _ _ _ G2 11 [some (vR q), some (vz 7), some (vj w), none, some (vz vl), none, none] [vz cnt] _
    have hp20 := prok_add (k := 7) (x := (w / 4294967296)) (v := vl) hp_ (by omega) (by omega) (by omega) (by omega) (by omega) (fun t => absurd t (by decide)) (fun t => by omega) (fun t => absurd t (by decide)) (fun t => absurd t (by decide)) (fun t => absurd t (by decide))
    obtain ⟨K20, eK20⟩ : ∃ z : Int → Int, z = zu K cnt 7 := ⟨_, rfl⟩
    have hki : cc o G2 ki (lq + 1) (za 808 K20) := by rw [← eK20.symm]; exact hki
    obtain ⟨N20, eN20⟩ : ∃ z : Int → Int, z = zu N cnt (w / 4294967296) := ⟨_, rfl⟩
    have hne : cc o G2 ne (lq + 2) (za 808 N20) := by rw [← eN20.symm]; exact hne
    obtain ⟨O20, eO20⟩ : ∃ z : Int → Int, z = zu O cnt vl := ⟨_, rfl⟩
    have hot : cc o G2 ot (lq + 3) (za 808 O20) := by rw [← eO20.symm]; exact hot
    rw [← eK20, ← eN20, ← eO20] at hp20
    have hkx20 : kext K K20 cnt := by rw [eK20]; exact kext.zu (Int.le_refl _)
    have hks20 : K20 cnt = 7 := by rw [eK20]; exact zu_self _ _ _
    change ab_W _ _ _ G2 11 [some (vR q), some (vz 7), some (vj w), none, some (vz vl), none, none] [vz cnt] _
    refine ab_istore d_PR_addPair_11 (Nat.le_of_ble_eq_true rfl) (Nat.le_of_ble_eq_true rfl) rfl ?_
    change ab_W _ _ _ G2 13 [some (vR q), some (vz 7), some (vj w), none, some (vz vl), some (vz cnt), none] [] _
    refine ab_lload_n d_PR_addPair_13 rfl ?_
    refine ab_callS (d' := d - 1) (as := [vj w]) (st := []) (z_PR_fresh (o := o) (w := w) (by omega)) (fun oc G2 h => by rcases h with ⟨h, _⟩ <;> exact ⟨_, h⟩) (by omega) m_PR_fresh ml_PR_96 st_PR_fresh (Nat.le_of_ble_eq_true rfl) d_PR_addPair_14 rfl ?_
    intro v G21 hq
    rcases hq with ⟨hv, hGe⟩
    cases hv
    rw [hGe]
    change ab_W _ _ _ G2 17 [some (vR q), some (vz 7), some (vj w), none, some (vz vl), some (vz cnt), none] [vz (w / 4294967296)] _
    refine ab_lload_n d_PR_addPair_17 rfl ?_
    refine ab_callS (d' := d - 1) (as := [vj w]) (st := [vz (w / 4294967296)]) (z_PR_used (o := o) (w := w) (by omega)) (fun oc G2 h => by rcases h with ⟨h, _⟩ <;> exact ⟨_, h⟩) (by omega) m_PR_used ml_PR_124 st_PR_used (Nat.le_of_ble_eq_true rfl) d_PR_addPair_18 rfl ?_
    intro v G22 hq
    rcases hq with ⟨hv, hGe⟩
    cases hv
    rw [hGe]
    change ab_W _ _ _ G2 21 [some (vR q), some (vz 7), some (vj w), none, some (vz vl), some (vz cnt), none] [vz (w % 4294967296), vz (w / 4294967296)] _
    refine zz_icmp_ne (tgt := 29) d_PR_addPair_21 (by decide) (by omega) (by omega) (fun c23 => ?_) (fun c23 => ?_)
    · refine ab_aload_n d_PR_addPair_29 rfl ?_
      refine ab_iload_n d_PR_addPair_30 rfl ?_
      refine ab_lload_n d_PR_addPair_31 rfl ?_
      refine ab_callS (d' := d - 1) (as := [vj w]) (st := [vz 7, vR q]) (z_PR_used (o := o) (w := w) (by omega)) (fun oc G2 h => by rcases h with ⟨h, _⟩ <;> exact ⟨_, h⟩) (by omega) m_PR_used ml_PR_124 st_PR_used (Nat.le_of_ble_eq_true rfl) d_PR_addPair_32 rfl ?_
      intro v G24 hq
      rcases hq with ⟨hv, hGe⟩
      cases hv
      rw [hGe]
      change ab_W _ _ _ G2 35 [some (vR q), some (vz 7), some (vj w), none, some (vz vl), some (vz cnt), none] [vz (w % 4294967296), vz 7, vR q] _
      refine ab_iload d_PR_addPair_35 rfl ?_
      refine ab_callV (d' := d - 1) (as := [vz 7, vz (w % 4294967296), vz vl]) (st := []) (r := _) (z_PR_add (o := o) (q := q) (lq := lq) (ki := ki) (ne := ne) (ot := ot) (cnt := (cnt + 1)) (fi := fi) (la := la24) (ra := ra) (ru := ru) (gr := gr) (wi := wi) (sz := sz) (fl := fl) (ve := ve) (mi := mi) (na := na) (nl := nl) (K := K20) (N := N20) (O := O20) (k0 := 7) (x0 := (w % 4294967296)) (v0 := vl) hq hki hne hot (by omega) (by omega) (by omega)) (fun oc G2 h => by rcases h with ⟨h, _⟩ | ⟨_, h, _⟩ <;> exact ⟨_, h⟩) (by omega) m_PR_add ml_PR_84 im_PR_add se_PR_add c_PR hq.2.2 (Nat.le_of_ble_eq_true rfl) d_PR_addPair_37 rfl ?_
      intro v G25 hq
      rcases hq with ⟨hv, hGe, hq26⟩ | ⟨la227, hv, hfk, hlk, hsk, hNq, hNki, hNne, hNot, hq28, hq29, hq30⟩
      · cases hv
        rw [hGe]
        change ab_W _ _ _ G2 40 [some (vR q), some (vz 7), some (vj w), none, some (vz vl), some (vz cnt), none] [vz 0] _
        refine ab_istore d_PR_addPair_40 (Nat.le_of_ble_eq_true rfl) (Nat.le_of_ble_eq_true rfl) rfl ?_
        change ab_W _ _ _ G2 42 [some (vR q), some (vz 7), some (vj w), none, some (vz vl), some (vz cnt), some (vz 0)] [] _
        refine ab_iload d_PR_addPair_42 rfl ?_
        refine ab_iload d_PR_addPair_44 rfl ?_
        refine ab_callS (d' := d - 1) (as := [vz cnt, vz 0]) (st := []) (z_PR_pair (o := o) (f0 := cnt) (u0 := 0) (by omega)) (fun oc G2 h => by rcases h with ⟨h, _⟩ <;> exact ⟨_, h⟩) (by omega) m_PR_pair ml_PR_88 st_PR_pair (Nat.le_of_ble_eq_true rfl) d_PR_addPair_46 rfl ?_
        intro v G31 hq
        rcases hq with ⟨hv, hGe⟩
        cases hv
        rw [hGe]
        change ab_W _ _ _ G2 49 [some (vR q), some (vz 7), some (vj w), none, some (vz vl), some (vz cnt), some (vz 0)] [vj (cnt * 4294967296 + 0)] _
        refine ab_lret rfl d_PR_addPair_49 ?_
        rw [hQ]; exact ⟨_, _, _, _, _, _, rfl, hfr, hlen, hsl, hq, hki, hne, hot, (by omega), (by omega), (by exact hp20), (by exact hkx20)⟩
      · cases hv
        have hra := hfk.get hra (by simp only [List.mem_cons, List.not_mem_nil, or_false]; omega)
        have hfr := hfr.tr hfk (by simp)
        have hlen := hlk.trans hlen
        have hsl := hsk.trans hsl
        have hq := hNq
        have hki := hNki
        have hne := hNne
        have hot := hNot
        change ab_W _ _ _ G25 40 [some (vR q), some (vz 7), some (vj w), none, some (vz vl), some (vz cnt), none] [vz (cnt + 1)] _
        have hp32 := prok_add (k := 7) (x := (w % 4294967296)) (v := vl) hp20 (by omega) (by omega) (by omega) (by omega) (by omega) (fun t => absurd t (by decide)) (fun t => by omega) (fun t => absurd t (by decide)) (fun t => absurd t (by decide)) (fun t => absurd t (by decide))
        obtain ⟨K32, eK32⟩ : ∃ z : Int → Int, z = zu K20 (cnt + 1) 7 := ⟨_, rfl⟩
        have hki : cc o G25 ki (lq + 1) (za 808 K32) := by rw [← eK32.symm]; exact hki
        obtain ⟨N32, eN32⟩ : ∃ z : Int → Int, z = zu N20 (cnt + 1) (w % 4294967296) := ⟨_, rfl⟩
        have hne : cc o G25 ne (lq + 2) (za 808 N32) := by rw [← eN32.symm]; exact hne
        obtain ⟨O32, eO32⟩ : ∃ z : Int → Int, z = zu O20 (cnt + 1) vl := ⟨_, rfl⟩
        have hot : cc o G25 ot (lq + 3) (za 808 O32) := by rw [← eO32.symm]; exact hot
        rw [← eK32, ← eN32, ← eO32] at hp32
        have hkx32 : kext K20 K32 (cnt + 1) := by rw [eK32]; exact kext.zu (Int.le_refl _)
        have hks32 : K32 (cnt + 1) = 7 := by rw [eK32]; exact zu_self _ _ _
        change ab_W _ _ _ G25 40 [some (vR q), some (vz 7), some (vj w), none, some (vz vl), some (vz cnt), none] [vz (cnt + 1)] _
        refine ab_istore d_PR_addPair_40 (Nat.le_of_ble_eq_true rfl) (Nat.le_of_ble_eq_true rfl) rfl ?_
        change ab_W _ _ _ G25 42 [some (vR q), some (vz 7), some (vj w), none, some (vz vl), some (vz cnt), some (vz (cnt + 1))] [] _
        refine ab_iload d_PR_addPair_42 rfl ?_
        refine ab_iload d_PR_addPair_44 rfl ?_
        refine ab_callS (d' := d - 1) (as := [vz cnt, vz (cnt + 1)]) (st := []) (z_PR_pair (o := o) (f0 := cnt) (u0 := (cnt + 1)) (by omega)) (fun oc G2 h => by rcases h with ⟨h, _⟩ <;> exact ⟨_, h⟩) (by omega) m_PR_pair ml_PR_88 st_PR_pair (Nat.le_of_ble_eq_true rfl) d_PR_addPair_46 rfl ?_
        intro v G33 hq
        rcases hq with ⟨hv, hGe⟩
        cases hv
        rw [hGe]
        change ab_W _ _ _ G25 49 [some (vR q), some (vz 7), some (vj w), none, some (vz vl), some (vz cnt), some (vz (cnt + 1))] [vj (cnt * 4294967296 + (cnt + 1))] _
        refine ab_lret rfl d_PR_addPair_49 ?_
        rw [hQ]; exact ⟨_, _, _, _, _, _, rfl, hfr, hlen, hsl, hq, hki, hne, hot, (by omega), (by omega), (by exact hp32), (by exact (hkx20.tr hkx32 (by omega)))⟩
    · refine ab_iload d_PR_addPair_24 rfl ?_
      refine ab_goto (tgt := 40) d_PR_addPair_26 (by decide) ?_
      refine ab_istore d_PR_addPair_40 (Nat.le_of_ble_eq_true rfl) (Nat.le_of_ble_eq_true rfl) rfl ?_
      change ab_W _ _ _ G2 42 [some (vR q), some (vz 7), some (vj w), none, some (vz vl), some (vz cnt), some (vz cnt)] [] _
      refine ab_iload d_PR_addPair_42 rfl ?_
      refine ab_iload d_PR_addPair_44 rfl ?_
      refine ab_callS (d' := d - 1) (as := [vz cnt, vz cnt]) (st := []) (z_PR_pair (o := o) (f0 := cnt) (u0 := cnt) (by omega)) (fun oc G2 h => by rcases h with ⟨h, _⟩ <;> exact ⟨_, h⟩) (by omega) m_PR_pair ml_PR_88 st_PR_pair (Nat.le_of_ble_eq_true rfl) d_PR_addPair_46 rfl ?_
      intro v G34 hq
      rcases hq with ⟨hv, hGe⟩
      cases hv
      rw [hGe]
      change ab_W _ _ _ G2 49 [some (vR q), some (vz 7), some (vj w), none, some (vz vl), some (vz cnt), some (vz cnt)] [vj (cnt * 4294967296 + cnt)] _
      refine ab_lret rfl d_PR_addPair_49 ?_
      rw [hQ]; exact ⟨_, _, _, _, _, _, rfl, hfr, hlen, hsl, hq, hki, hne, hot, (by omega), (by omega), (by exact hp20), (by exact hkx20)⟩
set_option maxRecDepth 100000 in
set_option maxHeartbeats 4000000 in
theorem za_PR_addPair {X : ab_X} {d : Nat} {o : Nat → Nat} {G : ab_G} {q : Nat} {lq : Nat} {ki : Nat} {ne : Nat} {ot : Nat} {cnt : Int} {fi : Int} {la : Int} {ra : Nat} {ru : Int} {gr : Int} {wi : Int} {sz : Int} {fl : Int} {ve : Int} {mi : Int} {na : Nat} {nl : Nat} {K : Int → Int} {N : Int → Int} {O : Int → Int} {RR : Int → Int} {nr : Nat} {w : Int} {vl : Int} (hq : cc o G q lq (ab_ob 5 [vR ki, vR ne, vR ot, vz cnt, vz fi, vz la, vR ra, vz ru, vz gr, vz wi, vz sz, vz fl, vz ve, vz mi, vR na, vR nl])) (hki : cc o G ki (lq + 1) (za 808 K)) (hne : cc o G ne (lq + 2) (za 808 N)) (hot : cc o G ot (lq + 3) (za 808 O)) (hra : cc o G ra (lq + 4) (za nr RR)) (n18 : ab_n0 = 18) (cq : 100 ≤ lq ∧ 2 ≤ cnt ∧ cnt ≤ 808 ∧ 0 ≤ la ∧ la ≤ 1) (hp_ : prok K N O RR cnt ru wi) (cw : 0 ≤ w ∧ w / 4294967296 < cnt ∧ w % 4294967296 < cnt) (cv : 0 ≤ vl ∧ vl ≤ 5) (hd : 1 ≤ d) : ab_F X d y_PR_addPair (.code y_PR_addPair b_PR_addPair 7 (some (.long))) [vR q, vz 3, vj w, vz vl] G (fun oc G2 => ∃ w2 : Int, ∃ cnt2 : Int, ∃ la2 : Int, ∃ K2 : Int → Int, ∃ N2 : Int → Int, ∃ O2 : Int → Int, oc = .returned (some (vj w2)) ∧ fx o o [lq, (lq + 1), (lq + 2), (lq + 3)] G G2 ∧ G2.length = G.length ∧ ab_slots G2 = ab_slots G ∧ cc o G2 q lq (ab_ob 5 [vR ki, vR ne, vR ot, vz cnt2, vz fi, vz la2, vR ra, vz ru, vz gr, vz wi, vz sz, vz fl, vz ve, vz mi, vR na, vR nl]) ∧ cc o G2 ki (lq + 1) (za 808 K2) ∧ cc o G2 ne (lq + 2) (za 808 N2) ∧ cc o G2 ot (lq + 3) (za 808 O2) ∧ (cnt ≤ cnt2 ∧ cnt2 ≤ 808 ∧ 0 ≤ la2 ∧ la2 ≤ 1) ∧ (0 ≤ w2 ∧ w2 / 4294967296 < cnt2 ∧ w2 % 4294967296 < cnt2) ∧ (prok K2 N2 O2 RR cnt2 ru wi) ∧ (kext K K2 cnt)) := by
  refine ab_F_of (by decide +kernel) (Nat.le_of_ble_eq_true rfl) ?_
  obtain ⟨Q, hQ⟩ : ∃ z : Outcome → ab_G → Prop, z = (fun oc G2 => ∃ w2 : Int, ∃ cnt2 : Int, ∃ la2 : Int, ∃ K2 : Int → Int, ∃ N2 : Int → Int, ∃ O2 : Int → Int, oc = .returned (some (vj w2)) ∧ fx o o [lq, (lq + 1), (lq + 2), (lq + 3)] G G2 ∧ G2.length = G.length ∧ ab_slots G2 = ab_slots G ∧ cc o G2 q lq (ab_ob 5 [vR ki, vR ne, vR ot, vz cnt2, vz fi, vz la2, vR ra, vz ru, vz gr, vz wi, vz sz, vz fl, vz ve, vz mi, vR na, vR nl]) ∧ cc o G2 ki (lq + 1) (za 808 K2) ∧ cc o G2 ne (lq + 2) (za 808 N2) ∧ cc o G2 ot (lq + 3) (za 808 O2) ∧ (cnt ≤ cnt2 ∧ cnt2 ≤ 808 ∧ 0 ≤ la2 ∧ la2 ≤ 1) ∧ (0 ≤ w2 ∧ w2 / 4294967296 < cnt2 ∧ w2 % 4294967296 < cnt2) ∧ (prok K2 N2 O2 RR cnt2 ru wi) ∧ (kext K K2 cnt)) := ⟨_, rfl⟩
  rw [← hQ]
  change ab_W X (ab_pl y_PR_addPair b_PR_addPair 7 (some (.long))) d G 0 [some (vR q), some (vz 3), some (vj w), none, some (vz vl), none, none] [] Q
  have hfr : fx o o [lq, (lq + 1), (lq + 2), (lq + 3)] G G := fx.rf
  have hlen : G.length = G.length := rfl
  have hsl : ab_slots G = ab_slots G := rfl
  refine ab_aload_n d_PR_addPair_0 rfl ?_
  refine ab_iload_n d_PR_addPair_1 rfl ?_
  refine ab_lload_n d_PR_addPair_2 rfl ?_
  refine ab_callS (d' := d - 1) (as := [vj w]) (st := [vz 3, vR q]) (z_PR_fresh (o := o) (w := w) (by omega)) (fun oc G2 h => by rcases h with ⟨h, _⟩ <;> exact ⟨_, h⟩) (by omega) m_PR_fresh ml_PR_96 st_PR_fresh (Nat.le_of_ble_eq_true rfl) d_PR_addPair_3 rfl ?_
  intro v G1 hq
  rcases hq with ⟨hv, hGe⟩
  cases hv
  rw [hGe]
  change ab_W _ _ _ G 6 [some (vR q), some (vz 3), some (vj w), none, some (vz vl), none, none] [vz (w / 4294967296), vz 3, vR q] _
  refine ab_iload d_PR_addPair_6 rfl ?_
  refine ab_callV (d' := d - 1) (as := [vz 3, vz (w / 4294967296), vz vl]) (st := []) (r := _) (z_PR_add (o := o) (q := q) (lq := lq) (ki := ki) (ne := ne) (ot := ot) (cnt := cnt) (fi := fi) (la := la) (ra := ra) (ru := ru) (gr := gr) (wi := wi) (sz := sz) (fl := fl) (ve := ve) (mi := mi) (na := na) (nl := nl) (K := K) (N := N) (O := O) (k0 := 3) (x0 := (w / 4294967296)) (v0 := vl) hq hki hne hot (by omega) (by omega) (by omega)) (fun oc G2 h => by rcases h with ⟨h, _⟩ | ⟨_, h, _⟩ <;> exact ⟨_, h⟩) (by omega) m_PR_add ml_PR_84 im_PR_add se_PR_add c_PR hq.2.2 (Nat.le_of_ble_eq_true rfl) d_PR_addPair_8 rfl ?_
  intro v G2 hq
  rcases hq with ⟨hv, hGe, hq3⟩ | ⟨la24, hv, hfk, hlk, hsk, hNq, hNki, hNne, hNot, hq5, hq6, hq7⟩
  · cases hv
    rw [hGe]
    change ab_W _ _ _ G 11 [some (vR q), some (vz 3), some (vj w), none, some (vz vl), none, none] [vz 0] _
    refine ab_istore d_PR_addPair_11 (Nat.le_of_ble_eq_true rfl) (Nat.le_of_ble_eq_true rfl) rfl ?_
    change ab_W _ _ _ G 13 [some (vR q), some (vz 3), some (vj w), none, some (vz vl), some (vz 0), none] [] _
    refine ab_lload_n d_PR_addPair_13 rfl ?_
    refine ab_callS (d' := d - 1) (as := [vj w]) (st := []) (z_PR_fresh (o := o) (w := w) (by omega)) (fun oc G2 h => by rcases h with ⟨h, _⟩ <;> exact ⟨_, h⟩) (by omega) m_PR_fresh ml_PR_96 st_PR_fresh (Nat.le_of_ble_eq_true rfl) d_PR_addPair_14 rfl ?_
    intro v G8 hq
    rcases hq with ⟨hv, hGe⟩
    cases hv
    rw [hGe]
    change ab_W _ _ _ G 17 [some (vR q), some (vz 3), some (vj w), none, some (vz vl), some (vz 0), none] [vz (w / 4294967296)] _
    refine ab_lload_n d_PR_addPair_17 rfl ?_
    refine ab_callS (d' := d - 1) (as := [vj w]) (st := [vz (w / 4294967296)]) (z_PR_used (o := o) (w := w) (by omega)) (fun oc G2 h => by rcases h with ⟨h, _⟩ <;> exact ⟨_, h⟩) (by omega) m_PR_used ml_PR_124 st_PR_used (Nat.le_of_ble_eq_true rfl) d_PR_addPair_18 rfl ?_
    intro v G9 hq
    rcases hq with ⟨hv, hGe⟩
    cases hv
    rw [hGe]
    change ab_W _ _ _ G 21 [some (vR q), some (vz 3), some (vj w), none, some (vz vl), some (vz 0), none] [vz (w % 4294967296), vz (w / 4294967296)] _
    refine zz_icmp_ne (tgt := 29) d_PR_addPair_21 (by decide) (by omega) (by omega) (fun c10 => ?_) (fun c10 => ?_)
    · refine ab_aload_n d_PR_addPair_29 rfl ?_
      refine ab_iload_n d_PR_addPair_30 rfl ?_
      refine ab_lload_n d_PR_addPair_31 rfl ?_
      refine ab_callS (d' := d - 1) (as := [vj w]) (st := [vz 3, vR q]) (z_PR_used (o := o) (w := w) (by omega)) (fun oc G2 h => by rcases h with ⟨h, _⟩ <;> exact ⟨_, h⟩) (by omega) m_PR_used ml_PR_124 st_PR_used (Nat.le_of_ble_eq_true rfl) d_PR_addPair_32 rfl ?_
      intro v G11 hq
      rcases hq with ⟨hv, hGe⟩
      cases hv
      rw [hGe]
      change ab_W _ _ _ G 35 [some (vR q), some (vz 3), some (vj w), none, some (vz vl), some (vz 0), none] [vz (w % 4294967296), vz 3, vR q] _
      refine ab_iload d_PR_addPair_35 rfl ?_
      refine ab_callV (d' := d - 1) (as := [vz 3, vz (w % 4294967296), vz vl]) (st := []) (r := _) (z_PR_add (o := o) (q := q) (lq := lq) (ki := ki) (ne := ne) (ot := ot) (cnt := cnt) (fi := fi) (la := la) (ra := ra) (ru := ru) (gr := gr) (wi := wi) (sz := sz) (fl := fl) (ve := ve) (mi := mi) (na := na) (nl := nl) (K := K) (N := N) (O := O) (k0 := 3) (x0 := (w % 4294967296)) (v0 := vl) hq hki hne hot (by omega) (by omega) (by omega)) (fun oc G2 h => by rcases h with ⟨h, _⟩ | ⟨_, h, _⟩ <;> exact ⟨_, h⟩) (by omega) m_PR_add ml_PR_84 im_PR_add se_PR_add c_PR hq.2.2 (Nat.le_of_ble_eq_true rfl) d_PR_addPair_37 rfl ?_
      intro v G12 hq
      rcases hq with ⟨hv, hGe, hq13⟩ | ⟨la214, hv, hfk, hlk, hsk, hNq, hNki, hNne, hNot, hq15, hq16, hq17⟩
      · cases hv
        rw [hGe]
        change ab_W _ _ _ G 40 [some (vR q), some (vz 3), some (vj w), none, some (vz vl), some (vz 0), none] [vz 0] _
        refine ab_istore d_PR_addPair_40 (Nat.le_of_ble_eq_true rfl) (Nat.le_of_ble_eq_true rfl) rfl ?_
        change ab_W _ _ _ G 42 [some (vR q), some (vz 3), some (vj w), none, some (vz vl), some (vz 0), some (vz 0)] [] _
        refine ab_iload d_PR_addPair_42 rfl ?_
        refine ab_iload d_PR_addPair_44 rfl ?_
        refine ab_callS (d' := d - 1) (as := [vz 0, vz 0]) (st := []) (z_PR_pair (o := o) (f0 := 0) (u0 := 0) (by omega)) (fun oc G2 h => by rcases h with ⟨h, _⟩ <;> exact ⟨_, h⟩) (by omega) m_PR_pair ml_PR_88 st_PR_pair (Nat.le_of_ble_eq_true rfl) d_PR_addPair_46 rfl ?_
        intro v G18 hq
        rcases hq with ⟨hv, hGe⟩
        cases hv
        rw [hGe]
        change ab_W _ _ _ G 49 [some (vR q), some (vz 3), some (vj w), none, some (vz vl), some (vz 0), some (vz 0)] [vj (0 * 4294967296 + 0)] _
        refine ab_lret rfl d_PR_addPair_49 ?_
        rw [hQ]; exact ⟨_, _, _, _, _, _, rfl, hfr, hlen, hsl, hq, hki, hne, hot, (by omega), (by omega), (by exact hp_), (by exact kext.rf)⟩
      · cases hv
        have hra := hfk.get hra (by simp only [List.mem_cons, List.not_mem_nil, or_false]; omega)
        have hfr := hfr.tr hfk (by simp)
        have hlen := hlk.trans hlen
        have hsl := hsk.trans hsl
        have hq := hNq
        have hki := hNki
        have hne := hNne
        have hot := hNot
        change ab_W _ _ _ G12 40 [some (vR q), some (vz 3), some (vj w), none, some (vz vl), some (vz 0), none] [vz cnt] _
        exfalso; omega
    · refine ab_iload d_PR_addPair_24 rfl ?_
      refine ab_goto (tgt := 40) d_PR_addPair_26 (by decide) ?_
      refine ab_istore d_PR_addPair_40 (Nat.le_of_ble_eq_true rfl) (Nat.le_of_ble_eq_true rfl) rfl ?_
      change ab_W _ _ _ G 42 [some (vR q), some (vz 3), some (vj w), none, some (vz vl), some (vz 0), some (vz 0)] [] _
      refine ab_iload d_PR_addPair_42 rfl ?_
      refine ab_iload d_PR_addPair_44 rfl ?_
      refine ab_callS (d' := d - 1) (as := [vz 0, vz 0]) (st := []) (z_PR_pair (o := o) (f0 := 0) (u0 := 0) (by omega)) (fun oc G2 h => by rcases h with ⟨h, _⟩ <;> exact ⟨_, h⟩) (by omega) m_PR_pair ml_PR_88 st_PR_pair (Nat.le_of_ble_eq_true rfl) d_PR_addPair_46 rfl ?_
      intro v G19 hq
      rcases hq with ⟨hv, hGe⟩
      cases hv
      rw [hGe]
      change ab_W _ _ _ G 49 [some (vR q), some (vz 3), some (vj w), none, some (vz vl), some (vz 0), some (vz 0)] [vj (0 * 4294967296 + 0)] _
      refine ab_lret rfl d_PR_addPair_49 ?_
      rw [hQ]; exact ⟨_, _, _, _, _, _, rfl, hfr, hlen, hsl, hq, hki, hne, hot, (by omega), (by omega), (by exact hp_), (by exact kext.rf)⟩
  · cases hv
    have hra := hfk.get hra (by simp only [List.mem_cons, List.not_mem_nil, or_false]; omega)
    have hfr := hfr.tr hfk (by simp)
    have hlen := hlk.trans hlen
    have hsl := hsk.trans hsl
    have hq := hNq
    have hki := hNki
    have hne := hNne
    have hot := hNot
    change ab_W _ _ _ G2 11 [some (vR q), some (vz 3), some (vj w), none, some (vz vl), none, none] [vz cnt] _
    have hp20 := prok_add (k := 3) (x := (w / 4294967296)) (v := vl) hp_ (by omega) (by omega) (by omega) (by omega) (by omega) (fun t => absurd t (by decide)) (fun t => absurd t (by decide)) (fun t => by omega) (fun t => absurd t (by decide)) (fun t => absurd t (by decide))
    obtain ⟨K20, eK20⟩ : ∃ z : Int → Int, z = zu K cnt 3 := ⟨_, rfl⟩
    have hki : cc o G2 ki (lq + 1) (za 808 K20) := by rw [← eK20.symm]; exact hki
    obtain ⟨N20, eN20⟩ : ∃ z : Int → Int, z = zu N cnt (w / 4294967296) := ⟨_, rfl⟩
    have hne : cc o G2 ne (lq + 2) (za 808 N20) := by rw [← eN20.symm]; exact hne
    obtain ⟨O20, eO20⟩ : ∃ z : Int → Int, z = zu O cnt vl := ⟨_, rfl⟩
    have hot : cc o G2 ot (lq + 3) (za 808 O20) := by rw [← eO20.symm]; exact hot
    rw [← eK20, ← eN20, ← eO20] at hp20
    have hkx20 : kext K K20 cnt := by rw [eK20]; exact kext.zu (Int.le_refl _)
    have hks20 : K20 cnt = 3 := by rw [eK20]; exact zu_self _ _ _
    change ab_W _ _ _ G2 11 [some (vR q), some (vz 3), some (vj w), none, some (vz vl), none, none] [vz cnt] _
    refine ab_istore d_PR_addPair_11 (Nat.le_of_ble_eq_true rfl) (Nat.le_of_ble_eq_true rfl) rfl ?_
    change ab_W _ _ _ G2 13 [some (vR q), some (vz 3), some (vj w), none, some (vz vl), some (vz cnt), none] [] _
    refine ab_lload_n d_PR_addPair_13 rfl ?_
    refine ab_callS (d' := d - 1) (as := [vj w]) (st := []) (z_PR_fresh (o := o) (w := w) (by omega)) (fun oc G2 h => by rcases h with ⟨h, _⟩ <;> exact ⟨_, h⟩) (by omega) m_PR_fresh ml_PR_96 st_PR_fresh (Nat.le_of_ble_eq_true rfl) d_PR_addPair_14 rfl ?_
    intro v G21 hq
    rcases hq with ⟨hv, hGe⟩
    cases hv
    rw [hGe]
    change ab_W _ _ _ G2 17 [some (vR q), some (vz 3), some (vj w), none, some (vz vl), some (vz cnt), none] [vz (w / 4294967296)] _
    refine ab_lload_n d_PR_addPair_17 rfl ?_
    refine ab_callS (d' := d - 1) (as := [vj w]) (st := [vz (w / 4294967296)]) (z_PR_used (o := o) (w := w) (by omega)) (fun oc G2 h => by rcases h with ⟨h, _⟩ <;> exact ⟨_, h⟩) (by omega) m_PR_used ml_PR_124 st_PR_used (Nat.le_of_ble_eq_true rfl) d_PR_addPair_18 rfl ?_
    intro v G22 hq
    rcases hq with ⟨hv, hGe⟩
    cases hv
    rw [hGe]
    change ab_W _ _ _ G2 21 [some (vR q), some (vz 3), some (vj w), none, some (vz vl), some (vz cnt), none] [vz (w % 4294967296), vz (w / 4294967296)] _
    refine zz_icmp_ne (tgt := 29) d_PR_addPair_21 (by decide) (by omega) (by omega) (fun c23 => ?_) (fun c23 => ?_)
    · refine ab_aload_n d_PR_addPair_29 rfl ?_
      refine ab_iload_n d_PR_addPair_30 rfl ?_
      refine ab_lload_n d_PR_addPair_31 rfl ?_
      refine ab_callS (d' := d - 1) (as := [vj w]) (st := [vz 3, vR q]) (z_PR_used (o := o) (w := w) (by omega)) (fun oc G2 h => by rcases h with ⟨h, _⟩ <;> exact ⟨_, h⟩) (by omega) m_PR_used ml_PR_124 st_PR_used (Nat.le_of_ble_eq_true rfl) d_PR_addPair_32 rfl ?_
      intro v G24 hq
      rcases hq with ⟨hv, hGe⟩
      cases hv
      rw [hGe]
      change ab_W _ _ _ G2 35 [some (vR q), some (vz 3), some (vj w), none, some (vz vl), some (vz cnt), none] [vz (w % 4294967296), vz 3, vR q] _
      refine ab_iload d_PR_addPair_35 rfl ?_
      refine ab_callV (d' := d - 1) (as := [vz 3, vz (w % 4294967296), vz vl]) (st := []) (r := _) (z_PR_add (o := o) (q := q) (lq := lq) (ki := ki) (ne := ne) (ot := ot) (cnt := (cnt + 1)) (fi := fi) (la := la24) (ra := ra) (ru := ru) (gr := gr) (wi := wi) (sz := sz) (fl := fl) (ve := ve) (mi := mi) (na := na) (nl := nl) (K := K20) (N := N20) (O := O20) (k0 := 3) (x0 := (w % 4294967296)) (v0 := vl) hq hki hne hot (by omega) (by omega) (by omega)) (fun oc G2 h => by rcases h with ⟨h, _⟩ | ⟨_, h, _⟩ <;> exact ⟨_, h⟩) (by omega) m_PR_add ml_PR_84 im_PR_add se_PR_add c_PR hq.2.2 (Nat.le_of_ble_eq_true rfl) d_PR_addPair_37 rfl ?_
      intro v G25 hq
      rcases hq with ⟨hv, hGe, hq26⟩ | ⟨la227, hv, hfk, hlk, hsk, hNq, hNki, hNne, hNot, hq28, hq29, hq30⟩
      · cases hv
        rw [hGe]
        change ab_W _ _ _ G2 40 [some (vR q), some (vz 3), some (vj w), none, some (vz vl), some (vz cnt), none] [vz 0] _
        refine ab_istore d_PR_addPair_40 (Nat.le_of_ble_eq_true rfl) (Nat.le_of_ble_eq_true rfl) rfl ?_
        change ab_W _ _ _ G2 42 [some (vR q), some (vz 3), some (vj w), none, some (vz vl), some (vz cnt), some (vz 0)] [] _
        refine ab_iload d_PR_addPair_42 rfl ?_
        refine ab_iload d_PR_addPair_44 rfl ?_
        refine ab_callS (d' := d - 1) (as := [vz cnt, vz 0]) (st := []) (z_PR_pair (o := o) (f0 := cnt) (u0 := 0) (by omega)) (fun oc G2 h => by rcases h with ⟨h, _⟩ <;> exact ⟨_, h⟩) (by omega) m_PR_pair ml_PR_88 st_PR_pair (Nat.le_of_ble_eq_true rfl) d_PR_addPair_46 rfl ?_
        intro v G31 hq
        rcases hq with ⟨hv, hGe⟩
        cases hv
        rw [hGe]
        change ab_W _ _ _ G2 49 [some (vR q), some (vz 3), some (vj w), none, some (vz vl), some (vz cnt), some (vz 0)] [vj (cnt * 4294967296 + 0)] _
        refine ab_lret rfl d_PR_addPair_49 ?_
        rw [hQ]; exact ⟨_, _, _, _, _, _, rfl, hfr, hlen, hsl, hq, hki, hne, hot, (by omega), (by omega), (by exact hp20), (by exact hkx20)⟩
      · cases hv
        have hra := hfk.get hra (by simp only [List.mem_cons, List.not_mem_nil, or_false]; omega)
        have hfr := hfr.tr hfk (by simp)
        have hlen := hlk.trans hlen
        have hsl := hsk.trans hsl
        have hq := hNq
        have hki := hNki
        have hne := hNne
        have hot := hNot
        change ab_W _ _ _ G25 40 [some (vR q), some (vz 3), some (vj w), none, some (vz vl), some (vz cnt), none] [vz (cnt + 1)] _
        have hp32 := prok_add (k := 3) (x := (w % 4294967296)) (v := vl) hp20 (by omega) (by omega) (by omega) (by omega) (by omega) (fun t => absurd t (by decide)) (fun t => absurd t (by decide)) (fun t => by omega) (fun t => absurd t (by decide)) (fun t => absurd t (by decide))
        obtain ⟨K32, eK32⟩ : ∃ z : Int → Int, z = zu K20 (cnt + 1) 3 := ⟨_, rfl⟩
        have hki : cc o G25 ki (lq + 1) (za 808 K32) := by rw [← eK32.symm]; exact hki
        obtain ⟨N32, eN32⟩ : ∃ z : Int → Int, z = zu N20 (cnt + 1) (w % 4294967296) := ⟨_, rfl⟩
        have hne : cc o G25 ne (lq + 2) (za 808 N32) := by rw [← eN32.symm]; exact hne
        obtain ⟨O32, eO32⟩ : ∃ z : Int → Int, z = zu O20 (cnt + 1) vl := ⟨_, rfl⟩
        have hot : cc o G25 ot (lq + 3) (za 808 O32) := by rw [← eO32.symm]; exact hot
        rw [← eK32, ← eN32, ← eO32] at hp32
        have hkx32 : kext K20 K32 (cnt + 1) := by rw [eK32]; exact kext.zu (Int.le_refl _)
        have hks32 : K32 (cnt + 1) = 3 := by rw [eK32]; exact zu_self _ _ _
        change ab_W _ _ _ G25 40 [some (vR q), some (vz 3), some (vj w), none, some (vz vl), some (vz cnt), none] [vz (cnt + 1)] _
        refine ab_istore d_PR_addPair_40 (Nat.le_of_ble_eq_true rfl) (Nat.le_of_ble_eq_true rfl) rfl ?_
        change ab_W _ _ _ G25 42 [some (vR q), some (vz 3), some (vj w), none, some (vz vl), some (vz cnt), some (vz (cnt + 1))] [] _
        refine ab_iload d_PR_addPair_42 rfl ?_
        refine ab_iload d_PR_addPair_44 rfl ?_
        refine ab_callS (d' := d - 1) (as := [vz cnt, vz (cnt + 1)]) (st := []) (z_PR_pair (o := o) (f0 := cnt) (u0 := (cnt + 1)) (by omega)) (fun oc G2 h => by rcases h with ⟨h, _⟩ <;> exact ⟨_, h⟩) (by omega) m_PR_pair ml_PR_88 st_PR_pair (Nat.le_of_ble_eq_true rfl) d_PR_addPair_46 rfl ?_
        intro v G33 hq
        rcases hq with ⟨hv, hGe⟩
        cases hv
        rw [hGe]
        change ab_W _ _ _ G25 49 [some (vR q), some (vz 3), some (vj w), none, some (vz vl), some (vz cnt), some (vz (cnt + 1))] [vj (cnt * 4294967296 + (cnt + 1))] _
        refine ab_lret rfl d_PR_addPair_49 ?_
        rw [hQ]; exact ⟨_, _, _, _, _, _, rfl, hfr, hlen, hsl, hq, hki, hne, hot, (by omega), (by omega), (by exact hp32), (by exact (hkx20.tr hkx32 (by omega)))⟩
    · refine ab_iload d_PR_addPair_24 rfl ?_
      refine ab_goto (tgt := 40) d_PR_addPair_26 (by decide) ?_
      refine ab_istore d_PR_addPair_40 (Nat.le_of_ble_eq_true rfl) (Nat.le_of_ble_eq_true rfl) rfl ?_
      change ab_W _ _ _ G2 42 [some (vR q), some (vz 3), some (vj w), none, some (vz vl), some (vz cnt), some (vz cnt)] [] _
      refine ab_iload d_PR_addPair_42 rfl ?_
      refine ab_iload d_PR_addPair_44 rfl ?_
      refine ab_callS (d' := d - 1) (as := [vz cnt, vz cnt]) (st := []) (z_PR_pair (o := o) (f0 := cnt) (u0 := cnt) (by omega)) (fun oc G2 h => by rcases h with ⟨h, _⟩ <;> exact ⟨_, h⟩) (by omega) m_PR_pair ml_PR_88 st_PR_pair (Nat.le_of_ble_eq_true rfl) d_PR_addPair_46 rfl ?_
      intro v G34 hq
      rcases hq with ⟨hv, hGe⟩
      cases hv
      rw [hGe]
      change ab_W _ _ _ G2 49 [some (vR q), some (vz 3), some (vj w), none, some (vz vl), some (vz cnt), some (vz cnt)] [vj (cnt * 4294967296 + cnt)] _
      refine ab_lret rfl d_PR_addPair_49 ?_
      rw [hQ]; exact ⟨_, _, _, _, _, _, rfl, hfr, hlen, hsl, hq, hki, hne, hot, (by omega), (by omega), (by exact hp20), (by exact hkx20)⟩
set_option maxRecDepth 100000 in
set_option maxHeartbeats 4000000 in
theorem z_PR_fork {X : ab_X} {d : Nat} {o : Nat → Nat} {G : ab_G} {q : Nat} {lq : Nat} {ki : Nat} {ne : Nat} {ot : Nat} {cnt : Int} {fi : Int} {la : Int} {ra : Nat} {ru : Int} {gr : Int} {wi : Int} {sz : Int} {fl : Int} {ve : Int} {mi : Int} {na : Nat} {nl : Nat} {K : Int → Int} {N : Int → Int} {O : Int → Int} {RR : Int → Int} {nr : Nat} {w : Int} {u : Int} (hq : cc o G q lq (ab_ob 5 [vR ki, vR ne, vR ot, vz cnt, vz fi, vz la, vR ra, vz ru, vz gr, vz wi, vz sz, vz fl, vz ve, vz mi, vR na, vR nl])) (hki : cc o G ki (lq + 1) (za 808 K)) (hne : cc o G ne (lq + 2) (za 808 N)) (hot : cc o G ot (lq + 3) (za 808 O)) (hra : cc o G ra (lq + 4) (za nr RR)) (n18 : ab_n0 = 18) (cq : 100 ≤ lq ∧ 2 ≤ cnt ∧ cnt ≤ 808 ∧ 0 ≤ la ∧ la ≤ 1) (hp_ : prok K N O RR cnt ru wi) (cw : 0 ≤ w ∧ w / 4294967296 < cnt ∧ w % 4294967296 < cnt) (cu : 0 ≤ u ∧ u / 4294967296 < cnt ∧ u % 4294967296 < cnt) (hd : 1 ≤ d) : ab_F X d y_PR_fork (.code y_PR_fork b_PR_fork 7 (some (.long))) [vR q, vj w, vj u] G (fun oc G2 => ∃ w2 : Int, ∃ cnt2 : Int, ∃ la2 : Int, ∃ K2 : Int → Int, ∃ N2 : Int → Int, ∃ O2 : Int → Int, oc = .returned (some (vj w2)) ∧ fx o o [lq, (lq + 1), (lq + 2), (lq + 3)] G G2 ∧ G2.length = G.length ∧ ab_slots G2 = ab_slots G ∧ cc o G2 q lq (ab_ob 5 [vR ki, vR ne, vR ot, vz cnt2, vz fi, vz la2, vR ra, vz ru, vz gr, vz wi, vz sz, vz fl, vz ve, vz mi, vR na, vR nl]) ∧ cc o G2 ki (lq + 1) (za 808 K2) ∧ cc o G2 ne (lq + 2) (za 808 N2) ∧ cc o G2 ot (lq + 3) (za 808 O2) ∧ (cnt ≤ cnt2 ∧ cnt2 ≤ 808 ∧ 0 ≤ la2 ∧ la2 ≤ 1) ∧ (0 ≤ w2 ∧ w2 / 4294967296 < cnt2 ∧ w2 % 4294967296 < cnt2) ∧ (prok K2 N2 O2 RR cnt2 ru wi) ∧ (kext K K2 cnt)) := by
  refine ab_F_of (by decide +kernel) (Nat.le_of_ble_eq_true rfl) ?_
  obtain ⟨Q, hQ⟩ : ∃ z : Outcome → ab_G → Prop, z = (fun oc G2 => ∃ w2 : Int, ∃ cnt2 : Int, ∃ la2 : Int, ∃ K2 : Int → Int, ∃ N2 : Int → Int, ∃ O2 : Int → Int, oc = .returned (some (vj w2)) ∧ fx o o [lq, (lq + 1), (lq + 2), (lq + 3)] G G2 ∧ G2.length = G.length ∧ ab_slots G2 = ab_slots G ∧ cc o G2 q lq (ab_ob 5 [vR ki, vR ne, vR ot, vz cnt2, vz fi, vz la2, vR ra, vz ru, vz gr, vz wi, vz sz, vz fl, vz ve, vz mi, vR na, vR nl]) ∧ cc o G2 ki (lq + 1) (za 808 K2) ∧ cc o G2 ne (lq + 2) (za 808 N2) ∧ cc o G2 ot (lq + 3) (za 808 O2) ∧ (cnt ≤ cnt2 ∧ cnt2 ≤ 808 ∧ 0 ≤ la2 ∧ la2 ≤ 1) ∧ (0 ≤ w2 ∧ w2 / 4294967296 < cnt2 ∧ w2 % 4294967296 < cnt2) ∧ (prok K2 N2 O2 RR cnt2 ru wi) ∧ (kext K K2 cnt)) := ⟨_, rfl⟩
  rw [← hQ]
  change ab_W X (ab_pl y_PR_fork b_PR_fork 7 (some (.long))) d G 0 [some (vR q), some (vj w), none, some (vj u), none, none, none] [] Q
  have hfr : fx o o [lq, (lq + 1), (lq + 2), (lq + 3)] G G := fx.rf
  have hlen : G.length = G.length := rfl
  have hsl : ab_slots G = ab_slots G := rfl
  refine ab_aload_n d_PR_fork_0 rfl ?_
  refine zz_bipush d_PR_fork_1 (by decide) ?_
  refine ab_lload_n d_PR_fork_3 rfl ?_
  refine ab_callS (d' := d - 1) (as := [vj w]) (st := [vz 6, vR q]) (z_PR_fresh (o := o) (w := w) (by omega)) (fun oc G2 h => by rcases h with ⟨h, _⟩ <;> exact ⟨_, h⟩) (by omega) m_PR_fresh ml_PR_96 st_PR_fresh (Nat.le_of_ble_eq_true rfl) d_PR_fork_4 rfl ?_
  intro v G1 hq
  rcases hq with ⟨hv, hGe⟩
  cases hv
  rw [hGe]
  change ab_W _ _ _ G 7 [some (vR q), some (vj w), none, some (vj u), none, none, none] [vz (w / 4294967296), vz 6, vR q] _
  refine ab_lload_n d_PR_fork_7 rfl ?_
  refine ab_callS (d' := d - 1) (as := [vj u]) (st := [vz (w / 4294967296), vz 6, vR q]) (z_PR_fresh (o := o) (w := u) (by omega)) (fun oc G2 h => by rcases h with ⟨h, _⟩ <;> exact ⟨_, h⟩) (by omega) m_PR_fresh ml_PR_96 st_PR_fresh (Nat.le_of_ble_eq_true rfl) d_PR_fork_8 rfl ?_
  intro v G2 hq
  rcases hq with ⟨hv, hGe⟩
  cases hv
  rw [hGe]
  change ab_W _ _ _ G 11 [some (vR q), some (vj w), none, some (vj u), none, none, none] [vz (u / 4294967296), vz (w / 4294967296), vz 6, vR q] _
  refine ab_callV (d' := d - 1) (as := [vz 6, vz (w / 4294967296), vz (u / 4294967296)]) (st := []) (r := _) (z_PR_add (o := o) (q := q) (lq := lq) (ki := ki) (ne := ne) (ot := ot) (cnt := cnt) (fi := fi) (la := la) (ra := ra) (ru := ru) (gr := gr) (wi := wi) (sz := sz) (fl := fl) (ve := ve) (mi := mi) (na := na) (nl := nl) (K := K) (N := N) (O := O) (k0 := 6) (x0 := (w / 4294967296)) (v0 := (u / 4294967296)) hq hki hne hot (by omega) (by omega) (by omega)) (fun oc G2 h => by rcases h with ⟨h, _⟩ | ⟨_, h, _⟩ <;> exact ⟨_, h⟩) (by omega) m_PR_add ml_PR_84 im_PR_add se_PR_add c_PR hq.2.2 (Nat.le_of_ble_eq_true rfl) d_PR_fork_11 rfl ?_
  intro v G3 hq
  rcases hq with ⟨hv, hGe, hq4⟩ | ⟨la25, hv, hfk, hlk, hsk, hNq, hNki, hNne, hNot, hq6, hq7, hq8⟩
  · cases hv
    rw [hGe]
    change ab_W _ _ _ G 14 [some (vR q), some (vj w), none, some (vj u), none, none, none] [vz 0] _
    refine ab_istore d_PR_fork_14 (Nat.le_of_ble_eq_true rfl) (Nat.le_of_ble_eq_true rfl) rfl ?_
    change ab_W _ _ _ G 16 [some (vR q), some (vj w), none, some (vj u), none, some (vz 0), none] [] _
    refine ab_lload_n d_PR_fork_16 rfl ?_
    refine ab_callS (d' := d - 1) (as := [vj w]) (st := []) (z_PR_fresh (o := o) (w := w) (by omega)) (fun oc G2 h => by rcases h with ⟨h, _⟩ <;> exact ⟨_, h⟩) (by omega) m_PR_fresh ml_PR_96 st_PR_fresh (Nat.le_of_ble_eq_true rfl) d_PR_fork_17 rfl ?_
    intro v G9 hq
    rcases hq with ⟨hv, hGe⟩
    cases hv
    rw [hGe]
    change ab_W _ _ _ G 20 [some (vR q), some (vj w), none, some (vj u), none, some (vz 0), none] [vz (w / 4294967296)] _
    refine ab_lload_n d_PR_fork_20 rfl ?_
    refine ab_callS (d' := d - 1) (as := [vj w]) (st := [vz (w / 4294967296)]) (z_PR_used (o := o) (w := w) (by omega)) (fun oc G2 h => by rcases h with ⟨h, _⟩ <;> exact ⟨_, h⟩) (by omega) m_PR_used ml_PR_124 st_PR_used (Nat.le_of_ble_eq_true rfl) d_PR_fork_21 rfl ?_
    intro v G10 hq
    rcases hq with ⟨hv, hGe⟩
    cases hv
    rw [hGe]
    change ab_W _ _ _ G 24 [some (vR q), some (vj w), none, some (vj u), none, some (vz 0), none] [vz (w % 4294967296), vz (w / 4294967296)] _
    refine zz_icmp_ne (tgt := 42) d_PR_fork_24 (by decide) (by omega) (by omega) (fun c11 => ?_) (fun c11 => ?_)
    · refine zz_iconst d_PR_fork_42 ?_
      refine ab_istore d_PR_fork_43 (Nat.le_of_ble_eq_true rfl) (Nat.le_of_ble_eq_true rfl) rfl ?_
      change ab_W _ _ _ G 45 [some (vR q), some (vj w), none, some (vj u), none, some (vz 0), some (vz 0)] [] _
      refine ab_iload d_PR_fork_45 rfl ?_
      refine ab_iload d_PR_fork_47 rfl ?_
      refine zz_if_eq (tgt := 57) d_PR_fork_49 (by decide) (by decide) (fun c12 => ?_) (fun c12 => absurd c12 (by decide))
      refine ab_aload_n d_PR_fork_57 rfl ?_
      refine zz_bipush d_PR_fork_58 (by decide) ?_
      refine ab_lload_n d_PR_fork_60 rfl ?_
      refine ab_callS (d' := d - 1) (as := [vj w]) (st := [vz 6, vR q, vz 0]) (z_PR_used (o := o) (w := w) (by omega)) (fun oc G2 h => by rcases h with ⟨h, _⟩ <;> exact ⟨_, h⟩) (by omega) m_PR_used ml_PR_124 st_PR_used (Nat.le_of_ble_eq_true rfl) d_PR_fork_61 rfl ?_
      intro v G13 hq
      rcases hq with ⟨hv, hGe⟩
      cases hv
      rw [hGe]
      change ab_W _ _ _ G 64 [some (vR q), some (vj w), none, some (vj u), none, some (vz 0), some (vz 0)] [vz (w % 4294967296), vz 6, vR q, vz 0] _
      refine ab_lload_n d_PR_fork_64 rfl ?_
      refine ab_callS (d' := d - 1) (as := [vj u]) (st := [vz (w % 4294967296), vz 6, vR q, vz 0]) (z_PR_used (o := o) (w := u) (by omega)) (fun oc G2 h => by rcases h with ⟨h, _⟩ <;> exact ⟨_, h⟩) (by omega) m_PR_used ml_PR_124 st_PR_used (Nat.le_of_ble_eq_true rfl) d_PR_fork_65 rfl ?_
      intro v G14 hq
      rcases hq with ⟨hv, hGe⟩
      cases hv
      rw [hGe]
      change ab_W _ _ _ G 68 [some (vR q), some (vj w), none, some (vj u), none, some (vz 0), some (vz 0)] [vz (u % 4294967296), vz (w % 4294967296), vz 6, vR q, vz 0] _
      refine ab_callV (d' := d - 1) (as := [vz 6, vz (w % 4294967296), vz (u % 4294967296)]) (st := [vz 0]) (r := _) (z_PR_add (o := o) (q := q) (lq := lq) (ki := ki) (ne := ne) (ot := ot) (cnt := cnt) (fi := fi) (la := la) (ra := ra) (ru := ru) (gr := gr) (wi := wi) (sz := sz) (fl := fl) (ve := ve) (mi := mi) (na := na) (nl := nl) (K := K) (N := N) (O := O) (k0 := 6) (x0 := (w % 4294967296)) (v0 := (u % 4294967296)) hq hki hne hot (by omega) (by omega) (by omega)) (fun oc G2 h => by rcases h with ⟨h, _⟩ | ⟨_, h, _⟩ <;> exact ⟨_, h⟩) (by omega) m_PR_add ml_PR_84 im_PR_add se_PR_add c_PR hq.2.2 (Nat.le_of_ble_eq_true rfl) d_PR_fork_68 rfl ?_
      intro v G15 hq
      rcases hq with ⟨hv, hGe, hq16⟩ | ⟨la217, hv, hfk, hlk, hsk, hNq, hNki, hNne, hNot, hq18, hq19, hq20⟩
      · cases hv
        rw [hGe]
        change ab_W _ _ _ G 71 [some (vR q), some (vj w), none, some (vj u), none, some (vz 0), some (vz 0)] [vz 0, vz 0] _
        refine ab_callS (d' := d - 1) (as := [vz 0, vz 0]) (st := []) (z_PR_pair (o := o) (f0 := 0) (u0 := 0) (by omega)) (fun oc G2 h => by rcases h with ⟨h, _⟩ <;> exact ⟨_, h⟩) (by omega) m_PR_pair ml_PR_88 st_PR_pair (Nat.le_of_ble_eq_true rfl) d_PR_fork_71 rfl ?_
        intro v G21 hq
        rcases hq with ⟨hv, hGe⟩
        cases hv
        rw [hGe]
        change ab_W _ _ _ G 74 [some (vR q), some (vj w), none, some (vj u), none, some (vz 0), some (vz 0)] [vj (0 * 4294967296 + 0)] _
        refine ab_lret rfl d_PR_fork_74 ?_
        rw [hQ]; exact ⟨_, _, _, _, _, _, rfl, hfr, hlen, hsl, hq, hki, hne, hot, (by omega), (by omega), (by exact hp_), (by exact kext.rf)⟩
      · cases hv
        have hra := hfk.get hra (by simp only [List.mem_cons, List.not_mem_nil, or_false]; omega)
        have hfr := hfr.tr hfk (by simp)
        have hlen := hlk.trans hlen
        have hsl := hsk.trans hsl
        have hq := hNq
        have hki := hNki
        have hne := hNne
        have hot := hNot
        change ab_W _ _ _ G15 71 [some (vR q), some (vj w), none, some (vj u), none, some (vz 0), some (vz 0)] [vz cnt, vz 0] _
        exfalso; omega
    · refine ab_lload_n d_PR_fork_27 rfl ?_
      refine ab_callS (d' := d - 1) (as := [vj u]) (st := []) (z_PR_fresh (o := o) (w := u) (by omega)) (fun oc G2 h => by rcases h with ⟨h, _⟩ <;> exact ⟨_, h⟩) (by omega) m_PR_fresh ml_PR_96 st_PR_fresh (Nat.le_of_ble_eq_true rfl) d_PR_fork_28 rfl ?_
      intro v G22 hq
      rcases hq with ⟨hv, hGe⟩
      cases hv
      rw [hGe]
      change ab_W _ _ _ G 31 [some (vR q), some (vj w), none, some (vj u), none, some (vz 0), none] [vz (u / 4294967296)] _
      refine ab_lload_n d_PR_fork_31 rfl ?_
      refine ab_callS (d' := d - 1) (as := [vj u]) (st := [vz (u / 4294967296)]) (z_PR_used (o := o) (w := u) (by omega)) (fun oc G2 h => by rcases h with ⟨h, _⟩ <;> exact ⟨_, h⟩) (by omega) m_PR_used ml_PR_124 st_PR_used (Nat.le_of_ble_eq_true rfl) d_PR_fork_32 rfl ?_
      intro v G23 hq
      rcases hq with ⟨hv, hGe⟩
      cases hv
      rw [hGe]
      change ab_W _ _ _ G 35 [some (vR q), some (vj w), none, some (vj u), none, some (vz 0), none] [vz (u % 4294967296), vz (u / 4294967296)] _
      refine zz_icmp_ne (tgt := 42) d_PR_fork_35 (by decide) (by omega) (by omega) (fun c24 => ?_) (fun c24 => ?_)
      · refine zz_iconst d_PR_fork_42 ?_
        refine ab_istore d_PR_fork_43 (Nat.le_of_ble_eq_true rfl) (Nat.le_of_ble_eq_true rfl) rfl ?_
        change ab_W _ _ _ G 45 [some (vR q), some (vj w), none, some (vj u), none, some (vz 0), some (vz 0)] [] _
        refine ab_iload d_PR_fork_45 rfl ?_
        refine ab_iload d_PR_fork_47 rfl ?_
        refine zz_if_eq (tgt := 57) d_PR_fork_49 (by decide) (by decide) (fun c25 => ?_) (fun c25 => absurd c25 (by decide))
        refine ab_aload_n d_PR_fork_57 rfl ?_
        refine zz_bipush d_PR_fork_58 (by decide) ?_
        refine ab_lload_n d_PR_fork_60 rfl ?_
        refine ab_callS (d' := d - 1) (as := [vj w]) (st := [vz 6, vR q, vz 0]) (z_PR_used (o := o) (w := w) (by omega)) (fun oc G2 h => by rcases h with ⟨h, _⟩ <;> exact ⟨_, h⟩) (by omega) m_PR_used ml_PR_124 st_PR_used (Nat.le_of_ble_eq_true rfl) d_PR_fork_61 rfl ?_
        intro v G26 hq
        rcases hq with ⟨hv, hGe⟩
        cases hv
        rw [hGe]
        change ab_W _ _ _ G 64 [some (vR q), some (vj w), none, some (vj u), none, some (vz 0), some (vz 0)] [vz (w % 4294967296), vz 6, vR q, vz 0] _
        refine ab_lload_n d_PR_fork_64 rfl ?_
        refine ab_callS (d' := d - 1) (as := [vj u]) (st := [vz (w % 4294967296), vz 6, vR q, vz 0]) (z_PR_used (o := o) (w := u) (by omega)) (fun oc G2 h => by rcases h with ⟨h, _⟩ <;> exact ⟨_, h⟩) (by omega) m_PR_used ml_PR_124 st_PR_used (Nat.le_of_ble_eq_true rfl) d_PR_fork_65 rfl ?_
        intro v G27 hq
        rcases hq with ⟨hv, hGe⟩
        cases hv
        rw [hGe]
        change ab_W _ _ _ G 68 [some (vR q), some (vj w), none, some (vj u), none, some (vz 0), some (vz 0)] [vz (u % 4294967296), vz (w % 4294967296), vz 6, vR q, vz 0] _
        refine ab_callV (d' := d - 1) (as := [vz 6, vz (w % 4294967296), vz (u % 4294967296)]) (st := [vz 0]) (r := _) (z_PR_add (o := o) (q := q) (lq := lq) (ki := ki) (ne := ne) (ot := ot) (cnt := cnt) (fi := fi) (la := la) (ra := ra) (ru := ru) (gr := gr) (wi := wi) (sz := sz) (fl := fl) (ve := ve) (mi := mi) (na := na) (nl := nl) (K := K) (N := N) (O := O) (k0 := 6) (x0 := (w % 4294967296)) (v0 := (u % 4294967296)) hq hki hne hot (by omega) (by omega) (by omega)) (fun oc G2 h => by rcases h with ⟨h, _⟩ | ⟨_, h, _⟩ <;> exact ⟨_, h⟩) (by omega) m_PR_add ml_PR_84 im_PR_add se_PR_add c_PR hq.2.2 (Nat.le_of_ble_eq_true rfl) d_PR_fork_68 rfl ?_
        intro v G28 hq
        rcases hq with ⟨hv, hGe, hq29⟩ | ⟨la230, hv, hfk, hlk, hsk, hNq, hNki, hNne, hNot, hq31, hq32, hq33⟩
        · cases hv
          rw [hGe]
          change ab_W _ _ _ G 71 [some (vR q), some (vj w), none, some (vj u), none, some (vz 0), some (vz 0)] [vz 0, vz 0] _
          refine ab_callS (d' := d - 1) (as := [vz 0, vz 0]) (st := []) (z_PR_pair (o := o) (f0 := 0) (u0 := 0) (by omega)) (fun oc G2 h => by rcases h with ⟨h, _⟩ <;> exact ⟨_, h⟩) (by omega) m_PR_pair ml_PR_88 st_PR_pair (Nat.le_of_ble_eq_true rfl) d_PR_fork_71 rfl ?_
          intro v G34 hq
          rcases hq with ⟨hv, hGe⟩
          cases hv
          rw [hGe]
          change ab_W _ _ _ G 74 [some (vR q), some (vj w), none, some (vj u), none, some (vz 0), some (vz 0)] [vj (0 * 4294967296 + 0)] _
          refine ab_lret rfl d_PR_fork_74 ?_
          rw [hQ]; exact ⟨_, _, _, _, _, _, rfl, hfr, hlen, hsl, hq, hki, hne, hot, (by omega), (by omega), (by exact hp_), (by exact kext.rf)⟩
        · cases hv
          have hra := hfk.get hra (by simp only [List.mem_cons, List.not_mem_nil, or_false]; omega)
          have hfr := hfr.tr hfk (by simp)
          have hlen := hlk.trans hlen
          have hsl := hsk.trans hsl
          have hq := hNq
          have hki := hNki
          have hne := hNne
          have hot := hNot
          change ab_W _ _ _ G28 71 [some (vR q), some (vj w), none, some (vj u), none, some (vz 0), some (vz 0)] [vz cnt, vz 0] _
          exfalso; omega
      · refine zz_iconst d_PR_fork_38 ?_
        refine ab_goto (tgt := 43) d_PR_fork_39 (by decide) ?_
        refine ab_istore d_PR_fork_43 (Nat.le_of_ble_eq_true rfl) (Nat.le_of_ble_eq_true rfl) rfl ?_
        change ab_W _ _ _ G 45 [some (vR q), some (vj w), none, some (vj u), none, some (vz 0), some (vz 1)] [] _
        refine ab_iload d_PR_fork_45 rfl ?_
        refine ab_iload d_PR_fork_47 rfl ?_
        refine zz_if_eq (tgt := 57) d_PR_fork_49 (by decide) (by decide) (fun c35 => absurd c35 (by decide)) (fun c35 => ?_)
        refine ab_iload d_PR_fork_52 rfl ?_
        refine ab_goto (tgt := 71) d_PR_fork_54 (by decide) ?_
        refine ab_callS (d' := d - 1) (as := [vz 0, vz 0]) (st := []) (z_PR_pair (o := o) (f0 := 0) (u0 := 0) (by omega)) (fun oc G2 h => by rcases h with ⟨h, _⟩ <;> exact ⟨_, h⟩) (by omega) m_PR_pair ml_PR_88 st_PR_pair (Nat.le_of_ble_eq_true rfl) d_PR_fork_71 rfl ?_
        intro v G36 hq
        rcases hq with ⟨hv, hGe⟩
        cases hv
        rw [hGe]
        change ab_W _ _ _ G 74 [some (vR q), some (vj w), none, some (vj u), none, some (vz 0), some (vz 1)] [vj (0 * 4294967296 + 0)] _
        refine ab_lret rfl d_PR_fork_74 ?_
        rw [hQ]; exact ⟨_, _, _, _, _, _, rfl, hfr, hlen, hsl, hq, hki, hne, hot, (by omega), (by omega), (by exact hp_), (by exact kext.rf)⟩
  · cases hv
    have hra := hfk.get hra (by simp only [List.mem_cons, List.not_mem_nil, or_false]; omega)
    have hfr := hfr.tr hfk (by simp)
    have hlen := hlk.trans hlen
    have hsl := hsk.trans hsl
    have hq := hNq
    have hki := hNki
    have hne := hNne
    have hot := hNot
    change ab_W _ _ _ G3 14 [some (vR q), some (vj w), none, some (vj u), none, none, none] [vz cnt] _
    have hp37 := prok_add (k := 6) (x := (w / 4294967296)) (v := (u / 4294967296)) hp_ (by omega) (by omega) (by omega) (by omega) (by omega) (fun t => by omega) (fun t => absurd t (by decide)) (fun t => absurd t (by decide)) (fun t => absurd t (by decide)) (fun t => absurd t (by decide))
    obtain ⟨K37, eK37⟩ : ∃ z : Int → Int, z = zu K cnt 6 := ⟨_, rfl⟩
    have hki : cc o G3 ki (lq + 1) (za 808 K37) := by rw [← eK37.symm]; exact hki
    obtain ⟨N37, eN37⟩ : ∃ z : Int → Int, z = zu N cnt (w / 4294967296) := ⟨_, rfl⟩
    have hne : cc o G3 ne (lq + 2) (za 808 N37) := by rw [← eN37.symm]; exact hne
    obtain ⟨O37, eO37⟩ : ∃ z : Int → Int, z = zu O cnt (u / 4294967296) := ⟨_, rfl⟩
    have hot : cc o G3 ot (lq + 3) (za 808 O37) := by rw [← eO37.symm]; exact hot
    rw [← eK37, ← eN37, ← eO37] at hp37
    have hkx37 : kext K K37 cnt := by rw [eK37]; exact kext.zu (Int.le_refl _)
    have hks37 : K37 cnt = 6 := by rw [eK37]; exact zu_self _ _ _
    change ab_W _ _ _ G3 14 [some (vR q), some (vj w), none, some (vj u), none, none, none] [vz cnt] _
    refine ab_istore d_PR_fork_14 (Nat.le_of_ble_eq_true rfl) (Nat.le_of_ble_eq_true rfl) rfl ?_
    change ab_W _ _ _ G3 16 [some (vR q), some (vj w), none, some (vj u), none, some (vz cnt), none] [] _
    refine ab_lload_n d_PR_fork_16 rfl ?_
    refine ab_callS (d' := d - 1) (as := [vj w]) (st := []) (z_PR_fresh (o := o) (w := w) (by omega)) (fun oc G2 h => by rcases h with ⟨h, _⟩ <;> exact ⟨_, h⟩) (by omega) m_PR_fresh ml_PR_96 st_PR_fresh (Nat.le_of_ble_eq_true rfl) d_PR_fork_17 rfl ?_
    intro v G38 hq
    rcases hq with ⟨hv, hGe⟩
    cases hv
    rw [hGe]
    change ab_W _ _ _ G3 20 [some (vR q), some (vj w), none, some (vj u), none, some (vz cnt), none] [vz (w / 4294967296)] _
    refine ab_lload_n d_PR_fork_20 rfl ?_
    refine ab_callS (d' := d - 1) (as := [vj w]) (st := [vz (w / 4294967296)]) (z_PR_used (o := o) (w := w) (by omega)) (fun oc G2 h => by rcases h with ⟨h, _⟩ <;> exact ⟨_, h⟩) (by omega) m_PR_used ml_PR_124 st_PR_used (Nat.le_of_ble_eq_true rfl) d_PR_fork_21 rfl ?_
    intro v G39 hq
    rcases hq with ⟨hv, hGe⟩
    cases hv
    rw [hGe]
    change ab_W _ _ _ G3 24 [some (vR q), some (vj w), none, some (vj u), none, some (vz cnt), none] [vz (w % 4294967296), vz (w / 4294967296)] _
    refine zz_icmp_ne (tgt := 42) d_PR_fork_24 (by decide) (by omega) (by omega) (fun c40 => ?_) (fun c40 => ?_)
    · refine zz_iconst d_PR_fork_42 ?_
      refine ab_istore d_PR_fork_43 (Nat.le_of_ble_eq_true rfl) (Nat.le_of_ble_eq_true rfl) rfl ?_
      change ab_W _ _ _ G3 45 [some (vR q), some (vj w), none, some (vj u), none, some (vz cnt), some (vz 0)] [] _
      refine ab_iload d_PR_fork_45 rfl ?_
      refine ab_iload d_PR_fork_47 rfl ?_
      refine zz_if_eq (tgt := 57) d_PR_fork_49 (by decide) (by decide) (fun c41 => ?_) (fun c41 => absurd c41 (by decide))
      refine ab_aload_n d_PR_fork_57 rfl ?_
      refine zz_bipush d_PR_fork_58 (by decide) ?_
      refine ab_lload_n d_PR_fork_60 rfl ?_
      refine ab_callS (d' := d - 1) (as := [vj w]) (st := [vz 6, vR q, vz cnt]) (z_PR_used (o := o) (w := w) (by omega)) (fun oc G2 h => by rcases h with ⟨h, _⟩ <;> exact ⟨_, h⟩) (by omega) m_PR_used ml_PR_124 st_PR_used (Nat.le_of_ble_eq_true rfl) d_PR_fork_61 rfl ?_
      intro v G42 hq
      rcases hq with ⟨hv, hGe⟩
      cases hv
      rw [hGe]
      change ab_W _ _ _ G3 64 [some (vR q), some (vj w), none, some (vj u), none, some (vz cnt), some (vz 0)] [vz (w % 4294967296), vz 6, vR q, vz cnt] _
      refine ab_lload_n d_PR_fork_64 rfl ?_
      refine ab_callS (d' := d - 1) (as := [vj u]) (st := [vz (w % 4294967296), vz 6, vR q, vz cnt]) (z_PR_used (o := o) (w := u) (by omega)) (fun oc G2 h => by rcases h with ⟨h, _⟩ <;> exact ⟨_, h⟩) (by omega) m_PR_used ml_PR_124 st_PR_used (Nat.le_of_ble_eq_true rfl) d_PR_fork_65 rfl ?_
      intro v G43 hq
      rcases hq with ⟨hv, hGe⟩
      cases hv
      rw [hGe]
      change ab_W _ _ _ G3 68 [some (vR q), some (vj w), none, some (vj u), none, some (vz cnt), some (vz 0)] [vz (u % 4294967296), vz (w % 4294967296), vz 6, vR q, vz cnt] _
      refine ab_callV (d' := d - 1) (as := [vz 6, vz (w % 4294967296), vz (u % 4294967296)]) (st := [vz cnt]) (r := _) (z_PR_add (o := o) (q := q) (lq := lq) (ki := ki) (ne := ne) (ot := ot) (cnt := (cnt + 1)) (fi := fi) (la := la25) (ra := ra) (ru := ru) (gr := gr) (wi := wi) (sz := sz) (fl := fl) (ve := ve) (mi := mi) (na := na) (nl := nl) (K := K37) (N := N37) (O := O37) (k0 := 6) (x0 := (w % 4294967296)) (v0 := (u % 4294967296)) hq hki hne hot (by omega) (by omega) (by omega)) (fun oc G2 h => by rcases h with ⟨h, _⟩ | ⟨_, h, _⟩ <;> exact ⟨_, h⟩) (by omega) m_PR_add ml_PR_84 im_PR_add se_PR_add c_PR hq.2.2 (Nat.le_of_ble_eq_true rfl) d_PR_fork_68 rfl ?_
      intro v G44 hq
      rcases hq with ⟨hv, hGe, hq45⟩ | ⟨la246, hv, hfk, hlk, hsk, hNq, hNki, hNne, hNot, hq47, hq48, hq49⟩
      · cases hv
        rw [hGe]
        change ab_W _ _ _ G3 71 [some (vR q), some (vj w), none, some (vj u), none, some (vz cnt), some (vz 0)] [vz 0, vz cnt] _
        refine ab_callS (d' := d - 1) (as := [vz cnt, vz 0]) (st := []) (z_PR_pair (o := o) (f0 := cnt) (u0 := 0) (by omega)) (fun oc G2 h => by rcases h with ⟨h, _⟩ <;> exact ⟨_, h⟩) (by omega) m_PR_pair ml_PR_88 st_PR_pair (Nat.le_of_ble_eq_true rfl) d_PR_fork_71 rfl ?_
        intro v G50 hq
        rcases hq with ⟨hv, hGe⟩
        cases hv
        rw [hGe]
        change ab_W _ _ _ G3 74 [some (vR q), some (vj w), none, some (vj u), none, some (vz cnt), some (vz 0)] [vj (cnt * 4294967296 + 0)] _
        refine ab_lret rfl d_PR_fork_74 ?_
        rw [hQ]; exact ⟨_, _, _, _, _, _, rfl, hfr, hlen, hsl, hq, hki, hne, hot, (by omega), (by omega), (by exact hp37), (by exact hkx37)⟩
      · cases hv
        have hra := hfk.get hra (by simp only [List.mem_cons, List.not_mem_nil, or_false]; omega)
        have hfr := hfr.tr hfk (by simp)
        have hlen := hlk.trans hlen
        have hsl := hsk.trans hsl
        have hq := hNq
        have hki := hNki
        have hne := hNne
        have hot := hNot
        change ab_W _ _ _ G44 71 [some (vR q), some (vj w), none, some (vj u), none, some (vz cnt), some (vz 0)] [vz (cnt + 1), vz cnt] _
        have hp51 := prok_add (k := 6) (x := (w % 4294967296)) (v := (u % 4294967296)) hp37 (by omega) (by omega) (by omega) (by omega) (by omega) (fun t => by omega) (fun t => absurd t (by decide)) (fun t => absurd t (by decide)) (fun t => absurd t (by decide)) (fun t => absurd t (by decide))
        obtain ⟨K51, eK51⟩ : ∃ z : Int → Int, z = zu K37 (cnt + 1) 6 := ⟨_, rfl⟩
        have hki : cc o G44 ki (lq + 1) (za 808 K51) := by rw [← eK51.symm]; exact hki
        obtain ⟨N51, eN51⟩ : ∃ z : Int → Int, z = zu N37 (cnt + 1) (w % 4294967296) := ⟨_, rfl⟩
        have hne : cc o G44 ne (lq + 2) (za 808 N51) := by rw [← eN51.symm]; exact hne
        obtain ⟨O51, eO51⟩ : ∃ z : Int → Int, z = zu O37 (cnt + 1) (u % 4294967296) := ⟨_, rfl⟩
        have hot : cc o G44 ot (lq + 3) (za 808 O51) := by rw [← eO51.symm]; exact hot
        rw [← eK51, ← eN51, ← eO51] at hp51
        have hkx51 : kext K37 K51 (cnt + 1) := by rw [eK51]; exact kext.zu (Int.le_refl _)
        have hks51 : K51 (cnt + 1) = 6 := by rw [eK51]; exact zu_self _ _ _
        change ab_W _ _ _ G44 71 [some (vR q), some (vj w), none, some (vj u), none, some (vz cnt), some (vz 0)] [vz (cnt + 1), vz cnt] _
        refine ab_callS (d' := d - 1) (as := [vz cnt, vz (cnt + 1)]) (st := []) (z_PR_pair (o := o) (f0 := cnt) (u0 := (cnt + 1)) (by omega)) (fun oc G2 h => by rcases h with ⟨h, _⟩ <;> exact ⟨_, h⟩) (by omega) m_PR_pair ml_PR_88 st_PR_pair (Nat.le_of_ble_eq_true rfl) d_PR_fork_71 rfl ?_
        intro v G52 hq
        rcases hq with ⟨hv, hGe⟩
        cases hv
        rw [hGe]
        change ab_W _ _ _ G44 74 [some (vR q), some (vj w), none, some (vj u), none, some (vz cnt), some (vz 0)] [vj (cnt * 4294967296 + (cnt + 1))] _
        refine ab_lret rfl d_PR_fork_74 ?_
        rw [hQ]; exact ⟨_, _, _, _, _, _, rfl, hfr, hlen, hsl, hq, hki, hne, hot, (by omega), (by omega), (by exact hp51), (by exact (hkx37.tr hkx51 (by omega)))⟩
    · refine ab_lload_n d_PR_fork_27 rfl ?_
      refine ab_callS (d' := d - 1) (as := [vj u]) (st := []) (z_PR_fresh (o := o) (w := u) (by omega)) (fun oc G2 h => by rcases h with ⟨h, _⟩ <;> exact ⟨_, h⟩) (by omega) m_PR_fresh ml_PR_96 st_PR_fresh (Nat.le_of_ble_eq_true rfl) d_PR_fork_28 rfl ?_
      intro v G53 hq
      rcases hq with ⟨hv, hGe⟩
      cases hv
      rw [hGe]
      change ab_W _ _ _ G3 31 [some (vR q), some (vj w), none, some (vj u), none, some (vz cnt), none] [vz (u / 4294967296)] _
      refine ab_lload_n d_PR_fork_31 rfl ?_
      refine ab_callS (d' := d - 1) (as := [vj u]) (st := [vz (u / 4294967296)]) (z_PR_used (o := o) (w := u) (by omega)) (fun oc G2 h => by rcases h with ⟨h, _⟩ <;> exact ⟨_, h⟩) (by omega) m_PR_used ml_PR_124 st_PR_used (Nat.le_of_ble_eq_true rfl) d_PR_fork_32 rfl ?_
      intro v G54 hq
      rcases hq with ⟨hv, hGe⟩
      cases hv
      rw [hGe]
      change ab_W _ _ _ G3 35 [some (vR q), some (vj w), none, some (vj u), none, some (vz cnt), none] [vz (u % 4294967296), vz (u / 4294967296)] _
      refine zz_icmp_ne (tgt := 42) d_PR_fork_35 (by decide) (by omega) (by omega) (fun c55 => ?_) (fun c55 => ?_)
      · refine zz_iconst d_PR_fork_42 ?_
        refine ab_istore d_PR_fork_43 (Nat.le_of_ble_eq_true rfl) (Nat.le_of_ble_eq_true rfl) rfl ?_
        change ab_W _ _ _ G3 45 [some (vR q), some (vj w), none, some (vj u), none, some (vz cnt), some (vz 0)] [] _
        refine ab_iload d_PR_fork_45 rfl ?_
        refine ab_iload d_PR_fork_47 rfl ?_
        refine zz_if_eq (tgt := 57) d_PR_fork_49 (by decide) (by decide) (fun c56 => ?_) (fun c56 => absurd c56 (by decide))
        refine ab_aload_n d_PR_fork_57 rfl ?_
        refine zz_bipush d_PR_fork_58 (by decide) ?_
        refine ab_lload_n d_PR_fork_60 rfl ?_
        refine ab_callS (d' := d - 1) (as := [vj w]) (st := [vz 6, vR q, vz cnt]) (z_PR_used (o := o) (w := w) (by omega)) (fun oc G2 h => by rcases h with ⟨h, _⟩ <;> exact ⟨_, h⟩) (by omega) m_PR_used ml_PR_124 st_PR_used (Nat.le_of_ble_eq_true rfl) d_PR_fork_61 rfl ?_
        intro v G57 hq
        rcases hq with ⟨hv, hGe⟩
        cases hv
        rw [hGe]
        change ab_W _ _ _ G3 64 [some (vR q), some (vj w), none, some (vj u), none, some (vz cnt), some (vz 0)] [vz (w % 4294967296), vz 6, vR q, vz cnt] _
        refine ab_lload_n d_PR_fork_64 rfl ?_
        refine ab_callS (d' := d - 1) (as := [vj u]) (st := [vz (w % 4294967296), vz 6, vR q, vz cnt]) (z_PR_used (o := o) (w := u) (by omega)) (fun oc G2 h => by rcases h with ⟨h, _⟩ <;> exact ⟨_, h⟩) (by omega) m_PR_used ml_PR_124 st_PR_used (Nat.le_of_ble_eq_true rfl) d_PR_fork_65 rfl ?_
        intro v G58 hq
        rcases hq with ⟨hv, hGe⟩
        cases hv
        rw [hGe]
        change ab_W _ _ _ G3 68 [some (vR q), some (vj w), none, some (vj u), none, some (vz cnt), some (vz 0)] [vz (u % 4294967296), vz (w % 4294967296), vz 6, vR q, vz cnt] _
        refine ab_callV (d' := d - 1) (as := [vz 6, vz (w % 4294967296), vz (u % 4294967296)]) (st := [vz cnt]) (r := _) (z_PR_add (o := o) (q := q) (lq := lq) (ki := ki) (ne := ne) (ot := ot) (cnt := (cnt + 1)) (fi := fi) (la := la25) (ra := ra) (ru := ru) (gr := gr) (wi := wi) (sz := sz) (fl := fl) (ve := ve) (mi := mi) (na := na) (nl := nl) (K := K37) (N := N37) (O := O37) (k0 := 6) (x0 := (w % 4294967296)) (v0 := (u % 4294967296)) hq hki hne hot (by omega) (by omega) (by omega)) (fun oc G2 h => by rcases h with ⟨h, _⟩ | ⟨_, h, _⟩ <;> exact ⟨_, h⟩) (by omega) m_PR_add ml_PR_84 im_PR_add se_PR_add c_PR hq.2.2 (Nat.le_of_ble_eq_true rfl) d_PR_fork_68 rfl ?_
        intro v G59 hq
        rcases hq with ⟨hv, hGe, hq60⟩ | ⟨la261, hv, hfk, hlk, hsk, hNq, hNki, hNne, hNot, hq62, hq63, hq64⟩
        · cases hv
          rw [hGe]
          change ab_W _ _ _ G3 71 [some (vR q), some (vj w), none, some (vj u), none, some (vz cnt), some (vz 0)] [vz 0, vz cnt] _
          refine ab_callS (d' := d - 1) (as := [vz cnt, vz 0]) (st := []) (z_PR_pair (o := o) (f0 := cnt) (u0 := 0) (by omega)) (fun oc G2 h => by rcases h with ⟨h, _⟩ <;> exact ⟨_, h⟩) (by omega) m_PR_pair ml_PR_88 st_PR_pair (Nat.le_of_ble_eq_true rfl) d_PR_fork_71 rfl ?_
          intro v G65 hq
          rcases hq with ⟨hv, hGe⟩
          cases hv
          rw [hGe]
          change ab_W _ _ _ G3 74 [some (vR q), some (vj w), none, some (vj u), none, some (vz cnt), some (vz 0)] [vj (cnt * 4294967296 + 0)] _
          refine ab_lret rfl d_PR_fork_74 ?_
          rw [hQ]; exact ⟨_, _, _, _, _, _, rfl, hfr, hlen, hsl, hq, hki, hne, hot, (by omega), (by omega), (by exact hp37), (by exact hkx37)⟩
        · cases hv
          have hra := hfk.get hra (by simp only [List.mem_cons, List.not_mem_nil, or_false]; omega)
          have hfr := hfr.tr hfk (by simp)
          have hlen := hlk.trans hlen
          have hsl := hsk.trans hsl
          have hq := hNq
          have hki := hNki
          have hne := hNne
          have hot := hNot
          change ab_W _ _ _ G59 71 [some (vR q), some (vj w), none, some (vj u), none, some (vz cnt), some (vz 0)] [vz (cnt + 1), vz cnt] _
          have hp66 := prok_add (k := 6) (x := (w % 4294967296)) (v := (u % 4294967296)) hp37 (by omega) (by omega) (by omega) (by omega) (by omega) (fun t => by omega) (fun t => absurd t (by decide)) (fun t => absurd t (by decide)) (fun t => absurd t (by decide)) (fun t => absurd t (by decide))
          obtain ⟨K66, eK66⟩ : ∃ z : Int → Int, z = zu K37 (cnt + 1) 6 := ⟨_, rfl⟩
          have hki : cc o G59 ki (lq + 1) (za 808 K66) := by rw [← eK66.symm]; exact hki
          obtain ⟨N66, eN66⟩ : ∃ z : Int → Int, z = zu N37 (cnt + 1) (w % 4294967296) := ⟨_, rfl⟩
          have hne : cc o G59 ne (lq + 2) (za 808 N66) := by rw [← eN66.symm]; exact hne
          obtain ⟨O66, eO66⟩ : ∃ z : Int → Int, z = zu O37 (cnt + 1) (u % 4294967296) := ⟨_, rfl⟩
          have hot : cc o G59 ot (lq + 3) (za 808 O66) := by rw [← eO66.symm]; exact hot
          rw [← eK66, ← eN66, ← eO66] at hp66
          have hkx66 : kext K37 K66 (cnt + 1) := by rw [eK66]; exact kext.zu (Int.le_refl _)
          have hks66 : K66 (cnt + 1) = 6 := by rw [eK66]; exact zu_self _ _ _
          change ab_W _ _ _ G59 71 [some (vR q), some (vj w), none, some (vj u), none, some (vz cnt), some (vz 0)] [vz (cnt + 1), vz cnt] _
          refine ab_callS (d' := d - 1) (as := [vz cnt, vz (cnt + 1)]) (st := []) (z_PR_pair (o := o) (f0 := cnt) (u0 := (cnt + 1)) (by omega)) (fun oc G2 h => by rcases h with ⟨h, _⟩ <;> exact ⟨_, h⟩) (by omega) m_PR_pair ml_PR_88 st_PR_pair (Nat.le_of_ble_eq_true rfl) d_PR_fork_71 rfl ?_
          intro v G67 hq
          rcases hq with ⟨hv, hGe⟩
          cases hv
          rw [hGe]
          change ab_W _ _ _ G59 74 [some (vR q), some (vj w), none, some (vj u), none, some (vz cnt), some (vz 0)] [vj (cnt * 4294967296 + (cnt + 1))] _
          refine ab_lret rfl d_PR_fork_74 ?_
          rw [hQ]; exact ⟨_, _, _, _, _, _, rfl, hfr, hlen, hsl, hq, hki, hne, hot, (by omega), (by omega), (by exact hp66), (by exact (hkx37.tr hkx66 (by omega)))⟩
      · refine zz_iconst d_PR_fork_38 ?_
        refine ab_goto (tgt := 43) d_PR_fork_39 (by decide) ?_
        refine ab_istore d_PR_fork_43 (Nat.le_of_ble_eq_true rfl) (Nat.le_of_ble_eq_true rfl) rfl ?_
        change ab_W _ _ _ G3 45 [some (vR q), some (vj w), none, some (vj u), none, some (vz cnt), some (vz 1)] [] _
        refine ab_iload d_PR_fork_45 rfl ?_
        refine ab_iload d_PR_fork_47 rfl ?_
        refine zz_if_eq (tgt := 57) d_PR_fork_49 (by decide) (by decide) (fun c68 => absurd c68 (by decide)) (fun c68 => ?_)
        refine ab_iload d_PR_fork_52 rfl ?_
        refine ab_goto (tgt := 71) d_PR_fork_54 (by decide) ?_
        refine ab_callS (d' := d - 1) (as := [vz cnt, vz cnt]) (st := []) (z_PR_pair (o := o) (f0 := cnt) (u0 := cnt) (by omega)) (fun oc G2 h => by rcases h with ⟨h, _⟩ <;> exact ⟨_, h⟩) (by omega) m_PR_pair ml_PR_88 st_PR_pair (Nat.le_of_ble_eq_true rfl) d_PR_fork_71 rfl ?_
        intro v G69 hq
        rcases hq with ⟨hv, hGe⟩
        cases hv
        rw [hGe]
        change ab_W _ _ _ G3 74 [some (vR q), some (vj w), none, some (vj u), none, some (vz cnt), some (vz 1)] [vj (cnt * 4294967296 + cnt)] _
        refine ab_lret rfl d_PR_fork_74 ?_
        rw [hQ]; exact ⟨_, _, _, _, _, _, rfl, hfr, hlen, hsl, hq, hki, hne, hot, (by omega), (by omega), (by exact hp37), (by exact hkx37)⟩
set_option maxRecDepth 100000 in
set_option maxHeartbeats 4000000 in
theorem z_PR_once {X : ab_X} {d : Nat} {o : Nat → Nat} {G : ab_G} {q : Nat} {lq : Nat} {ki : Nat} {ne : Nat} {ot : Nat} {cnt : Int} {fi : Int} {la : Int} {ra : Nat} {ru : Int} {gr : Int} {wi : Int} {sz : Int} {fl : Int} {ve : Int} {mi : Int} {na : Nat} {nl : Nat} {K : Int → Int} {N : Int → Int} {O : Int → Int} {RR : Int → Int} {nr : Nat} {ps : Nat → Nat} {wt : Nat → Nat} {bs : Nat} {ph : Int} {gq : Int} {p : Nat} {w : Int} {dd : Int} (hq : cc o G q lq (ab_ob 5 [vR ki, vR ne, vR ot, vz cnt, vz fi, vz la, vR ra, vz ru, vz gr, vz wi, vz sz, vz fl, vz ve, vz mi, vR na, vR nl])) (hki : cc o G ki (lq + 1) (za 808 K)) (hne : cc o G ne (lq + 2) (za 808 N)) (hot : cc o G ot (lq + 3) (za 808 O)) (hra : cc o G ra (lq + 4) (za nr RR)) (ppaI_0 : paI o G 0 ps wt bs gq (prc RR ru) ph) (n18 : ab_n0 = 18) (cq : 100 ≤ lq ∧ 2 ≤ cnt ∧ cnt ≤ 808 ∧ 0 ≤ la ∧ la ≤ 1 ∧ 0 ≤ ru ∧ ru ≤ ↑nr ∧ ↑nr ≤ (100000 : Int) ∧ 32 ≤ nr ∧ 0 ≤ ph ∧ ru + ph ≤ 50000) (hp_ : prok K N O RR cnt ru wi) (hch : rch RR ru) (hr : hrr RR ↑nr) (ck0 : K 0 = 9) (cg_ : 0 ≤ gq ∧ gq ≤ 9 ∧ wi = 2 * (gq + 1)) (hpp : ps p = 90) (cw : 0 ≤ w ∧ w / 4294967296 < cnt ∧ w % 4294967296 < cnt) (cdd : 0 ≤ dd ∧ dd ≤ 30) (hdd : 6 * (31 - dd) + 6 ≤ (↑d : Int)) (rc : 32 * G.length + 103300 ≤ 32 * (ab_n0 + room_1.cells) + nr) (rs : ab_slots G + 200000 ≤ room_1.slots + 2 * nr) (ihR : ∀ {d : Nat} {o : Nat → Nat} {G : ab_G} {q : Nat} {lq : Nat} {ki : Nat} {ne : Nat} {ot : Nat} {cnt : Int} {fi : Int} {la : Int} {ra : Nat} {ru : Int} {gr : Int} {wi : Int} {sz : Int} {fl : Int} {ve : Int} {mi : Int} {na : Nat} {nl : Nat} {K : Int → Int} {N : Int → Int} {O : Int → Int} {RR : Int → Int} {nr : Nat} {ps : Nat → Nat} {wt : Nat → Nat} {bs : Nat} {ph : Int} {gq : Int} {p : Nat} {w : Int}, (cc o G q lq (ab_ob 5 [vR ki, vR ne, vR ot, vz cnt, vz fi, vz la, vR ra, vz ru, vz gr, vz wi, vz sz, vz fl, vz ve, vz mi, vR na, vR nl])) → (cc o G ki (lq + 1) (za 808 K)) → (cc o G ne (lq + 2) (za 808 N)) → (cc o G ot (lq + 3) (za 808 O)) → (cc o G ra (lq + 4) (za nr RR)) → (paI o G 0 ps wt bs gq (prc RR ru) ph) → (ab_n0 = 18) → (100 ≤ lq ∧ 2 ≤ cnt ∧ cnt ≤ 808 ∧ 0 ≤ la ∧ la ≤ 1 ∧ 0 ≤ ru ∧ ru ≤ ↑nr ∧ ↑nr ≤ (100000 : Int) ∧ 32 ≤ nr ∧ 0 ≤ ph ∧ ru + ph ≤ 50000) → (prok K N O RR cnt ru wi) → (rch RR ru) → (hrr RR ↑nr) → (K 0 = 9) → (0 ≤ gq ∧ gq ≤ 9 ∧ wi = 2 * (gq + 1)) → (ps p = 90) → (0 ≤ w ∧ w / 4294967296 < cnt ∧ w % 4294967296 < cnt) → (0 ≤ (dd + 1) ∧ (dd + 1) ≤ 31) → (6 * (31 - (dd + 1)) + 10 ≤ (↑d : Int)) → (32 * G.length + 103300 ≤ 32 * (ab_n0 + room_1.cells) + nr) → (ab_slots G + 200000 ≤ room_1.slots + 2 * nr) → ab_F X d y_PR_rows (.code y_PR_rows b_PR_rows 8 (some (.long))) [vR q, vR p, vj w, vz (dd + 1)] G (fun oc G2 => ∃ o2 : Nat → Nat, ∃ w2 : Int, ∃ cnt2 : Int, ∃ la2 : Int, ∃ ra2 : Nat, ∃ nr2 : Nat, ∃ ru2 : Int, ∃ K2 : Int → Int, ∃ N2 : Int → Int, ∃ O2 : Int → Int, ∃ RR2 : Int → Int, ∃ ph2 : Int, oc = .returned (some (vj w2)) ∧ fx o o2 [lq, (lq + 1), (lq + 2), (lq + 3), (lq + 4), 90] G G2 ∧ cc o2 G2 q lq (ab_ob 5 [vR ki, vR ne, vR ot, vz cnt2, vz fi, vz la2, vR ra2, vz ru2, vz gr, vz wi, vz sz, vz fl, vz ve, vz mi, vR na, vR nl]) ∧ cc o2 G2 ki (lq + 1) (za 808 K2) ∧ cc o2 G2 ne (lq + 2) (za 808 N2) ∧ cc o2 G2 ot (lq + 3) (za 808 O2) ∧ cc o2 G2 ra2 (lq + 4) (za nr2 RR2) ∧ paI o2 G2 0 ps wt bs gq (prc RR2 ru2) ph2 ∧ (cnt ≤ cnt2 ∧ cnt2 ≤ 808 ∧ 0 ≤ la2 ∧ la2 ≤ 1) ∧ (0 ≤ w2 ∧ w2 / 4294967296 < cnt2 ∧ w2 % 4294967296 < cnt2) ∧ (0 ≤ ru2 ∧ ru2 ≤ ↑nr2 ∧ ↑nr2 ≤ (100000 : Int) ∧ nr ≤ nr2) ∧ (0 ≤ ph2 ∧ ru2 + ph2 ≤ ru + ph) ∧ (prok K2 N2 O2 RR2 cnt2 ru2 wi) ∧ (hrr RR2 ↑nr2) ∧ (rch RR2 ru2) ∧ (kext K K2 cnt) ∧ (fzr ps o o2 G G2) ∧ (32 * G2.length + nr ≤ 32 * G.length + nr2) ∧ (ab_slots G2 + 2 * nr ≤ ab_slots G + 2 * nr2))) : ab_F X d y_PR_once (.code y_PR_once b_PR_once 7 (some (.long))) [vR q, vR p, vj w, vz dd] G (fun oc G2 => ∃ o2 : Nat → Nat, ∃ w2 : Int, ∃ cnt2 : Int, ∃ la2 : Int, ∃ ra2 : Nat, ∃ nr2 : Nat, ∃ ru2 : Int, ∃ K2 : Int → Int, ∃ N2 : Int → Int, ∃ O2 : Int → Int, ∃ RR2 : Int → Int, ∃ ph2 : Int, oc = .returned (some (vj w2)) ∧ fx o o2 [lq, (lq + 1), (lq + 2), (lq + 3), (lq + 4), 90] G G2 ∧ cc o2 G2 q lq (ab_ob 5 [vR ki, vR ne, vR ot, vz cnt2, vz fi, vz la2, vR ra2, vz ru2, vz gr, vz wi, vz sz, vz fl, vz ve, vz mi, vR na, vR nl]) ∧ cc o2 G2 ki (lq + 1) (za 808 K2) ∧ cc o2 G2 ne (lq + 2) (za 808 N2) ∧ cc o2 G2 ot (lq + 3) (za 808 O2) ∧ cc o2 G2 ra2 (lq + 4) (za nr2 RR2) ∧ paI o2 G2 0 ps wt bs gq (prc RR2 ru2) ph2 ∧ (cnt ≤ cnt2 ∧ cnt2 ≤ 808 ∧ 0 ≤ la2 ∧ la2 ≤ 1) ∧ (0 ≤ w2 ∧ w2 / 4294967296 < cnt2 ∧ w2 % 4294967296 < cnt2) ∧ (0 ≤ ru2 ∧ ru2 ≤ ↑nr2 ∧ ↑nr2 ≤ (100000 : Int) ∧ nr ≤ nr2) ∧ (0 ≤ ph2 ∧ ru2 + ph2 ≤ ru + ph) ∧ (prok K2 N2 O2 RR2 cnt2 ru2 wi) ∧ (hrr RR2 ↑nr2) ∧ (rch RR2 ru2) ∧ (kext K K2 cnt) ∧ (fzr ps o o2 G G2) ∧ (32 * G2.length + nr ≤ 32 * G.length + nr2) ∧ (ab_slots G2 + 2 * nr ≤ ab_slots G + 2 * nr2)) := by
  refine ab_F_of (by decide +kernel) (Nat.le_of_ble_eq_true rfl) ?_
  obtain ⟨Q, hQ⟩ : ∃ z : Outcome → ab_G → Prop, z = (fun oc G2 => ∃ o2 : Nat → Nat, ∃ w2 : Int, ∃ cnt2 : Int, ∃ la2 : Int, ∃ ra2 : Nat, ∃ nr2 : Nat, ∃ ru2 : Int, ∃ K2 : Int → Int, ∃ N2 : Int → Int, ∃ O2 : Int → Int, ∃ RR2 : Int → Int, ∃ ph2 : Int, oc = .returned (some (vj w2)) ∧ fx o o2 [lq, (lq + 1), (lq + 2), (lq + 3), (lq + 4), 90] G G2 ∧ cc o2 G2 q lq (ab_ob 5 [vR ki, vR ne, vR ot, vz cnt2, vz fi, vz la2, vR ra2, vz ru2, vz gr, vz wi, vz sz, vz fl, vz ve, vz mi, vR na, vR nl]) ∧ cc o2 G2 ki (lq + 1) (za 808 K2) ∧ cc o2 G2 ne (lq + 2) (za 808 N2) ∧ cc o2 G2 ot (lq + 3) (za 808 O2) ∧ cc o2 G2 ra2 (lq + 4) (za nr2 RR2) ∧ paI o2 G2 0 ps wt bs gq (prc RR2 ru2) ph2 ∧ (cnt ≤ cnt2 ∧ cnt2 ≤ 808 ∧ 0 ≤ la2 ∧ la2 ≤ 1) ∧ (0 ≤ w2 ∧ w2 / 4294967296 < cnt2 ∧ w2 % 4294967296 < cnt2) ∧ (0 ≤ ru2 ∧ ru2 ≤ ↑nr2 ∧ ↑nr2 ≤ (100000 : Int) ∧ nr ≤ nr2) ∧ (0 ≤ ph2 ∧ ru2 + ph2 ≤ ru + ph) ∧ (prok K2 N2 O2 RR2 cnt2 ru2 wi) ∧ (hrr RR2 ↑nr2) ∧ (rch RR2 ru2) ∧ (kext K K2 cnt) ∧ (fzr ps o o2 G G2) ∧ (32 * G2.length + nr ≤ 32 * G.length + nr2) ∧ (ab_slots G2 + 2 * nr ≤ ab_slots G + 2 * nr2)) := ⟨_, rfl⟩
  rw [← hQ]
  change ab_W X (ab_pl y_PR_once b_PR_once 7 (some (.long))) d G 0 [some (vR q), some (vR p), some (vj w), none, some (vz dd), none, none] [] Q
  have hfr : fx o o [lq, (lq + 1), (lq + 2), (lq + 3), (lq + 4), 90] G G := fx.rf
  have hzr : fzr ps o o G G := fzr.rf
  obtain ⟨k_1, v_1, rg_1, pl_1, fl_1, ou_1, ls_1, bf_1, sz_1, mb_1, oe_1, le_1, mo_1, la_1, rc_1, hp, hn1, hb1, hg1, ho1, hl1, hf1⟩ := ppaI_0.1 p hpp
  have hB1 := hb1
  unfold pnB at hB1
  have hK1 := hn1.1
  refine ab_aload_n d_PR_once_0 rfl ?_
  refine ab_getf (fs := [vz k_1, vz v_1, rg_1, vz pl_1, vz fl_1, ou_1, ls_1, bf_1, vz sz_1, vz mb_1, vz oe_1, vz le_1, vz mo_1, vz la_1, vz rc_1]) f_PR_162 d_PR_once_1 hp.2.2 rfl ?_
  refine zz_iconst d_PR_once_4 ?_
  refine zz_icmp_ne (tgt := 26) d_PR_once_5 (by decide) (by omega) (by decide) (fun c2 => ?_) (fun c2 => ?_)
  · refine ab_aload_n d_PR_once_26 rfl ?_
    refine ab_getf (fs := [vz k_1, vz v_1, rg_1, vz pl_1, vz fl_1, ou_1, ls_1, bf_1, vz sz_1, vz mb_1, vz oe_1, vz le_1, vz mo_1, vz la_1, vz rc_1]) f_PR_162 d_PR_once_27 hp.2.2 rfl ?_
    refine zz_iconst d_PR_once_30 ?_
    refine zz_icmp_ne (tgt := 75) d_PR_once_31 (by decide) (by omega) (by decide) (fun c3 => ?_) (fun c3 => absurd c3 (by omega))
    refine ab_aload_n d_PR_once_75 rfl ?_
    refine ab_getf (fs := [vz k_1, vz v_1, rg_1, vz pl_1, vz fl_1, ou_1, ls_1, bf_1, vz sz_1, vz mb_1, vz oe_1, vz le_1, vz mo_1, vz la_1, vz rc_1]) f_PR_162 d_PR_once_76 hp.2.2 rfl ?_
    refine zz_iconst d_PR_once_79 ?_
    refine zz_icmp_ne (tgt := 94) d_PR_once_80 (by decide) (by omega) (by decide) (fun c4 => ?_) (fun c4 => ?_)
    · refine ab_aload_n d_PR_once_94 rfl ?_
      refine ab_aload_n d_PR_once_95 rfl ?_
      refine ab_getf (fs := [vz k_1, vz v_1, rg_1, vz pl_1, vz fl_1, ou_1, ls_1, bf_1, vz sz_1, vz mb_1, vz oe_1, vz le_1, vz mo_1, vz la_1, vz rc_1]) f_PR_162 d_PR_once_96 hp.2.2 rfl ?_
      refine ab_lload_n d_PR_once_99 rfl ?_
      refine ab_callS (d' := d - 1) (as := [vj w]) (st := [vz k_1, vR q]) (z_PR_used (o := o) (w := w) (by omega)) (fun oc G2 h => by rcases h with ⟨h, _⟩ <;> exact ⟨_, h⟩) (by omega) m_PR_used ml_PR_124 st_PR_used (Nat.le_of_ble_eq_true rfl) d_PR_once_100 rfl ?_
      intro v G5 hq
      rcases hq with ⟨hv, hGe⟩
      cases hv
      rw [hGe]
      change ab_W _ _ _ G 103 [some (vR q), some (vR p), some (vj w), none, some (vz dd), none, none] [vz (w % 4294967296), vz k_1, vR q] _
      refine ab_aload_n d_PR_once_103 rfl ?_
      refine ab_getf (fs := [vz k_1, vz v_1, rg_1, vz pl_1, vz fl_1, ou_1, ls_1, bf_1, vz sz_1, vz mb_1, vz oe_1, vz le_1, vz mo_1, vz la_1, vz rc_1]) f_PR_162 d_PR_once_104 hp.2.2 rfl ?_
      refine zz_iconst d_PR_once_107 ?_
      refine zz_icmp_ne (tgt := 119) d_PR_once_108 (by decide) (by omega) (by decide) (fun c6 => ?_) (fun c6 => ?_)
      · refine ab_aload_n d_PR_once_119 rfl ?_
        refine ab_getf (fs := [vz k_1, vz v_1, rg_1, vz pl_1, vz fl_1, ou_1, ls_1, bf_1, vz sz_1, vz mb_1, vz oe_1, vz le_1, vz mo_1, vz la_1, vz rc_1]) f_PR_165 d_PR_once_120 hp.2.2 rfl ?_
        refine ab_callV (d' := d - 1) (as := [vz k_1, vz (w % 4294967296), vz v_1]) (st := []) (r := _) (z_PR_add (o := o) (q := q) (lq := lq) (ki := ki) (ne := ne) (ot := ot) (cnt := cnt) (fi := fi) (la := la) (ra := ra) (ru := ru) (gr := gr) (wi := wi) (sz := sz) (fl := fl) (ve := ve) (mi := mi) (na := na) (nl := nl) (K := K) (N := N) (O := O) (k0 := k_1) (x0 := (w % 4294967296)) (v0 := v_1) hq hki hne hot (by omega) (by omega) (by omega)) (fun oc G2 h => by rcases h with ⟨h, _⟩ | ⟨_, h, _⟩ <;> exact ⟨_, h⟩) (by omega) m_PR_add ml_PR_84 im_PR_add se_PR_add c_PR hq.2.2 (Nat.le_of_ble_eq_true rfl) d_PR_once_123 rfl ?_
        intro v G7 hq
        rcases hq with ⟨hv, hGe, hq8⟩ | ⟨la29, hv, hfk, hlk, hsk, hNq, hNki, hNne, hNot, hq10, hq11, hq12⟩
        · cases hv
          rw [hGe]
          change ab_W _ _ _ G 126 [some (vR q), some (vR p), some (vj w), none, some (vz dd), none, none] [vz 0] _
          refine ab_istore d_PR_once_126 (Nat.le_of_ble_eq_true rfl) (Nat.le_of_ble_eq_true rfl) rfl ?_
          change ab_W _ _ _ G 128 [some (vR q), some (vR p), some (vj w), none, some (vz dd), some (vz 0), none] [] _
          refine ab_iload d_PR_once_128 rfl ?_
          refine ab_iload d_PR_once_130 rfl ?_
          refine ab_callS (d' := d - 1) (as := [vz 0, vz 0]) (st := []) (z_PR_pair (o := o) (f0 := 0) (u0 := 0) (by omega)) (fun oc G2 h => by rcases h with ⟨h, _⟩ <;> exact ⟨_, h⟩) (by omega) m_PR_pair ml_PR_88 st_PR_pair (Nat.le_of_ble_eq_true rfl) d_PR_once_132 rfl ?_
          intro v G15 hq
          rcases hq with ⟨hv, hGe⟩
          cases hv
          rw [hGe]
          change ab_W _ _ _ G 135 [some (vR q), some (vR p), some (vj w), none, some (vz dd), some (vz 0), none] [vj (0 * 4294967296 + 0)] _
          refine ab_lret rfl d_PR_once_135 ?_
          rw [hQ]; exact ⟨_, _, _, _, _, _, _, _, _, _, _, _, rfl, hfr, hq, hki, hne, hot, hra, ppaI_0, (by omega), (by omega), (by omega), (by omega), (by exact hp_), (by exact hr), (by exact hch), (by exact kext.rf), (by exact hzr), (by omega), (by omega)⟩
        · cases hv
          have hzr := hzr.tr (fzr.fx hfk (by simp only [List.mem_cons, List.not_mem_nil, or_false]; omega))
          have hra := hfk.get hra (by simp only [List.mem_cons, List.not_mem_nil, or_false]; omega)
          have hp := hfk.get hp (by simp only [List.mem_cons, List.not_mem_nil, or_false]; omega)
          have ppaI_0 := paI.fr hfk ppaI_0 (by simp only [List.mem_cons, List.not_mem_nil, or_false]; omega) (by simp only [List.mem_cons, List.not_mem_nil, or_false]; omega) (by simp only [List.mem_cons, List.not_mem_nil, or_false]; omega) (by intro xx hx; simp only [List.mem_cons, List.not_mem_nil, or_false] at hx; omega)
          have hfr := hfr.tr hfk (by simp)
          have hq13 := hlk
          have hq14 := hsk
          have hq := hNq
          have hki := hNki
          have hne := hNne
          have hot := hNot
          change ab_W _ _ _ G7 126 [some (vR q), some (vR p), some (vj w), none, some (vz dd), none, none] [vz cnt] _
          have hp16 := prok_add (k := k_1) (x := (w % 4294967296)) (v := v_1) hp_ (by omega) (by omega) (by omega) (by omega) (by omega) (fun t => absurd t (by omega)) (fun t => absurd t (by omega)) (fun t => absurd t (by omega)) (fun t => by have hv0 := hn1.2.1 (by omega); omega) (fun t => absurd t (by omega))
          obtain ⟨K16, eK16⟩ : ∃ z : Int → Int, z = zu K cnt k_1 := ⟨_, rfl⟩
          have hki : cc o G7 ki (lq + 1) (za 808 K16) := by rw [← eK16.symm]; exact hki
          obtain ⟨N16, eN16⟩ : ∃ z : Int → Int, z = zu N cnt (w % 4294967296) := ⟨_, rfl⟩
          have hne : cc o G7 ne (lq + 2) (za 808 N16) := by rw [← eN16.symm]; exact hne
          obtain ⟨O16, eO16⟩ : ∃ z : Int → Int, z = zu O cnt v_1 := ⟨_, rfl⟩
          have hot : cc o G7 ot (lq + 3) (za 808 O16) := by rw [← eO16.symm]; exact hot
          rw [← eK16, ← eN16, ← eO16] at hp16
          have hkx16 : kext K K16 cnt := by rw [eK16]; exact kext.zu (Int.le_refl _)
          have hks16 : K16 cnt = k_1 := by rw [eK16]; exact zu_self _ _ _
          change ab_W _ _ _ G7 126 [some (vR q), some (vR p), some (vj w), none, some (vz dd), none, none] [vz cnt] _
          refine ab_istore d_PR_once_126 (Nat.le_of_ble_eq_true rfl) (Nat.le_of_ble_eq_true rfl) rfl ?_
          change ab_W _ _ _ G7 128 [some (vR q), some (vR p), some (vj w), none, some (vz dd), some (vz cnt), none] [] _
          refine ab_iload d_PR_once_128 rfl ?_
          refine ab_iload d_PR_once_130 rfl ?_
          refine ab_callS (d' := d - 1) (as := [vz cnt, vz cnt]) (st := []) (z_PR_pair (o := o) (f0 := cnt) (u0 := cnt) (by omega)) (fun oc G2 h => by rcases h with ⟨h, _⟩ <;> exact ⟨_, h⟩) (by omega) m_PR_pair ml_PR_88 st_PR_pair (Nat.le_of_ble_eq_true rfl) d_PR_once_132 rfl ?_
          intro v G17 hq
          rcases hq with ⟨hv, hGe⟩
          cases hv
          rw [hGe]
          change ab_W _ _ _ G7 135 [some (vR q), some (vR p), some (vj w), none, some (vz dd), some (vz cnt), none] [vj (cnt * 4294967296 + cnt)] _
          refine ab_lret rfl d_PR_once_135 ?_
          rw [hQ]; exact ⟨_, _, _, _, _, _, _, _, _, _, _, _, rfl, hfr, hq, hki, hne, hot, hra, ppaI_0, (by omega), (by omega), (by omega), (by omega), (by exact hp16), (by exact hr), (by exact hch), (by exact hkx16), (by exact hzr), (by omega), (by omega)⟩
      · refine ab_aload_n d_PR_once_111 rfl ?_
        refine ab_aload_n d_PR_once_112 rfl ?_
        refine ab_callV (d' := d - 1) (as := [vR p]) (st := [vz (w % 4294967296), vz k_1, vR q]) (r := _) (z_PR_recordOf (o := o) (q := q) (lq := lq) (ki := ki) (ne := ne) (ot := ot) (cnt := cnt) (fi := fi) (la := la) (ra := ra) (ru := ru) (gr := gr) (wi := wi) (sz := sz) (fl := fl) (ve := ve) (mi := mi) (na := na) (nl := nl) (RR := RR) (nr := nr) (kp := k_1) (vp := v_1) (rgp := rg_1) (plp := pl_1) (flp := fl_1) (oup := ou_1) (lsp := ls_1) (bfp := bf_1) (szp := sz_1) (mbp := mb_1) (oep := oe_1) (lep := le_1) (mop := mo_1) (lap := la_1) (rcp := rc_1) (ps := ps) (wt := wt) (bs := bs) (ph := ph) (gq := gq) (p := p) hq hra hp ppaI_0 (by omega) (by omega) hp_ hch hr hpp (by omega) hn1 (by omega) (by omega) (by omega)) (fun oc G2 h => by rcases h with ⟨_, _, _, _, _, _, _, _, h, _⟩ <;> exact ⟨_, h⟩) (by omega) m_PR_recordOf ml_PR_172 im_PR_recordOf se_PR_recordOf c_PR hq.2.2 (Nat.le_of_ble_eq_true rfl) d_PR_once_113 rfl ?_
        intro v G18 hq
        rcases hq with ⟨o19, v20, ra221, nr222, ru223, RR224, ph225, rc226, hv, hfk, hNq, hNra221, hNp, pNpaI_0, hq27, hq28, hq29, hq30, hq31, hq32, hq33, hq34, hq35, hq36⟩
        cases hv
        have hzr := hzr.tr hq34
        have hki := hfk.get hki (by simp only [List.mem_cons, List.not_mem_nil, or_false]; omega)
        have hne := hfk.get hne (by simp only [List.mem_cons, List.not_mem_nil, or_false]; omega)
        have hot := hfk.get hot (by simp only [List.mem_cons, List.not_mem_nil, or_false]; omega)
        have ppaI_0 := pNpaI_0
        have hfr := hfr.tr hfk (by simp)
        have hq37 := hfk.1
        have hq := hNq
        have hra221 := hNra221
        have hp := hNp
        change ab_W _ _ _ G18 116 [some (vR q), some (vR p), some (vj w), none, some (vz dd), none, none] [vz v20, vz (w % 4294967296), vz k_1, vR q] _
        refine ab_goto (tgt := 123) d_PR_once_116 (by decide) ?_
        refine ab_callV (d' := d - 1) (as := [vz k_1, vz (w % 4294967296), vz v20]) (st := []) (r := _) (z_PR_add (o := o19) (q := q) (lq := lq) (ki := ki) (ne := ne) (ot := ot) (cnt := cnt) (fi := fi) (la := la) (ra := ra221) (ru := ru223) (gr := gr) (wi := wi) (sz := sz) (fl := fl) (ve := ve) (mi := mi) (na := na) (nl := nl) (K := K) (N := N) (O := O) (k0 := k_1) (x0 := (w % 4294967296)) (v0 := v20) hq hki hne hot (by omega) (by omega) (by omega)) (fun oc G2 h => by rcases h with ⟨h, _⟩ | ⟨_, h, _⟩ <;> exact ⟨_, h⟩) (by omega) m_PR_add ml_PR_84 im_PR_add se_PR_add c_PR hq.2.2 (Nat.le_of_ble_eq_true rfl) d_PR_once_123 rfl ?_
        intro v G38 hq
        rcases hq with ⟨hv, hGe, hq39⟩ | ⟨la240, hv, hfk, hlk, hsk, hNq, hNki, hNne, hNot, hq41, hq42, hq43⟩
        · cases hv
          rw [hGe]
          change ab_W _ _ _ G18 126 [some (vR q), some (vR p), some (vj w), none, some (vz dd), none, none] [vz 0] _
          refine ab_istore d_PR_once_126 (Nat.le_of_ble_eq_true rfl) (Nat.le_of_ble_eq_true rfl) rfl ?_
          change ab_W _ _ _ G18 128 [some (vR q), some (vR p), some (vj w), none, some (vz dd), some (vz 0), none] [] _
          refine ab_iload d_PR_once_128 rfl ?_
          refine ab_iload d_PR_once_130 rfl ?_
          refine ab_callS (d' := d - 1) (as := [vz 0, vz 0]) (st := []) (z_PR_pair (o := o19) (f0 := 0) (u0 := 0) (by omega)) (fun oc G2 h => by rcases h with ⟨h, _⟩ <;> exact ⟨_, h⟩) (by omega) m_PR_pair ml_PR_88 st_PR_pair (Nat.le_of_ble_eq_true rfl) d_PR_once_132 rfl ?_
          intro v G46 hq
          rcases hq with ⟨hv, hGe⟩
          cases hv
          rw [hGe]
          change ab_W _ _ _ G18 135 [some (vR q), some (vR p), some (vj w), none, some (vz dd), some (vz 0), none] [vj (0 * 4294967296 + 0)] _
          refine ab_lret rfl d_PR_once_135 ?_
          rw [hQ]; exact ⟨_, _, _, _, _, _, _, _, _, _, _, _, rfl, hfr, hq, hki, hne, hot, hra221, ppaI_0, (by omega), (by omega), (by omega), (by omega), (by exact hq30), (by exact hq31), (by exact hq29), (by exact kext.rf), (by exact hzr), (by omega), (by omega)⟩
        · cases hv
          have hzr := hzr.tr (fzr.fx hfk (by simp only [List.mem_cons, List.not_mem_nil, or_false]; omega))
          have hp := hfk.get hp (by simp only [List.mem_cons, List.not_mem_nil, or_false]; omega)
          have hra221 := hfk.get hra221 (by simp only [List.mem_cons, List.not_mem_nil, or_false]; omega)
          have ppaI_0 := paI.fr hfk ppaI_0 (by simp only [List.mem_cons, List.not_mem_nil, or_false]; omega) (by simp only [List.mem_cons, List.not_mem_nil, or_false]; omega) (by simp only [List.mem_cons, List.not_mem_nil, or_false]; omega) (by intro xx hx; simp only [List.mem_cons, List.not_mem_nil, or_false] at hx; omega)
          have hfr := hfr.tr hfk (by simp)
          have hq44 := hlk
          have hq45 := hsk
          have hq := hNq
          have hki := hNki
          have hne := hNne
          have hot := hNot
          change ab_W _ _ _ G38 126 [some (vR q), some (vR p), some (vj w), none, some (vz dd), none, none] [vz cnt] _
          have hp47 := prok_add (k := k_1) (x := (w % 4294967296)) (v := v20) hq30 (by omega) (by omega) (by omega) (by omega) (by omega) (fun t => absurd t (by omega)) (fun t => absurd t (by omega)) (fun t => absurd t (by omega)) (fun t => by have hv0 := hn1.2.1 (by omega); omega) (fun t => hq27)
          obtain ⟨K47, eK47⟩ : ∃ z : Int → Int, z = zu K cnt k_1 := ⟨_, rfl⟩
          have hki : cc o19 G38 ki (lq + 1) (za 808 K47) := by rw [← eK47.symm]; exact hki
          obtain ⟨N47, eN47⟩ : ∃ z : Int → Int, z = zu N cnt (w % 4294967296) := ⟨_, rfl⟩
          have hne : cc o19 G38 ne (lq + 2) (za 808 N47) := by rw [← eN47.symm]; exact hne
          obtain ⟨O47, eO47⟩ : ∃ z : Int → Int, z = zu O cnt v20 := ⟨_, rfl⟩
          have hot : cc o19 G38 ot (lq + 3) (za 808 O47) := by rw [← eO47.symm]; exact hot
          rw [← eK47, ← eN47, ← eO47] at hp47
          have hkx47 : kext K K47 cnt := by rw [eK47]; exact kext.zu (Int.le_refl _)
          have hks47 : K47 cnt = k_1 := by rw [eK47]; exact zu_self _ _ _
          change ab_W _ _ _ G38 126 [some (vR q), some (vR p), some (vj w), none, some (vz dd), none, none] [vz cnt] _
          refine ab_istore d_PR_once_126 (Nat.le_of_ble_eq_true rfl) (Nat.le_of_ble_eq_true rfl) rfl ?_
          change ab_W _ _ _ G38 128 [some (vR q), some (vR p), some (vj w), none, some (vz dd), some (vz cnt), none] [] _
          refine ab_iload d_PR_once_128 rfl ?_
          refine ab_iload d_PR_once_130 rfl ?_
          refine ab_callS (d' := d - 1) (as := [vz cnt, vz cnt]) (st := []) (z_PR_pair (o := o19) (f0 := cnt) (u0 := cnt) (by omega)) (fun oc G2 h => by rcases h with ⟨h, _⟩ <;> exact ⟨_, h⟩) (by omega) m_PR_pair ml_PR_88 st_PR_pair (Nat.le_of_ble_eq_true rfl) d_PR_once_132 rfl ?_
          intro v G48 hq
          rcases hq with ⟨hv, hGe⟩
          cases hv
          rw [hGe]
          change ab_W _ _ _ G38 135 [some (vR q), some (vR p), some (vj w), none, some (vz dd), some (vz cnt), none] [vj (cnt * 4294967296 + cnt)] _
          refine ab_lret rfl d_PR_once_135 ?_
          rw [hQ]; exact ⟨_, _, _, _, _, _, _, _, _, _, _, _, rfl, hfr, hq, hki, hne, hot, hra221, ppaI_0, (by omega), (by omega), (by omega), (by omega), (by exact hp47), (by exact hq31), (by exact hq29), (by exact hkx47), (by exact hzr), (by omega), (by omega)⟩
    · have hv3 := hn1.2.2.1 (by omega)
      refine ab_aload_n d_PR_once_83 rfl ?_
      refine zz_iconst d_PR_once_84 ?_
      refine ab_lload_n d_PR_once_85 rfl ?_
      refine ab_aload_n d_PR_once_86 rfl ?_
      refine ab_getf (fs := [vz k_1, vz v_1, rg_1, vz pl_1, vz fl_1, ou_1, ls_1, bf_1, vz sz_1, vz mb_1, vz oe_1, vz le_1, vz mo_1, vz la_1, vz rc_1]) f_PR_165 d_PR_once_87 hp.2.2 rfl ?_
      refine ab_callV (d' := d - 1) (as := [vz 3, vj w, vz v_1]) (st := []) (r := _) (za_PR_addPair (o := o) (q := q) (lq := lq) (ki := ki) (ne := ne) (ot := ot) (cnt := cnt) (fi := fi) (la := la) (ra := ra) (ru := ru) (gr := gr) (wi := wi) (sz := sz) (fl := fl) (ve := ve) (mi := mi) (na := na) (nl := nl) (K := K) (N := N) (O := O) (RR := RR) (nr := nr) (w := w) (vl := v_1) hq hki hne hot hra (by omega) (by omega) hp_ (by omega) (by omega) (by omega)) (fun oc G2 h => by rcases h with ⟨_, _, _, _, _, _, h, _⟩ <;> exact ⟨_, h⟩) (by omega) m_PR_addPair ml_PR_168 im_PR_addPair se_PR_addPair c_PR hq.2.2 (Nat.le_of_ble_eq_true rfl) d_PR_once_90 rfl ?_
      intro v G49 hq
      rcases hq with ⟨w250, cnt251, la252, K253, N254, O255, hv, hfk, hlk, hsk, hNq, hNki, hNne, hNot, hq56, hq57, hq58, hq59⟩
      cases hv
      have hzr := hzr.tr (fzr.fx hfk (by simp only [List.mem_cons, List.not_mem_nil, or_false]; omega))
      have hra := hfk.get hra (by simp only [List.mem_cons, List.not_mem_nil, or_false]; omega)
      have hp := hfk.get hp (by simp only [List.mem_cons, List.not_mem_nil, or_false]; omega)
      have ppaI_0 := paI.fr hfk ppaI_0 (by simp only [List.mem_cons, List.not_mem_nil, or_false]; omega) (by simp only [List.mem_cons, List.not_mem_nil, or_false]; omega) (by simp only [List.mem_cons, List.not_mem_nil, or_false]; omega) (by intro xx hx; simp only [List.mem_cons, List.not_mem_nil, or_false] at hx; omega)
      have hfr := hfr.tr hfk (by simp)
      have hq60 := hlk
      have hq61 := hsk
      have hq := hNq
      have hki := hNki
      have hne := hNne
      have hot := hNot
      change ab_W _ _ _ G49 93 [some (vR q), some (vR p), some (vj w), none, some (vz dd), none, none] [vj w250] _
      refine ab_lret rfl d_PR_once_93 ?_
      rw [hQ]; exact ⟨_, _, _, _, _, _, _, _, _, _, _, _, rfl, hfr, hq, hki, hne, hot, hra, ppaI_0, (by omega), (by omega), (by omega), (by omega), (by exact hq58), (by exact hr), (by exact hch), (by exact hq59), (by exact hzr), (by omega), (by omega)⟩
  · refine ab_aload_n d_PR_once_8 rfl ?_
    refine ab_getf (fs := [vz k_1, vz v_1, rg_1, vz pl_1, vz fl_1, ou_1, ls_1, bf_1, vz sz_1, vz mb_1, vz oe_1, vz le_1, vz mo_1, vz la_1, vz rc_1]) f_PR_165 d_PR_once_9 hp.2.2 rfl ?_
    refine zz_if_ne (tgt := 26) d_PR_once_12 (by decide) (by omega) (fun c62 => ?_) (fun c62 => ?_)
    · refine ab_aload_n d_PR_once_26 rfl ?_
      refine ab_getf (fs := [vz k_1, vz v_1, rg_1, vz pl_1, vz fl_1, ou_1, ls_1, bf_1, vz sz_1, vz mb_1, vz oe_1, vz le_1, vz mo_1, vz la_1, vz rc_1]) f_PR_162 d_PR_once_27 hp.2.2 rfl ?_
      refine zz_iconst d_PR_once_30 ?_
      refine zz_icmp_ne (tgt := 75) d_PR_once_31 (by decide) (by omega) (by decide) (fun c63 => absurd c63 (by omega)) (fun c63 => ?_)
      have hv4 := hn1.2.2.2.1 (by omega)
      refine ab_aload_n d_PR_once_34 rfl ?_
      refine ab_aload_n d_PR_once_35 rfl ?_
      refine ab_aload_n d_PR_once_36 rfl ?_
      refine zz_bipush d_PR_once_37 (by decide) ?_
      refine ab_lload_n d_PR_once_39 rfl ?_
      refine zz_iconst d_PR_once_40 ?_
      refine ab_aload_n d_PR_once_41 rfl ?_
      refine ab_getf (fs := [vz k_1, vz v_1, rg_1, vz pl_1, vz fl_1, ou_1, ls_1, bf_1, vz sz_1, vz mb_1, vz oe_1, vz le_1, vz mo_1, vz la_1, vz rc_1]) f_PR_165 d_PR_once_42 hp.2.2 rfl ?_
      refine zz_imul d_PR_once_45 ?_
      refine zz_iconst d_PR_once_46 ?_
      refine zz_iadd d_PR_once_47 ?_
      refine ab_callV (d' := d - 1) (as := [vz 7, vj w, vz ((2 * v_1) + 1)]) (st := [vR p, vR q]) (r := _) (zs_PR_addPair (o := o) (q := q) (lq := lq) (ki := ki) (ne := ne) (ot := ot) (cnt := cnt) (fi := fi) (la := la) (ra := ra) (ru := ru) (gr := gr) (wi := wi) (sz := sz) (fl := fl) (ve := ve) (mi := mi) (na := na) (nl := nl) (K := K) (N := N) (O := O) (RR := RR) (nr := nr) (w := w) (vl := ((2 * v_1) + 1)) hq hki hne hot hra (by omega) (by omega) hp_ (by omega) (by omega) (by omega)) (fun oc G2 h => by rcases h with ⟨_, _, _, _, _, _, h, _⟩ <;> exact ⟨_, h⟩) (by omega) m_PR_addPair ml_PR_168 im_PR_addPair se_PR_addPair c_PR hq.2.2 (Nat.le_of_ble_eq_true rfl) d_PR_once_48 rfl ?_
      intro v G64 hq
      rcases hq with ⟨w265, cnt266, la267, K268, N269, O270, hv, hfk, hlk, hsk, hNq, hNki, hNne, hNot, hq71, hq72, hq73, hq74⟩
      cases hv
      have hzr := hzr.tr (fzr.fx hfk (by simp only [List.mem_cons, List.not_mem_nil, or_false]; omega))
      have hra := hfk.get hra (by simp only [List.mem_cons, List.not_mem_nil, or_false]; omega)
      have hp := hfk.get hp (by simp only [List.mem_cons, List.not_mem_nil, or_false]; omega)
      have ppaI_0 := paI.fr hfk ppaI_0 (by simp only [List.mem_cons, List.not_mem_nil, or_false]; omega) (by simp only [List.mem_cons, List.not_mem_nil, or_false]; omega) (by simp only [List.mem_cons, List.not_mem_nil, or_false]; omega) (by intro xx hx; simp only [List.mem_cons, List.not_mem_nil, or_false] at hx; omega)
      have hfr := hfr.tr hfk (by simp)
      have hq75 := hlk
      have hq76 := hsk
      have hq := hNq
      have hki := hNki
      have hne := hNne
      have hot := hNot
      change ab_W _ _ _ G64 51 [some (vR q), some (vR p), some (vj w), none, some (vz dd), none, none] [vj w265, vR p, vR q] _
      refine ab_iload d_PR_once_51 rfl ?_
      refine zz_iconst d_PR_once_53 ?_
      refine zz_iadd d_PR_once_54 ?_
      refine ab_callV (d' := d - 1) (as := [vR p, vj w265, vz (dd + 1)]) (st := []) (r := _) (ihR (o := o) (q := q) (lq := lq) (ki := ki) (ne := ne) (ot := ot) (cnt := cnt266) (fi := fi) (la := la267) (ra := ra) (ru := ru) (gr := gr) (wi := wi) (sz := sz) (fl := fl) (ve := ve) (mi := mi) (na := na) (nl := nl) (K := K268) (N := N269) (O := O270) (RR := RR) (nr := nr) (ps := ps) (wt := wt) (bs := bs) (ph := ph) (gq := gq) (p := p) (w := w265) hq hki hne hot hra ppaI_0 (by omega) (by omega) hq73 hch hr ((hq74 0 (by omega) (by omega)).trans ck0) (by omega) hpp (by omega) (by omega) (by omega) (by omega) (by omega)) (fun oc G2 h => by rcases h with ⟨_, _, _, _, _, _, _, _, _, _, _, _, h, _⟩ <;> exact ⟨_, h⟩) (by omega) m_PR_rows ml_PR_92 im_PR_rows se_PR_rows c_PR hq.2.2 (Nat.le_of_ble_eq_true rfl) d_PR_once_55 rfl ?_
      intro v G77 hq
      rcases hq with ⟨o78, w279, cnt280, la281, ra282, nr283, ru284, K285, N286, O287, RR288, ph289, hv, hfk, hNq, hNki, hNne, hNot, hNra282, pNpaI_0, hq90, hq91, hq92, hq93, hq94, hq95, hq96, hq97, hq98, hq99, hq100⟩
      cases hv
      have hzr := hzr.tr hq98
      obtain ⟨rc101, hKp⟩ := hq98 _ _ _ _ _ _ _ _ _ _ _ _ _ _ _ _ hpp hp
      have hp := hKp
      have ppaI_0 := pNpaI_0
      have hfr := hfr.tr hfk (by simp)
      have hq102 := hfk.1
      have hq := hNq
      have hki := hNki
      have hne := hNne
      have hot := hNot
      have hra282 := hNra282
      change ab_W _ _ _ G77 58 [some (vR q), some (vR p), some (vj w), none, some (vz dd), none, none] [vj w279] _
      refine ab_lstore d_PR_once_58 (Nat.le_of_ble_eq_true rfl) (Nat.le_of_ble_eq_true rfl) rfl ?_
      change ab_W _ _ _ G77 60 [some (vR q), some (vR p), some (vj w), none, some (vz dd), some (vj w279), none] [] _
      refine ab_aload_n d_PR_once_60 rfl ?_
      refine zz_bipush d_PR_once_61 (by decide) ?_
      refine ab_lload d_PR_once_63 rfl ?_
      refine zz_iconst d_PR_once_65 ?_
      refine ab_aload_n d_PR_once_66 rfl ?_
      refine ab_getf (fs := [vz k_1, vz v_1, rg_1, vz pl_1, vz fl_1, ou_1, ls_1, bf_1, vz sz_1, vz mb_1, vz oe_1, vz le_1, vz mo_1, vz la_1, vz rc101]) f_PR_165 d_PR_once_67 hp.2.2 rfl ?_
      refine zz_imul d_PR_once_70 ?_
      refine ab_callV (d' := d - 1) (as := [vz 7, vj w279, vz (2 * v_1)]) (st := []) (r := _) (zs_PR_addPair (o := o78) (q := q) (lq := lq) (ki := ki) (ne := ne) (ot := ot) (cnt := cnt280) (fi := fi) (la := la281) (ra := ra282) (ru := ru284) (gr := gr) (wi := wi) (sz := sz) (fl := fl) (ve := ve) (mi := mi) (na := na) (nl := nl) (K := K285) (N := N286) (O := O287) (RR := RR288) (nr := nr283) (w := w279) (vl := (2 * v_1)) hq hki hne hot hra282 (by omega) (by omega) hq94 (by omega) (by omega) (by omega)) (fun oc G2 h => by rcases h with ⟨_, _, _, _, _, _, h, _⟩ <;> exact ⟨_, h⟩) (by omega) m_PR_addPair ml_PR_168 im_PR_addPair se_PR_addPair c_PR hq.2.2 (Nat.le_of_ble_eq_true rfl) d_PR_once_71 rfl ?_
      intro v G103 hq
      rcases hq with ⟨w2104, cnt2105, la2106, K2107, N2108, O2109, hv, hfk, hlk, hsk, hNq, hNki, hNne, hNot, hq110, hq111, hq112, hq113⟩
      cases hv
      have hzr := hzr.tr (fzr.fx hfk (by simp only [List.mem_cons, List.not_mem_nil, or_false]; omega))
      have hp := hfk.get hp (by simp only [List.mem_cons, List.not_mem_nil, or_false]; omega)
      have hra282 := hfk.get hra282 (by simp only [List.mem_cons, List.not_mem_nil, or_false]; omega)
      have ppaI_0 := paI.fr hfk ppaI_0 (by simp only [List.mem_cons, List.not_mem_nil, or_false]; omega) (by simp only [List.mem_cons, List.not_mem_nil, or_false]; omega) (by simp only [List.mem_cons, List.not_mem_nil, or_false]; omega) (by intro xx hx; simp only [List.mem_cons, List.not_mem_nil, or_false] at hx; omega)
      have hfr := hfr.tr hfk (by simp)
      have hq114 := hlk
      have hq115 := hsk
      have hq := hNq
      have hki := hNki
      have hne := hNne
      have hot := hNot
      change ab_W _ _ _ G103 74 [some (vR q), some (vR p), some (vj w), none, some (vz dd), some (vj w279), none] [vj w2104] _
      refine ab_lret rfl d_PR_once_74 ?_
      rw [hQ]; exact ⟨_, _, _, _, _, _, _, _, _, _, _, _, rfl, hfr, hq, hki, hne, hot, hra282, ppaI_0, (by omega), (by omega), (by omega), (by omega), (by exact hq112), (by exact hq95), (by exact hq96), (by exact ((hq74.tr hq97 (by omega)).tr hq113 (by omega))), (by exact hzr), (by omega), (by omega)⟩
    · refine ab_aload_n d_PR_once_15 rfl ?_
      refine ab_aload_n d_PR_once_16 rfl ?_
      refine ab_lload_n d_PR_once_17 rfl ?_
      refine ab_iload d_PR_once_18 rfl ?_
      refine zz_iconst d_PR_once_20 ?_
      refine zz_iadd d_PR_once_21 ?_
      refine ab_callV (d' := d - 1) (as := [vR p, vj w, vz (dd + 1)]) (st := []) (r := _) (ihR (o := o) (q := q) (lq := lq) (ki := ki) (ne := ne) (ot := ot) (cnt := cnt) (fi := fi) (la := la) (ra := ra) (ru := ru) (gr := gr) (wi := wi) (sz := sz) (fl := fl) (ve := ve) (mi := mi) (na := na) (nl := nl) (K := K) (N := N) (O := O) (RR := RR) (nr := nr) (ps := ps) (wt := wt) (bs := bs) (ph := ph) (gq := gq) (p := p) (w := w) hq hki hne hot hra ppaI_0 (by omega) (by omega) hp_ hch hr ck0 (by omega) hpp (by omega) (by omega) (by omega) (by omega) (by omega)) (fun oc G2 h => by rcases h with ⟨_, _, _, _, _, _, _, _, _, _, _, _, h, _⟩ <;> exact ⟨_, h⟩) (by omega) m_PR_rows ml_PR_92 im_PR_rows se_PR_rows c_PR hq.2.2 (Nat.le_of_ble_eq_true rfl) d_PR_once_22 rfl ?_
      intro v G116 hq
      rcases hq with ⟨o117, w2118, cnt2119, la2120, ra2121, nr2122, ru2123, K2124, N2125, O2126, RR2127, ph2128, hv, hfk, hNq, hNki, hNne, hNot, hNra2121, pNpaI_0, hq129, hq130, hq131, hq132, hq133, hq134, hq135, hq136, hq137, hq138, hq139⟩
      cases hv
      have hzr := hzr.tr hq137
      obtain ⟨rc140, hKp⟩ := hq137 _ _ _ _ _ _ _ _ _ _ _ _ _ _ _ _ hpp hp
      have hp := hKp
      have ppaI_0 := pNpaI_0
      have hfr := hfr.tr hfk (by simp)
      have hq141 := hfk.1
      have hq := hNq
      have hki := hNki
      have hne := hNne
      have hot := hNot
      have hra2121 := hNra2121
      change ab_W _ _ _ G116 25 [some (vR q), some (vR p), some (vj w), none, some (vz dd), none, none] [vj w2118] _
      refine ab_lret rfl d_PR_once_25 ?_
      rw [hQ]; exact ⟨_, _, _, _, _, _, _, _, _, _, _, _, rfl, hfr, hq, hki, hne, hot, hra2121, ppaI_0, (by omega), (by omega), (by omega), (by omega), (by exact hq133), (by exact hq134), (by exact hq135), (by exact hq136), (by exact hzr), (by omega), (by omega)⟩
set_option maxRecDepth 100000 in
set_option maxHeartbeats 4000000 in
theorem z_PR_loop {X : ab_X} {d : Nat} {o : Nat → Nat} {G : ab_G} {q : Nat} {lq : Nat} {ki : Nat} {ne : Nat} {ot : Nat} {cnt : Int} {fi : Int} {la : Int} {ra : Nat} {ru : Int} {gr : Int} {wi : Int} {sz : Int} {fl : Int} {ve : Int} {mi : Int} {na : Nat} {nl : Nat} {K : Int → Int} {N : Int → Int} {O : Int → Int} {RR : Int → Int} {nr : Nat} {ps : Nat → Nat} {wt : Nat → Nat} {bs : Nat} {ph : Int} {gq : Int} {p : Nat} {w : Int} {dd : Int} (hq : cc o G q lq (ab_ob 5 [vR ki, vR ne, vR ot, vz cnt, vz fi, vz la, vR ra, vz ru, vz gr, vz wi, vz sz, vz fl, vz ve, vz mi, vR na, vR nl])) (hki : cc o G ki (lq + 1) (za 808 K)) (hne : cc o G ne (lq + 2) (za 808 N)) (hot : cc o G ot (lq + 3) (za 808 O)) (hra : cc o G ra (lq + 4) (za nr RR)) (ppaI_0 : paI o G 0 ps wt bs gq (prc RR ru) ph) (n18 : ab_n0 = 18) (cq : 100 ≤ lq ∧ 2 ≤ cnt ∧ cnt ≤ 808 ∧ 0 ≤ la ∧ la ≤ 1 ∧ 0 ≤ ru ∧ ru ≤ ↑nr ∧ ↑nr ≤ (100000 : Int) ∧ 32 ≤ nr ∧ 0 ≤ ph ∧ ru + ph ≤ 50000) (hp_ : prok K N O RR cnt ru wi) (hch : rch RR ru) (hr : hrr RR ↑nr) (ck0 : K 0 = 9) (cg_ : 0 ≤ gq ∧ gq ≤ 9 ∧ wi = 2 * (gq + 1)) (hpp : ps p = 90) (cw : 0 ≤ w ∧ w / 4294967296 < cnt ∧ w % 4294967296 < cnt) (cdd : 0 ≤ dd ∧ dd ≤ 30) (hdd : 6 * (31 - dd) + 7 ≤ (↑d : Int)) (rc : 32 * G.length + 103300 ≤ 32 * (ab_n0 + room_1.cells) + nr) (rs : ab_slots G + 200000 ≤ room_1.slots + 2 * nr) (ihR : ∀ {d : Nat} {o : Nat → Nat} {G : ab_G} {q : Nat} {lq : Nat} {ki : Nat} {ne : Nat} {ot : Nat} {cnt : Int} {fi : Int} {la : Int} {ra : Nat} {ru : Int} {gr : Int} {wi : Int} {sz : Int} {fl : Int} {ve : Int} {mi : Int} {na : Nat} {nl : Nat} {K : Int → Int} {N : Int → Int} {O : Int → Int} {RR : Int → Int} {nr : Nat} {ps : Nat → Nat} {wt : Nat → Nat} {bs : Nat} {ph : Int} {gq : Int} {p : Nat} {w : Int}, (cc o G q lq (ab_ob 5 [vR ki, vR ne, vR ot, vz cnt, vz fi, vz la, vR ra, vz ru, vz gr, vz wi, vz sz, vz fl, vz ve, vz mi, vR na, vR nl])) → (cc o G ki (lq + 1) (za 808 K)) → (cc o G ne (lq + 2) (za 808 N)) → (cc o G ot (lq + 3) (za 808 O)) → (cc o G ra (lq + 4) (za nr RR)) → (paI o G 0 ps wt bs gq (prc RR ru) ph) → (ab_n0 = 18) → (100 ≤ lq ∧ 2 ≤ cnt ∧ cnt ≤ 808 ∧ 0 ≤ la ∧ la ≤ 1 ∧ 0 ≤ ru ∧ ru ≤ ↑nr ∧ ↑nr ≤ (100000 : Int) ∧ 32 ≤ nr ∧ 0 ≤ ph ∧ ru + ph ≤ 50000) → (prok K N O RR cnt ru wi) → (rch RR ru) → (hrr RR ↑nr) → (K 0 = 9) → (0 ≤ gq ∧ gq ≤ 9 ∧ wi = 2 * (gq + 1)) → (ps p = 90) → (0 ≤ w ∧ w / 4294967296 < cnt ∧ w % 4294967296 < cnt) → (0 ≤ (dd + 1) ∧ (dd + 1) ≤ 31) → (6 * (31 - (dd + 1)) + 10 ≤ (↑d : Int)) → (32 * G.length + 103300 ≤ 32 * (ab_n0 + room_1.cells) + nr) → (ab_slots G + 200000 ≤ room_1.slots + 2 * nr) → ab_F X d y_PR_rows (.code y_PR_rows b_PR_rows 8 (some (.long))) [vR q, vR p, vj w, vz (dd + 1)] G (fun oc G2 => ∃ o2 : Nat → Nat, ∃ w2 : Int, ∃ cnt2 : Int, ∃ la2 : Int, ∃ ra2 : Nat, ∃ nr2 : Nat, ∃ ru2 : Int, ∃ K2 : Int → Int, ∃ N2 : Int → Int, ∃ O2 : Int → Int, ∃ RR2 : Int → Int, ∃ ph2 : Int, oc = .returned (some (vj w2)) ∧ fx o o2 [lq, (lq + 1), (lq + 2), (lq + 3), (lq + 4), 90] G G2 ∧ cc o2 G2 q lq (ab_ob 5 [vR ki, vR ne, vR ot, vz cnt2, vz fi, vz la2, vR ra2, vz ru2, vz gr, vz wi, vz sz, vz fl, vz ve, vz mi, vR na, vR nl]) ∧ cc o2 G2 ki (lq + 1) (za 808 K2) ∧ cc o2 G2 ne (lq + 2) (za 808 N2) ∧ cc o2 G2 ot (lq + 3) (za 808 O2) ∧ cc o2 G2 ra2 (lq + 4) (za nr2 RR2) ∧ paI o2 G2 0 ps wt bs gq (prc RR2 ru2) ph2 ∧ (cnt ≤ cnt2 ∧ cnt2 ≤ 808 ∧ 0 ≤ la2 ∧ la2 ≤ 1) ∧ (0 ≤ w2 ∧ w2 / 4294967296 < cnt2 ∧ w2 % 4294967296 < cnt2) ∧ (0 ≤ ru2 ∧ ru2 ≤ ↑nr2 ∧ ↑nr2 ≤ (100000 : Int) ∧ nr ≤ nr2) ∧ (0 ≤ ph2 ∧ ru2 + ph2 ≤ ru + ph) ∧ (prok K2 N2 O2 RR2 cnt2 ru2 wi) ∧ (hrr RR2 ↑nr2) ∧ (rch RR2 ru2) ∧ (kext K K2 cnt) ∧ (fzr ps o o2 G G2) ∧ (32 * G2.length + nr ≤ 32 * G.length + nr2) ∧ (ab_slots G2 + 2 * nr ≤ ab_slots G + 2 * nr2))) : ab_F X d y_PR_loop (.code y_PR_loop b_PR_loop 8 (some (.long))) [vR q, vR p, vj w, vz dd] G (fun oc G2 => ∃ o2 : Nat → Nat, ∃ w2 : Int, ∃ cnt2 : Int, ∃ la2 : Int, ∃ ra2 : Nat, ∃ nr2 : Nat, ∃ ru2 : Int, ∃ K2 : Int → Int, ∃ N2 : Int → Int, ∃ O2 : Int → Int, ∃ RR2 : Int → Int, ∃ ph2 : Int, oc = .returned (some (vj w2)) ∧ fx o o2 [lq, (lq + 1), (lq + 2), (lq + 3), (lq + 4), 90] G G2 ∧ cc o2 G2 q lq (ab_ob 5 [vR ki, vR ne, vR ot, vz cnt2, vz fi, vz la2, vR ra2, vz ru2, vz gr, vz wi, vz sz, vz fl, vz ve, vz mi, vR na, vR nl]) ∧ cc o2 G2 ki (lq + 1) (za 808 K2) ∧ cc o2 G2 ne (lq + 2) (za 808 N2) ∧ cc o2 G2 ot (lq + 3) (za 808 O2) ∧ cc o2 G2 ra2 (lq + 4) (za nr2 RR2) ∧ paI o2 G2 0 ps wt bs gq (prc RR2 ru2) ph2 ∧ (cnt ≤ cnt2 ∧ cnt2 ≤ 808 ∧ 0 ≤ la2 ∧ la2 ≤ 1) ∧ (0 ≤ w2 ∧ w2 / 4294967296 < cnt2 ∧ w2 % 4294967296 < cnt2) ∧ (0 ≤ ru2 ∧ ru2 ≤ ↑nr2 ∧ ↑nr2 ≤ (100000 : Int) ∧ nr ≤ nr2) ∧ (0 ≤ ph2 ∧ ru2 + ph2 ≤ ru + ph) ∧ (prok K2 N2 O2 RR2 cnt2 ru2 wi) ∧ (hrr RR2 ↑nr2) ∧ (rch RR2 ru2) ∧ (kext K K2 cnt) ∧ (fzr ps o o2 G G2) ∧ (32 * G2.length + nr ≤ 32 * G.length + nr2) ∧ (ab_slots G2 + 2 * nr ≤ ab_slots G + 2 * nr2)) := by
  refine ab_F_of (by decide +kernel) (Nat.le_of_ble_eq_true rfl) ?_
  obtain ⟨Q, hQ⟩ : ∃ z : Outcome → ab_G → Prop, z = (fun oc G2 => ∃ o2 : Nat → Nat, ∃ w2 : Int, ∃ cnt2 : Int, ∃ la2 : Int, ∃ ra2 : Nat, ∃ nr2 : Nat, ∃ ru2 : Int, ∃ K2 : Int → Int, ∃ N2 : Int → Int, ∃ O2 : Int → Int, ∃ RR2 : Int → Int, ∃ ph2 : Int, oc = .returned (some (vj w2)) ∧ fx o o2 [lq, (lq + 1), (lq + 2), (lq + 3), (lq + 4), 90] G G2 ∧ cc o2 G2 q lq (ab_ob 5 [vR ki, vR ne, vR ot, vz cnt2, vz fi, vz la2, vR ra2, vz ru2, vz gr, vz wi, vz sz, vz fl, vz ve, vz mi, vR na, vR nl]) ∧ cc o2 G2 ki (lq + 1) (za 808 K2) ∧ cc o2 G2 ne (lq + 2) (za 808 N2) ∧ cc o2 G2 ot (lq + 3) (za 808 O2) ∧ cc o2 G2 ra2 (lq + 4) (za nr2 RR2) ∧ paI o2 G2 0 ps wt bs gq (prc RR2 ru2) ph2 ∧ (cnt ≤ cnt2 ∧ cnt2 ≤ 808 ∧ 0 ≤ la2 ∧ la2 ≤ 1) ∧ (0 ≤ w2 ∧ w2 / 4294967296 < cnt2 ∧ w2 % 4294967296 < cnt2) ∧ (0 ≤ ru2 ∧ ru2 ≤ ↑nr2 ∧ ↑nr2 ≤ (100000 : Int) ∧ nr ≤ nr2) ∧ (0 ≤ ph2 ∧ ru2 + ph2 ≤ ru + ph) ∧ (prok K2 N2 O2 RR2 cnt2 ru2 wi) ∧ (hrr RR2 ↑nr2) ∧ (rch RR2 ru2) ∧ (kext K K2 cnt) ∧ (fzr ps o o2 G G2) ∧ (32 * G2.length + nr ≤ 32 * G.length + nr2) ∧ (ab_slots G2 + 2 * nr ≤ ab_slots G + 2 * nr2)) := ⟨_, rfl⟩
  rw [← hQ]
  change ab_W X (ab_pl y_PR_loop b_PR_loop 8 (some (.long))) d G 0 [some (vR q), some (vR p), some (vj w), none, some (vz dd), none, none, none] [] Q
  have hfr : fx o o [lq, (lq + 1), (lq + 2), (lq + 3), (lq + 4), 90] G G := fx.rf
  have hzr : fzr ps o o G G := fzr.rf
  obtain ⟨k_1, v_1, rg_1, pl_1, fl_1, ou_1, ls_1, bf_1, sz_1, mb_1, oe_1, le_1, mo_1, la_1, rc_1, hp, hn1, hb1, hg1, ho1, hl1, hf1⟩ := ppaI_0.1 p hpp
  have hB1 := hb1
  unfold pnB at hB1
  have hK1 := hn1.1
  refine ab_aload_n d_PR_loop_0 rfl ?_
  refine zz_bipush d_PR_loop_1 (by decide) ?_
  refine zz_iconst d_PR_loop_3 ?_
  refine zz_iconst d_PR_loop_4 ?_
  refine ab_callV (d' := d - 1) (as := [vz 6, vz 0, vz 0]) (st := []) (r := _) (z_PR_add (o := o) (q := q) (lq := lq) (ki := ki) (ne := ne) (ot := ot) (cnt := cnt) (fi := fi) (la := la) (ra := ra) (ru := ru) (gr := gr) (wi := wi) (sz := sz) (fl := fl) (ve := ve) (mi := mi) (na := na) (nl := nl) (K := K) (N := N) (O := O) (k0 := 6) (x0 := 0) (v0 := 0) hq hki hne hot (by omega) (by omega) (by omega)) (fun oc G2 h => by rcases h with ⟨h, _⟩ | ⟨_, h, _⟩ <;> exact ⟨_, h⟩) (by omega) m_PR_add ml_PR_84 im_PR_add se_PR_add c_PR hq.2.2 (Nat.le_of_ble_eq_true rfl) d_PR_loop_5 rfl ?_
  intro v G2 hq
  rcases hq with ⟨hv, hGe, hq3⟩ | ⟨la24, hv, hfk, hlk, hsk, hNq, hNki, hNne, hNot, hq5, hq6, hq7⟩
  · cases hv
    rw [hGe]
    change ab_W _ _ _ G 8 [some (vR q), some (vR p), some (vj w), none, some (vz dd), none, none, none] [vz 0] _
    refine ab_istore d_PR_loop_8 (Nat.le_of_ble_eq_true rfl) (Nat.le_of_ble_eq_true rfl) rfl ?_
    change ab_W _ _ _ G 10 [some (vR q), some (vR p), some (vj w), none, some (vz dd), some (vz 0), none, none] [] _
    refine ab_aload_n d_PR_loop_10 rfl ?_
    refine ab_aload_n d_PR_loop_11 rfl ?_
    refine ab_aload_n d_PR_loop_12 rfl ?_
    refine ab_getf (fs := [vz k_1, vz v_1, rg_1, vz pl_1, vz fl_1, ou_1, ls_1, bf_1, vz sz_1, vz mb_1, vz oe_1, vz le_1, vz mo_1, vz la_1, vz rc_1]) f_PR_159 d_PR_loop_13 hp.2.2 rfl ?_
    refine zz_if_eq (tgt := 23) d_PR_loop_16 (by decide) (by omega) (fun c10 => ?_) (fun c10 => ?_)
    · refine ab_iload d_PR_loop_23 rfl ?_
      refine ab_iload d_PR_loop_25 rfl ?_
      refine ab_callS (d' := d - 1) (as := [vz 0, vz 0]) (st := [vR p, vR q]) (z_PR_pair (o := o) (f0 := 0) (u0 := 0) (by omega)) (fun oc G2 h => by rcases h with ⟨h, _⟩ <;> exact ⟨_, h⟩) (by omega) m_PR_pair ml_PR_88 st_PR_pair (Nat.le_of_ble_eq_true rfl) d_PR_loop_27 rfl ?_
      intro v G11 hq
      rcases hq with ⟨hv, hGe⟩
      cases hv
      rw [hGe]
      change ab_W _ _ _ G 30 [some (vR q), some (vR p), some (vj w), none, some (vz dd), some (vz 0), none, none] [vj (0 * 4294967296 + 0), vR p, vR q] _
      refine ab_iload d_PR_loop_30 rfl ?_
      refine ab_callV (d' := d - 1) (as := [vR p, vj (0 * 4294967296 + 0), vz dd]) (st := []) (r := _) (z_PR_once (o := o) (q := q) (lq := lq) (ki := ki) (ne := ne) (ot := ot) (cnt := cnt) (fi := fi) (la := la) (ra := ra) (ru := ru) (gr := gr) (wi := wi) (sz := sz) (fl := fl) (ve := ve) (mi := mi) (na := na) (nl := nl) (K := K) (N := N) (O := O) (RR := RR) (nr := nr) (ps := ps) (wt := wt) (bs := bs) (ph := ph) (gq := gq) (p := p) (w := (0 * 4294967296 + 0)) (dd := dd) hq hki hne hot hra ppaI_0 (by omega) (by omega) hp_ hch hr ck0 (by omega) hpp (by omega) (by omega) (by omega) (by omega) (by omega) ihR) (fun oc G2 h => by rcases h with ⟨_, _, _, _, _, _, _, _, _, _, _, _, h, _⟩ <;> exact ⟨_, h⟩) (by omega) m_PR_once ml_PR_153 im_PR_once se_PR_once c_PR hq.2.2 (Nat.le_of_ble_eq_true rfl) d_PR_loop_32 rfl ?_
      intro v G12 hq
      rcases hq with ⟨o13, w214, cnt215, la216, ra217, nr218, ru219, K220, N221, O222, RR223, ph224, hv, hfk, hNq, hNki, hNne, hNot, hNra217, pNpaI_0, hq25, hq26, hq27, hq28, hq29, hq30, hq31, hq32, hq33, hq34, hq35⟩
      cases hv
      have hzr := hzr.tr hq33
      obtain ⟨rc36, hKp⟩ := hq33 _ _ _ _ _ _ _ _ _ _ _ _ _ _ _ _ hpp hp
      have hp := hKp
      have ppaI_0 := pNpaI_0
      have hfr := hfr.tr hfk (by simp)
      have hq37 := hfk.1
      have hq := hNq
      have hki := hNki
      have hne := hNne
      have hot := hNot
      have hra217 := hNra217
      change ab_W _ _ _ G12 35 [some (vR q), some (vR p), some (vj w), none, some (vz dd), some (vz 0), none, none] [vj w214] _
      refine ab_callS (d' := d - 1) (as := [vj w214]) (st := []) (z_PR_fresh (o := o13) (w := w214) (by omega)) (fun oc G2 h => by rcases h with ⟨h, _⟩ <;> exact ⟨_, h⟩) (by omega) m_PR_fresh ml_PR_96 st_PR_fresh (Nat.le_of_ble_eq_true rfl) d_PR_loop_35 rfl ?_
      intro v G38 hq
      rcases hq with ⟨hv, hGe⟩
      cases hv
      rw [hGe]
      change ab_W _ _ _ G12 38 [some (vR q), some (vR p), some (vj w), none, some (vz dd), some (vz 0), none, none] [vz (w214 / 4294967296)] _
      refine ab_istore d_PR_loop_38 (Nat.le_of_ble_eq_true rfl) (Nat.le_of_ble_eq_true rfl) rfl ?_
      change ab_W _ _ _ G12 40 [some (vR q), some (vR p), some (vj w), none, some (vz dd), some (vz 0), some (vz (w214 / 4294967296)), none] [] _
      refine ab_aload_n d_PR_loop_40 rfl ?_
      refine ab_getf (fs := [vR ki, vR ne, vR ot, vz cnt215, vz fi, vz la216, vR ra217, vz ru219, vz gr, vz wi, vz sz, vz fl, vz ve, vz mi, vR na, vR nl]) f_PR_15 d_PR_loop_41 hq.2.2 rfl ?_
      refine ab_iload d_PR_loop_44 rfl ?_
      refine ab_aload_n d_PR_loop_46 rfl ?_
      refine ab_getf (fs := [vz k_1, vz v_1, rg_1, vz pl_1, vz fl_1, ou_1, ls_1, bf_1, vz sz_1, vz mb_1, vz oe_1, vz le_1, vz mo_1, vz la_1, vz rc36]) f_PR_156 d_PR_loop_47 hp.2.2 rfl ?_
      refine zz_if_eq (tgt := 60) d_PR_loop_50 (by decide) (by omega) (fun c39 => ?_) (fun c39 => ?_)
      · refine ab_iload d_PR_loop_60 rfl ?_
        refine zz_iast d_PR_loop_62 hne (by omega) (hne.2.1 (by first | omega | exact (show 18 ≤ _ by omega))) ?_
        obtain ⟨G40, eG40⟩ : ∃ z : ab_G, z = List.set G12 ne (za 808 (zu N221 0 (w214 / 4294967296))) := ⟨_, rfl⟩
        have hq := hq.keep hne eG40 (by omega)
        have hki := hki.keep hne eG40 (by omega)
        have hot := hot.keep hne eG40 (by omega)
        have hp := hp.keep hne eG40 (by omega)
        have hra217 := hra217.keep hne eG40 (by omega)
        have hzr := hzr.wr hne eG40 (by omega)
        have hst := (fx.rf (o := o13) (S := [(lq + 2)]) (G := G12)).wr hne eG40 (List.mem_singleton.mpr rfl)
        have ppaI_0 := paI.fr hst ppaI_0 (by simp only [List.mem_cons, List.not_mem_nil, or_false]; omega) (by simp only [List.mem_cons, List.not_mem_nil, or_false]; omega) (by simp only [List.mem_cons, List.not_mem_nil, or_false]; omega) (by intro xx hx; simp only [List.mem_cons, List.not_mem_nil, or_false] at hx; omega)
        have hq41 := z_len eG40
        have hq42 := z_sl hne eG40 rfl
        have hfr := hfr.wr hne eG40 (by simp)
        have hne := hne.kept eG40
        change ab_W _ _ _ (List.set G12 ne (za 808 (zu N221 0 (w214 / 4294967296)))) 63 [some (vR q), some (vR p), some (vj w), none, some (vz dd), some (vz 0), some (vz (w214 / 4294967296)), none] [] _
        rw [← eG40]
        have hp43 := prok_next (a := 0) (x := (w214 / 4294967296)) hq29 (by omega)
        obtain ⟨N43, eN43⟩ : ∃ z : Int → Int, z = zu N221 0 (w214 / 4294967296) := ⟨_, rfl⟩
        have hne : cc o13 G40 ne (lq + 2) (za 808 N43) := by rw [← eN43.symm]; exact hne
        rw [← eN43] at hp43
        change ab_W _ _ _ G40 63 [some (vR q), some (vR p), some (vj w), none, some (vz dd), some (vz 0), some (vz (w214 / 4294967296)), none] [] _
        refine ab_aload_n d_PR_loop_63 rfl ?_
        refine ab_getf (fs := [vR ki, vR ne, vR ot, vz cnt215, vz fi, vz la216, vR ra217, vz ru219, vz gr, vz wi, vz sz, vz fl, vz ve, vz mi, vR na, vR nl]) f_PR_18 d_PR_loop_64 hq.2.2 rfl ?_
        refine ab_iload d_PR_loop_67 rfl ?_
        refine ab_aload_n d_PR_loop_69 rfl ?_
        refine ab_getf (fs := [vz k_1, vz v_1, rg_1, vz pl_1, vz fl_1, ou_1, ls_1, bf_1, vz sz_1, vz mb_1, vz oe_1, vz le_1, vz mo_1, vz la_1, vz rc36]) f_PR_156 d_PR_loop_70 hp.2.2 rfl ?_
        refine zz_if_eq (tgt := 81) d_PR_loop_73 (by decide) (by omega) (fun c44 => ?_) (fun c44 => absurd c44 (by omega))
        refine ab_lload_n d_PR_loop_81 rfl ?_
        refine ab_callS (d' := d - 1) (as := [vj w]) (st := [vz 0, vR ot]) (z_PR_used (o := o13) (w := w) (by omega)) (fun oc G2 h => by rcases h with ⟨h, _⟩ <;> exact ⟨_, h⟩) (by omega) m_PR_used ml_PR_124 st_PR_used (Nat.le_of_ble_eq_true rfl) d_PR_loop_82 rfl ?_
        intro v G45 hq
        rcases hq with ⟨hv, hGe⟩
        cases hv
        rw [hGe]
        change ab_W _ _ _ G40 85 [some (vR q), some (vR p), some (vj w), none, some (vz dd), some (vz 0), some (vz (w214 / 4294967296)), none] [vz (w % 4294967296), vz 0, vR ot] _
        refine zz_iast d_PR_loop_85 hot (by omega) (hot.2.1 (by first | omega | exact (show 18 ≤ _ by omega))) ?_
        obtain ⟨G46, eG46⟩ : ∃ z : ab_G, z = List.set G40 ot (za 808 (zu O222 0 (w % 4294967296))) := ⟨_, rfl⟩
        have hq := hq.keep hot eG46 (by omega)
        have hki := hki.keep hot eG46 (by omega)
        have hne := hne.keep hot eG46 (by omega)
        have hp := hp.keep hot eG46 (by omega)
        have hra217 := hra217.keep hot eG46 (by omega)
        have hzr := hzr.wr hot eG46 (by omega)
        have hst := (fx.rf (o := o13) (S := [(lq + 3)]) (G := G40)).wr hot eG46 (List.mem_singleton.mpr rfl)
        have ppaI_0 := paI.fr hst ppaI_0 (by simp only [List.mem_cons, List.not_mem_nil, or_false]; omega) (by simp only [List.mem_cons, List.not_mem_nil, or_false]; omega) (by simp only [List.mem_cons, List.not_mem_nil, or_false]; omega) (by intro xx hx; simp only [List.mem_cons, List.not_mem_nil, or_false] at hx; omega)
        have hq47 := z_len eG46
        have hq48 := z_sl hot eG46 rfl
        have hfr := hfr.wr hot eG46 (by simp)
        have hot := hot.kept eG46
        change ab_W _ _ _ (List.set G40 ot (za 808 (zu O222 0 (w % 4294967296)))) 86 [some (vR q), some (vR p), some (vj w), none, some (vz dd), some (vz 0), some (vz (w214 / 4294967296)), none] [] _
        rw [← eG46]
        have hp49 := prok_other (a := 0) (x := (w % 4294967296)) hp43 (by omega) (Or.inr ((hq32 0 (by omega) (by omega)).trans ck0))
        obtain ⟨O49, eO49⟩ : ∃ z : Int → Int, z = zu O222 0 (w % 4294967296) := ⟨_, rfl⟩
        have hot : cc o13 G46 ot (lq + 3) (za 808 O49) := by rw [← eO49.symm]; exact hot
        rw [← eO49] at hp49
        change ab_W _ _ _ G46 86 [some (vR q), some (vR p), some (vj w), none, some (vz dd), some (vz 0), some (vz (w214 / 4294967296)), none] [] _
        refine ab_lload_n d_PR_loop_86 rfl ?_
        refine ab_callS (d' := d - 1) (as := [vj w]) (st := []) (z_PR_fresh (o := o13) (w := w) (by omega)) (fun oc G2 h => by rcases h with ⟨h, _⟩ <;> exact ⟨_, h⟩) (by omega) m_PR_fresh ml_PR_96 st_PR_fresh (Nat.le_of_ble_eq_true rfl) d_PR_loop_87 rfl ?_
        intro v G50 hq
        rcases hq with ⟨hv, hGe⟩
        cases hv
        rw [hGe]
        change ab_W _ _ _ G46 90 [some (vR q), some (vR p), some (vj w), none, some (vz dd), some (vz 0), some (vz (w214 / 4294967296)), none] [vz (w / 4294967296)] _
        refine ab_lload_n d_PR_loop_90 rfl ?_
        refine ab_callS (d' := d - 1) (as := [vj w]) (st := [vz (w / 4294967296)]) (z_PR_used (o := o13) (w := w) (by omega)) (fun oc G2 h => by rcases h with ⟨h, _⟩ <;> exact ⟨_, h⟩) (by omega) m_PR_used ml_PR_124 st_PR_used (Nat.le_of_ble_eq_true rfl) d_PR_loop_91 rfl ?_
        intro v G51 hq
        rcases hq with ⟨hv, hGe⟩
        cases hv
        rw [hGe]
        change ab_W _ _ _ G46 94 [some (vR q), some (vR p), some (vj w), none, some (vz dd), some (vz 0), some (vz (w214 / 4294967296)), none] [vz (w % 4294967296), vz (w / 4294967296)] _
        refine zz_icmp_ne (tgt := 105) d_PR_loop_94 (by decide) (by omega) (by omega) (fun c52 => ?_) (fun c52 => ?_)
        · refine ab_aload_n d_PR_loop_105 rfl ?_
          refine ab_getf (fs := [vz k_1, vz v_1, rg_1, vz pl_1, vz fl_1, ou_1, ls_1, bf_1, vz sz_1, vz mb_1, vz oe_1, vz le_1, vz mo_1, vz la_1, vz rc36]) f_PR_156 d_PR_loop_106 hp.2.2 rfl ?_
          refine zz_if_eq (tgt := 127) d_PR_loop_109 (by decide) (by omega) (fun c53 => ?_) (fun c53 => absurd c53 (by omega))
          refine ab_aload_n d_PR_loop_127 rfl ?_
          refine zz_bipush d_PR_loop_128 (by decide) ?_
          refine ab_iload d_PR_loop_130 rfl ?_
          refine ab_lload_n d_PR_loop_132 rfl ?_
          refine ab_callS (d' := d - 1) (as := [vj w]) (st := [vz (w214 / 4294967296), vz 6, vR q]) (z_PR_fresh (o := o13) (w := w) (by omega)) (fun oc G2 h => by rcases h with ⟨h, _⟩ <;> exact ⟨_, h⟩) (by omega) m_PR_fresh ml_PR_96 st_PR_fresh (Nat.le_of_ble_eq_true rfl) d_PR_loop_133 rfl ?_
          intro v G54 hq
          rcases hq with ⟨hv, hGe⟩
          cases hv
          rw [hGe]
          change ab_W _ _ _ G46 136 [some (vR q), some (vR p), some (vj w), none, some (vz dd), some (vz 0), some (vz (w214 / 4294967296)), none] [vz (w / 4294967296), vz (w214 / 4294967296), vz 6, vR q] _
          refine ab_callV (d' := d - 1) (as := [vz 6, vz (w214 / 4294967296), vz (w / 4294967296)]) (st := []) (r := _) (z_PR_add (o := o13) (q := q) (lq := lq) (ki := ki) (ne := ne) (ot := ot) (cnt := cnt215) (fi := fi) (la := la216) (ra := ra217) (ru := ru219) (gr := gr) (wi := wi) (sz := sz) (fl := fl) (ve := ve) (mi := mi) (na := na) (nl := nl) (K := K220) (N := N43) (O := O49) (k0 := 6) (x0 := (w214 / 4294967296)) (v0 := (w / 4294967296)) hq hki hne hot (by omega) (by omega) (by omega)) (fun oc G2 h => by rcases h with ⟨h, _⟩ | ⟨_, h, _⟩ <;> exact ⟨_, h⟩) (by omega) m_PR_add ml_PR_84 im_PR_add se_PR_add c_PR hq.2.2 (Nat.le_of_ble_eq_true rfl) d_PR_loop_136 rfl ?_
          intro v G55 hq
          rcases hq with ⟨hv, hGe, hq56⟩ | ⟨la257, hv, hfk, hlk, hsk, hNq, hNki, hNne, hNot, hq58, hq59, hq60⟩
          · cases hv
            rw [hGe]
            change ab_W _ _ _ G46 139 [some (vR q), some (vR p), some (vj w), none, some (vz dd), some (vz 0), some (vz (w214 / 4294967296)), none] [vz 0] _
            refine ab_istore d_PR_loop_139 (Nat.le_of_ble_eq_true rfl) (Nat.le_of_ble_eq_true rfl) rfl ?_
            change ab_W _ _ _ G46 141 [some (vR q), some (vR p), some (vj w), none, some (vz dd), some (vz 0), some (vz (w214 / 4294967296)), some (vz 0)] [] _
            refine ab_iload d_PR_loop_141 rfl ?_
            refine ab_iload d_PR_loop_143 rfl ?_
            refine ab_callS (d' := d - 1) (as := [vz 0, vz 0]) (st := []) (z_PR_pair (o := o13) (f0 := 0) (u0 := 0) (by omega)) (fun oc G2 h => by rcases h with ⟨h, _⟩ <;> exact ⟨_, h⟩) (by omega) m_PR_pair ml_PR_88 st_PR_pair (Nat.le_of_ble_eq_true rfl) d_PR_loop_145 rfl ?_
            intro v G63 hq
            rcases hq with ⟨hv, hGe⟩
            cases hv
            rw [hGe]
            change ab_W _ _ _ G46 148 [some (vR q), some (vR p), some (vj w), none, some (vz dd), some (vz 0), some (vz (w214 / 4294967296)), some (vz 0)] [vj (0 * 4294967296 + 0)] _
            refine ab_lret rfl d_PR_loop_148 ?_
            rw [hQ]; exact ⟨_, _, _, _, _, _, _, _, _, _, _, _, rfl, hfr, hq, hki, hne, hot, hra217, ppaI_0, (by omega), (by omega), (by omega), (by omega), (by exact hp49), (by exact hq30), (by exact hq31), (by exact hq32), (by exact hzr), (by omega), (by omega)⟩
          · cases hv
            have hzr := hzr.tr (fzr.fx hfk (by simp only [List.mem_cons, List.not_mem_nil, or_false]; omega))
            have hp := hfk.get hp (by simp only [List.mem_cons, List.not_mem_nil, or_false]; omega)
            have hra217 := hfk.get hra217 (by simp only [List.mem_cons, List.not_mem_nil, or_false]; omega)
            have ppaI_0 := paI.fr hfk ppaI_0 (by simp only [List.mem_cons, List.not_mem_nil, or_false]; omega) (by simp only [List.mem_cons, List.not_mem_nil, or_false]; omega) (by simp only [List.mem_cons, List.not_mem_nil, or_false]; omega) (by intro xx hx; simp only [List.mem_cons, List.not_mem_nil, or_false] at hx; omega)
            have hfr := hfr.tr hfk (by simp)
            have hq61 := hlk
            have hq62 := hsk
            have hq := hNq
            have hki := hNki
            have hne := hNne
            have hot := hNot
            change ab_W _ _ _ G55 139 [some (vR q), some (vR p), some (vj w), none, some (vz dd), some (vz 0), some (vz (w214 / 4294967296)), none] [vz cnt215] _
            exfalso; omega
        · refine ab_iload d_PR_loop_97 rfl ?_
          refine ab_iload d_PR_loop_99 rfl ?_
          refine ab_callS (d' := d - 1) (as := [vz 0, vz 0]) (st := []) (z_PR_pair (o := o13) (f0 := 0) (u0 := 0) (by omega)) (fun oc G2 h => by rcases h with ⟨h, _⟩ <;> exact ⟨_, h⟩) (by omega) m_PR_pair ml_PR_88 st_PR_pair (Nat.le_of_ble_eq_true rfl) d_PR_loop_101 rfl ?_
          intro v G64 hq
          rcases hq with ⟨hv, hGe⟩
          cases hv
          rw [hGe]
          change ab_W _ _ _ G46 104 [some (vR q), some (vR p), some (vj w), none, some (vz dd), some (vz 0), some (vz (w214 / 4294967296)), none] [vj (0 * 4294967296 + 0)] _
          refine ab_lret rfl d_PR_loop_104 ?_
          rw [hQ]; exact ⟨_, _, _, _, _, _, _, _, _, _, _, _, rfl, hfr, hq, hki, hne, hot, hra217, ppaI_0, (by omega), (by omega), (by omega), (by omega), (by exact hp49), (by exact hq30), (by exact hq31), (by exact hq32), (by exact hzr), (by omega), (by omega)⟩
      · refine ab_lload_n d_PR_loop_53 rfl ?_
        refine ab_callS (d' := d - 1) (as := [vj w]) (st := [vz 0, vR ne]) (z_PR_used (o := o13) (w := w) (by omega)) (fun oc G2 h => by rcases h with ⟨h, _⟩ <;> exact ⟨_, h⟩) (by omega) m_PR_used ml_PR_124 st_PR_used (Nat.le_of_ble_eq_true rfl) d_PR_loop_54 rfl ?_
        intro v G65 hq
        rcases hq with ⟨hv, hGe⟩
        cases hv
        rw [hGe]
        change ab_W _ _ _ G12 57 [some (vR q), some (vR p), some (vj w), none, some (vz dd), some (vz 0), some (vz (w214 / 4294967296)), none] [vz (w % 4294967296), vz 0, vR ne] _
        refine ab_goto (tgt := 62) d_PR_loop_57 (by decide) ?_
        refine zz_iast d_PR_loop_62 hne (by omega) (hne.2.1 (by first | omega | exact (show 18 ≤ _ by omega))) ?_
        obtain ⟨G66, eG66⟩ : ∃ z : ab_G, z = List.set G12 ne (za 808 (zu N221 0 (w % 4294967296))) := ⟨_, rfl⟩
        have hq := hq.keep hne eG66 (by omega)
        have hki := hki.keep hne eG66 (by omega)
        have hot := hot.keep hne eG66 (by omega)
        have hp := hp.keep hne eG66 (by omega)
        have hra217 := hra217.keep hne eG66 (by omega)
        have hzr := hzr.wr hne eG66 (by omega)
        have hst := (fx.rf (o := o13) (S := [(lq + 2)]) (G := G12)).wr hne eG66 (List.mem_singleton.mpr rfl)
        have ppaI_0 := paI.fr hst ppaI_0 (by simp only [List.mem_cons, List.not_mem_nil, or_false]; omega) (by simp only [List.mem_cons, List.not_mem_nil, or_false]; omega) (by simp only [List.mem_cons, List.not_mem_nil, or_false]; omega) (by intro xx hx; simp only [List.mem_cons, List.not_mem_nil, or_false] at hx; omega)
        have hq67 := z_len eG66
        have hq68 := z_sl hne eG66 rfl
        have hfr := hfr.wr hne eG66 (by simp)
        have hne := hne.kept eG66
        change ab_W _ _ _ (List.set G12 ne (za 808 (zu N221 0 (w % 4294967296)))) 63 [some (vR q), some (vR p), some (vj w), none, some (vz dd), some (vz 0), some (vz (w214 / 4294967296)), none] [] _
        rw [← eG66]
        have hp69 := prok_next (a := 0) (x := (w % 4294967296)) hq29 (by omega)
        obtain ⟨N69, eN69⟩ : ∃ z : Int → Int, z = zu N221 0 (w % 4294967296) := ⟨_, rfl⟩
        have hne : cc o13 G66 ne (lq + 2) (za 808 N69) := by rw [← eN69.symm]; exact hne
        rw [← eN69] at hp69
        change ab_W _ _ _ G66 63 [some (vR q), some (vR p), some (vj w), none, some (vz dd), some (vz 0), some (vz (w214 / 4294967296)), none] [] _
        refine ab_aload_n d_PR_loop_63 rfl ?_
        refine ab_getf (fs := [vR ki, vR ne, vR ot, vz cnt215, vz fi, vz la216, vR ra217, vz ru219, vz gr, vz wi, vz sz, vz fl, vz ve, vz mi, vR na, vR nl]) f_PR_18 d_PR_loop_64 hq.2.2 rfl ?_
        refine ab_iload d_PR_loop_67 rfl ?_
        refine ab_aload_n d_PR_loop_69 rfl ?_
        refine ab_getf (fs := [vz k_1, vz v_1, rg_1, vz pl_1, vz fl_1, ou_1, ls_1, bf_1, vz sz_1, vz mb_1, vz oe_1, vz le_1, vz mo_1, vz la_1, vz rc36]) f_PR_156 d_PR_loop_70 hp.2.2 rfl ?_
        refine zz_if_eq (tgt := 81) d_PR_loop_73 (by decide) (by omega) (fun c70 => absurd c70 (by omega)) (fun c70 => ?_)
        refine ab_iload d_PR_loop_76 rfl ?_
        refine ab_goto (tgt := 85) d_PR_loop_78 (by decide) ?_
        refine zz_iast d_PR_loop_85 hot (by omega) (hot.2.1 (by first | omega | exact (show 18 ≤ _ by omega))) ?_
        obtain ⟨G71, eG71⟩ : ∃ z : ab_G, z = List.set G66 ot (za 808 (zu O222 0 (w214 / 4294967296))) := ⟨_, rfl⟩
        have hq := hq.keep hot eG71 (by omega)
        have hki := hki.keep hot eG71 (by omega)
        have hne := hne.keep hot eG71 (by omega)
        have hp := hp.keep hot eG71 (by omega)
        have hra217 := hra217.keep hot eG71 (by omega)
        have hzr := hzr.wr hot eG71 (by omega)
        have hst := (fx.rf (o := o13) (S := [(lq + 3)]) (G := G66)).wr hot eG71 (List.mem_singleton.mpr rfl)
        have ppaI_0 := paI.fr hst ppaI_0 (by simp only [List.mem_cons, List.not_mem_nil, or_false]; omega) (by simp only [List.mem_cons, List.not_mem_nil, or_false]; omega) (by simp only [List.mem_cons, List.not_mem_nil, or_false]; omega) (by intro xx hx; simp only [List.mem_cons, List.not_mem_nil, or_false] at hx; omega)
        have hq72 := z_len eG71
        have hq73 := z_sl hot eG71 rfl
        have hfr := hfr.wr hot eG71 (by simp)
        have hot := hot.kept eG71
        change ab_W _ _ _ (List.set G66 ot (za 808 (zu O222 0 (w214 / 4294967296)))) 86 [some (vR q), some (vR p), some (vj w), none, some (vz dd), some (vz 0), some (vz (w214 / 4294967296)), none] [] _
        rw [← eG71]
        have hp74 := prok_other (a := 0) (x := (w214 / 4294967296)) hp69 (by omega) (Or.inr ((hq32 0 (by omega) (by omega)).trans ck0))
        obtain ⟨O74, eO74⟩ : ∃ z : Int → Int, z = zu O222 0 (w214 / 4294967296) := ⟨_, rfl⟩
        have hot : cc o13 G71 ot (lq + 3) (za 808 O74) := by rw [← eO74.symm]; exact hot
        rw [← eO74] at hp74
        change ab_W _ _ _ G71 86 [some (vR q), some (vR p), some (vj w), none, some (vz dd), some (vz 0), some (vz (w214 / 4294967296)), none] [] _
        refine ab_lload_n d_PR_loop_86 rfl ?_
        refine ab_callS (d' := d - 1) (as := [vj w]) (st := []) (z_PR_fresh (o := o13) (w := w) (by omega)) (fun oc G2 h => by rcases h with ⟨h, _⟩ <;> exact ⟨_, h⟩) (by omega) m_PR_fresh ml_PR_96 st_PR_fresh (Nat.le_of_ble_eq_true rfl) d_PR_loop_87 rfl ?_
        intro v G75 hq
        rcases hq with ⟨hv, hGe⟩
        cases hv
        rw [hGe]
        change ab_W _ _ _ G71 90 [some (vR q), some (vR p), some (vj w), none, some (vz dd), some (vz 0), some (vz (w214 / 4294967296)), none] [vz (w / 4294967296)] _
        refine ab_lload_n d_PR_loop_90 rfl ?_
        refine ab_callS (d' := d - 1) (as := [vj w]) (st := [vz (w / 4294967296)]) (z_PR_used (o := o13) (w := w) (by omega)) (fun oc G2 h => by rcases h with ⟨h, _⟩ <;> exact ⟨_, h⟩) (by omega) m_PR_used ml_PR_124 st_PR_used (Nat.le_of_ble_eq_true rfl) d_PR_loop_91 rfl ?_
        intro v G76 hq
        rcases hq with ⟨hv, hGe⟩
        cases hv
        rw [hGe]
        change ab_W _ _ _ G71 94 [some (vR q), some (vR p), some (vj w), none, some (vz dd), some (vz 0), some (vz (w214 / 4294967296)), none] [vz (w % 4294967296), vz (w / 4294967296)] _
        refine zz_icmp_ne (tgt := 105) d_PR_loop_94 (by decide) (by omega) (by omega) (fun c77 => ?_) (fun c77 => ?_)
        · refine ab_aload_n d_PR_loop_105 rfl ?_
          refine ab_getf (fs := [vz k_1, vz v_1, rg_1, vz pl_1, vz fl_1, ou_1, ls_1, bf_1, vz sz_1, vz mb_1, vz oe_1, vz le_1, vz mo_1, vz la_1, vz rc36]) f_PR_156 d_PR_loop_106 hp.2.2 rfl ?_
          refine zz_if_eq (tgt := 127) d_PR_loop_109 (by decide) (by omega) (fun c78 => absurd c78 (by omega)) (fun c78 => ?_)
          refine ab_aload_n d_PR_loop_112 rfl ?_
          refine zz_bipush d_PR_loop_113 (by decide) ?_
          refine ab_lload_n d_PR_loop_115 rfl ?_
          refine ab_callS (d' := d - 1) (as := [vj w]) (st := [vz 6, vR q]) (z_PR_fresh (o := o13) (w := w) (by omega)) (fun oc G2 h => by rcases h with ⟨h, _⟩ <;> exact ⟨_, h⟩) (by omega) m_PR_fresh ml_PR_96 st_PR_fresh (Nat.le_of_ble_eq_true rfl) d_PR_loop_116 rfl ?_
          intro v G79 hq
          rcases hq with ⟨hv, hGe⟩
          cases hv
          rw [hGe]
          change ab_W _ _ _ G71 119 [some (vR q), some (vR p), some (vj w), none, some (vz dd), some (vz 0), some (vz (w214 / 4294967296)), none] [vz (w / 4294967296), vz 6, vR q] _
          refine ab_iload d_PR_loop_119 rfl ?_
          refine ab_callV (d' := d - 1) (as := [vz 6, vz (w / 4294967296), vz (w214 / 4294967296)]) (st := []) (r := _) (z_PR_add (o := o13) (q := q) (lq := lq) (ki := ki) (ne := ne) (ot := ot) (cnt := cnt215) (fi := fi) (la := la216) (ra := ra217) (ru := ru219) (gr := gr) (wi := wi) (sz := sz) (fl := fl) (ve := ve) (mi := mi) (na := na) (nl := nl) (K := K220) (N := N69) (O := O74) (k0 := 6) (x0 := (w / 4294967296)) (v0 := (w214 / 4294967296)) hq hki hne hot (by omega) (by omega) (by omega)) (fun oc G2 h => by rcases h with ⟨h, _⟩ | ⟨_, h, _⟩ <;> exact ⟨_, h⟩) (by omega) m_PR_add ml_PR_84 im_PR_add se_PR_add c_PR hq.2.2 (Nat.le_of_ble_eq_true rfl) d_PR_loop_121 rfl ?_
          intro v G80 hq
          rcases hq with ⟨hv, hGe, hq81⟩ | ⟨la282, hv, hfk, hlk, hsk, hNq, hNki, hNne, hNot, hq83, hq84, hq85⟩
          · cases hv
            rw [hGe]
            change ab_W _ _ _ G71 124 [some (vR q), some (vR p), some (vj w), none, some (vz dd), some (vz 0), some (vz (w214 / 4294967296)), none] [vz 0] _
            refine ab_goto (tgt := 139) d_PR_loop_124 (by decide) ?_
            refine ab_istore d_PR_loop_139 (Nat.le_of_ble_eq_true rfl) (Nat.le_of_ble_eq_true rfl) rfl ?_
            change ab_W _ _ _ G71 141 [some (vR q), some (vR p), some (vj w), none, some (vz dd), some (vz 0), some (vz (w214 / 4294967296)), some (vz 0)] [] _
            refine ab_iload d_PR_loop_141 rfl ?_
            refine ab_iload d_PR_loop_143 rfl ?_
            refine ab_callS (d' := d - 1) (as := [vz 0, vz 0]) (st := []) (z_PR_pair (o := o13) (f0 := 0) (u0 := 0) (by omega)) (fun oc G2 h => by rcases h with ⟨h, _⟩ <;> exact ⟨_, h⟩) (by omega) m_PR_pair ml_PR_88 st_PR_pair (Nat.le_of_ble_eq_true rfl) d_PR_loop_145 rfl ?_
            intro v G88 hq
            rcases hq with ⟨hv, hGe⟩
            cases hv
            rw [hGe]
            change ab_W _ _ _ G71 148 [some (vR q), some (vR p), some (vj w), none, some (vz dd), some (vz 0), some (vz (w214 / 4294967296)), some (vz 0)] [vj (0 * 4294967296 + 0)] _
            refine ab_lret rfl d_PR_loop_148 ?_
            rw [hQ]; exact ⟨_, _, _, _, _, _, _, _, _, _, _, _, rfl, hfr, hq, hki, hne, hot, hra217, ppaI_0, (by omega), (by omega), (by omega), (by omega), (by exact hp74), (by exact hq30), (by exact hq31), (by exact hq32), (by exact hzr), (by omega), (by omega)⟩
          · cases hv
            have hzr := hzr.tr (fzr.fx hfk (by simp only [List.mem_cons, List.not_mem_nil, or_false]; omega))
            have hp := hfk.get hp (by simp only [List.mem_cons, List.not_mem_nil, or_false]; omega)
            have hra217 := hfk.get hra217 (by simp only [List.mem_cons, List.not_mem_nil, or_false]; omega)
            have ppaI_0 := paI.fr hfk ppaI_0 (by simp only [List.mem_cons, List.not_mem_nil, or_false]; omega) (by simp only [List.mem_cons, List.not_mem_nil, or_false]; omega) (by simp only [List.mem_cons, List.not_mem_nil, or_false]; omega) (by intro xx hx; simp only [List.mem_cons, List.not_mem_nil, or_false] at hx; omega)
            have hfr := hfr.tr hfk (by simp)
            have hq86 := hlk
            have hq87 := hsk
            have hq := hNq
            have hki := hNki
            have hne := hNne
            have hot := hNot
            change ab_W _ _ _ G80 124 [some (vR q), some (vR p), some (vj w), none, some (vz dd), some (vz 0), some (vz (w214 / 4294967296)), none] [vz cnt215] _
            exfalso; omega
        · refine ab_iload d_PR_loop_97 rfl ?_
          refine ab_iload d_PR_loop_99 rfl ?_
          refine ab_callS (d' := d - 1) (as := [vz 0, vz 0]) (st := []) (z_PR_pair (o := o13) (f0 := 0) (u0 := 0) (by omega)) (fun oc G2 h => by rcases h with ⟨h, _⟩ <;> exact ⟨_, h⟩) (by omega) m_PR_pair ml_PR_88 st_PR_pair (Nat.le_of_ble_eq_true rfl) d_PR_loop_101 rfl ?_
          intro v G89 hq
          rcases hq with ⟨hv, hGe⟩
          cases hv
          rw [hGe]
          change ab_W _ _ _ G71 104 [some (vR q), some (vR p), some (vj w), none, some (vz dd), some (vz 0), some (vz (w214 / 4294967296)), none] [vj (0 * 4294967296 + 0)] _
          refine ab_lret rfl d_PR_loop_104 ?_
          rw [hQ]; exact ⟨_, _, _, _, _, _, _, _, _, _, _, _, rfl, hfr, hq, hki, hne, hot, hra217, ppaI_0, (by omega), (by omega), (by omega), (by omega), (by exact hp74), (by exact hq30), (by exact hq31), (by exact hq32), (by exact hzr), (by omega), (by omega)⟩
    · refine zz_iconst d_PR_loop_19 ?_
      refine ab_goto (tgt := 25) d_PR_loop_20 (by decide) ?_
      refine ab_iload d_PR_loop_25 rfl ?_
      refine ab_callS (d' := d - 1) (as := [vz 0, vz 0]) (st := [vR p, vR q]) (z_PR_pair (o := o) (f0 := 0) (u0 := 0) (by omega)) (fun oc G2 h => by rcases h with ⟨h, _⟩ <;> exact ⟨_, h⟩) (by omega) m_PR_pair ml_PR_88 st_PR_pair (Nat.le_of_ble_eq_true rfl) d_PR_loop_27 rfl ?_
      intro v G90 hq
      rcases hq with ⟨hv, hGe⟩
      cases hv
      rw [hGe]
      change ab_W _ _ _ G 30 [some (vR q), some (vR p), some (vj w), none, some (vz dd), some (vz 0), none, none] [vj (0 * 4294967296 + 0), vR p, vR q] _
      refine ab_iload d_PR_loop_30 rfl ?_
      refine ab_callV (d' := d - 1) (as := [vR p, vj (0 * 4294967296 + 0), vz dd]) (st := []) (r := _) (z_PR_once (o := o) (q := q) (lq := lq) (ki := ki) (ne := ne) (ot := ot) (cnt := cnt) (fi := fi) (la := la) (ra := ra) (ru := ru) (gr := gr) (wi := wi) (sz := sz) (fl := fl) (ve := ve) (mi := mi) (na := na) (nl := nl) (K := K) (N := N) (O := O) (RR := RR) (nr := nr) (ps := ps) (wt := wt) (bs := bs) (ph := ph) (gq := gq) (p := p) (w := (0 * 4294967296 + 0)) (dd := dd) hq hki hne hot hra ppaI_0 (by omega) (by omega) hp_ hch hr ck0 (by omega) hpp (by omega) (by omega) (by omega) (by omega) (by omega) ihR) (fun oc G2 h => by rcases h with ⟨_, _, _, _, _, _, _, _, _, _, _, _, h, _⟩ <;> exact ⟨_, h⟩) (by omega) m_PR_once ml_PR_153 im_PR_once se_PR_once c_PR hq.2.2 (Nat.le_of_ble_eq_true rfl) d_PR_loop_32 rfl ?_
      intro v G91 hq
      rcases hq with ⟨o92, w293, cnt294, la295, ra296, nr297, ru298, K299, N2100, O2101, RR2102, ph2103, hv, hfk, hNq, hNki, hNne, hNot, hNra296, pNpaI_0, hq104, hq105, hq106, hq107, hq108, hq109, hq110, hq111, hq112, hq113, hq114⟩
      cases hv
      have hzr := hzr.tr hq112
      obtain ⟨rc115, hKp⟩ := hq112 _ _ _ _ _ _ _ _ _ _ _ _ _ _ _ _ hpp hp
      have hp := hKp
      have ppaI_0 := pNpaI_0
      have hfr := hfr.tr hfk (by simp)
      have hq116 := hfk.1
      have hq := hNq
      have hki := hNki
      have hne := hNne
      have hot := hNot
      have hra296 := hNra296
      change ab_W _ _ _ G91 35 [some (vR q), some (vR p), some (vj w), none, some (vz dd), some (vz 0), none, none] [vj w293] _
      refine ab_callS (d' := d - 1) (as := [vj w293]) (st := []) (z_PR_fresh (o := o92) (w := w293) (by omega)) (fun oc G2 h => by rcases h with ⟨h, _⟩ <;> exact ⟨_, h⟩) (by omega) m_PR_fresh ml_PR_96 st_PR_fresh (Nat.le_of_ble_eq_true rfl) d_PR_loop_35 rfl ?_
      intro v G117 hq
      rcases hq with ⟨hv, hGe⟩
      cases hv
      rw [hGe]
      change ab_W _ _ _ G91 38 [some (vR q), some (vR p), some (vj w), none, some (vz dd), some (vz 0), none, none] [vz (w293 / 4294967296)] _
      refine ab_istore d_PR_loop_38 (Nat.le_of_ble_eq_true rfl) (Nat.le_of_ble_eq_true rfl) rfl ?_
      change ab_W _ _ _ G91 40 [some (vR q), some (vR p), some (vj w), none, some (vz dd), some (vz 0), some (vz (w293 / 4294967296)), none] [] _
      refine ab_aload_n d_PR_loop_40 rfl ?_
      refine ab_getf (fs := [vR ki, vR ne, vR ot, vz cnt294, vz fi, vz la295, vR ra296, vz ru298, vz gr, vz wi, vz sz, vz fl, vz ve, vz mi, vR na, vR nl]) f_PR_15 d_PR_loop_41 hq.2.2 rfl ?_
      refine ab_iload d_PR_loop_44 rfl ?_
      refine ab_aload_n d_PR_loop_46 rfl ?_
      refine ab_getf (fs := [vz k_1, vz v_1, rg_1, vz pl_1, vz fl_1, ou_1, ls_1, bf_1, vz sz_1, vz mb_1, vz oe_1, vz le_1, vz mo_1, vz la_1, vz rc115]) f_PR_156 d_PR_loop_47 hp.2.2 rfl ?_
      refine zz_if_eq (tgt := 60) d_PR_loop_50 (by decide) (by omega) (fun c118 => ?_) (fun c118 => ?_)
      · refine ab_iload d_PR_loop_60 rfl ?_
        refine zz_iast d_PR_loop_62 hne (by omega) (hne.2.1 (by first | omega | exact (show 18 ≤ _ by omega))) ?_
        obtain ⟨G119, eG119⟩ : ∃ z : ab_G, z = List.set G91 ne (za 808 (zu N2100 0 (w293 / 4294967296))) := ⟨_, rfl⟩
        have hq := hq.keep hne eG119 (by omega)
        have hki := hki.keep hne eG119 (by omega)
        have hot := hot.keep hne eG119 (by omega)
        have hp := hp.keep hne eG119 (by omega)
        have hra296 := hra296.keep hne eG119 (by omega)
        have hzr := hzr.wr hne eG119 (by omega)
        have hst := (fx.rf (o := o92) (S := [(lq + 2)]) (G := G91)).wr hne eG119 (List.mem_singleton.mpr rfl)
        have ppaI_0 := paI.fr hst ppaI_0 (by simp only [List.mem_cons, List.not_mem_nil, or_false]; omega) (by simp only [List.mem_cons, List.not_mem_nil, or_false]; omega) (by simp only [List.mem_cons, List.not_mem_nil, or_false]; omega) (by intro xx hx; simp only [List.mem_cons, List.not_mem_nil, or_false] at hx; omega)
        have hq120 := z_len eG119
        have hq121 := z_sl hne eG119 rfl
        have hfr := hfr.wr hne eG119 (by simp)
        have hne := hne.kept eG119
        change ab_W _ _ _ (List.set G91 ne (za 808 (zu N2100 0 (w293 / 4294967296)))) 63 [some (vR q), some (vR p), some (vj w), none, some (vz dd), some (vz 0), some (vz (w293 / 4294967296)), none] [] _
        rw [← eG119]
        have hp122 := prok_next (a := 0) (x := (w293 / 4294967296)) hq108 (by omega)
        obtain ⟨N122, eN122⟩ : ∃ z : Int → Int, z = zu N2100 0 (w293 / 4294967296) := ⟨_, rfl⟩
        have hne : cc o92 G119 ne (lq + 2) (za 808 N122) := by rw [← eN122.symm]; exact hne
        rw [← eN122] at hp122
        change ab_W _ _ _ G119 63 [some (vR q), some (vR p), some (vj w), none, some (vz dd), some (vz 0), some (vz (w293 / 4294967296)), none] [] _
        refine ab_aload_n d_PR_loop_63 rfl ?_
        refine ab_getf (fs := [vR ki, vR ne, vR ot, vz cnt294, vz fi, vz la295, vR ra296, vz ru298, vz gr, vz wi, vz sz, vz fl, vz ve, vz mi, vR na, vR nl]) f_PR_18 d_PR_loop_64 hq.2.2 rfl ?_
        refine ab_iload d_PR_loop_67 rfl ?_
        refine ab_aload_n d_PR_loop_69 rfl ?_
        refine ab_getf (fs := [vz k_1, vz v_1, rg_1, vz pl_1, vz fl_1, ou_1, ls_1, bf_1, vz sz_1, vz mb_1, vz oe_1, vz le_1, vz mo_1, vz la_1, vz rc115]) f_PR_156 d_PR_loop_70 hp.2.2 rfl ?_
        refine zz_if_eq (tgt := 81) d_PR_loop_73 (by decide) (by omega) (fun c123 => ?_) (fun c123 => absurd c123 (by omega))
        refine ab_lload_n d_PR_loop_81 rfl ?_
        refine ab_callS (d' := d - 1) (as := [vj w]) (st := [vz 0, vR ot]) (z_PR_used (o := o92) (w := w) (by omega)) (fun oc G2 h => by rcases h with ⟨h, _⟩ <;> exact ⟨_, h⟩) (by omega) m_PR_used ml_PR_124 st_PR_used (Nat.le_of_ble_eq_true rfl) d_PR_loop_82 rfl ?_
        intro v G124 hq
        rcases hq with ⟨hv, hGe⟩
        cases hv
        rw [hGe]
        change ab_W _ _ _ G119 85 [some (vR q), some (vR p), some (vj w), none, some (vz dd), some (vz 0), some (vz (w293 / 4294967296)), none] [vz (w % 4294967296), vz 0, vR ot] _
        refine zz_iast d_PR_loop_85 hot (by omega) (hot.2.1 (by first | omega | exact (show 18 ≤ _ by omega))) ?_
        obtain ⟨G125, eG125⟩ : ∃ z : ab_G, z = List.set G119 ot (za 808 (zu O2101 0 (w % 4294967296))) := ⟨_, rfl⟩
        have hq := hq.keep hot eG125 (by omega)
        have hki := hki.keep hot eG125 (by omega)
        have hne := hne.keep hot eG125 (by omega)
        have hp := hp.keep hot eG125 (by omega)
        have hra296 := hra296.keep hot eG125 (by omega)
        have hzr := hzr.wr hot eG125 (by omega)
        have hst := (fx.rf (o := o92) (S := [(lq + 3)]) (G := G119)).wr hot eG125 (List.mem_singleton.mpr rfl)
        have ppaI_0 := paI.fr hst ppaI_0 (by simp only [List.mem_cons, List.not_mem_nil, or_false]; omega) (by simp only [List.mem_cons, List.not_mem_nil, or_false]; omega) (by simp only [List.mem_cons, List.not_mem_nil, or_false]; omega) (by intro xx hx; simp only [List.mem_cons, List.not_mem_nil, or_false] at hx; omega)
        have hq126 := z_len eG125
        have hq127 := z_sl hot eG125 rfl
        have hfr := hfr.wr hot eG125 (by simp)
        have hot := hot.kept eG125
        change ab_W _ _ _ (List.set G119 ot (za 808 (zu O2101 0 (w % 4294967296)))) 86 [some (vR q), some (vR p), some (vj w), none, some (vz dd), some (vz 0), some (vz (w293 / 4294967296)), none] [] _
        rw [← eG125]
        have hp128 := prok_other (a := 0) (x := (w % 4294967296)) hp122 (by omega) (Or.inr ((hq111 0 (by omega) (by omega)).trans ck0))
        obtain ⟨O128, eO128⟩ : ∃ z : Int → Int, z = zu O2101 0 (w % 4294967296) := ⟨_, rfl⟩
        have hot : cc o92 G125 ot (lq + 3) (za 808 O128) := by rw [← eO128.symm]; exact hot
        rw [← eO128] at hp128
        change ab_W _ _ _ G125 86 [some (vR q), some (vR p), some (vj w), none, some (vz dd), some (vz 0), some (vz (w293 / 4294967296)), none] [] _
        refine ab_lload_n d_PR_loop_86 rfl ?_
        refine ab_callS (d' := d - 1) (as := [vj w]) (st := []) (z_PR_fresh (o := o92) (w := w) (by omega)) (fun oc G2 h => by rcases h with ⟨h, _⟩ <;> exact ⟨_, h⟩) (by omega) m_PR_fresh ml_PR_96 st_PR_fresh (Nat.le_of_ble_eq_true rfl) d_PR_loop_87 rfl ?_
        intro v G129 hq
        rcases hq with ⟨hv, hGe⟩
        cases hv
        rw [hGe]
        change ab_W _ _ _ G125 90 [some (vR q), some (vR p), some (vj w), none, some (vz dd), some (vz 0), some (vz (w293 / 4294967296)), none] [vz (w / 4294967296)] _
        refine ab_lload_n d_PR_loop_90 rfl ?_
        refine ab_callS (d' := d - 1) (as := [vj w]) (st := [vz (w / 4294967296)]) (z_PR_used (o := o92) (w := w) (by omega)) (fun oc G2 h => by rcases h with ⟨h, _⟩ <;> exact ⟨_, h⟩) (by omega) m_PR_used ml_PR_124 st_PR_used (Nat.le_of_ble_eq_true rfl) d_PR_loop_91 rfl ?_
        intro v G130 hq
        rcases hq with ⟨hv, hGe⟩
        cases hv
        rw [hGe]
        change ab_W _ _ _ G125 94 [some (vR q), some (vR p), some (vj w), none, some (vz dd), some (vz 0), some (vz (w293 / 4294967296)), none] [vz (w % 4294967296), vz (w / 4294967296)] _
        refine zz_icmp_ne (tgt := 105) d_PR_loop_94 (by decide) (by omega) (by omega) (fun c131 => ?_) (fun c131 => ?_)
        · refine ab_aload_n d_PR_loop_105 rfl ?_
          refine ab_getf (fs := [vz k_1, vz v_1, rg_1, vz pl_1, vz fl_1, ou_1, ls_1, bf_1, vz sz_1, vz mb_1, vz oe_1, vz le_1, vz mo_1, vz la_1, vz rc115]) f_PR_156 d_PR_loop_106 hp.2.2 rfl ?_
          refine zz_if_eq (tgt := 127) d_PR_loop_109 (by decide) (by omega) (fun c132 => ?_) (fun c132 => absurd c132 (by omega))
          refine ab_aload_n d_PR_loop_127 rfl ?_
          refine zz_bipush d_PR_loop_128 (by decide) ?_
          refine ab_iload d_PR_loop_130 rfl ?_
          refine ab_lload_n d_PR_loop_132 rfl ?_
          refine ab_callS (d' := d - 1) (as := [vj w]) (st := [vz (w293 / 4294967296), vz 6, vR q]) (z_PR_fresh (o := o92) (w := w) (by omega)) (fun oc G2 h => by rcases h with ⟨h, _⟩ <;> exact ⟨_, h⟩) (by omega) m_PR_fresh ml_PR_96 st_PR_fresh (Nat.le_of_ble_eq_true rfl) d_PR_loop_133 rfl ?_
          intro v G133 hq
          rcases hq with ⟨hv, hGe⟩
          cases hv
          rw [hGe]
          change ab_W _ _ _ G125 136 [some (vR q), some (vR p), some (vj w), none, some (vz dd), some (vz 0), some (vz (w293 / 4294967296)), none] [vz (w / 4294967296), vz (w293 / 4294967296), vz 6, vR q] _
          refine ab_callV (d' := d - 1) (as := [vz 6, vz (w293 / 4294967296), vz (w / 4294967296)]) (st := []) (r := _) (z_PR_add (o := o92) (q := q) (lq := lq) (ki := ki) (ne := ne) (ot := ot) (cnt := cnt294) (fi := fi) (la := la295) (ra := ra296) (ru := ru298) (gr := gr) (wi := wi) (sz := sz) (fl := fl) (ve := ve) (mi := mi) (na := na) (nl := nl) (K := K299) (N := N122) (O := O128) (k0 := 6) (x0 := (w293 / 4294967296)) (v0 := (w / 4294967296)) hq hki hne hot (by omega) (by omega) (by omega)) (fun oc G2 h => by rcases h with ⟨h, _⟩ | ⟨_, h, _⟩ <;> exact ⟨_, h⟩) (by omega) m_PR_add ml_PR_84 im_PR_add se_PR_add c_PR hq.2.2 (Nat.le_of_ble_eq_true rfl) d_PR_loop_136 rfl ?_
          intro v G134 hq
          rcases hq with ⟨hv, hGe, hq135⟩ | ⟨la2136, hv, hfk, hlk, hsk, hNq, hNki, hNne, hNot, hq137, hq138, hq139⟩
          · cases hv
            rw [hGe]
            change ab_W _ _ _ G125 139 [some (vR q), some (vR p), some (vj w), none, some (vz dd), some (vz 0), some (vz (w293 / 4294967296)), none] [vz 0] _
            refine ab_istore d_PR_loop_139 (Nat.le_of_ble_eq_true rfl) (Nat.le_of_ble_eq_true rfl) rfl ?_
            change ab_W _ _ _ G125 141 [some (vR q), some (vR p), some (vj w), none, some (vz dd), some (vz 0), some (vz (w293 / 4294967296)), some (vz 0)] [] _
            refine ab_iload d_PR_loop_141 rfl ?_
            refine ab_iload d_PR_loop_143 rfl ?_
            refine ab_callS (d' := d - 1) (as := [vz 0, vz 0]) (st := []) (z_PR_pair (o := o92) (f0 := 0) (u0 := 0) (by omega)) (fun oc G2 h => by rcases h with ⟨h, _⟩ <;> exact ⟨_, h⟩) (by omega) m_PR_pair ml_PR_88 st_PR_pair (Nat.le_of_ble_eq_true rfl) d_PR_loop_145 rfl ?_
            intro v G142 hq
            rcases hq with ⟨hv, hGe⟩
            cases hv
            rw [hGe]
            change ab_W _ _ _ G125 148 [some (vR q), some (vR p), some (vj w), none, some (vz dd), some (vz 0), some (vz (w293 / 4294967296)), some (vz 0)] [vj (0 * 4294967296 + 0)] _
            refine ab_lret rfl d_PR_loop_148 ?_
            rw [hQ]; exact ⟨_, _, _, _, _, _, _, _, _, _, _, _, rfl, hfr, hq, hki, hne, hot, hra296, ppaI_0, (by omega), (by omega), (by omega), (by omega), (by exact hp128), (by exact hq109), (by exact hq110), (by exact hq111), (by exact hzr), (by omega), (by omega)⟩
          · cases hv
            have hzr := hzr.tr (fzr.fx hfk (by simp only [List.mem_cons, List.not_mem_nil, or_false]; omega))
            have hp := hfk.get hp (by simp only [List.mem_cons, List.not_mem_nil, or_false]; omega)
            have hra296 := hfk.get hra296 (by simp only [List.mem_cons, List.not_mem_nil, or_false]; omega)
            have ppaI_0 := paI.fr hfk ppaI_0 (by simp only [List.mem_cons, List.not_mem_nil, or_false]; omega) (by simp only [List.mem_cons, List.not_mem_nil, or_false]; omega) (by simp only [List.mem_cons, List.not_mem_nil, or_false]; omega) (by intro xx hx; simp only [List.mem_cons, List.not_mem_nil, or_false] at hx; omega)
            have hfr := hfr.tr hfk (by simp)
            have hq140 := hlk
            have hq141 := hsk
            have hq := hNq
            have hki := hNki
            have hne := hNne
            have hot := hNot
            change ab_W _ _ _ G134 139 [some (vR q), some (vR p), some (vj w), none, some (vz dd), some (vz 0), some (vz (w293 / 4294967296)), none] [vz cnt294] _
            exfalso; omega
        · refine ab_iload d_PR_loop_97 rfl ?_
          refine ab_iload d_PR_loop_99 rfl ?_
          refine ab_callS (d' := d - 1) (as := [vz 0, vz 0]) (st := []) (z_PR_pair (o := o92) (f0 := 0) (u0 := 0) (by omega)) (fun oc G2 h => by rcases h with ⟨h, _⟩ <;> exact ⟨_, h⟩) (by omega) m_PR_pair ml_PR_88 st_PR_pair (Nat.le_of_ble_eq_true rfl) d_PR_loop_101 rfl ?_
          intro v G143 hq
          rcases hq with ⟨hv, hGe⟩
          cases hv
          rw [hGe]
          change ab_W _ _ _ G125 104 [some (vR q), some (vR p), some (vj w), none, some (vz dd), some (vz 0), some (vz (w293 / 4294967296)), none] [vj (0 * 4294967296 + 0)] _
          refine ab_lret rfl d_PR_loop_104 ?_
          rw [hQ]; exact ⟨_, _, _, _, _, _, _, _, _, _, _, _, rfl, hfr, hq, hki, hne, hot, hra296, ppaI_0, (by omega), (by omega), (by omega), (by omega), (by exact hp128), (by exact hq109), (by exact hq110), (by exact hq111), (by exact hzr), (by omega), (by omega)⟩
      · refine ab_lload_n d_PR_loop_53 rfl ?_
        refine ab_callS (d' := d - 1) (as := [vj w]) (st := [vz 0, vR ne]) (z_PR_used (o := o92) (w := w) (by omega)) (fun oc G2 h => by rcases h with ⟨h, _⟩ <;> exact ⟨_, h⟩) (by omega) m_PR_used ml_PR_124 st_PR_used (Nat.le_of_ble_eq_true rfl) d_PR_loop_54 rfl ?_
        intro v G144 hq
        rcases hq with ⟨hv, hGe⟩
        cases hv
        rw [hGe]
        change ab_W _ _ _ G91 57 [some (vR q), some (vR p), some (vj w), none, some (vz dd), some (vz 0), some (vz (w293 / 4294967296)), none] [vz (w % 4294967296), vz 0, vR ne] _
        refine ab_goto (tgt := 62) d_PR_loop_57 (by decide) ?_
        refine zz_iast d_PR_loop_62 hne (by omega) (hne.2.1 (by first | omega | exact (show 18 ≤ _ by omega))) ?_
        obtain ⟨G145, eG145⟩ : ∃ z : ab_G, z = List.set G91 ne (za 808 (zu N2100 0 (w % 4294967296))) := ⟨_, rfl⟩
        have hq := hq.keep hne eG145 (by omega)
        have hki := hki.keep hne eG145 (by omega)
        have hot := hot.keep hne eG145 (by omega)
        have hp := hp.keep hne eG145 (by omega)
        have hra296 := hra296.keep hne eG145 (by omega)
        have hzr := hzr.wr hne eG145 (by omega)
        have hst := (fx.rf (o := o92) (S := [(lq + 2)]) (G := G91)).wr hne eG145 (List.mem_singleton.mpr rfl)
        have ppaI_0 := paI.fr hst ppaI_0 (by simp only [List.mem_cons, List.not_mem_nil, or_false]; omega) (by simp only [List.mem_cons, List.not_mem_nil, or_false]; omega) (by simp only [List.mem_cons, List.not_mem_nil, or_false]; omega) (by intro xx hx; simp only [List.mem_cons, List.not_mem_nil, or_false] at hx; omega)
        have hq146 := z_len eG145
        have hq147 := z_sl hne eG145 rfl
        have hfr := hfr.wr hne eG145 (by simp)
        have hne := hne.kept eG145
        change ab_W _ _ _ (List.set G91 ne (za 808 (zu N2100 0 (w % 4294967296)))) 63 [some (vR q), some (vR p), some (vj w), none, some (vz dd), some (vz 0), some (vz (w293 / 4294967296)), none] [] _
        rw [← eG145]
        have hp148 := prok_next (a := 0) (x := (w % 4294967296)) hq108 (by omega)
        obtain ⟨N148, eN148⟩ : ∃ z : Int → Int, z = zu N2100 0 (w % 4294967296) := ⟨_, rfl⟩
        have hne : cc o92 G145 ne (lq + 2) (za 808 N148) := by rw [← eN148.symm]; exact hne
        rw [← eN148] at hp148
        change ab_W _ _ _ G145 63 [some (vR q), some (vR p), some (vj w), none, some (vz dd), some (vz 0), some (vz (w293 / 4294967296)), none] [] _
        refine ab_aload_n d_PR_loop_63 rfl ?_
        refine ab_getf (fs := [vR ki, vR ne, vR ot, vz cnt294, vz fi, vz la295, vR ra296, vz ru298, vz gr, vz wi, vz sz, vz fl, vz ve, vz mi, vR na, vR nl]) f_PR_18 d_PR_loop_64 hq.2.2 rfl ?_
        refine ab_iload d_PR_loop_67 rfl ?_
        refine ab_aload_n d_PR_loop_69 rfl ?_
        refine ab_getf (fs := [vz k_1, vz v_1, rg_1, vz pl_1, vz fl_1, ou_1, ls_1, bf_1, vz sz_1, vz mb_1, vz oe_1, vz le_1, vz mo_1, vz la_1, vz rc115]) f_PR_156 d_PR_loop_70 hp.2.2 rfl ?_
        refine zz_if_eq (tgt := 81) d_PR_loop_73 (by decide) (by omega) (fun c149 => absurd c149 (by omega)) (fun c149 => ?_)
        refine ab_iload d_PR_loop_76 rfl ?_
        refine ab_goto (tgt := 85) d_PR_loop_78 (by decide) ?_
        refine zz_iast d_PR_loop_85 hot (by omega) (hot.2.1 (by first | omega | exact (show 18 ≤ _ by omega))) ?_
        obtain ⟨G150, eG150⟩ : ∃ z : ab_G, z = List.set G145 ot (za 808 (zu O2101 0 (w293 / 4294967296))) := ⟨_, rfl⟩
        have hq := hq.keep hot eG150 (by omega)
        have hki := hki.keep hot eG150 (by omega)
        have hne := hne.keep hot eG150 (by omega)
        have hp := hp.keep hot eG150 (by omega)
        have hra296 := hra296.keep hot eG150 (by omega)
        have hzr := hzr.wr hot eG150 (by omega)
        have hst := (fx.rf (o := o92) (S := [(lq + 3)]) (G := G145)).wr hot eG150 (List.mem_singleton.mpr rfl)
        have ppaI_0 := paI.fr hst ppaI_0 (by simp only [List.mem_cons, List.not_mem_nil, or_false]; omega) (by simp only [List.mem_cons, List.not_mem_nil, or_false]; omega) (by simp only [List.mem_cons, List.not_mem_nil, or_false]; omega) (by intro xx hx; simp only [List.mem_cons, List.not_mem_nil, or_false] at hx; omega)
        have hq151 := z_len eG150
        have hq152 := z_sl hot eG150 rfl
        have hfr := hfr.wr hot eG150 (by simp)
        have hot := hot.kept eG150
        change ab_W _ _ _ (List.set G145 ot (za 808 (zu O2101 0 (w293 / 4294967296)))) 86 [some (vR q), some (vR p), some (vj w), none, some (vz dd), some (vz 0), some (vz (w293 / 4294967296)), none] [] _
        rw [← eG150]
        have hp153 := prok_other (a := 0) (x := (w293 / 4294967296)) hp148 (by omega) (Or.inr ((hq111 0 (by omega) (by omega)).trans ck0))
        obtain ⟨O153, eO153⟩ : ∃ z : Int → Int, z = zu O2101 0 (w293 / 4294967296) := ⟨_, rfl⟩
        have hot : cc o92 G150 ot (lq + 3) (za 808 O153) := by rw [← eO153.symm]; exact hot
        rw [← eO153] at hp153
        change ab_W _ _ _ G150 86 [some (vR q), some (vR p), some (vj w), none, some (vz dd), some (vz 0), some (vz (w293 / 4294967296)), none] [] _
        refine ab_lload_n d_PR_loop_86 rfl ?_
        refine ab_callS (d' := d - 1) (as := [vj w]) (st := []) (z_PR_fresh (o := o92) (w := w) (by omega)) (fun oc G2 h => by rcases h with ⟨h, _⟩ <;> exact ⟨_, h⟩) (by omega) m_PR_fresh ml_PR_96 st_PR_fresh (Nat.le_of_ble_eq_true rfl) d_PR_loop_87 rfl ?_
        intro v G154 hq
        rcases hq with ⟨hv, hGe⟩
        cases hv
        rw [hGe]
        change ab_W _ _ _ G150 90 [some (vR q), some (vR p), some (vj w), none, some (vz dd), some (vz 0), some (vz (w293 / 4294967296)), none] [vz (w / 4294967296)] _
        refine ab_lload_n d_PR_loop_90 rfl ?_
        refine ab_callS (d' := d - 1) (as := [vj w]) (st := [vz (w / 4294967296)]) (z_PR_used (o := o92) (w := w) (by omega)) (fun oc G2 h => by rcases h with ⟨h, _⟩ <;> exact ⟨_, h⟩) (by omega) m_PR_used ml_PR_124 st_PR_used (Nat.le_of_ble_eq_true rfl) d_PR_loop_91 rfl ?_
        intro v G155 hq
        rcases hq with ⟨hv, hGe⟩
        cases hv
        rw [hGe]
        change ab_W _ _ _ G150 94 [some (vR q), some (vR p), some (vj w), none, some (vz dd), some (vz 0), some (vz (w293 / 4294967296)), none] [vz (w % 4294967296), vz (w / 4294967296)] _
        refine zz_icmp_ne (tgt := 105) d_PR_loop_94 (by decide) (by omega) (by omega) (fun c156 => ?_) (fun c156 => ?_)
        · refine ab_aload_n d_PR_loop_105 rfl ?_
          refine ab_getf (fs := [vz k_1, vz v_1, rg_1, vz pl_1, vz fl_1, ou_1, ls_1, bf_1, vz sz_1, vz mb_1, vz oe_1, vz le_1, vz mo_1, vz la_1, vz rc115]) f_PR_156 d_PR_loop_106 hp.2.2 rfl ?_
          refine zz_if_eq (tgt := 127) d_PR_loop_109 (by decide) (by omega) (fun c157 => absurd c157 (by omega)) (fun c157 => ?_)
          refine ab_aload_n d_PR_loop_112 rfl ?_
          refine zz_bipush d_PR_loop_113 (by decide) ?_
          refine ab_lload_n d_PR_loop_115 rfl ?_
          refine ab_callS (d' := d - 1) (as := [vj w]) (st := [vz 6, vR q]) (z_PR_fresh (o := o92) (w := w) (by omega)) (fun oc G2 h => by rcases h with ⟨h, _⟩ <;> exact ⟨_, h⟩) (by omega) m_PR_fresh ml_PR_96 st_PR_fresh (Nat.le_of_ble_eq_true rfl) d_PR_loop_116 rfl ?_
          intro v G158 hq
          rcases hq with ⟨hv, hGe⟩
          cases hv
          rw [hGe]
          change ab_W _ _ _ G150 119 [some (vR q), some (vR p), some (vj w), none, some (vz dd), some (vz 0), some (vz (w293 / 4294967296)), none] [vz (w / 4294967296), vz 6, vR q] _
          refine ab_iload d_PR_loop_119 rfl ?_
          refine ab_callV (d' := d - 1) (as := [vz 6, vz (w / 4294967296), vz (w293 / 4294967296)]) (st := []) (r := _) (z_PR_add (o := o92) (q := q) (lq := lq) (ki := ki) (ne := ne) (ot := ot) (cnt := cnt294) (fi := fi) (la := la295) (ra := ra296) (ru := ru298) (gr := gr) (wi := wi) (sz := sz) (fl := fl) (ve := ve) (mi := mi) (na := na) (nl := nl) (K := K299) (N := N148) (O := O153) (k0 := 6) (x0 := (w / 4294967296)) (v0 := (w293 / 4294967296)) hq hki hne hot (by omega) (by omega) (by omega)) (fun oc G2 h => by rcases h with ⟨h, _⟩ | ⟨_, h, _⟩ <;> exact ⟨_, h⟩) (by omega) m_PR_add ml_PR_84 im_PR_add se_PR_add c_PR hq.2.2 (Nat.le_of_ble_eq_true rfl) d_PR_loop_121 rfl ?_
          intro v G159 hq
          rcases hq with ⟨hv, hGe, hq160⟩ | ⟨la2161, hv, hfk, hlk, hsk, hNq, hNki, hNne, hNot, hq162, hq163, hq164⟩
          · cases hv
            rw [hGe]
            change ab_W _ _ _ G150 124 [some (vR q), some (vR p), some (vj w), none, some (vz dd), some (vz 0), some (vz (w293 / 4294967296)), none] [vz 0] _
            refine ab_goto (tgt := 139) d_PR_loop_124 (by decide) ?_
            refine ab_istore d_PR_loop_139 (Nat.le_of_ble_eq_true rfl) (Nat.le_of_ble_eq_true rfl) rfl ?_
            change ab_W _ _ _ G150 141 [some (vR q), some (vR p), some (vj w), none, some (vz dd), some (vz 0), some (vz (w293 / 4294967296)), some (vz 0)] [] _
            refine ab_iload d_PR_loop_141 rfl ?_
            refine ab_iload d_PR_loop_143 rfl ?_
            refine ab_callS (d' := d - 1) (as := [vz 0, vz 0]) (st := []) (z_PR_pair (o := o92) (f0 := 0) (u0 := 0) (by omega)) (fun oc G2 h => by rcases h with ⟨h, _⟩ <;> exact ⟨_, h⟩) (by omega) m_PR_pair ml_PR_88 st_PR_pair (Nat.le_of_ble_eq_true rfl) d_PR_loop_145 rfl ?_
            intro v G167 hq
            rcases hq with ⟨hv, hGe⟩
            cases hv
            rw [hGe]
            change ab_W _ _ _ G150 148 [some (vR q), some (vR p), some (vj w), none, some (vz dd), some (vz 0), some (vz (w293 / 4294967296)), some (vz 0)] [vj (0 * 4294967296 + 0)] _
            refine ab_lret rfl d_PR_loop_148 ?_
            rw [hQ]; exact ⟨_, _, _, _, _, _, _, _, _, _, _, _, rfl, hfr, hq, hki, hne, hot, hra296, ppaI_0, (by omega), (by omega), (by omega), (by omega), (by exact hp153), (by exact hq109), (by exact hq110), (by exact hq111), (by exact hzr), (by omega), (by omega)⟩
          · cases hv
            have hzr := hzr.tr (fzr.fx hfk (by simp only [List.mem_cons, List.not_mem_nil, or_false]; omega))
            have hp := hfk.get hp (by simp only [List.mem_cons, List.not_mem_nil, or_false]; omega)
            have hra296 := hfk.get hra296 (by simp only [List.mem_cons, List.not_mem_nil, or_false]; omega)
            have ppaI_0 := paI.fr hfk ppaI_0 (by simp only [List.mem_cons, List.not_mem_nil, or_false]; omega) (by simp only [List.mem_cons, List.not_mem_nil, or_false]; omega) (by simp only [List.mem_cons, List.not_mem_nil, or_false]; omega) (by intro xx hx; simp only [List.mem_cons, List.not_mem_nil, or_false] at hx; omega)
            have hfr := hfr.tr hfk (by simp)
            have hq165 := hlk
            have hq166 := hsk
            have hq := hNq
            have hki := hNki
            have hne := hNne
            have hot := hNot
            change ab_W _ _ _ G159 124 [some (vR q), some (vR p), some (vj w), none, some (vz dd), some (vz 0), some (vz (w293 / 4294967296)), none] [vz cnt294] _
            exfalso; omega
        · refine ab_iload d_PR_loop_97 rfl ?_
          refine ab_iload d_PR_loop_99 rfl ?_
          refine ab_callS (d' := d - 1) (as := [vz 0, vz 0]) (st := []) (z_PR_pair (o := o92) (f0 := 0) (u0 := 0) (by omega)) (fun oc G2 h => by rcases h with ⟨h, _⟩ <;> exact ⟨_, h⟩) (by omega) m_PR_pair ml_PR_88 st_PR_pair (Nat.le_of_ble_eq_true rfl) d_PR_loop_101 rfl ?_
          intro v G168 hq
          rcases hq with ⟨hv, hGe⟩
          cases hv
          rw [hGe]
          change ab_W _ _ _ G150 104 [some (vR q), some (vR p), some (vj w), none, some (vz dd), some (vz 0), some (vz (w293 / 4294967296)), none] [vj (0 * 4294967296 + 0)] _
          refine ab_lret rfl d_PR_loop_104 ?_
          rw [hQ]; exact ⟨_, _, _, _, _, _, _, _, _, _, _, _, rfl, hfr, hq, hki, hne, hot, hra296, ppaI_0, (by omega), (by omega), (by omega), (by omega), (by exact hp153), (by exact hq109), (by exact hq110), (by exact hq111), (by exact hzr), (by omega), (by omega)⟩
  · cases hv
    have hzr := hzr.tr (fzr.fx hfk (by simp only [List.mem_cons, List.not_mem_nil, or_false]; omega))
    have hra := hfk.get hra (by simp only [List.mem_cons, List.not_mem_nil, or_false]; omega)
    have hp := hfk.get hp (by simp only [List.mem_cons, List.not_mem_nil, or_false]; omega)
    have ppaI_0 := paI.fr hfk ppaI_0 (by simp only [List.mem_cons, List.not_mem_nil, or_false]; omega) (by simp only [List.mem_cons, List.not_mem_nil, or_false]; omega) (by simp only [List.mem_cons, List.not_mem_nil, or_false]; omega) (by intro xx hx; simp only [List.mem_cons, List.not_mem_nil, or_false] at hx; omega)
    have hfr := hfr.tr hfk (by simp)
    have hq8 := hlk
    have hq9 := hsk
    have hq := hNq
    have hki := hNki
    have hne := hNne
    have hot := hNot
    change ab_W _ _ _ G2 8 [some (vR q), some (vR p), some (vj w), none, some (vz dd), none, none, none] [vz cnt] _
    have hp169 := prok_add (k := 6) (x := 0) (v := 0) hp_ (by omega) (by omega) (by omega) (by omega) (by omega) (fun t => by omega) (fun t => absurd t (by decide)) (fun t => absurd t (by decide)) (fun t => absurd t (by decide)) (fun t => absurd t (by decide))
    obtain ⟨K169, eK169⟩ : ∃ z : Int → Int, z = zu K cnt 6 := ⟨_, rfl⟩
    have hki : cc o G2 ki (lq + 1) (za 808 K169) := by rw [← eK169.symm]; exact hki
    obtain ⟨N169, eN169⟩ : ∃ z : Int → Int, z = zu N cnt 0 := ⟨_, rfl⟩
    have hne : cc o G2 ne (lq + 2) (za 808 N169) := by rw [← eN169.symm]; exact hne
    obtain ⟨O169, eO169⟩ : ∃ z : Int → Int, z = zu O cnt 0 := ⟨_, rfl⟩
    have hot : cc o G2 ot (lq + 3) (za 808 O169) := by rw [← eO169.symm]; exact hot
    rw [← eK169, ← eN169, ← eO169] at hp169
    have hkx169 : kext K K169 cnt := by rw [eK169]; exact kext.zu (Int.le_refl _)
    have hks169 : K169 cnt = 6 := by rw [eK169]; exact zu_self _ _ _
    change ab_W _ _ _ G2 8 [some (vR q), some (vR p), some (vj w), none, some (vz dd), none, none, none] [vz cnt] _
    refine ab_istore d_PR_loop_8 (Nat.le_of_ble_eq_true rfl) (Nat.le_of_ble_eq_true rfl) rfl ?_
    change ab_W _ _ _ G2 10 [some (vR q), some (vR p), some (vj w), none, some (vz dd), some (vz cnt), none, none] [] _
    refine ab_aload_n d_PR_loop_10 rfl ?_
    refine ab_aload_n d_PR_loop_11 rfl ?_
    refine ab_aload_n d_PR_loop_12 rfl ?_
    refine ab_getf (fs := [vz k_1, vz v_1, rg_1, vz pl_1, vz fl_1, ou_1, ls_1, bf_1, vz sz_1, vz mb_1, vz oe_1, vz le_1, vz mo_1, vz la_1, vz rc_1]) f_PR_159 d_PR_loop_13 hp.2.2 rfl ?_
    refine zz_if_eq (tgt := 23) d_PR_loop_16 (by decide) (by omega) (fun c170 => ?_) (fun c170 => ?_)
    · refine ab_iload d_PR_loop_23 rfl ?_
      refine ab_iload d_PR_loop_25 rfl ?_
      refine ab_callS (d' := d - 1) (as := [vz cnt, vz cnt]) (st := [vR p, vR q]) (z_PR_pair (o := o) (f0 := cnt) (u0 := cnt) (by omega)) (fun oc G2 h => by rcases h with ⟨h, _⟩ <;> exact ⟨_, h⟩) (by omega) m_PR_pair ml_PR_88 st_PR_pair (Nat.le_of_ble_eq_true rfl) d_PR_loop_27 rfl ?_
      intro v G171 hq
      rcases hq with ⟨hv, hGe⟩
      cases hv
      rw [hGe]
      change ab_W _ _ _ G2 30 [some (vR q), some (vR p), some (vj w), none, some (vz dd), some (vz cnt), none, none] [vj (cnt * 4294967296 + cnt), vR p, vR q] _
      refine ab_iload d_PR_loop_30 rfl ?_
      refine ab_callV (d' := d - 1) (as := [vR p, vj (cnt * 4294967296 + cnt), vz dd]) (st := []) (r := _) (z_PR_once (o := o) (q := q) (lq := lq) (ki := ki) (ne := ne) (ot := ot) (cnt := (cnt + 1)) (fi := fi) (la := la24) (ra := ra) (ru := ru) (gr := gr) (wi := wi) (sz := sz) (fl := fl) (ve := ve) (mi := mi) (na := na) (nl := nl) (K := K169) (N := N169) (O := O169) (RR := RR) (nr := nr) (ps := ps) (wt := wt) (bs := bs) (ph := ph) (gq := gq) (p := p) (w := (cnt * 4294967296 + cnt)) (dd := dd) hq hki hne hot hra ppaI_0 (by omega) (by omega) hp169 hch hr ((hkx169 0 (by omega) (by omega)).trans ck0) (by omega) hpp (by omega) (by omega) (by omega) (by omega) (by omega) ihR) (fun oc G2 h => by rcases h with ⟨_, _, _, _, _, _, _, _, _, _, _, _, h, _⟩ <;> exact ⟨_, h⟩) (by omega) m_PR_once ml_PR_153 im_PR_once se_PR_once c_PR hq.2.2 (Nat.le_of_ble_eq_true rfl) d_PR_loop_32 rfl ?_
      intro v G172 hq
      rcases hq with ⟨o173, w2174, cnt2175, la2176, ra2177, nr2178, ru2179, K2180, N2181, O2182, RR2183, ph2184, hv, hfk, hNq, hNki, hNne, hNot, hNra2177, pNpaI_0, hq185, hq186, hq187, hq188, hq189, hq190, hq191, hq192, hq193, hq194, hq195⟩
      cases hv
      have hzr := hzr.tr hq193
      obtain ⟨rc196, hKp⟩ := hq193 _ _ _ _ _ _ _ _ _ _ _ _ _ _ _ _ hpp hp
      have hp := hKp
      have ppaI_0 := pNpaI_0
      have hfr := hfr.tr hfk (by simp)
      have hq197 := hfk.1
      have hq := hNq
      have hki := hNki
      have hne := hNne
      have hot := hNot
      have hra2177 := hNra2177
      change ab_W _ _ _ G172 35 [some (vR q), some (vR p), some (vj w), none, some (vz dd), some (vz cnt), none, none] [vj w2174] _
      refine ab_callS (d' := d - 1) (as := [vj w2174]) (st := []) (z_PR_fresh (o := o173) (w := w2174) (by omega)) (fun oc G2 h => by rcases h with ⟨h, _⟩ <;> exact ⟨_, h⟩) (by omega) m_PR_fresh ml_PR_96 st_PR_fresh (Nat.le_of_ble_eq_true rfl) d_PR_loop_35 rfl ?_
      intro v G198 hq
      rcases hq with ⟨hv, hGe⟩
      cases hv
      rw [hGe]
      change ab_W _ _ _ G172 38 [some (vR q), some (vR p), some (vj w), none, some (vz dd), some (vz cnt), none, none] [vz (w2174 / 4294967296)] _
      refine ab_istore d_PR_loop_38 (Nat.le_of_ble_eq_true rfl) (Nat.le_of_ble_eq_true rfl) rfl ?_
      change ab_W _ _ _ G172 40 [some (vR q), some (vR p), some (vj w), none, some (vz dd), some (vz cnt), some (vz (w2174 / 4294967296)), none] [] _
      refine ab_aload_n d_PR_loop_40 rfl ?_
      refine ab_getf (fs := [vR ki, vR ne, vR ot, vz cnt2175, vz fi, vz la2176, vR ra2177, vz ru2179, vz gr, vz wi, vz sz, vz fl, vz ve, vz mi, vR na, vR nl]) f_PR_15 d_PR_loop_41 hq.2.2 rfl ?_
      refine ab_iload d_PR_loop_44 rfl ?_
      refine ab_aload_n d_PR_loop_46 rfl ?_
      refine ab_getf (fs := [vz k_1, vz v_1, rg_1, vz pl_1, vz fl_1, ou_1, ls_1, bf_1, vz sz_1, vz mb_1, vz oe_1, vz le_1, vz mo_1, vz la_1, vz rc196]) f_PR_156 d_PR_loop_47 hp.2.2 rfl ?_
      refine zz_if_eq (tgt := 60) d_PR_loop_50 (by decide) (by omega) (fun c199 => ?_) (fun c199 => ?_)
      · refine ab_iload d_PR_loop_60 rfl ?_
        refine zz_iast d_PR_loop_62 hne (by omega) (hne.2.1 (by first | omega | exact (show 18 ≤ _ by omega))) ?_
        obtain ⟨G200, eG200⟩ : ∃ z : ab_G, z = List.set G172 ne (za 808 (zu N2181 cnt (w2174 / 4294967296))) := ⟨_, rfl⟩
        have hq := hq.keep hne eG200 (by omega)
        have hki := hki.keep hne eG200 (by omega)
        have hot := hot.keep hne eG200 (by omega)
        have hp := hp.keep hne eG200 (by omega)
        have hra2177 := hra2177.keep hne eG200 (by omega)
        have hzr := hzr.wr hne eG200 (by omega)
        have hst := (fx.rf (o := o173) (S := [(lq + 2)]) (G := G172)).wr hne eG200 (List.mem_singleton.mpr rfl)
        have ppaI_0 := paI.fr hst ppaI_0 (by simp only [List.mem_cons, List.not_mem_nil, or_false]; omega) (by simp only [List.mem_cons, List.not_mem_nil, or_false]; omega) (by simp only [List.mem_cons, List.not_mem_nil, or_false]; omega) (by intro xx hx; simp only [List.mem_cons, List.not_mem_nil, or_false] at hx; omega)
        have hq201 := z_len eG200
        have hq202 := z_sl hne eG200 rfl
        have hfr := hfr.wr hne eG200 (by simp)
        have hne := hne.kept eG200
        change ab_W _ _ _ (List.set G172 ne (za 808 (zu N2181 cnt (w2174 / 4294967296)))) 63 [some (vR q), some (vR p), some (vj w), none, some (vz dd), some (vz cnt), some (vz (w2174 / 4294967296)), none] [] _
        rw [← eG200]
        have hp203 := prok_next (a := cnt) (x := (w2174 / 4294967296)) hq189 (by omega)
        obtain ⟨N203, eN203⟩ : ∃ z : Int → Int, z = zu N2181 cnt (w2174 / 4294967296) := ⟨_, rfl⟩
        have hne : cc o173 G200 ne (lq + 2) (za 808 N203) := by rw [← eN203.symm]; exact hne
        rw [← eN203] at hp203
        change ab_W _ _ _ G200 63 [some (vR q), some (vR p), some (vj w), none, some (vz dd), some (vz cnt), some (vz (w2174 / 4294967296)), none] [] _
        refine ab_aload_n d_PR_loop_63 rfl ?_
        refine ab_getf (fs := [vR ki, vR ne, vR ot, vz cnt2175, vz fi, vz la2176, vR ra2177, vz ru2179, vz gr, vz wi, vz sz, vz fl, vz ve, vz mi, vR na, vR nl]) f_PR_18 d_PR_loop_64 hq.2.2 rfl ?_
        refine ab_iload d_PR_loop_67 rfl ?_
        refine ab_aload_n d_PR_loop_69 rfl ?_
        refine ab_getf (fs := [vz k_1, vz v_1, rg_1, vz pl_1, vz fl_1, ou_1, ls_1, bf_1, vz sz_1, vz mb_1, vz oe_1, vz le_1, vz mo_1, vz la_1, vz rc196]) f_PR_156 d_PR_loop_70 hp.2.2 rfl ?_
        refine zz_if_eq (tgt := 81) d_PR_loop_73 (by decide) (by omega) (fun c204 => ?_) (fun c204 => absurd c204 (by omega))
        refine ab_lload_n d_PR_loop_81 rfl ?_
        refine ab_callS (d' := d - 1) (as := [vj w]) (st := [vz cnt, vR ot]) (z_PR_used (o := o173) (w := w) (by omega)) (fun oc G2 h => by rcases h with ⟨h, _⟩ <;> exact ⟨_, h⟩) (by omega) m_PR_used ml_PR_124 st_PR_used (Nat.le_of_ble_eq_true rfl) d_PR_loop_82 rfl ?_
        intro v G205 hq
        rcases hq with ⟨hv, hGe⟩
        cases hv
        rw [hGe]
        change ab_W _ _ _ G200 85 [some (vR q), some (vR p), some (vj w), none, some (vz dd), some (vz cnt), some (vz (w2174 / 4294967296)), none] [vz (w % 4294967296), vz cnt, vR ot] _
        refine zz_iast d_PR_loop_85 hot (by omega) (hot.2.1 (by first | omega | exact (show 18 ≤ _ by omega))) ?_
        obtain ⟨G206, eG206⟩ : ∃ z : ab_G, z = List.set G200 ot (za 808 (zu O2182 cnt (w % 4294967296))) := ⟨_, rfl⟩
        have hq := hq.keep hot eG206 (by omega)
        have hki := hki.keep hot eG206 (by omega)
        have hne := hne.keep hot eG206 (by omega)
        have hp := hp.keep hot eG206 (by omega)
        have hra2177 := hra2177.keep hot eG206 (by omega)
        have hzr := hzr.wr hot eG206 (by omega)
        have hst := (fx.rf (o := o173) (S := [(lq + 3)]) (G := G200)).wr hot eG206 (List.mem_singleton.mpr rfl)
        have ppaI_0 := paI.fr hst ppaI_0 (by simp only [List.mem_cons, List.not_mem_nil, or_false]; omega) (by simp only [List.mem_cons, List.not_mem_nil, or_false]; omega) (by simp only [List.mem_cons, List.not_mem_nil, or_false]; omega) (by intro xx hx; simp only [List.mem_cons, List.not_mem_nil, or_false] at hx; omega)
        have hq207 := z_len eG206
        have hq208 := z_sl hot eG206 rfl
        have hfr := hfr.wr hot eG206 (by simp)
        have hot := hot.kept eG206
        change ab_W _ _ _ (List.set G200 ot (za 808 (zu O2182 cnt (w % 4294967296)))) 86 [some (vR q), some (vR p), some (vj w), none, some (vz dd), some (vz cnt), some (vz (w2174 / 4294967296)), none] [] _
        rw [← eG206]
        have hp209 := prok_other (a := cnt) (x := (w % 4294967296)) hp203 (by omega) (Or.inl ((hq192 cnt (by omega) (by omega)).trans hks169))
        obtain ⟨O209, eO209⟩ : ∃ z : Int → Int, z = zu O2182 cnt (w % 4294967296) := ⟨_, rfl⟩
        have hot : cc o173 G206 ot (lq + 3) (za 808 O209) := by rw [← eO209.symm]; exact hot
        rw [← eO209] at hp209
        change ab_W _ _ _ G206 86 [some (vR q), some (vR p), some (vj w), none, some (vz dd), some (vz cnt), some (vz (w2174 / 4294967296)), none] [] _
        refine ab_lload_n d_PR_loop_86 rfl ?_
        refine ab_callS (d' := d - 1) (as := [vj w]) (st := []) (z_PR_fresh (o := o173) (w := w) (by omega)) (fun oc G2 h => by rcases h with ⟨h, _⟩ <;> exact ⟨_, h⟩) (by omega) m_PR_fresh ml_PR_96 st_PR_fresh (Nat.le_of_ble_eq_true rfl) d_PR_loop_87 rfl ?_
        intro v G210 hq
        rcases hq with ⟨hv, hGe⟩
        cases hv
        rw [hGe]
        change ab_W _ _ _ G206 90 [some (vR q), some (vR p), some (vj w), none, some (vz dd), some (vz cnt), some (vz (w2174 / 4294967296)), none] [vz (w / 4294967296)] _
        refine ab_lload_n d_PR_loop_90 rfl ?_
        refine ab_callS (d' := d - 1) (as := [vj w]) (st := [vz (w / 4294967296)]) (z_PR_used (o := o173) (w := w) (by omega)) (fun oc G2 h => by rcases h with ⟨h, _⟩ <;> exact ⟨_, h⟩) (by omega) m_PR_used ml_PR_124 st_PR_used (Nat.le_of_ble_eq_true rfl) d_PR_loop_91 rfl ?_
        intro v G211 hq
        rcases hq with ⟨hv, hGe⟩
        cases hv
        rw [hGe]
        change ab_W _ _ _ G206 94 [some (vR q), some (vR p), some (vj w), none, some (vz dd), some (vz cnt), some (vz (w2174 / 4294967296)), none] [vz (w % 4294967296), vz (w / 4294967296)] _
        refine zz_icmp_ne (tgt := 105) d_PR_loop_94 (by decide) (by omega) (by omega) (fun c212 => ?_) (fun c212 => ?_)
        · refine ab_aload_n d_PR_loop_105 rfl ?_
          refine ab_getf (fs := [vz k_1, vz v_1, rg_1, vz pl_1, vz fl_1, ou_1, ls_1, bf_1, vz sz_1, vz mb_1, vz oe_1, vz le_1, vz mo_1, vz la_1, vz rc196]) f_PR_156 d_PR_loop_106 hp.2.2 rfl ?_
          refine zz_if_eq (tgt := 127) d_PR_loop_109 (by decide) (by omega) (fun c213 => ?_) (fun c213 => absurd c213 (by omega))
          refine ab_aload_n d_PR_loop_127 rfl ?_
          refine zz_bipush d_PR_loop_128 (by decide) ?_
          refine ab_iload d_PR_loop_130 rfl ?_
          refine ab_lload_n d_PR_loop_132 rfl ?_
          refine ab_callS (d' := d - 1) (as := [vj w]) (st := [vz (w2174 / 4294967296), vz 6, vR q]) (z_PR_fresh (o := o173) (w := w) (by omega)) (fun oc G2 h => by rcases h with ⟨h, _⟩ <;> exact ⟨_, h⟩) (by omega) m_PR_fresh ml_PR_96 st_PR_fresh (Nat.le_of_ble_eq_true rfl) d_PR_loop_133 rfl ?_
          intro v G214 hq
          rcases hq with ⟨hv, hGe⟩
          cases hv
          rw [hGe]
          change ab_W _ _ _ G206 136 [some (vR q), some (vR p), some (vj w), none, some (vz dd), some (vz cnt), some (vz (w2174 / 4294967296)), none] [vz (w / 4294967296), vz (w2174 / 4294967296), vz 6, vR q] _
          refine ab_callV (d' := d - 1) (as := [vz 6, vz (w2174 / 4294967296), vz (w / 4294967296)]) (st := []) (r := _) (z_PR_add (o := o173) (q := q) (lq := lq) (ki := ki) (ne := ne) (ot := ot) (cnt := cnt2175) (fi := fi) (la := la2176) (ra := ra2177) (ru := ru2179) (gr := gr) (wi := wi) (sz := sz) (fl := fl) (ve := ve) (mi := mi) (na := na) (nl := nl) (K := K2180) (N := N203) (O := O209) (k0 := 6) (x0 := (w2174 / 4294967296)) (v0 := (w / 4294967296)) hq hki hne hot (by omega) (by omega) (by omega)) (fun oc G2 h => by rcases h with ⟨h, _⟩ | ⟨_, h, _⟩ <;> exact ⟨_, h⟩) (by omega) m_PR_add ml_PR_84 im_PR_add se_PR_add c_PR hq.2.2 (Nat.le_of_ble_eq_true rfl) d_PR_loop_136 rfl ?_
          intro v G215 hq
          rcases hq with ⟨hv, hGe, hq216⟩ | ⟨la2217, hv, hfk, hlk, hsk, hNq, hNki, hNne, hNot, hq218, hq219, hq220⟩
          · cases hv
            rw [hGe]
            change ab_W _ _ _ G206 139 [some (vR q), some (vR p), some (vj w), none, some (vz dd), some (vz cnt), some (vz (w2174 / 4294967296)), none] [vz 0] _
            refine ab_istore d_PR_loop_139 (Nat.le_of_ble_eq_true rfl) (Nat.le_of_ble_eq_true rfl) rfl ?_
            change ab_W _ _ _ G206 141 [some (vR q), some (vR p), some (vj w), none, some (vz dd), some (vz cnt), some (vz (w2174 / 4294967296)), some (vz 0)] [] _
            refine ab_iload d_PR_loop_141 rfl ?_
            refine ab_iload d_PR_loop_143 rfl ?_
            refine ab_callS (d' := d - 1) (as := [vz 0, vz cnt]) (st := []) (z_PR_pair (o := o173) (f0 := 0) (u0 := cnt) (by omega)) (fun oc G2 h => by rcases h with ⟨h, _⟩ <;> exact ⟨_, h⟩) (by omega) m_PR_pair ml_PR_88 st_PR_pair (Nat.le_of_ble_eq_true rfl) d_PR_loop_145 rfl ?_
            intro v G223 hq
            rcases hq with ⟨hv, hGe⟩
            cases hv
            rw [hGe]
            change ab_W _ _ _ G206 148 [some (vR q), some (vR p), some (vj w), none, some (vz dd), some (vz cnt), some (vz (w2174 / 4294967296)), some (vz 0)] [vj (0 * 4294967296 + cnt)] _
            refine ab_lret rfl d_PR_loop_148 ?_
            rw [hQ]; exact ⟨_, _, _, _, _, _, _, _, _, _, _, _, rfl, hfr, hq, hki, hne, hot, hra2177, ppaI_0, (by omega), (by omega), (by omega), (by omega), (by exact hp209), (by exact hq190), (by exact hq191), (by exact (hkx169.tr hq192 (by omega))), (by exact hzr), (by omega), (by omega)⟩
          · cases hv
            have hzr := hzr.tr (fzr.fx hfk (by simp only [List.mem_cons, List.not_mem_nil, or_false]; omega))
            have hp := hfk.get hp (by simp only [List.mem_cons, List.not_mem_nil, or_false]; omega)
            have hra2177 := hfk.get hra2177 (by simp only [List.mem_cons, List.not_mem_nil, or_false]; omega)
            have ppaI_0 := paI.fr hfk ppaI_0 (by simp only [List.mem_cons, List.not_mem_nil, or_false]; omega) (by simp only [List.mem_cons, List.not_mem_nil, or_false]; omega) (by simp only [List.mem_cons, List.not_mem_nil, or_false]; omega) (by intro xx hx; simp only [List.mem_cons, List.not_mem_nil, or_false] at hx; omega)
            have hfr := hfr.tr hfk (by simp)
            have hq221 := hlk
            have hq222 := hsk
            have hq := hNq
            have hki := hNki
            have hne := hNne
            have hot := hNot
            change ab_W _ _ _ G215 139 [some (vR q), some (vR p), some (vj w), none, some (vz dd), some (vz cnt), some (vz (w2174 / 4294967296)), none] [vz cnt2175] _
            have hp224 := prok_add (k := 6) (x := (w2174 / 4294967296)) (v := (w / 4294967296)) hp209 (by omega) (by omega) (by omega) (by omega) (by omega) (fun t => by omega) (fun t => absurd t (by decide)) (fun t => absurd t (by decide)) (fun t => absurd t (by decide)) (fun t => absurd t (by decide))
            obtain ⟨K224, eK224⟩ : ∃ z : Int → Int, z = zu K2180 cnt2175 6 := ⟨_, rfl⟩
            have hki : cc o173 G215 ki (lq + 1) (za 808 K224) := by rw [← eK224.symm]; exact hki
            obtain ⟨N224, eN224⟩ : ∃ z : Int → Int, z = zu N203 cnt2175 (w2174 / 4294967296) := ⟨_, rfl⟩
            have hne : cc o173 G215 ne (lq + 2) (za 808 N224) := by rw [← eN224.symm]; exact hne
            obtain ⟨O224, eO224⟩ : ∃ z : Int → Int, z = zu O209 cnt2175 (w / 4294967296) := ⟨_, rfl⟩
            have hot : cc o173 G215 ot (lq + 3) (za 808 O224) := by rw [← eO224.symm]; exact hot
            rw [← eK224, ← eN224, ← eO224] at hp224
            have hkx224 : kext K2180 K224 cnt2175 := by rw [eK224]; exact kext.zu (Int.le_refl _)
            have hks224 : K224 cnt2175 = 6 := by rw [eK224]; exact zu_self _ _ _
            change ab_W _ _ _ G215 139 [some (vR q), some (vR p), some (vj w), none, some (vz dd), some (vz cnt), some (vz (w2174 / 4294967296)), none] [vz cnt2175] _
            refine ab_istore d_PR_loop_139 (Nat.le_of_ble_eq_true rfl) (Nat.le_of_ble_eq_true rfl) rfl ?_
            change ab_W _ _ _ G215 141 [some (vR q), some (vR p), some (vj w), none, some (vz dd), some (vz cnt), some (vz (w2174 / 4294967296)), some (vz cnt2175)] [] _
            refine ab_iload d_PR_loop_141 rfl ?_
            refine ab_iload d_PR_loop_143 rfl ?_
            refine ab_callS (d' := d - 1) (as := [vz cnt2175, vz cnt]) (st := []) (z_PR_pair (o := o173) (f0 := cnt2175) (u0 := cnt) (by omega)) (fun oc G2 h => by rcases h with ⟨h, _⟩ <;> exact ⟨_, h⟩) (by omega) m_PR_pair ml_PR_88 st_PR_pair (Nat.le_of_ble_eq_true rfl) d_PR_loop_145 rfl ?_
            intro v G225 hq
            rcases hq with ⟨hv, hGe⟩
            cases hv
            rw [hGe]
            change ab_W _ _ _ G215 148 [some (vR q), some (vR p), some (vj w), none, some (vz dd), some (vz cnt), some (vz (w2174 / 4294967296)), some (vz cnt2175)] [vj (cnt2175 * 4294967296 + cnt)] _
            refine ab_lret rfl d_PR_loop_148 ?_
            rw [hQ]; exact ⟨_, _, _, _, _, _, _, _, _, _, _, _, rfl, hfr, hq, hki, hne, hot, hra2177, ppaI_0, (by omega), (by omega), (by omega), (by omega), (by exact hp224), (by exact hq190), (by exact hq191), (by exact ((hkx169.tr hq192 (by omega)).tr hkx224 (by omega))), (by exact hzr), (by omega), (by omega)⟩
        · refine ab_iload d_PR_loop_97 rfl ?_
          refine ab_iload d_PR_loop_99 rfl ?_
          refine ab_callS (d' := d - 1) (as := [vz cnt, vz cnt]) (st := []) (z_PR_pair (o := o173) (f0 := cnt) (u0 := cnt) (by omega)) (fun oc G2 h => by rcases h with ⟨h, _⟩ <;> exact ⟨_, h⟩) (by omega) m_PR_pair ml_PR_88 st_PR_pair (Nat.le_of_ble_eq_true rfl) d_PR_loop_101 rfl ?_
          intro v G226 hq
          rcases hq with ⟨hv, hGe⟩
          cases hv
          rw [hGe]
          change ab_W _ _ _ G206 104 [some (vR q), some (vR p), some (vj w), none, some (vz dd), some (vz cnt), some (vz (w2174 / 4294967296)), none] [vj (cnt * 4294967296 + cnt)] _
          refine ab_lret rfl d_PR_loop_104 ?_
          rw [hQ]; exact ⟨_, _, _, _, _, _, _, _, _, _, _, _, rfl, hfr, hq, hki, hne, hot, hra2177, ppaI_0, (by omega), (by omega), (by omega), (by omega), (by exact hp209), (by exact hq190), (by exact hq191), (by exact (hkx169.tr hq192 (by omega))), (by exact hzr), (by omega), (by omega)⟩
      · refine ab_lload_n d_PR_loop_53 rfl ?_
        refine ab_callS (d' := d - 1) (as := [vj w]) (st := [vz cnt, vR ne]) (z_PR_used (o := o173) (w := w) (by omega)) (fun oc G2 h => by rcases h with ⟨h, _⟩ <;> exact ⟨_, h⟩) (by omega) m_PR_used ml_PR_124 st_PR_used (Nat.le_of_ble_eq_true rfl) d_PR_loop_54 rfl ?_
        intro v G227 hq
        rcases hq with ⟨hv, hGe⟩
        cases hv
        rw [hGe]
        change ab_W _ _ _ G172 57 [some (vR q), some (vR p), some (vj w), none, some (vz dd), some (vz cnt), some (vz (w2174 / 4294967296)), none] [vz (w % 4294967296), vz cnt, vR ne] _
        refine ab_goto (tgt := 62) d_PR_loop_57 (by decide) ?_
        refine zz_iast d_PR_loop_62 hne (by omega) (hne.2.1 (by first | omega | exact (show 18 ≤ _ by omega))) ?_
        obtain ⟨G228, eG228⟩ : ∃ z : ab_G, z = List.set G172 ne (za 808 (zu N2181 cnt (w % 4294967296))) := ⟨_, rfl⟩
        have hq := hq.keep hne eG228 (by omega)
        have hki := hki.keep hne eG228 (by omega)
        have hot := hot.keep hne eG228 (by omega)
        have hp := hp.keep hne eG228 (by omega)
        have hra2177 := hra2177.keep hne eG228 (by omega)
        have hzr := hzr.wr hne eG228 (by omega)
        have hst := (fx.rf (o := o173) (S := [(lq + 2)]) (G := G172)).wr hne eG228 (List.mem_singleton.mpr rfl)
        have ppaI_0 := paI.fr hst ppaI_0 (by simp only [List.mem_cons, List.not_mem_nil, or_false]; omega) (by simp only [List.mem_cons, List.not_mem_nil, or_false]; omega) (by simp only [List.mem_cons, List.not_mem_nil, or_false]; omega) (by intro xx hx; simp only [List.mem_cons, List.not_mem_nil, or_false] at hx; omega)
        have hq229 := z_len eG228
        have hq230 := z_sl hne eG228 rfl
        have hfr := hfr.wr hne eG228 (by simp)
        have hne := hne.kept eG228
        change ab_W _ _ _ (List.set G172 ne (za 808 (zu N2181 cnt (w % 4294967296)))) 63 [some (vR q), some (vR p), some (vj w), none, some (vz dd), some (vz cnt), some (vz (w2174 / 4294967296)), none] [] _
        rw [← eG228]
        have hp231 := prok_next (a := cnt) (x := (w % 4294967296)) hq189 (by omega)
        obtain ⟨N231, eN231⟩ : ∃ z : Int → Int, z = zu N2181 cnt (w % 4294967296) := ⟨_, rfl⟩
        have hne : cc o173 G228 ne (lq + 2) (za 808 N231) := by rw [← eN231.symm]; exact hne
        rw [← eN231] at hp231
        change ab_W _ _ _ G228 63 [some (vR q), some (vR p), some (vj w), none, some (vz dd), some (vz cnt), some (vz (w2174 / 4294967296)), none] [] _
        refine ab_aload_n d_PR_loop_63 rfl ?_
        refine ab_getf (fs := [vR ki, vR ne, vR ot, vz cnt2175, vz fi, vz la2176, vR ra2177, vz ru2179, vz gr, vz wi, vz sz, vz fl, vz ve, vz mi, vR na, vR nl]) f_PR_18 d_PR_loop_64 hq.2.2 rfl ?_
        refine ab_iload d_PR_loop_67 rfl ?_
        refine ab_aload_n d_PR_loop_69 rfl ?_
        refine ab_getf (fs := [vz k_1, vz v_1, rg_1, vz pl_1, vz fl_1, ou_1, ls_1, bf_1, vz sz_1, vz mb_1, vz oe_1, vz le_1, vz mo_1, vz la_1, vz rc196]) f_PR_156 d_PR_loop_70 hp.2.2 rfl ?_
        refine zz_if_eq (tgt := 81) d_PR_loop_73 (by decide) (by omega) (fun c232 => absurd c232 (by omega)) (fun c232 => ?_)
        refine ab_iload d_PR_loop_76 rfl ?_
        refine ab_goto (tgt := 85) d_PR_loop_78 (by decide) ?_
        refine zz_iast d_PR_loop_85 hot (by omega) (hot.2.1 (by first | omega | exact (show 18 ≤ _ by omega))) ?_
        obtain ⟨G233, eG233⟩ : ∃ z : ab_G, z = List.set G228 ot (za 808 (zu O2182 cnt (w2174 / 4294967296))) := ⟨_, rfl⟩
        have hq := hq.keep hot eG233 (by omega)
        have hki := hki.keep hot eG233 (by omega)
        have hne := hne.keep hot eG233 (by omega)
        have hp := hp.keep hot eG233 (by omega)
        have hra2177 := hra2177.keep hot eG233 (by omega)
        have hzr := hzr.wr hot eG233 (by omega)
        have hst := (fx.rf (o := o173) (S := [(lq + 3)]) (G := G228)).wr hot eG233 (List.mem_singleton.mpr rfl)
        have ppaI_0 := paI.fr hst ppaI_0 (by simp only [List.mem_cons, List.not_mem_nil, or_false]; omega) (by simp only [List.mem_cons, List.not_mem_nil, or_false]; omega) (by simp only [List.mem_cons, List.not_mem_nil, or_false]; omega) (by intro xx hx; simp only [List.mem_cons, List.not_mem_nil, or_false] at hx; omega)
        have hq234 := z_len eG233
        have hq235 := z_sl hot eG233 rfl
        have hfr := hfr.wr hot eG233 (by simp)
        have hot := hot.kept eG233
        change ab_W _ _ _ (List.set G228 ot (za 808 (zu O2182 cnt (w2174 / 4294967296)))) 86 [some (vR q), some (vR p), some (vj w), none, some (vz dd), some (vz cnt), some (vz (w2174 / 4294967296)), none] [] _
        rw [← eG233]
        have hp236 := prok_other (a := cnt) (x := (w2174 / 4294967296)) hp231 (by omega) (Or.inl ((hq192 cnt (by omega) (by omega)).trans hks169))
        obtain ⟨O236, eO236⟩ : ∃ z : Int → Int, z = zu O2182 cnt (w2174 / 4294967296) := ⟨_, rfl⟩
        have hot : cc o173 G233 ot (lq + 3) (za 808 O236) := by rw [← eO236.symm]; exact hot
        rw [← eO236] at hp236
        change ab_W _ _ _ G233 86 [some (vR q), some (vR p), some (vj w), none, some (vz dd), some (vz cnt), some (vz (w2174 / 4294967296)), none] [] _
        refine ab_lload_n d_PR_loop_86 rfl ?_
        refine ab_callS (d' := d - 1) (as := [vj w]) (st := []) (z_PR_fresh (o := o173) (w := w) (by omega)) (fun oc G2 h => by rcases h with ⟨h, _⟩ <;> exact ⟨_, h⟩) (by omega) m_PR_fresh ml_PR_96 st_PR_fresh (Nat.le_of_ble_eq_true rfl) d_PR_loop_87 rfl ?_
        intro v G237 hq
        rcases hq with ⟨hv, hGe⟩
        cases hv
        rw [hGe]
        change ab_W _ _ _ G233 90 [some (vR q), some (vR p), some (vj w), none, some (vz dd), some (vz cnt), some (vz (w2174 / 4294967296)), none] [vz (w / 4294967296)] _
        refine ab_lload_n d_PR_loop_90 rfl ?_
        refine ab_callS (d' := d - 1) (as := [vj w]) (st := [vz (w / 4294967296)]) (z_PR_used (o := o173) (w := w) (by omega)) (fun oc G2 h => by rcases h with ⟨h, _⟩ <;> exact ⟨_, h⟩) (by omega) m_PR_used ml_PR_124 st_PR_used (Nat.le_of_ble_eq_true rfl) d_PR_loop_91 rfl ?_
        intro v G238 hq
        rcases hq with ⟨hv, hGe⟩
        cases hv
        rw [hGe]
        change ab_W _ _ _ G233 94 [some (vR q), some (vR p), some (vj w), none, some (vz dd), some (vz cnt), some (vz (w2174 / 4294967296)), none] [vz (w % 4294967296), vz (w / 4294967296)] _
        refine zz_icmp_ne (tgt := 105) d_PR_loop_94 (by decide) (by omega) (by omega) (fun c239 => ?_) (fun c239 => ?_)
        · refine ab_aload_n d_PR_loop_105 rfl ?_
          refine ab_getf (fs := [vz k_1, vz v_1, rg_1, vz pl_1, vz fl_1, ou_1, ls_1, bf_1, vz sz_1, vz mb_1, vz oe_1, vz le_1, vz mo_1, vz la_1, vz rc196]) f_PR_156 d_PR_loop_106 hp.2.2 rfl ?_
          refine zz_if_eq (tgt := 127) d_PR_loop_109 (by decide) (by omega) (fun c240 => absurd c240 (by omega)) (fun c240 => ?_)
          refine ab_aload_n d_PR_loop_112 rfl ?_
          refine zz_bipush d_PR_loop_113 (by decide) ?_
          refine ab_lload_n d_PR_loop_115 rfl ?_
          refine ab_callS (d' := d - 1) (as := [vj w]) (st := [vz 6, vR q]) (z_PR_fresh (o := o173) (w := w) (by omega)) (fun oc G2 h => by rcases h with ⟨h, _⟩ <;> exact ⟨_, h⟩) (by omega) m_PR_fresh ml_PR_96 st_PR_fresh (Nat.le_of_ble_eq_true rfl) d_PR_loop_116 rfl ?_
          intro v G241 hq
          rcases hq with ⟨hv, hGe⟩
          cases hv
          rw [hGe]
          change ab_W _ _ _ G233 119 [some (vR q), some (vR p), some (vj w), none, some (vz dd), some (vz cnt), some (vz (w2174 / 4294967296)), none] [vz (w / 4294967296), vz 6, vR q] _
          refine ab_iload d_PR_loop_119 rfl ?_
          refine ab_callV (d' := d - 1) (as := [vz 6, vz (w / 4294967296), vz (w2174 / 4294967296)]) (st := []) (r := _) (z_PR_add (o := o173) (q := q) (lq := lq) (ki := ki) (ne := ne) (ot := ot) (cnt := cnt2175) (fi := fi) (la := la2176) (ra := ra2177) (ru := ru2179) (gr := gr) (wi := wi) (sz := sz) (fl := fl) (ve := ve) (mi := mi) (na := na) (nl := nl) (K := K2180) (N := N231) (O := O236) (k0 := 6) (x0 := (w / 4294967296)) (v0 := (w2174 / 4294967296)) hq hki hne hot (by omega) (by omega) (by omega)) (fun oc G2 h => by rcases h with ⟨h, _⟩ | ⟨_, h, _⟩ <;> exact ⟨_, h⟩) (by omega) m_PR_add ml_PR_84 im_PR_add se_PR_add c_PR hq.2.2 (Nat.le_of_ble_eq_true rfl) d_PR_loop_121 rfl ?_
          intro v G242 hq
          rcases hq with ⟨hv, hGe, hq243⟩ | ⟨la2244, hv, hfk, hlk, hsk, hNq, hNki, hNne, hNot, hq245, hq246, hq247⟩
          · cases hv
            rw [hGe]
            change ab_W _ _ _ G233 124 [some (vR q), some (vR p), some (vj w), none, some (vz dd), some (vz cnt), some (vz (w2174 / 4294967296)), none] [vz 0] _
            refine ab_goto (tgt := 139) d_PR_loop_124 (by decide) ?_
            refine ab_istore d_PR_loop_139 (Nat.le_of_ble_eq_true rfl) (Nat.le_of_ble_eq_true rfl) rfl ?_
            change ab_W _ _ _ G233 141 [some (vR q), some (vR p), some (vj w), none, some (vz dd), some (vz cnt), some (vz (w2174 / 4294967296)), some (vz 0)] [] _
            refine ab_iload d_PR_loop_141 rfl ?_
            refine ab_iload d_PR_loop_143 rfl ?_
            refine ab_callS (d' := d - 1) (as := [vz 0, vz cnt]) (st := []) (z_PR_pair (o := o173) (f0 := 0) (u0 := cnt) (by omega)) (fun oc G2 h => by rcases h with ⟨h, _⟩ <;> exact ⟨_, h⟩) (by omega) m_PR_pair ml_PR_88 st_PR_pair (Nat.le_of_ble_eq_true rfl) d_PR_loop_145 rfl ?_
            intro v G250 hq
            rcases hq with ⟨hv, hGe⟩
            cases hv
            rw [hGe]
            change ab_W _ _ _ G233 148 [some (vR q), some (vR p), some (vj w), none, some (vz dd), some (vz cnt), some (vz (w2174 / 4294967296)), some (vz 0)] [vj (0 * 4294967296 + cnt)] _
            refine ab_lret rfl d_PR_loop_148 ?_
            rw [hQ]; exact ⟨_, _, _, _, _, _, _, _, _, _, _, _, rfl, hfr, hq, hki, hne, hot, hra2177, ppaI_0, (by omega), (by omega), (by omega), (by omega), (by exact hp236), (by exact hq190), (by exact hq191), (by exact (hkx169.tr hq192 (by omega))), (by exact hzr), (by omega), (by omega)⟩
          · cases hv
            have hzr := hzr.tr (fzr.fx hfk (by simp only [List.mem_cons, List.not_mem_nil, or_false]; omega))
            have hp := hfk.get hp (by simp only [List.mem_cons, List.not_mem_nil, or_false]; omega)
            have hra2177 := hfk.get hra2177 (by simp only [List.mem_cons, List.not_mem_nil, or_false]; omega)
            have ppaI_0 := paI.fr hfk ppaI_0 (by simp only [List.mem_cons, List.not_mem_nil, or_false]; omega) (by simp only [List.mem_cons, List.not_mem_nil, or_false]; omega) (by simp only [List.mem_cons, List.not_mem_nil, or_false]; omega) (by intro xx hx; simp only [List.mem_cons, List.not_mem_nil, or_false] at hx; omega)
            have hfr := hfr.tr hfk (by simp)
            have hq248 := hlk
            have hq249 := hsk
            have hq := hNq
            have hki := hNki
            have hne := hNne
            have hot := hNot
            change ab_W _ _ _ G242 124 [some (vR q), some (vR p), some (vj w), none, some (vz dd), some (vz cnt), some (vz (w2174 / 4294967296)), none] [vz cnt2175] _
            have hp251 := prok_add (k := 6) (x := (w / 4294967296)) (v := (w2174 / 4294967296)) hp236 (by omega) (by omega) (by omega) (by omega) (by omega) (fun t => by omega) (fun t => absurd t (by decide)) (fun t => absurd t (by decide)) (fun t => absurd t (by decide)) (fun t => absurd t (by decide))
            obtain ⟨K251, eK251⟩ : ∃ z : Int → Int, z = zu K2180 cnt2175 6 := ⟨_, rfl⟩
            have hki : cc o173 G242 ki (lq + 1) (za 808 K251) := by rw [← eK251.symm]; exact hki
            obtain ⟨N251, eN251⟩ : ∃ z : Int → Int, z = zu N231 cnt2175 (w / 4294967296) := ⟨_, rfl⟩
            have hne : cc o173 G242 ne (lq + 2) (za 808 N251) := by rw [← eN251.symm]; exact hne
            obtain ⟨O251, eO251⟩ : ∃ z : Int → Int, z = zu O236 cnt2175 (w2174 / 4294967296) := ⟨_, rfl⟩
            have hot : cc o173 G242 ot (lq + 3) (za 808 O251) := by rw [← eO251.symm]; exact hot
            rw [← eK251, ← eN251, ← eO251] at hp251
            have hkx251 : kext K2180 K251 cnt2175 := by rw [eK251]; exact kext.zu (Int.le_refl _)
            have hks251 : K251 cnt2175 = 6 := by rw [eK251]; exact zu_self _ _ _
            change ab_W _ _ _ G242 124 [some (vR q), some (vR p), some (vj w), none, some (vz dd), some (vz cnt), some (vz (w2174 / 4294967296)), none] [vz cnt2175] _
            refine ab_goto (tgt := 139) d_PR_loop_124 (by decide) ?_
            refine ab_istore d_PR_loop_139 (Nat.le_of_ble_eq_true rfl) (Nat.le_of_ble_eq_true rfl) rfl ?_
            change ab_W _ _ _ G242 141 [some (vR q), some (vR p), some (vj w), none, some (vz dd), some (vz cnt), some (vz (w2174 / 4294967296)), some (vz cnt2175)] [] _
            refine ab_iload d_PR_loop_141 rfl ?_
            refine ab_iload d_PR_loop_143 rfl ?_
            refine ab_callS (d' := d - 1) (as := [vz cnt2175, vz cnt]) (st := []) (z_PR_pair (o := o173) (f0 := cnt2175) (u0 := cnt) (by omega)) (fun oc G2 h => by rcases h with ⟨h, _⟩ <;> exact ⟨_, h⟩) (by omega) m_PR_pair ml_PR_88 st_PR_pair (Nat.le_of_ble_eq_true rfl) d_PR_loop_145 rfl ?_
            intro v G252 hq
            rcases hq with ⟨hv, hGe⟩
            cases hv
            rw [hGe]
            change ab_W _ _ _ G242 148 [some (vR q), some (vR p), some (vj w), none, some (vz dd), some (vz cnt), some (vz (w2174 / 4294967296)), some (vz cnt2175)] [vj (cnt2175 * 4294967296 + cnt)] _
            refine ab_lret rfl d_PR_loop_148 ?_
            rw [hQ]; exact ⟨_, _, _, _, _, _, _, _, _, _, _, _, rfl, hfr, hq, hki, hne, hot, hra2177, ppaI_0, (by omega), (by omega), (by omega), (by omega), (by exact hp251), (by exact hq190), (by exact hq191), (by exact ((hkx169.tr hq192 (by omega)).tr hkx251 (by omega))), (by exact hzr), (by omega), (by omega)⟩
        · refine ab_iload d_PR_loop_97 rfl ?_
          refine ab_iload d_PR_loop_99 rfl ?_
          refine ab_callS (d' := d - 1) (as := [vz cnt, vz cnt]) (st := []) (z_PR_pair (o := o173) (f0 := cnt) (u0 := cnt) (by omega)) (fun oc G2 h => by rcases h with ⟨h, _⟩ <;> exact ⟨_, h⟩) (by omega) m_PR_pair ml_PR_88 st_PR_pair (Nat.le_of_ble_eq_true rfl) d_PR_loop_101 rfl ?_
          intro v G253 hq
          rcases hq with ⟨hv, hGe⟩
          cases hv
          rw [hGe]
          change ab_W _ _ _ G233 104 [some (vR q), some (vR p), some (vj w), none, some (vz dd), some (vz cnt), some (vz (w2174 / 4294967296)), none] [vj (cnt * 4294967296 + cnt)] _
          refine ab_lret rfl d_PR_loop_104 ?_
          rw [hQ]; exact ⟨_, _, _, _, _, _, _, _, _, _, _, _, rfl, hfr, hq, hki, hne, hot, hra2177, ppaI_0, (by omega), (by omega), (by omega), (by omega), (by exact hp236), (by exact hq190), (by exact hq191), (by exact (hkx169.tr hq192 (by omega))), (by exact hzr), (by omega), (by omega)⟩
    · refine zz_iconst d_PR_loop_19 ?_
      refine ab_goto (tgt := 25) d_PR_loop_20 (by decide) ?_
      refine ab_iload d_PR_loop_25 rfl ?_
      refine ab_callS (d' := d - 1) (as := [vz 0, vz cnt]) (st := [vR p, vR q]) (z_PR_pair (o := o) (f0 := 0) (u0 := cnt) (by omega)) (fun oc G2 h => by rcases h with ⟨h, _⟩ <;> exact ⟨_, h⟩) (by omega) m_PR_pair ml_PR_88 st_PR_pair (Nat.le_of_ble_eq_true rfl) d_PR_loop_27 rfl ?_
      intro v G254 hq
      rcases hq with ⟨hv, hGe⟩
      cases hv
      rw [hGe]
      change ab_W _ _ _ G2 30 [some (vR q), some (vR p), some (vj w), none, some (vz dd), some (vz cnt), none, none] [vj (0 * 4294967296 + cnt), vR p, vR q] _
      refine ab_iload d_PR_loop_30 rfl ?_
      refine ab_callV (d' := d - 1) (as := [vR p, vj (0 * 4294967296 + cnt), vz dd]) (st := []) (r := _) (z_PR_once (o := o) (q := q) (lq := lq) (ki := ki) (ne := ne) (ot := ot) (cnt := (cnt + 1)) (fi := fi) (la := la24) (ra := ra) (ru := ru) (gr := gr) (wi := wi) (sz := sz) (fl := fl) (ve := ve) (mi := mi) (na := na) (nl := nl) (K := K169) (N := N169) (O := O169) (RR := RR) (nr := nr) (ps := ps) (wt := wt) (bs := bs) (ph := ph) (gq := gq) (p := p) (w := (0 * 4294967296 + cnt)) (dd := dd) hq hki hne hot hra ppaI_0 (by omega) (by omega) hp169 hch hr ((hkx169 0 (by omega) (by omega)).trans ck0) (by omega) hpp (by omega) (by omega) (by omega) (by omega) (by omega) ihR) (fun oc G2 h => by rcases h with ⟨_, _, _, _, _, _, _, _, _, _, _, _, h, _⟩ <;> exact ⟨_, h⟩) (by omega) m_PR_once ml_PR_153 im_PR_once se_PR_once c_PR hq.2.2 (Nat.le_of_ble_eq_true rfl) d_PR_loop_32 rfl ?_
      intro v G255 hq
      rcases hq with ⟨o256, w2257, cnt2258, la2259, ra2260, nr2261, ru2262, K2263, N2264, O2265, RR2266, ph2267, hv, hfk, hNq, hNki, hNne, hNot, hNra2260, pNpaI_0, hq268, hq269, hq270, hq271, hq272, hq273, hq274, hq275, hq276, hq277, hq278⟩
      cases hv
      have hzr := hzr.tr hq276
      obtain ⟨rc279, hKp⟩ := hq276 _ _ _ _ _ _ _ _ _ _ _ _ _ _ _ _ hpp hp
      have hp := hKp
      have ppaI_0 := pNpaI_0
      have hfr := hfr.tr hfk (by simp)
      have hq280 := hfk.1
      have hq := hNq
      have hki := hNki
      have hne := hNne
      have hot := hNot
      have hra2260 := hNra2260
      change ab_W _ _ _ G255 35 [some (vR q), some (vR p), some (vj w), none, some (vz dd), some (vz cnt), none, none] [vj w2257] _
      refine ab_callS (d' := d - 1) (as := [vj w2257]) (st := []) (z_PR_fresh (o := o256) (w := w2257) (by omega)) (fun oc G2 h => by rcases h with ⟨h, _⟩ <;> exact ⟨_, h⟩) (by omega) m_PR_fresh ml_PR_96 st_PR_fresh (Nat.le_of_ble_eq_true rfl) d_PR_loop_35 rfl ?_
      intro v G281 hq
      rcases hq with ⟨hv, hGe⟩
      cases hv
      rw [hGe]
      change ab_W _ _ _ G255 38 [some (vR q), some (vR p), some (vj w), none, some (vz dd), some (vz cnt), none, none] [vz (w2257 / 4294967296)] _
      refine ab_istore d_PR_loop_38 (Nat.le_of_ble_eq_true rfl) (Nat.le_of_ble_eq_true rfl) rfl ?_
      change ab_W _ _ _ G255 40 [some (vR q), some (vR p), some (vj w), none, some (vz dd), some (vz cnt), some (vz (w2257 / 4294967296)), none] [] _
      refine ab_aload_n d_PR_loop_40 rfl ?_
      refine ab_getf (fs := [vR ki, vR ne, vR ot, vz cnt2258, vz fi, vz la2259, vR ra2260, vz ru2262, vz gr, vz wi, vz sz, vz fl, vz ve, vz mi, vR na, vR nl]) f_PR_15 d_PR_loop_41 hq.2.2 rfl ?_
      refine ab_iload d_PR_loop_44 rfl ?_
      refine ab_aload_n d_PR_loop_46 rfl ?_
      refine ab_getf (fs := [vz k_1, vz v_1, rg_1, vz pl_1, vz fl_1, ou_1, ls_1, bf_1, vz sz_1, vz mb_1, vz oe_1, vz le_1, vz mo_1, vz la_1, vz rc279]) f_PR_156 d_PR_loop_47 hp.2.2 rfl ?_
      refine zz_if_eq (tgt := 60) d_PR_loop_50 (by decide) (by omega) (fun c282 => ?_) (fun c282 => ?_)
      · refine ab_iload d_PR_loop_60 rfl ?_
        refine zz_iast d_PR_loop_62 hne (by omega) (hne.2.1 (by first | omega | exact (show 18 ≤ _ by omega))) ?_
        obtain ⟨G283, eG283⟩ : ∃ z : ab_G, z = List.set G255 ne (za 808 (zu N2264 cnt (w2257 / 4294967296))) := ⟨_, rfl⟩
        have hq := hq.keep hne eG283 (by omega)
        have hki := hki.keep hne eG283 (by omega)
        have hot := hot.keep hne eG283 (by omega)
        have hp := hp.keep hne eG283 (by omega)
        have hra2260 := hra2260.keep hne eG283 (by omega)
        have hzr := hzr.wr hne eG283 (by omega)
        have hst := (fx.rf (o := o256) (S := [(lq + 2)]) (G := G255)).wr hne eG283 (List.mem_singleton.mpr rfl)
        have ppaI_0 := paI.fr hst ppaI_0 (by simp only [List.mem_cons, List.not_mem_nil, or_false]; omega) (by simp only [List.mem_cons, List.not_mem_nil, or_false]; omega) (by simp only [List.mem_cons, List.not_mem_nil, or_false]; omega) (by intro xx hx; simp only [List.mem_cons, List.not_mem_nil, or_false] at hx; omega)
        have hq284 := z_len eG283
        have hq285 := z_sl hne eG283 rfl
        have hfr := hfr.wr hne eG283 (by simp)
        have hne := hne.kept eG283
        change ab_W _ _ _ (List.set G255 ne (za 808 (zu N2264 cnt (w2257 / 4294967296)))) 63 [some (vR q), some (vR p), some (vj w), none, some (vz dd), some (vz cnt), some (vz (w2257 / 4294967296)), none] [] _
        rw [← eG283]
        have hp286 := prok_next (a := cnt) (x := (w2257 / 4294967296)) hq272 (by omega)
        obtain ⟨N286, eN286⟩ : ∃ z : Int → Int, z = zu N2264 cnt (w2257 / 4294967296) := ⟨_, rfl⟩
        have hne : cc o256 G283 ne (lq + 2) (za 808 N286) := by rw [← eN286.symm]; exact hne
        rw [← eN286] at hp286
        change ab_W _ _ _ G283 63 [some (vR q), some (vR p), some (vj w), none, some (vz dd), some (vz cnt), some (vz (w2257 / 4294967296)), none] [] _
        refine ab_aload_n d_PR_loop_63 rfl ?_
        refine ab_getf (fs := [vR ki, vR ne, vR ot, vz cnt2258, vz fi, vz la2259, vR ra2260, vz ru2262, vz gr, vz wi, vz sz, vz fl, vz ve, vz mi, vR na, vR nl]) f_PR_18 d_PR_loop_64 hq.2.2 rfl ?_
        refine ab_iload d_PR_loop_67 rfl ?_
        refine ab_aload_n d_PR_loop_69 rfl ?_
        refine ab_getf (fs := [vz k_1, vz v_1, rg_1, vz pl_1, vz fl_1, ou_1, ls_1, bf_1, vz sz_1, vz mb_1, vz oe_1, vz le_1, vz mo_1, vz la_1, vz rc279]) f_PR_156 d_PR_loop_70 hp.2.2 rfl ?_
        refine zz_if_eq (tgt := 81) d_PR_loop_73 (by decide) (by omega) (fun c287 => ?_) (fun c287 => absurd c287 (by omega))
        refine ab_lload_n d_PR_loop_81 rfl ?_
        refine ab_callS (d' := d - 1) (as := [vj w]) (st := [vz cnt, vR ot]) (z_PR_used (o := o256) (w := w) (by omega)) (fun oc G2 h => by rcases h with ⟨h, _⟩ <;> exact ⟨_, h⟩) (by omega) m_PR_used ml_PR_124 st_PR_used (Nat.le_of_ble_eq_true rfl) d_PR_loop_82 rfl ?_
        intro v G288 hq
        rcases hq with ⟨hv, hGe⟩
        cases hv
        rw [hGe]
        change ab_W _ _ _ G283 85 [some (vR q), some (vR p), some (vj w), none, some (vz dd), some (vz cnt), some (vz (w2257 / 4294967296)), none] [vz (w % 4294967296), vz cnt, vR ot] _
        refine zz_iast d_PR_loop_85 hot (by omega) (hot.2.1 (by first | omega | exact (show 18 ≤ _ by omega))) ?_
        obtain ⟨G289, eG289⟩ : ∃ z : ab_G, z = List.set G283 ot (za 808 (zu O2265 cnt (w % 4294967296))) := ⟨_, rfl⟩
        have hq := hq.keep hot eG289 (by omega)
        have hki := hki.keep hot eG289 (by omega)
        have hne := hne.keep hot eG289 (by omega)
        have hp := hp.keep hot eG289 (by omega)
        have hra2260 := hra2260.keep hot eG289 (by omega)
        have hzr := hzr.wr hot eG289 (by omega)
        have hst := (fx.rf (o := o256) (S := [(lq + 3)]) (G := G283)).wr hot eG289 (List.mem_singleton.mpr rfl)
        have ppaI_0 := paI.fr hst ppaI_0 (by simp only [List.mem_cons, List.not_mem_nil, or_false]; omega) (by simp only [List.mem_cons, List.not_mem_nil, or_false]; omega) (by simp only [List.mem_cons, List.not_mem_nil, or_false]; omega) (by intro xx hx; simp only [List.mem_cons, List.not_mem_nil, or_false] at hx; omega)
        have hq290 := z_len eG289
        have hq291 := z_sl hot eG289 rfl
        have hfr := hfr.wr hot eG289 (by simp)
        have hot := hot.kept eG289
        change ab_W _ _ _ (List.set G283 ot (za 808 (zu O2265 cnt (w % 4294967296)))) 86 [some (vR q), some (vR p), some (vj w), none, some (vz dd), some (vz cnt), some (vz (w2257 / 4294967296)), none] [] _
        rw [← eG289]
        have hp292 := prok_other (a := cnt) (x := (w % 4294967296)) hp286 (by omega) (Or.inl ((hq275 cnt (by omega) (by omega)).trans hks169))
        obtain ⟨O292, eO292⟩ : ∃ z : Int → Int, z = zu O2265 cnt (w % 4294967296) := ⟨_, rfl⟩
        have hot : cc o256 G289 ot (lq + 3) (za 808 O292) := by rw [← eO292.symm]; exact hot
        rw [← eO292] at hp292
        change ab_W _ _ _ G289 86 [some (vR q), some (vR p), some (vj w), none, some (vz dd), some (vz cnt), some (vz (w2257 / 4294967296)), none] [] _
        refine ab_lload_n d_PR_loop_86 rfl ?_
        refine ab_callS (d' := d - 1) (as := [vj w]) (st := []) (z_PR_fresh (o := o256) (w := w) (by omega)) (fun oc G2 h => by rcases h with ⟨h, _⟩ <;> exact ⟨_, h⟩) (by omega) m_PR_fresh ml_PR_96 st_PR_fresh (Nat.le_of_ble_eq_true rfl) d_PR_loop_87 rfl ?_
        intro v G293 hq
        rcases hq with ⟨hv, hGe⟩
        cases hv
        rw [hGe]
        change ab_W _ _ _ G289 90 [some (vR q), some (vR p), some (vj w), none, some (vz dd), some (vz cnt), some (vz (w2257 / 4294967296)), none] [vz (w / 4294967296)] _
        refine ab_lload_n d_PR_loop_90 rfl ?_
        refine ab_callS (d' := d - 1) (as := [vj w]) (st := [vz (w / 4294967296)]) (z_PR_used (o := o256) (w := w) (by omega)) (fun oc G2 h => by rcases h with ⟨h, _⟩ <;> exact ⟨_, h⟩) (by omega) m_PR_used ml_PR_124 st_PR_used (Nat.le_of_ble_eq_true rfl) d_PR_loop_91 rfl ?_
        intro v G294 hq
        rcases hq with ⟨hv, hGe⟩
        cases hv
        rw [hGe]
        change ab_W _ _ _ G289 94 [some (vR q), some (vR p), some (vj w), none, some (vz dd), some (vz cnt), some (vz (w2257 / 4294967296)), none] [vz (w % 4294967296), vz (w / 4294967296)] _
        refine zz_icmp_ne (tgt := 105) d_PR_loop_94 (by decide) (by omega) (by omega) (fun c295 => ?_) (fun c295 => ?_)
        · refine ab_aload_n d_PR_loop_105 rfl ?_
          refine ab_getf (fs := [vz k_1, vz v_1, rg_1, vz pl_1, vz fl_1, ou_1, ls_1, bf_1, vz sz_1, vz mb_1, vz oe_1, vz le_1, vz mo_1, vz la_1, vz rc279]) f_PR_156 d_PR_loop_106 hp.2.2 rfl ?_
          refine zz_if_eq (tgt := 127) d_PR_loop_109 (by decide) (by omega) (fun c296 => ?_) (fun c296 => absurd c296 (by omega))
          refine ab_aload_n d_PR_loop_127 rfl ?_
          refine zz_bipush d_PR_loop_128 (by decide) ?_
          refine ab_iload d_PR_loop_130 rfl ?_
          refine ab_lload_n d_PR_loop_132 rfl ?_
          refine ab_callS (d' := d - 1) (as := [vj w]) (st := [vz (w2257 / 4294967296), vz 6, vR q]) (z_PR_fresh (o := o256) (w := w) (by omega)) (fun oc G2 h => by rcases h with ⟨h, _⟩ <;> exact ⟨_, h⟩) (by omega) m_PR_fresh ml_PR_96 st_PR_fresh (Nat.le_of_ble_eq_true rfl) d_PR_loop_133 rfl ?_
          intro v G297 hq
          rcases hq with ⟨hv, hGe⟩
          cases hv
          rw [hGe]
          change ab_W _ _ _ G289 136 [some (vR q), some (vR p), some (vj w), none, some (vz dd), some (vz cnt), some (vz (w2257 / 4294967296)), none] [vz (w / 4294967296), vz (w2257 / 4294967296), vz 6, vR q] _
          refine ab_callV (d' := d - 1) (as := [vz 6, vz (w2257 / 4294967296), vz (w / 4294967296)]) (st := []) (r := _) (z_PR_add (o := o256) (q := q) (lq := lq) (ki := ki) (ne := ne) (ot := ot) (cnt := cnt2258) (fi := fi) (la := la2259) (ra := ra2260) (ru := ru2262) (gr := gr) (wi := wi) (sz := sz) (fl := fl) (ve := ve) (mi := mi) (na := na) (nl := nl) (K := K2263) (N := N286) (O := O292) (k0 := 6) (x0 := (w2257 / 4294967296)) (v0 := (w / 4294967296)) hq hki hne hot (by omega) (by omega) (by omega)) (fun oc G2 h => by rcases h with ⟨h, _⟩ | ⟨_, h, _⟩ <;> exact ⟨_, h⟩) (by omega) m_PR_add ml_PR_84 im_PR_add se_PR_add c_PR hq.2.2 (Nat.le_of_ble_eq_true rfl) d_PR_loop_136 rfl ?_
          intro v G298 hq
          rcases hq with ⟨hv, hGe, hq299⟩ | ⟨la2300, hv, hfk, hlk, hsk, hNq, hNki, hNne, hNot, hq301, hq302, hq303⟩
          · cases hv
            rw [hGe]
            change ab_W _ _ _ G289 139 [some (vR q), some (vR p), some (vj w), none, some (vz dd), some (vz cnt), some (vz (w2257 / 4294967296)), none] [vz 0] _
            refine ab_istore d_PR_loop_139 (Nat.le_of_ble_eq_true rfl) (Nat.le_of_ble_eq_true rfl) rfl ?_
            change ab_W _ _ _ G289 141 [some (vR q), some (vR p), some (vj w), none, some (vz dd), some (vz cnt), some (vz (w2257 / 4294967296)), some (vz 0)] [] _
            refine ab_iload d_PR_loop_141 rfl ?_
            refine ab_iload d_PR_loop_143 rfl ?_
            refine ab_callS (d' := d - 1) (as := [vz 0, vz cnt]) (st := []) (z_PR_pair (o := o256) (f0 := 0) (u0 := cnt) (by omega)) (fun oc G2 h => by rcases h with ⟨h, _⟩ <;> exact ⟨_, h⟩) (by omega) m_PR_pair ml_PR_88 st_PR_pair (Nat.le_of_ble_eq_true rfl) d_PR_loop_145 rfl ?_
            intro v G306 hq
            rcases hq with ⟨hv, hGe⟩
            cases hv
            rw [hGe]
            change ab_W _ _ _ G289 148 [some (vR q), some (vR p), some (vj w), none, some (vz dd), some (vz cnt), some (vz (w2257 / 4294967296)), some (vz 0)] [vj (0 * 4294967296 + cnt)] _
            refine ab_lret rfl d_PR_loop_148 ?_
            rw [hQ]; exact ⟨_, _, _, _, _, _, _, _, _, _, _, _, rfl, hfr, hq, hki, hne, hot, hra2260, ppaI_0, (by omega), (by omega), (by omega), (by omega), (by exact hp292), (by exact hq273), (by exact hq274), (by exact (hkx169.tr hq275 (by omega))), (by exact hzr), (by omega), (by omega)⟩
          · cases hv
            have hzr := hzr.tr (fzr.fx hfk (by simp only [List.mem_cons, List.not_mem_nil, or_false]; omega))
            have hp := hfk.get hp (by simp only [List.mem_cons, List.not_mem_nil, or_false]; omega)
            have hra2260 := hfk.get hra2260 (by simp only [List.mem_cons, List.not_mem_nil, or_false]; omega)
            have ppaI_0 := paI.fr hfk ppaI_0 (by simp only [List.mem_cons, List.not_mem_nil, or_false]; omega) (by simp only [List.mem_cons, List.not_mem_nil, or_false]; omega) (by simp only [List.mem_cons, List.not_mem_nil, or_false]; omega) (by intro xx hx; simp only [List.mem_cons, List.not_mem_nil, or_false] at hx; omega)
            have hfr := hfr.tr hfk (by simp)
            have hq304 := hlk
            have hq305 := hsk
            have hq := hNq
            have hki := hNki
            have hne := hNne
            have hot := hNot
            change ab_W _ _ _ G298 139 [some (vR q), some (vR p), some (vj w), none, some (vz dd), some (vz cnt), some (vz (w2257 / 4294967296)), none] [vz cnt2258] _
            have hp307 := prok_add (k := 6) (x := (w2257 / 4294967296)) (v := (w / 4294967296)) hp292 (by omega) (by omega) (by omega) (by omega) (by omega) (fun t => by omega) (fun t => absurd t (by decide)) (fun t => absurd t (by decide)) (fun t => absurd t (by decide)) (fun t => absurd t (by decide))
            obtain ⟨K307, eK307⟩ : ∃ z : Int → Int, z = zu K2263 cnt2258 6 := ⟨_, rfl⟩
            have hki : cc o256 G298 ki (lq + 1) (za 808 K307) := by rw [← eK307.symm]; exact hki
            obtain ⟨N307, eN307⟩ : ∃ z : Int → Int, z = zu N286 cnt2258 (w2257 / 4294967296) := ⟨_, rfl⟩
            have hne : cc o256 G298 ne (lq + 2) (za 808 N307) := by rw [← eN307.symm]; exact hne
            obtain ⟨O307, eO307⟩ : ∃ z : Int → Int, z = zu O292 cnt2258 (w / 4294967296) := ⟨_, rfl⟩
            have hot : cc o256 G298 ot (lq + 3) (za 808 O307) := by rw [← eO307.symm]; exact hot
            rw [← eK307, ← eN307, ← eO307] at hp307
            have hkx307 : kext K2263 K307 cnt2258 := by rw [eK307]; exact kext.zu (Int.le_refl _)
            have hks307 : K307 cnt2258 = 6 := by rw [eK307]; exact zu_self _ _ _
            change ab_W _ _ _ G298 139 [some (vR q), some (vR p), some (vj w), none, some (vz dd), some (vz cnt), some (vz (w2257 / 4294967296)), none] [vz cnt2258] _
            refine ab_istore d_PR_loop_139 (Nat.le_of_ble_eq_true rfl) (Nat.le_of_ble_eq_true rfl) rfl ?_
            change ab_W _ _ _ G298 141 [some (vR q), some (vR p), some (vj w), none, some (vz dd), some (vz cnt), some (vz (w2257 / 4294967296)), some (vz cnt2258)] [] _
            refine ab_iload d_PR_loop_141 rfl ?_
            refine ab_iload d_PR_loop_143 rfl ?_
            refine ab_callS (d' := d - 1) (as := [vz cnt2258, vz cnt]) (st := []) (z_PR_pair (o := o256) (f0 := cnt2258) (u0 := cnt) (by omega)) (fun oc G2 h => by rcases h with ⟨h, _⟩ <;> exact ⟨_, h⟩) (by omega) m_PR_pair ml_PR_88 st_PR_pair (Nat.le_of_ble_eq_true rfl) d_PR_loop_145 rfl ?_
            intro v G308 hq
            rcases hq with ⟨hv, hGe⟩
            cases hv
            rw [hGe]
            change ab_W _ _ _ G298 148 [some (vR q), some (vR p), some (vj w), none, some (vz dd), some (vz cnt), some (vz (w2257 / 4294967296)), some (vz cnt2258)] [vj (cnt2258 * 4294967296 + cnt)] _
            refine ab_lret rfl d_PR_loop_148 ?_
            rw [hQ]; exact ⟨_, _, _, _, _, _, _, _, _, _, _, _, rfl, hfr, hq, hki, hne, hot, hra2260, ppaI_0, (by omega), (by omega), (by omega), (by omega), (by exact hp307), (by exact hq273), (by exact hq274), (by exact ((hkx169.tr hq275 (by omega)).tr hkx307 (by omega))), (by exact hzr), (by omega), (by omega)⟩
        · refine ab_iload d_PR_loop_97 rfl ?_
          refine ab_iload d_PR_loop_99 rfl ?_
          refine ab_callS (d' := d - 1) (as := [vz cnt, vz cnt]) (st := []) (z_PR_pair (o := o256) (f0 := cnt) (u0 := cnt) (by omega)) (fun oc G2 h => by rcases h with ⟨h, _⟩ <;> exact ⟨_, h⟩) (by omega) m_PR_pair ml_PR_88 st_PR_pair (Nat.le_of_ble_eq_true rfl) d_PR_loop_101 rfl ?_
          intro v G309 hq
          rcases hq with ⟨hv, hGe⟩
          cases hv
          rw [hGe]
          change ab_W _ _ _ G289 104 [some (vR q), some (vR p), some (vj w), none, some (vz dd), some (vz cnt), some (vz (w2257 / 4294967296)), none] [vj (cnt * 4294967296 + cnt)] _
          refine ab_lret rfl d_PR_loop_104 ?_
          rw [hQ]; exact ⟨_, _, _, _, _, _, _, _, _, _, _, _, rfl, hfr, hq, hki, hne, hot, hra2260, ppaI_0, (by omega), (by omega), (by omega), (by omega), (by exact hp292), (by exact hq273), (by exact hq274), (by exact (hkx169.tr hq275 (by omega))), (by exact hzr), (by omega), (by omega)⟩
      · refine ab_lload_n d_PR_loop_53 rfl ?_
        refine ab_callS (d' := d - 1) (as := [vj w]) (st := [vz cnt, vR ne]) (z_PR_used (o := o256) (w := w) (by omega)) (fun oc G2 h => by rcases h with ⟨h, _⟩ <;> exact ⟨_, h⟩) (by omega) m_PR_used ml_PR_124 st_PR_used (Nat.le_of_ble_eq_true rfl) d_PR_loop_54 rfl ?_
        intro v G310 hq
        rcases hq with ⟨hv, hGe⟩
        cases hv
        rw [hGe]
        change ab_W _ _ _ G255 57 [some (vR q), some (vR p), some (vj w), none, some (vz dd), some (vz cnt), some (vz (w2257 / 4294967296)), none] [vz (w % 4294967296), vz cnt, vR ne] _
        refine ab_goto (tgt := 62) d_PR_loop_57 (by decide) ?_
        refine zz_iast d_PR_loop_62 hne (by omega) (hne.2.1 (by first | omega | exact (show 18 ≤ _ by omega))) ?_
        obtain ⟨G311, eG311⟩ : ∃ z : ab_G, z = List.set G255 ne (za 808 (zu N2264 cnt (w % 4294967296))) := ⟨_, rfl⟩
        have hq := hq.keep hne eG311 (by omega)
        have hki := hki.keep hne eG311 (by omega)
        have hot := hot.keep hne eG311 (by omega)
        have hp := hp.keep hne eG311 (by omega)
        have hra2260 := hra2260.keep hne eG311 (by omega)
        have hzr := hzr.wr hne eG311 (by omega)
        have hst := (fx.rf (o := o256) (S := [(lq + 2)]) (G := G255)).wr hne eG311 (List.mem_singleton.mpr rfl)
        have ppaI_0 := paI.fr hst ppaI_0 (by simp only [List.mem_cons, List.not_mem_nil, or_false]; omega) (by simp only [List.mem_cons, List.not_mem_nil, or_false]; omega) (by simp only [List.mem_cons, List.not_mem_nil, or_false]; omega) (by intro xx hx; simp only [List.mem_cons, List.not_mem_nil, or_false] at hx; omega)
        have hq312 := z_len eG311
        have hq313 := z_sl hne eG311 rfl
        have hfr := hfr.wr hne eG311 (by simp)
        have hne := hne.kept eG311
        change ab_W _ _ _ (List.set G255 ne (za 808 (zu N2264 cnt (w % 4294967296)))) 63 [some (vR q), some (vR p), some (vj w), none, some (vz dd), some (vz cnt), some (vz (w2257 / 4294967296)), none] [] _
        rw [← eG311]
        have hp314 := prok_next (a := cnt) (x := (w % 4294967296)) hq272 (by omega)
        obtain ⟨N314, eN314⟩ : ∃ z : Int → Int, z = zu N2264 cnt (w % 4294967296) := ⟨_, rfl⟩
        have hne : cc o256 G311 ne (lq + 2) (za 808 N314) := by rw [← eN314.symm]; exact hne
        rw [← eN314] at hp314
        change ab_W _ _ _ G311 63 [some (vR q), some (vR p), some (vj w), none, some (vz dd), some (vz cnt), some (vz (w2257 / 4294967296)), none] [] _
        refine ab_aload_n d_PR_loop_63 rfl ?_
        refine ab_getf (fs := [vR ki, vR ne, vR ot, vz cnt2258, vz fi, vz la2259, vR ra2260, vz ru2262, vz gr, vz wi, vz sz, vz fl, vz ve, vz mi, vR na, vR nl]) f_PR_18 d_PR_loop_64 hq.2.2 rfl ?_
        refine ab_iload d_PR_loop_67 rfl ?_
        refine ab_aload_n d_PR_loop_69 rfl ?_
        refine ab_getf (fs := [vz k_1, vz v_1, rg_1, vz pl_1, vz fl_1, ou_1, ls_1, bf_1, vz sz_1, vz mb_1, vz oe_1, vz le_1, vz mo_1, vz la_1, vz rc279]) f_PR_156 d_PR_loop_70 hp.2.2 rfl ?_
        refine zz_if_eq (tgt := 81) d_PR_loop_73 (by decide) (by omega) (fun c315 => absurd c315 (by omega)) (fun c315 => ?_)
        refine ab_iload d_PR_loop_76 rfl ?_
        refine ab_goto (tgt := 85) d_PR_loop_78 (by decide) ?_
        refine zz_iast d_PR_loop_85 hot (by omega) (hot.2.1 (by first | omega | exact (show 18 ≤ _ by omega))) ?_
        obtain ⟨G316, eG316⟩ : ∃ z : ab_G, z = List.set G311 ot (za 808 (zu O2265 cnt (w2257 / 4294967296))) := ⟨_, rfl⟩
        have hq := hq.keep hot eG316 (by omega)
        have hki := hki.keep hot eG316 (by omega)
        have hne := hne.keep hot eG316 (by omega)
        have hp := hp.keep hot eG316 (by omega)
        have hra2260 := hra2260.keep hot eG316 (by omega)
        have hzr := hzr.wr hot eG316 (by omega)
        have hst := (fx.rf (o := o256) (S := [(lq + 3)]) (G := G311)).wr hot eG316 (List.mem_singleton.mpr rfl)
        have ppaI_0 := paI.fr hst ppaI_0 (by simp only [List.mem_cons, List.not_mem_nil, or_false]; omega) (by simp only [List.mem_cons, List.not_mem_nil, or_false]; omega) (by simp only [List.mem_cons, List.not_mem_nil, or_false]; omega) (by intro xx hx; simp only [List.mem_cons, List.not_mem_nil, or_false] at hx; omega)
        have hq317 := z_len eG316
        have hq318 := z_sl hot eG316 rfl
        have hfr := hfr.wr hot eG316 (by simp)
        have hot := hot.kept eG316
        change ab_W _ _ _ (List.set G311 ot (za 808 (zu O2265 cnt (w2257 / 4294967296)))) 86 [some (vR q), some (vR p), some (vj w), none, some (vz dd), some (vz cnt), some (vz (w2257 / 4294967296)), none] [] _
        rw [← eG316]
        have hp319 := prok_other (a := cnt) (x := (w2257 / 4294967296)) hp314 (by omega) (Or.inl ((hq275 cnt (by omega) (by omega)).trans hks169))
        obtain ⟨O319, eO319⟩ : ∃ z : Int → Int, z = zu O2265 cnt (w2257 / 4294967296) := ⟨_, rfl⟩
        have hot : cc o256 G316 ot (lq + 3) (za 808 O319) := by rw [← eO319.symm]; exact hot
        rw [← eO319] at hp319
        change ab_W _ _ _ G316 86 [some (vR q), some (vR p), some (vj w), none, some (vz dd), some (vz cnt), some (vz (w2257 / 4294967296)), none] [] _
        refine ab_lload_n d_PR_loop_86 rfl ?_
        refine ab_callS (d' := d - 1) (as := [vj w]) (st := []) (z_PR_fresh (o := o256) (w := w) (by omega)) (fun oc G2 h => by rcases h with ⟨h, _⟩ <;> exact ⟨_, h⟩) (by omega) m_PR_fresh ml_PR_96 st_PR_fresh (Nat.le_of_ble_eq_true rfl) d_PR_loop_87 rfl ?_
        intro v G320 hq
        rcases hq with ⟨hv, hGe⟩
        cases hv
        rw [hGe]
        change ab_W _ _ _ G316 90 [some (vR q), some (vR p), some (vj w), none, some (vz dd), some (vz cnt), some (vz (w2257 / 4294967296)), none] [vz (w / 4294967296)] _
        refine ab_lload_n d_PR_loop_90 rfl ?_
        refine ab_callS (d' := d - 1) (as := [vj w]) (st := [vz (w / 4294967296)]) (z_PR_used (o := o256) (w := w) (by omega)) (fun oc G2 h => by rcases h with ⟨h, _⟩ <;> exact ⟨_, h⟩) (by omega) m_PR_used ml_PR_124 st_PR_used (Nat.le_of_ble_eq_true rfl) d_PR_loop_91 rfl ?_
        intro v G321 hq
        rcases hq with ⟨hv, hGe⟩
        cases hv
        rw [hGe]
        change ab_W _ _ _ G316 94 [some (vR q), some (vR p), some (vj w), none, some (vz dd), some (vz cnt), some (vz (w2257 / 4294967296)), none] [vz (w % 4294967296), vz (w / 4294967296)] _
        refine zz_icmp_ne (tgt := 105) d_PR_loop_94 (by decide) (by omega) (by omega) (fun c322 => ?_) (fun c322 => ?_)
        · refine ab_aload_n d_PR_loop_105 rfl ?_
          refine ab_getf (fs := [vz k_1, vz v_1, rg_1, vz pl_1, vz fl_1, ou_1, ls_1, bf_1, vz sz_1, vz mb_1, vz oe_1, vz le_1, vz mo_1, vz la_1, vz rc279]) f_PR_156 d_PR_loop_106 hp.2.2 rfl ?_
          refine zz_if_eq (tgt := 127) d_PR_loop_109 (by decide) (by omega) (fun c323 => absurd c323 (by omega)) (fun c323 => ?_)
          refine ab_aload_n d_PR_loop_112 rfl ?_
          refine zz_bipush d_PR_loop_113 (by decide) ?_
          refine ab_lload_n d_PR_loop_115 rfl ?_
          refine ab_callS (d' := d - 1) (as := [vj w]) (st := [vz 6, vR q]) (z_PR_fresh (o := o256) (w := w) (by omega)) (fun oc G2 h => by rcases h with ⟨h, _⟩ <;> exact ⟨_, h⟩) (by omega) m_PR_fresh ml_PR_96 st_PR_fresh (Nat.le_of_ble_eq_true rfl) d_PR_loop_116 rfl ?_
          intro v G324 hq
          rcases hq with ⟨hv, hGe⟩
          cases hv
          rw [hGe]
          change ab_W _ _ _ G316 119 [some (vR q), some (vR p), some (vj w), none, some (vz dd), some (vz cnt), some (vz (w2257 / 4294967296)), none] [vz (w / 4294967296), vz 6, vR q] _
          refine ab_iload d_PR_loop_119 rfl ?_
          refine ab_callV (d' := d - 1) (as := [vz 6, vz (w / 4294967296), vz (w2257 / 4294967296)]) (st := []) (r := _) (z_PR_add (o := o256) (q := q) (lq := lq) (ki := ki) (ne := ne) (ot := ot) (cnt := cnt2258) (fi := fi) (la := la2259) (ra := ra2260) (ru := ru2262) (gr := gr) (wi := wi) (sz := sz) (fl := fl) (ve := ve) (mi := mi) (na := na) (nl := nl) (K := K2263) (N := N314) (O := O319) (k0 := 6) (x0 := (w / 4294967296)) (v0 := (w2257 / 4294967296)) hq hki hne hot (by omega) (by omega) (by omega)) (fun oc G2 h => by rcases h with ⟨h, _⟩ | ⟨_, h, _⟩ <;> exact ⟨_, h⟩) (by omega) m_PR_add ml_PR_84 im_PR_add se_PR_add c_PR hq.2.2 (Nat.le_of_ble_eq_true rfl) d_PR_loop_121 rfl ?_
          intro v G325 hq
          rcases hq with ⟨hv, hGe, hq326⟩ | ⟨la2327, hv, hfk, hlk, hsk, hNq, hNki, hNne, hNot, hq328, hq329, hq330⟩
          · cases hv
            rw [hGe]
            change ab_W _ _ _ G316 124 [some (vR q), some (vR p), some (vj w), none, some (vz dd), some (vz cnt), some (vz (w2257 / 4294967296)), none] [vz 0] _
            refine ab_goto (tgt := 139) d_PR_loop_124 (by decide) ?_
            refine ab_istore d_PR_loop_139 (Nat.le_of_ble_eq_true rfl) (Nat.le_of_ble_eq_true rfl) rfl ?_
            change ab_W _ _ _ G316 141 [some (vR q), some (vR p), some (vj w), none, some (vz dd), some (vz cnt), some (vz (w2257 / 4294967296)), some (vz 0)] [] _
            refine ab_iload d_PR_loop_141 rfl ?_
            refine ab_iload d_PR_loop_143 rfl ?_
            refine ab_callS (d' := d - 1) (as := [vz 0, vz cnt]) (st := []) (z_PR_pair (o := o256) (f0 := 0) (u0 := cnt) (by omega)) (fun oc G2 h => by rcases h with ⟨h, _⟩ <;> exact ⟨_, h⟩) (by omega) m_PR_pair ml_PR_88 st_PR_pair (Nat.le_of_ble_eq_true rfl) d_PR_loop_145 rfl ?_
            intro v G333 hq
            rcases hq with ⟨hv, hGe⟩
            cases hv
            rw [hGe]
            change ab_W _ _ _ G316 148 [some (vR q), some (vR p), some (vj w), none, some (vz dd), some (vz cnt), some (vz (w2257 / 4294967296)), some (vz 0)] [vj (0 * 4294967296 + cnt)] _
            refine ab_lret rfl d_PR_loop_148 ?_
            rw [hQ]; exact ⟨_, _, _, _, _, _, _, _, _, _, _, _, rfl, hfr, hq, hki, hne, hot, hra2260, ppaI_0, (by omega), (by omega), (by omega), (by omega), (by exact hp319), (by exact hq273), (by exact hq274), (by exact (hkx169.tr hq275 (by omega))), (by exact hzr), (by omega), (by omega)⟩
          · cases hv
            have hzr := hzr.tr (fzr.fx hfk (by simp only [List.mem_cons, List.not_mem_nil, or_false]; omega))
            have hp := hfk.get hp (by simp only [List.mem_cons, List.not_mem_nil, or_false]; omega)
            have hra2260 := hfk.get hra2260 (by simp only [List.mem_cons, List.not_mem_nil, or_false]; omega)
            have ppaI_0 := paI.fr hfk ppaI_0 (by simp only [List.mem_cons, List.not_mem_nil, or_false]; omega) (by simp only [List.mem_cons, List.not_mem_nil, or_false]; omega) (by simp only [List.mem_cons, List.not_mem_nil, or_false]; omega) (by intro xx hx; simp only [List.mem_cons, List.not_mem_nil, or_false] at hx; omega)
            have hfr := hfr.tr hfk (by simp)
            have hq331 := hlk
            have hq332 := hsk
            have hq := hNq
            have hki := hNki
            have hne := hNne
            have hot := hNot
            change ab_W _ _ _ G325 124 [some (vR q), some (vR p), some (vj w), none, some (vz dd), some (vz cnt), some (vz (w2257 / 4294967296)), none] [vz cnt2258] _
            have hp334 := prok_add (k := 6) (x := (w / 4294967296)) (v := (w2257 / 4294967296)) hp319 (by omega) (by omega) (by omega) (by omega) (by omega) (fun t => by omega) (fun t => absurd t (by decide)) (fun t => absurd t (by decide)) (fun t => absurd t (by decide)) (fun t => absurd t (by decide))
            obtain ⟨K334, eK334⟩ : ∃ z : Int → Int, z = zu K2263 cnt2258 6 := ⟨_, rfl⟩
            have hki : cc o256 G325 ki (lq + 1) (za 808 K334) := by rw [← eK334.symm]; exact hki
            obtain ⟨N334, eN334⟩ : ∃ z : Int → Int, z = zu N314 cnt2258 (w / 4294967296) := ⟨_, rfl⟩
            have hne : cc o256 G325 ne (lq + 2) (za 808 N334) := by rw [← eN334.symm]; exact hne
            obtain ⟨O334, eO334⟩ : ∃ z : Int → Int, z = zu O319 cnt2258 (w2257 / 4294967296) := ⟨_, rfl⟩
            have hot : cc o256 G325 ot (lq + 3) (za 808 O334) := by rw [← eO334.symm]; exact hot
            rw [← eK334, ← eN334, ← eO334] at hp334
            have hkx334 : kext K2263 K334 cnt2258 := by rw [eK334]; exact kext.zu (Int.le_refl _)
            have hks334 : K334 cnt2258 = 6 := by rw [eK334]; exact zu_self _ _ _
            change ab_W _ _ _ G325 124 [some (vR q), some (vR p), some (vj w), none, some (vz dd), some (vz cnt), some (vz (w2257 / 4294967296)), none] [vz cnt2258] _
            refine ab_goto (tgt := 139) d_PR_loop_124 (by decide) ?_
            refine ab_istore d_PR_loop_139 (Nat.le_of_ble_eq_true rfl) (Nat.le_of_ble_eq_true rfl) rfl ?_
            change ab_W _ _ _ G325 141 [some (vR q), some (vR p), some (vj w), none, some (vz dd), some (vz cnt), some (vz (w2257 / 4294967296)), some (vz cnt2258)] [] _
            refine ab_iload d_PR_loop_141 rfl ?_
            refine ab_iload d_PR_loop_143 rfl ?_
            refine ab_callS (d' := d - 1) (as := [vz cnt2258, vz cnt]) (st := []) (z_PR_pair (o := o256) (f0 := cnt2258) (u0 := cnt) (by omega)) (fun oc G2 h => by rcases h with ⟨h, _⟩ <;> exact ⟨_, h⟩) (by omega) m_PR_pair ml_PR_88 st_PR_pair (Nat.le_of_ble_eq_true rfl) d_PR_loop_145 rfl ?_
            intro v G335 hq
            rcases hq with ⟨hv, hGe⟩
            cases hv
            rw [hGe]
            change ab_W _ _ _ G325 148 [some (vR q), some (vR p), some (vj w), none, some (vz dd), some (vz cnt), some (vz (w2257 / 4294967296)), some (vz cnt2258)] [vj (cnt2258 * 4294967296 + cnt)] _
            refine ab_lret rfl d_PR_loop_148 ?_
            rw [hQ]; exact ⟨_, _, _, _, _, _, _, _, _, _, _, _, rfl, hfr, hq, hki, hne, hot, hra2260, ppaI_0, (by omega), (by omega), (by omega), (by omega), (by exact hp334), (by exact hq273), (by exact hq274), (by exact ((hkx169.tr hq275 (by omega)).tr hkx334 (by omega))), (by exact hzr), (by omega), (by omega)⟩
        · refine ab_iload d_PR_loop_97 rfl ?_
          refine ab_iload d_PR_loop_99 rfl ?_
          refine ab_callS (d' := d - 1) (as := [vz cnt, vz cnt]) (st := []) (z_PR_pair (o := o256) (f0 := cnt) (u0 := cnt) (by omega)) (fun oc G2 h => by rcases h with ⟨h, _⟩ <;> exact ⟨_, h⟩) (by omega) m_PR_pair ml_PR_88 st_PR_pair (Nat.le_of_ble_eq_true rfl) d_PR_loop_101 rfl ?_
          intro v G336 hq
          rcases hq with ⟨hv, hGe⟩
          cases hv
          rw [hGe]
          change ab_W _ _ _ G316 104 [some (vR q), some (vR p), some (vj w), none, some (vz dd), some (vz cnt), some (vz (w2257 / 4294967296)), none] [vj (cnt * 4294967296 + cnt)] _
          refine ab_lret rfl d_PR_loop_104 ?_
          rw [hQ]; exact ⟨_, _, _, _, _, _, _, _, _, _, _, _, rfl, hfr, hq, hki, hne, hot, hra2260, ppaI_0, (by omega), (by omega), (by omega), (by omega), (by exact hp319), (by exact hq273), (by exact hq274), (by exact (hkx169.tr hq275 (by omega))), (by exact hzr), (by omega), (by omega)⟩
