set_option maxRecDepth 100000 in
set_option maxHeartbeats 4000000 in
theorem zs_PR_addPair {X : ab_X} {d : Nat} {o : Nat → Nat} {G : ab_G} {q : Nat} {lq : Nat} {ki : Nat} {ne : Nat} {ot : Nat} {cnt : Int} {fi : Int} {la : Int} {ra : Nat} {ru : Int} {gr : Int} {wi : Int} {sz : Int} {fl : Int} {ve : Int} {mi : Int} {na : Nat} {nl : Nat} {K : Int → Int} {N : Int → Int} {O : Int → Int} {RR : Int → Int} {nr : Nat} {w : Int} {vl : Int} (hq : cc o G q lq (ab_ob 5 [vR ki, vR ne, vR ot, vz cnt, vz fi, vz la, vR ra, vz ru, vz gr, vz wi, vz sz, vz fl, vz ve, vz mi, vR na, vR nl])) (hki : cc o G ki (lq + 1) (za 808 K)) (hne : cc o G ne (lq + 2) (za 808 N)) (hot : cc o G ot (lq + 3) (za 808 O)) (hra : cc o G ra (lq + 4) (za nr RR)) (n18 : ab_n0 = 18) (cq : 100 ≤ lq ∧ 2 ≤ cnt ∧ cnt ≤ 808 ∧ 0 ≤ la ∧ la ≤ 1) (hp_ : prok K N O RR cnt ru wi) (cw : 0 ≤ w ∧ w / 4294967296 < cnt ∧ w % 4294967296 < cnt) (cv : 2 ≤ vl ∧ vl < wi) (hd : 1 ≤ d) : ab_F X d y_PR_addPair (.code y_PR_addPair b_PR_addPair 7 (some (.long))) [vR q, vz 7, vj w, vz vl] G (fun oc G2 => ∃ w2 : Int, ∃ cnt2 : Int, ∃ la2 : Int, ∃ K2 : Int → Int, ∃ N2 : Int → Int, ∃ O2 : Int → Int, oc = .returned (some (vj w2)) ∧ fx o o [lq, (lq + 1), (lq + 2), (lq + 3)] G G2 ∧ G2.length = G.length ∧ ab_slots G2 = ab_slots G ∧ cc o G2 q lq (ab_ob 5 [vR ki, vR ne, vR ot, vz cnt2, vz fi, vz la2, vR ra, vz ru, vz gr, vz wi, vz sz, vz fl, vz ve, vz mi, vR na, vR nl]) ∧ cc o G2 ki (lq + 1) (za 808 K2) ∧ cc o G2 ne (lq + 2) (za 808 N2) ∧ cc o G2 ot (lq + 3) (za 808 O2) ∧ (cnt ≤ cnt2 ∧ cnt2 ≤ 808 ∧ 0 ≤ la2 ∧ la2 ≤ 1) ∧ (0 ≤ w2 ∧ w2 / 4294967296 < cnt2 ∧ w2 % 4294967296 < cnt2) ∧ (prok K2 N2 O2 RR cnt2 ru wi) ∧ (kext K K2 cnt)) := by
  refine ab_F_of (by decide +kernel) (Nat.le_of_ble_eq_true rfl) ?_
  obtain ⟨Q, hQ⟩ : ∃ z : Outcome → ab_G → Prop, z = (fun oc G2 => ∃ w2 : Int, ∃ cnt2 : Int, ∃ la2 : Int, ∃ K2 : Int → Int, ∃ N2 : Int → Int, ∃ O2 : Int → Int, oc = .returned (some (vj w2)) ∧ fx o o [lq, (lq + 1), (lq + 2), (lq + 3)] G G2 ∧ G2.length = G.length ∧ ab_slots G2 = ab_slots G ∧ cc o G2 q lq (ab_ob 5 [vR ki, vR ne, vR ot, vz cnt2, vz fi, vz la2, vR ra, vz ru, vz gr, vz wi, vz sz, vz fl, vz ve, vz mi, vR na, vR nl]) ∧ cc o G2 ki (lq + 1) (za 808 K2) ∧ cc o G2 ne (lq + 2) (za 808 N2) ∧ cc o G2 ot (lq + 3) (za 808 O2) ∧ (cnt ≤ cnt2 ∧ cnt2 ≤ 808 ∧ 0 ≤ la2 ∧ la2 ≤ 1) ∧ (0 ≤ w2 ∧ w2 / 4294967296 < cnt2 ∧ w2 % 4294967296 < cnt2) ∧ (prok K2 N2 O2 RR cnt2 ru wi) ∧ (kext K K2 cnt)) := ⟨_, rfl⟩
  rw [← hQ]
  change ab_W X (ab_pl y_PR_addPair b_PR_addPair 7 (some (.long))) d G 0 [some (vR q), some (vz 7), some (vj w), none, some (vz vl), none, none] [] Q
  have hfr : fx o o [lq, (lq + 1), (lq + 2), (lq + 3)] G G := fx.rf
  have hlen : G.length = G.length := rfl
  have hsl : ab_slots G = ab_slots G := rfl
  refine ab_aload_n d_PR_addPair_0 rfl ?_
  refine ab_iload_n d_PR_addPair_1 rfl ?_
  refine ab_lload_n d_PR_addPair_2 rfl ?_
  refine ab_callS (d' := d - 1) (as := [vj w]) (st := [vz 7, vR q]) (z_PR_fresh (o := o) (w := w) (by omega)) (fun oc G2 h => by rcases h with ⟨h, _⟩ <;> exact ⟨_, h⟩) (by omega) m_PR_fresh ml_PR_96 st_PR_fresh (Nat.le_of_ble_eq_true rfl) d_PR_addPair_3 rfl ?_
  intro v G1 hq
  rcases hq with ⟨hv, hGe⟩
  cases hv
  rw [hGe]
  change ab_W _ _ _ G 6 [some (vR q), some (vz 7), some (vj w), none, some (vz vl), none, none] [vz (w / 4294967296), vz 7, vR q] _
  refine ab_iload d_PR_addPair_6 rfl ?_
  refine ab_callV (d' := d - 1) (as := [vz 7, vz (w / 4294967296), vz vl]) (st := []) (r := _) (z_PR_add (o := o) (q := q) (lq := lq) (ki := ki) (ne := ne) (ot := ot) (cnt := cnt) (fi := fi) (la := la) (ra := ra) (ru := ru) (gr := gr) (wi := wi) (sz := sz) (fl := fl) (ve := ve) (mi := mi) (na := na) (nl := nl) (K := K) (N := N) (O := O) (k0 := 7) (x0 := (w / 4294967296)) (v0 := vl) hq hki hne hot (by omega) (by omega) (by omega)) (fun oc G2 h => by rcases h with ⟨h, _⟩ | ⟨_, h, _⟩ <;> exact ⟨_, h⟩) (by omega) m_PR_add ml_PR_84 im_PR_add se_PR_add c_PR hq.2.2 (Nat.le_of_ble_eq_true rfl) d_PR_addPair_8 rfl ?_
  intro v G2 hq
  rcases hq with ⟨hv, hGe, hq3⟩ | ⟨la24, hv, hfk, hlk, hsk, hNq, hNki, hNne, hNot, hq5, hq6, hq7⟩
  · cases hv
    rw [hGe]
    change ab_W _ _ _ G 11 [some (vR q), some (vz 7), some (vj w), none, some (vz vl), none, none] [vz 0] _
    refine ab_istore d_PR_addPair_11 (Nat.le_of_ble_eq_true rfl) (Nat.le_of_ble_eq_true rfl) rfl ?_
    change ab_W _ _ _ G 13 [some (vR q), some (vz 7), some (vj w), none, some (vz vl), some (vz 0), none] [] _
    refine ab_lload_n d_PR_addPair_13 rfl ?_
    refine ab_callS (d' := d - 1) (as := [vj w]) (st := []) (z_PR_fresh (o := o) (w := w) (by omega)) (fun oc G2 h => by rcases h with ⟨h, _⟩ <;> exact ⟨_, h⟩) (by omega) m_PR_fresh ml_PR_96 st_PR_fresh (Nat.le_of_ble_eq_true rfl) d_PR_addPair_14 rfl ?_
    intro v G8 hq
    rcases hq with ⟨hv, hGe⟩
    cases hv
    rw [hGe]
    change ab_W _ _ _ G 17 [some (vR q), some (vz 7), some (vj w), none, some (vz vl), some (vz 0), none] [vz (w / 4294967296)] _
    refine ab_lload_n d_PR_addPair_17 rfl ?_
    refine ab_callS (d' := d - 1) (as := [vj w]) (st := [vz (w / 4294967296)]) (z_PR_used (o := o) (w := w) (by omega)) (fun oc G2 h => by rcases h with ⟨h, _⟩ <;> exact ⟨_, h⟩) (by omega) m_PR_used ml_PR_124 st_PR_used (Nat.le_of_ble_eq_true rfl) d_PR_addPair_18 rfl ?_
    intro v G9 hq
    rcases hq with ⟨hv, hGe⟩
    cases hv
    rw [hGe]
    change ab_W _ _ _ G 21 [some (vR q), some (vz 7), some (vj w), none, some (vz vl), some (vz 0), none] [vz (w % 4294967296), vz (w / 4294967296)] _
    refine zz_icmp_ne (tgt := 29) d_PR_addPair_21 (by decide) (by omega) (by omega) (fun c10 => ?_) (fun c10 => ?_)
    · refine ab_aload_n d_PR_addPair_29 rfl ?_
      refine ab_iload_n d_PR_addPair_30 rfl ?_
      refine ab_lload_n d_PR_addPair_31 rfl ?_
      refine ab_callS (d' := d - 1) (as := [vj w]) (st := [vz 7, vR q]) (z_PR_used (o := o) (w := w) (by omega)) (fun oc G2 h => by rcases h with ⟨h, _⟩ <;> exact ⟨_, h⟩) (by omega) m_PR_used ml_PR_124 st_PR_used (Nat.le_of_ble_eq_true rfl) d_PR_addPair_32 rfl ?_
      intro v G11 hq
      rcases hq with ⟨hv, hGe⟩
      cases hv
      rw [hGe]
      change ab_W _ _ _ G 35 [some (vR q), some (vz 7), some (vj w), none, some (vz vl), some (vz 0), none] [vz (w % 4294967296), vz 7, vR q] _
      refine ab_iload d_PR_addPair_35 rfl ?_
      refine ab_callV (d' := d - 1) (as := [vz 7, vz (w % 4294967296), vz vl]) (st := []) (r := _) (z_PR_add (o := o) (q := q) (lq := lq) (ki := ki) (ne := ne) (ot := ot) (cnt := cnt) (fi := fi) (la := la) (ra := ra) (ru := ru) (gr := gr) (wi := wi) (sz := sz) (fl := fl) (ve := ve) (mi := mi) (na := na) (nl := nl) (K := K) (N := N) (O := O) (k0 := 7) (x0 := (w % 4294967296)) (v0 := vl) hq hki hne hot (by omega) (by omega) (by omega)) (fun oc G2 h => by rcases h with ⟨h, _⟩ | ⟨_, h, _⟩ <;> exact ⟨_, h⟩) (by omega) m_PR_add ml_PR_84 im_PR_add se_PR_add c_PR hq.2.2 (Nat.le_of_ble_eq_true rfl) d_PR_addPair_37 rfl ?_
      intro v G12 hq
      rcases hq with ⟨hv, hGe, hq13⟩ | ⟨la214, hv, hfk, hlk, hsk, hNq, hNki, hNne, hNot, hq15, hq16, hq17⟩
      · cases hv
        rw [hGe]
        change ab_W _ _ _ G 40 [some (vR q), some (vz 7), some (vj w), none, some (vz vl), some (vz 0), none] [vz 0] _
        refine ab_istore d_PR_addPair_40 (Nat.le_of_ble_eq_true rfl) (Nat.le_of_ble_eq_true rfl) rfl ?_
        change ab_W _ _ _ G 42 [some (vR q), some (vz 7), some (vj w), none, some (vz vl), some (vz 0), some (vz 0)] [] _
        refine ab_iload d_PR_addPair_42 rfl ?_
        refine ab_iload d_PR_addPair_44 rfl ?_
        refine ab_callS (d' := d - 1) (as := [vz 0, vz 0]) (st := []) (z_PR_pair (o := o) (f0 := 0) (u0 := 0) (by omega)) (fun oc G2 h => by rcases h with ⟨h, _⟩ <;> exact ⟨_, h⟩) (by omega) m_PR_pair ml_PR_88 st_PR_pair (Nat.le_of_ble_eq_true rfl) d_PR_addPair_46 rfl ?_
        intro v G18 hq
        rcases hq with ⟨hv, hGe⟩
        cases hv
        rw [hGe]
        change ab_W _ _ _ G 49 [some (vR q), some (vz 7), some (vj w), none, some (vz vl), some (vz 0), some (vz 0)] [vj (0 * 4294967296 + 0)] _
        refine ab_lret rfl d_PR_addPair_49 ?_
        rw [hQ]; exact ⟨_, _, _, _, _, _, rfl, hfr, hlen, hsl, hq, hki, hne, hot, (by omega), (by omega), (by exact hp_), (by exact kext.rf)⟩
      · cases hv
        have hra := hfk.get hra (by simp only [List.mem_cons, List.not_mem_nil, or_false]; omega)
        have hfr := hfr.tr hfk (by simp)
        have hlen := hlk.trans hlen
        have hsl := hsk.trans hsl
        have hq := hNq
        have hki := hNki
        have hne := hNne
        have hot := hNot
        change ab_W _ _ _ G12 40 [some (vR q), some (vz 7), some (vj w), none, some (vz vl), some (vz 0), none] [vz cnt] _
        exfalso; omega
    · refine ab_iload d_PR_addPair_24 rfl ?_
      refine ab_goto (tgt := 40) d_PR_addPair_26 (by decide) ?_
      refine ab_istore d_PR_addPair_40 (Nat.le_of_ble_eq_true rfl) (Nat.le_of_ble_eq_true rfl) rfl ?_
      change ab_W _ _ _ G 42 [some (vR q), some (vz 7), some (vj w), none, some (vz vl), some (vz 0), some (vz 0)] [] _
      refine ab_iload d_PR_addPair_42 rfl ?_
      refine ab_iload d_PR_addPair_44 rfl ?_
      refine ab_callS (d' := d - 1) (as := [vz 0, vz 0]) (st := []) (z_PR_pair (o := o) (f0 := 0) (u0 := 0) (by omega)) (fun oc G2 h => by rcases h with ⟨h, _⟩ <;> exact ⟨_, h⟩) (by omega) m_PR_pair ml_PR_88 st_PR_pair (Nat.le_of_ble_eq_true rfl) d_PR_addPair_46 rfl ?_
      intro v G19 hq
      rcases hq with ⟨hv, hGe⟩
      cases hv
      rw [hGe]
      change ab_W _ _ _ G 49 [some (vR q), some (vz 7), some (vj w), none, some (vz vl), some (vz 0), some (vz 0)] [vj (0 * 4294967296 + 0)] _
      refine ab_lret rfl d_PR_addPair_49 ?_
      rw [hQ]; exact ⟨_, _, _, _, _, _, rfl, hfr, hlen, hsl, hq, hki, hne, hot, (by omega), (by omega), (by exact hp_), (by exact kext.rf)⟩
  · cases hv
    have hra := hfk.get hra (by simp only [List.mem_cons, List.not_mem_nil, or_false]; omega)
    have hfr := hfr.tr hfk (by simp)
    have hlen := hlk.trans hlen
    have hsl := hsk.trans hsl
    have hq := hNq
    have hki := hNki
    have hne := hNne
    have hot := hNot
    change ab_W _ _ _ G2 11 [some (vR q), some (vz 7), some (vj w), none, some (vz vl), none, none] [vz cnt] _
    have hp20 := prok_add (k := 7) (x := (w / 4294967296)) (v := vl) hp_ (by omega) (by omega) (by omega) (by omega) (by omega) (fun t => absurd t (by decide)) (fun t => by omega) (fun t => absurd t (by decide)) (fun t => absurd t (by decide)) (fun t => absurd t (by decide))
    obtain ⟨K20, eK20⟩ : ∃ z : Int → Int, z = zu K cnt 7 := ⟨_, rfl⟩
    have hki : cc o G2 ki (lq + 1) (za 808 K20) := by rw [← eK20.symm]; exact hki
    obtain ⟨N20, eN20⟩ : ∃ z : Int → Int, z = zu N cnt (w / 4294967296) := ⟨_, rfl⟩
    have hne : cc o G2 ne (lq + 2) (za 808 N20) := by rw [← eN20.symm]; exact hne
    obtain ⟨O20, eO20⟩ : ∃ z : Int → Int, z = zu O cnt vl := ⟨_, rfl⟩
    have hot : cc o G2 ot (lq + 3) (za 808 O20) := by rw [← eO20.symm]; exact hot
    rw [← eK20, ← eN20, ← eO20] at hp20
    have hkx20 : kext K K20 cnt := by rw [eK20]; exact kext.zu (Int.le_refl _)
    have hks20 : K20 cnt = 7 := by rw [eK20]; exact zu_self _ _ _
    change ab_W _ _ _ G2 11 [some (vR q), some (vz 7), some (vj w), none, some (vz vl), none, none] [vz cnt] _
    refine ab_istore d_PR_addPair_11 (Nat.le_of_ble_eq_true rfl) (Nat.le_of_ble_eq_true rfl) rfl ?_
    change ab_W _ _ _ G2 13 [some (vR q), some (vz 7), some (vj w), none, some (vz vl), some (vz cnt), none] [] _
    refine ab_lload_n d_PR_addPair_13 rfl ?_
    refine ab_callS (d' := d - 1) (as := [vj w]) (st := []) (z_PR_fresh (o := o) (w := w) (by omega)) (fun oc G2 h => by rcases h with ⟨h, _⟩ <;> exact ⟨_, h⟩) (by omega) m_PR_fresh ml_PR_96 st_PR_fresh (Nat.le_of_ble_eq_true rfl) d_PR_addPair_14 rfl ?_
    intro v G21 hq
    rcases hq with ⟨hv, hGe⟩
    cases hv
    rw [hGe]
    change ab_W _ _ _ G2 17 [some (vR q), some (vz 7), some (vj w), none, some (vz vl), some (vz cnt), none] [vz (w / 4294967296)] _
    refine ab_lload_n d_PR_addPair_17 rfl ?_
    refine ab_callS (d' := d - 1) (as := [vj w]) (st := [vz (w / 4294967296)]) (z_PR_used (o := o) (w := w) (by omega)) (fun oc G2 h => by rcases h with ⟨h, _⟩ <;> exact ⟨_, h⟩) (by omega) m_PR_used ml_PR_124 st_PR_used (Nat.le_of_ble_eq_true rfl) d_PR_addPair_18 rfl ?_
    intro v G22 hq
    rcases hq with ⟨hv, hGe⟩
    cases hv
    rw [hGe]
    change ab_W _ _ _ G2 21 [some (vR q), some (vz 7), some (vj w), none, some (vz vl), some (vz cnt), none] [vz (w % 4294967296), vz (w / 4294967296)] _
    refine zz_icmp_ne (tgt := 29) d_PR_addPair_21 (by decide) (by omega) (by omega) (fun c23 => ?_) (fun c23 => ?_)
    · refine ab_aload_n d_PR_addPair_29 rfl ?_
      refine ab_iload_n d_PR_addPair_30 rfl ?_
      refine ab_lload_n d_PR_addPair_31 rfl ?_
      refine ab_callS (d' := d - 1) (as := [vj w]) (st := [vz 7, vR q]) (z_PR_used (o := o) (w := w) (by omega)) (fun oc G2 h => by rcases h with ⟨h, _⟩ <;> exact ⟨_, h⟩) (by omega) m_PR_used ml_PR_124 st_PR_used (Nat.le_of_ble_eq_true rfl) d_PR_addPair_32 rfl ?_
      intro v G24 hq
      rcases hq with ⟨hv, hGe⟩
      cases hv
      rw [hGe]
      change ab_W _ _ _ G2 35 [some (vR q), some (vz 7), some (vj w), none, some (vz vl), some (vz cnt), none] [vz (w % 4294967296), vz 7, vR q] _
      refine ab_iload d_PR_addPair_35 rfl ?_
      refine ab_callV (d' := d - 1) (as := [vz 7, vz (w % 4294967296), vz vl]) (st := []) (r := _) (z_PR_add (o := o) (q := q) (lq := lq) (ki := ki) (ne := ne) (ot := ot) (cnt := (cnt + 1)) (fi := fi) (la := la24) (ra := ra) (ru := ru) (gr := gr) (wi := wi) (sz := sz) (fl := fl) (ve := ve) (mi := mi) (na := na) (nl := nl) (K := K20) (N := N20) (O := O20) (k0 := 7) (x0 := (w % 4294967296)) (v0 := vl) hq hki hne hot (by omega) (by omega) (by omega)) (fun oc G2 h => by rcases h with ⟨h, _⟩ | ⟨_, h, _⟩ <;> exact ⟨_, h⟩) (by omega) m_PR_add ml_PR_84 im_PR_add se_PR_add c_PR hq.2.2 (Nat.le_of_ble_eq_true rfl) d_PR_addPair_37 rfl ?_
      intro v G25 hq
      rcases hq with ⟨hv, hGe, hq26⟩ | ⟨la227, hv, hfk, hlk, hsk, hNq, hNki, hNne, hNot, hq28, hq29, hq30⟩
      · cases hv
        rw [hGe]
        change ab_W _ _ _ G2 40 [some (vR q), some (vz 7), some (vj w), none, some (vz vl), some (vz cnt), none] [vz 0] _
        refine ab_istore d_PR_addPair_40 (Nat.le_of_ble_eq_true rfl) (Nat.le_of_ble_eq_true rfl) rfl ?_
        change ab_W _ _ _ G2 42 [some (vR q), some (vz 7), some (vj w), none, some (vz vl), some (vz cnt), some (vz 0)] [] _
        refine ab_iload d_PR_addPair_42 rfl ?_
        refine ab_iload d_PR_addPair_44 rfl ?_
        refine ab_callS (d' := d - 1) (as := [vz cnt, vz 0]) (st := []) (z_PR_pair (o := o) (f0 := cnt) (u0 := 0) (by omega)) (fun oc G2 h => by rcases h with ⟨h, _⟩ <;> exact ⟨_, h⟩) (by omega) m_PR_pair ml_PR_88 st_PR_pair (Nat.le_of_ble_eq_true rfl) d_PR_addPair_46 rfl ?_
        intro v G31 hq
        rcases hq with ⟨hv, hGe⟩
        cases hv
        rw [hGe]
        change ab_W _ _ _ G2 49 [some (vR q), some (vz 7), some (vj w), none, some (vz vl), some (vz cnt), some (vz 0)] [vj (cnt * 4294967296 + 0)] _
        refine ab_lret rfl d_PR_addPair_49 ?_
        rw [hQ]; exact ⟨_, _, _, _, _, _, rfl, hfr, hlen, hsl, hq, hki, hne, hot, (by omega), (by omega), (by exact hp20), (by exact hkx20)⟩
      · cases hv
        have hra := hfk.get hra (by simp only [List.mem_cons, List.not_mem_nil, or_false]; omega)
        have hfr := hfr.tr hfk (by simp)
        have hlen := hlk.trans hlen
        have hsl := hsk.trans hsl
        have hq := hNq
        have hki := hNki
        have hne := hNne
        have hot := hNot
        change ab_W _ _ _ G25 40 [some (vR q), some (vz 7), some (vj w), none, some (vz vl), some (vz cnt), none] [vz (cnt + 1)] _
        have hp32 := prok_add (k := 7) (x := (w % 4294967296)) (v := vl) hp20 (by omega) (by omega) (by omega) (by omega) (by omega) (fun t => absurd t (by decide)) (fun t => by omega) (fun t => absurd t (by decide)) (fun t => absurd t (by decide)) (fun t => absurd t (by decide))
        obtain ⟨K32, eK32⟩ : ∃ z : Int → Int, z = zu K20 (cnt + 1) 7 := ⟨_, rfl⟩
        have hki : cc o G25 ki (lq + 1) (za 808 K32) := by rw [← eK32.symm]; exact hki
        obtain ⟨N32, eN32⟩ : ∃ z : Int → Int, z = zu N20 (cnt + 1) (w % 4294967296) := ⟨_, rfl⟩
        have hne : cc o G25 ne (lq + 2) (za 808 N32) := by rw [← eN32.symm]; exact hne
        obtain ⟨O32, eO32⟩ : ∃ z : Int → Int, z = zu O20 (cnt + 1) vl := ⟨_, rfl⟩
        have hot : cc o G25 ot (lq + 3) (za 808 O32) := by rw [← eO32.symm]; exact hot
        rw [← eK32, ← eN32, ← eO32] at hp32
        have hkx32 : kext K20 K32 (cnt + 1) := by rw [eK32]; exact kext.zu (Int.le_refl _)
        have hks32 : K32 (cnt + 1) = 7 := by rw [eK32]; exact zu_self _ _ _
        change ab_W _ _ _ G25 40 [some (vR q), some (vz 7), some (vj w), none, some (vz vl), some (vz cnt), none] [vz (cnt + 1)] _
        refine ab_istore d_PR_addPair_40 (Nat.le_of_ble_eq_true rfl) (Nat.le_of_ble_eq_true rfl) rfl ?_
        change ab_W _ _ _ G25 42 [some (vR q), some (vz 7), some (vj w), none, some (vz vl), some (vz cnt), some (vz (cnt + 1))] [] _
        refine ab_iload d_PR_addPair_42 rfl ?_
        refine ab_iload d_PR_addPair_44 rfl ?_
        refine ab_callS (d' := d - 1) (as := [vz cnt, vz (cnt + 1)]) (st := []) (z_PR_pair (o := o) (f0 := cnt) (u0 := (cnt + 1)) (by omega)) (fun oc G2 h => by rcases h with ⟨h, _⟩ <;> exact ⟨_, h⟩) (by omega) m_PR_pair ml_PR_88 st_PR_pair (Nat.le_of_ble_eq_true rfl) d_PR_addPair_46 rfl ?_
        intro v G33 hq
        rcases hq with ⟨hv, hGe⟩
        cases hv
        rw [hGe]
        change ab_W _ _ _ G25 49 [some (vR q), some (vz 7), some (vj w), none, some (vz vl), some (vz cnt), some (vz (cnt + 1))] [vj (cnt * 4294967296 + (cnt + 1))] _
        refine ab_lret rfl d_PR_addPair_49 ?_
        rw [hQ]; exact ⟨_, _, _, _, _, _, rfl, hfr, hlen, hsl, hq, hki, hne, hot, (by omega), (by omega), (by exact hp32), (by exact (hkx20.tr hkx32 (by omega)))⟩
    · refine ab_iload d_PR_addPair_24 rfl ?_
      refine ab_goto (tgt := 40) d_PR_addPair_26 (by decide) ?_
      refine ab_istore d_PR_addPair_40 (Nat.le_of_ble_eq_true rfl) (Nat.le_of_ble_eq_true rfl) rfl ?_
      change ab_W _ _ _ G2 42 [some (vR q), some (vz 7), some (vj w), none, some (vz vl), some (vz cnt), some (vz cnt)] [] _
      refine ab_iload d_PR_addPair_42 rfl ?_
      refine ab_iload d_PR_addPair_44 rfl ?_
      refine ab_callS (d' := d - 1) (as := [vz cnt, vz cnt]) (st := []) (z_PR_pair (o := o) (f0 := cnt) (u0 := cnt) (by omega)) (fun oc G2 h => by rcases h with ⟨h, _⟩ <;> exact ⟨_, h⟩) (by omega) m_PR_pair ml_PR_88 st_PR_pair (Nat.le_of_ble_eq_true rfl) d_PR_addPair_46 rfl ?_
      intro v G34 hq
      rcases hq with ⟨hv, hGe⟩
      cases hv
      rw [hGe]
      change ab_W _ _ _ G2 49 [some (vR q), some (vz 7), some (vj w), none, some (vz vl), some (vz cnt), some (vz cnt)] [vj (cnt * 4294967296 + cnt)] _
      refine ab_lret rfl d_PR_addPair_49 ?_
      rw [hQ]; exact ⟨_, _, _, _, _, _, rfl, hfr, hlen, hsl, hq, hki, hne, hot, (by omega), (by omega), (by exact hp20), (by exact hkx20)⟩
set_option maxRecDepth 100000 in
set_option maxHeartbeats 4000000 in
theorem za_PR_addPair {X : ab_X} {d : Nat} {o : Nat → Nat} {G : ab_G} {q : Nat} {lq : Nat} {ki : Nat} {ne : Nat} {ot : Nat} {cnt : Int} {fi : Int} {la : Int} {ra : Nat} {ru : Int} {gr : Int} {wi : Int} {sz : Int} {fl : Int} {ve : Int} {mi : Int} {na : Nat} {nl : Nat} {K : Int → Int} {N : Int → Int} {O : Int → Int} {RR : Int → Int} {nr : Nat} {w : Int} {vl : Int} (hq : cc o G q lq (ab_ob 5 [vR ki, vR ne, vR ot, vz cnt, vz fi, vz la, vR ra, vz ru, vz gr, vz wi, vz sz, vz fl, vz ve, vz mi, vR na, vR nl])) (hki : cc o G ki (lq + 1) (za 808 K)) (hne : cc o G ne (lq + 2) (za 808 N)) (hot : cc o G ot (lq + 3) (za 808 O)) (hra : cc o G ra (lq + 4) (za nr RR)) (n18 : ab_n0 = 18) (cq : 100 ≤ lq ∧ 2 ≤ cnt ∧ cnt ≤ 808 ∧ 0 ≤ la ∧ la ≤ 1) (hp_ : prok K N O RR cnt ru wi) (cw : 0 ≤ w ∧ w / 4294967296 < cnt ∧ w % 4294967296 < cnt) (cv : 0 ≤ vl ∧ vl ≤ 5) (hd : 1 ≤ d) : ab_F X d y_PR_addPair (.code y_PR_addPair b_PR_addPair 7 (some (.long))) [vR q, vz 3, vj w, vz vl] G (fun oc G2 => ∃ w2 : Int, ∃ cnt2 : Int, ∃ la2 : Int, ∃ K2 : Int → Int, ∃ N2 : Int → Int, ∃ O2 : Int → Int, oc = .returned (some (vj w2)) ∧ fx o o [lq, (lq + 1), (lq + 2), (lq + 3)] G G2 ∧ G2.length = G.length ∧ ab_slots G2 = ab_slots G ∧ cc o G2 q lq (ab_ob 5 [vR ki, vR ne, vR ot, vz cnt2, vz fi, vz la2, vR ra, vz ru, vz gr, vz wi, vz sz, vz fl, vz ve, vz mi, vR na, vR nl]) ∧ cc o G2 ki (lq + 1) (za 808 K2) ∧ cc o G2 ne (lq + 2) (za 808 N2) ∧ cc o G2 ot (lq + 3) (za 808 O2) ∧ (cnt ≤ cnt2 ∧ cnt2 ≤ 808 ∧ 0 ≤ la2 ∧ la2 ≤ 1) ∧ (0 ≤ w2 ∧ w2 / 4294967296 < cnt2 ∧ w2 % 4294967296 < cnt2) ∧ (prok K2 N2 O2 RR cnt2 ru wi) ∧ (kext K K2 cnt)) := by
  refine ab_F_of (by decide +kernel) (Nat.le_of_ble_eq_true rfl) ?_
  obtain ⟨Q, hQ⟩ : ∃ z : Outcome → ab_G → Prop, z = (fun oc G2 => ∃ w2 : Int, ∃ cnt2 : Int, ∃ la2 : Int, ∃ K2 : Int → Int, ∃ N2 : Int → Int, ∃ O2 : Int → Int, oc = .returned (some (vj w2)) ∧ fx o o [lq, (lq + 1), (lq + 2), (lq + 3)] G G2 ∧ G2.length = G.length ∧ ab_slots G2 = ab_slots G ∧ cc o G2 q lq (ab_ob 5 [vR ki, vR ne, vR ot, vz cnt2, vz fi, vz la2, vR ra, vz ru, vz gr, vz wi, vz sz, vz fl, vz ve, vz mi, vR na, vR nl]) ∧ cc o G2 ki (lq + 1) (za 808 K2) ∧ cc o G2 ne (lq + 2) (za 808 N2) ∧ cc o G2 ot (lq + 3) (za 808 O2) ∧ (cnt ≤ cnt2 ∧ cnt2 ≤ 808 ∧ 0 ≤ la2 ∧ la2 ≤ 1) ∧ (0 ≤ w2 ∧ w2 / 4294967296 < cnt2 ∧ w2 % 4294967296 < cnt2) ∧ (prok K2 N2 O2 RR cnt2 ru wi) ∧ (kext K K2 cnt)) := ⟨_, rfl⟩
  rw [← hQ]
  change ab_W X (ab_pl y_PR_addPair b_PR_addPair 7 (some (.long))) d G 0 [some (vR q), some (vz 3), some (vj w), none, some (vz vl), none, none] [] Q
  have hfr : fx o o [lq, (lq + 1), (lq + 2), (lq + 3)] G G := fx.rf
  have hlen : G.length = G.length := rfl
  have hsl : ab_slots G = ab_slots G := rfl
  refine ab_aload_n d_PR_addPair_0 rfl ?_
  refine ab_iload_n d_PR_addPair_1 rfl ?_
  refine ab_lload_n d_PR_addPair_2 rfl ?_
  refine ab_callS (d' := d - 1) (as := [vj w]) (st := [vz 3, vR q]) (z_PR_fresh (o := o) (w := w) (by omega)) (fun oc G2 h => by rcases h with ⟨h, _⟩ <;> exact ⟨_, h⟩) (by omega) m_PR_fresh ml_PR_96 st_PR_fresh (Nat.le_of_ble_eq_true rfl) d_PR_addPair_3 rfl ?_
  intro v G1 hq
  rcases hq with ⟨hv, hGe⟩
  cases hv
  rw [hGe]
  change ab_W _ _ _ G 6 [some (vR q), some (vz 3), some (vj w), none, some (vz vl), none, none] [vz (w / 4294967296), vz 3, vR q] _
  refine ab_iload d_PR_addPair_6 rfl ?_
  refine ab_callV (d' := d - 1) (as := [vz 3, vz (w / 4294967296), vz vl]) (st := []) (r := _) (z_PR_add (o := o) (q := q) (lq := lq) (ki := ki) (ne := ne) (ot := ot) (cnt := cnt) (fi := fi) (la := la) (ra := ra) (ru := ru) (gr := gr) (wi := wi) (sz := sz) (fl := fl) (ve := ve) (mi := mi) (na := na) (nl := nl) (K := K) (N := N) (O := O) (k0 := 3) (x0 := (w / 4294967296)) (v0 := vl) hq hki hne hot (by omega) (by omega) (by omega)) (fun oc G2 h => by rcases h with ⟨h, _⟩ | ⟨_, h, _⟩ <;> exact ⟨_, h⟩) (by omega) m_PR_add ml_PR_84 im_PR_add se_PR_add c_PR hq.2.2 (Nat.le_of_ble_eq_true rfl) d_PR_addPair_8 rfl ?_
  intro v G2 hq
  rcases hq with ⟨hv, hGe, hq3⟩ | ⟨la24, hv, hfk, hlk, hsk, hNq, hNki, hNne, hNot, hq5, hq6, hq7⟩
  · cases hv
    rw [hGe]
    change ab_W _ _ _ G 11 [some (vR q), some (vz 3), some (vj w), none, some (vz vl), none, none] [vz 0] _
    refine ab_istore d_PR_addPair_11 (Nat.le_of_ble_eq_true rfl) (Nat.le_of_ble_eq_true rfl) rfl ?_
    change ab_W _ _ _ G 13 [some (vR q), some (vz 3), some (vj w), none, some (vz vl), some (vz 0), none] [] _
    refine ab_lload_n d_PR_addPair_13 rfl ?_
    refine ab_callS (d' := d - 1) (as := [vj w]) (st := []) (z_PR_fresh (o := o) (w := w) (by omega)) (fun oc G2 h => by rcases h with ⟨h, _⟩ <;> exact ⟨_, h⟩) (by omega) m_PR_fresh ml_PR_96 st_PR_fresh (Nat.le_of_ble_eq_true rfl) d_PR_addPair_14 rfl ?_
    intro v G8 hq
    rcases hq with ⟨hv, hGe⟩
    cases hv
    rw [hGe]
    change ab_W _ _ _ G 17 [some (vR q), some (vz 3), some (vj w), none, some (vz vl), some (vz 0), none] [vz (w / 4294967296)] _
    refine ab_lload_n d_PR_addPair_17 rfl ?_
    refine ab_callS (d' := d - 1) (as := [vj w]) (st := [vz (w / 4294967296)]) (z_PR_used (o := o) (w := w) (by omega)) (fun oc G2 h => by rcases h with ⟨h, _⟩ <;> exact ⟨_, h⟩) (by omega) m_PR_used ml_PR_124 st_PR_used (Nat.le_of_ble_eq_true rfl) d_PR_addPair_18 rfl ?_
    intro v G9 hq
    rcases hq with ⟨hv, hGe⟩
    cases hv
    rw [hGe]
    change ab_W _ _ _ G 21 [some (vR q), some (vz 3), some (vj w), none, some (vz vl), some (vz 0), none] [vz (w % 4294967296), vz (w / 4294967296)] _
    refine zz_icmp_ne (tgt := 29) d_PR_addPair_21 (by decide) (by omega) (by omega) (fun c10 => ?_) (fun c10 => ?_)
    · refine ab_aload_n d_PR_addPair_29 rfl ?_
      refine ab_iload_n d_PR_addPair_30 rfl ?_
      refine ab_lload_n d_PR_addPair_31 rfl ?_
      refine ab_callS (d' := d - 1) (as := [vj w]) (st := [vz 3, vR q]) (z_PR_used (o := o) (w := w) (by omega)) (fun oc G2 h => by rcases h with ⟨h, _⟩ <;> exact ⟨_, h⟩) (by omega) m_PR_used ml_PR_124 st_PR_used (Nat.le_of_ble_eq_true rfl) d_PR_addPair_32 rfl ?_
      intro v G11 hq
      rcases hq with ⟨hv, hGe⟩
      cases hv
      rw [hGe]
      change ab_W _ _ _ G 35 [some (vR q), some (vz 3), some (vj w), none, some (vz vl), some (vz 0), none] [vz (w % 4294967296), vz 3, vR q] _
      refine ab_iload d_PR_addPair_35 rfl ?_
      refine ab_callV (d' := d - 1) (as := [vz 3, vz (w % 4294967296), vz vl]) (st := []) (r := _) (z_PR_add (o := o) (q := q) (lq := lq) (ki := ki) (ne := ne) (ot := ot) (cnt := cnt) (fi := fi) (la := la) (ra := ra) (ru := ru) (gr := gr) (wi := wi) (sz := sz) (fl := fl) (ve := ve) (mi := mi) (na := na) (nl := nl) (K := K) (N := N) (O := O) (k0 := 3) (x0 := (w % 4294967296)) (v0 := vl) hq hki hne hot (by omega) (by omega) (by omega)) (fun oc G2 h => by rcases h with ⟨h, _⟩ | ⟨_, h, _⟩ <;> exact ⟨_, h⟩) (by omega) m_PR_add ml_PR_84 im_PR_add se_PR_add c_PR hq.2.2 (Nat.le_of_ble_eq_true rfl) d_PR_addPair_37 rfl ?_
      intro v G12 hq
      rcases hq with ⟨hv, hGe, hq13⟩ | ⟨la214, hv, hfk, hlk, hsk, hNq, hNki, hNne, hNot, hq15, hq16, hq17⟩
      · cases hv
        rw [hGe]
        change ab_W _ _ _ G 40 [some (vR q), some (vz 3), some (vj w), none, some (vz vl), some (vz 0), none] [vz 0] _
        refine ab_istore d_PR_addPair_40 (Nat.le_of_ble_eq_true rfl) (Nat.le_of_ble_eq_true rfl) rfl ?_
        change ab_W _ _ _ G 42 [some (vR q), some (vz 3), some (vj w), none, some (vz vl), some (vz 0), some (vz 0)] [] _
        refine ab_iload d_PR_addPair_42 rfl ?_
        refine ab_iload d_PR_addPair_44 rfl ?_
        refine ab_callS (d' := d - 1) (as := [vz 0, vz 0]) (st := []) (z_PR_pair (o := o) (f0 := 0) (u0 := 0) (by omega)) (fun oc G2 h => by rcases h with ⟨h, _⟩ <;> exact ⟨_, h⟩) (by omega) m_PR_pair ml_PR_88 st_PR_pair (Nat.le_of_ble_eq_true rfl) d_PR_addPair_46 rfl ?_
        intro v G18 hq
        rcases hq with ⟨hv, hGe⟩
        cases hv
        rw [hGe]
        change ab_W _ _ _ G 49 [some (vR q), some (vz 3), some (vj w), none, some (vz vl), some (vz 0), some (vz 0)] [vj (0 * 4294967296 + 0)] _
        refine ab_lret rfl d_PR_addPair_49 ?_
        rw [hQ]; exact ⟨_, _, _, _, _, _, rfl, hfr, hlen, hsl, hq, hki, hne, hot, (by omega), (by omega), (by exact hp_), (by exact kext.rf)⟩
      · cases hv
        have hra := hfk.get hra (by simp only [List.mem_cons, List.not_mem_nil, or_false]; omega)
        have hfr := hfr.tr hfk (by simp)
        have hlen := hlk.trans hlen
        have hsl := hsk.trans hsl
        have hq := hNq
        have hki := hNki
        have hne := hNne
        have hot := hNot
        change ab_W _ _ _ G12 40 [some (vR q), some (vz 3), some (vj w), none, some (vz vl), some (vz 0), none] [vz cnt] _
        exfalso; omega
    · refine ab_iload d_PR_addPair_24 rfl ?_
      refine ab_goto (tgt := 40) d_PR_addPair_26 (by decide) ?_
      refine ab_istore d_PR_addPair_40 (Nat.le_of_ble_eq_true rfl) (Nat.le_of_ble_eq_true rfl) rfl ?_
      change ab_W _ _ _ G 42 [some (vR q), some (vz 3), some (vj w), none, some (vz vl), some (vz 0), some (vz 0)] [] _
      refine ab_iload d_PR_addPair_42 rfl ?_
      refine ab_iload d_PR_addPair_44 rfl ?_
      refine ab_callS (d' := d - 1) (as := [vz 0, vz 0]) (st := []) (z_PR_pair (o := o) (f0 := 0) (u0 := 0) (by omega)) (fun oc G2 h => by rcases h with ⟨h, _⟩ <;> exact ⟨_, h⟩) (by omega) m_PR_pair ml_PR_88 st_PR_pair (Nat.le_of_ble_eq_true rfl) d_PR_addPair_46 rfl ?_
      intro v G19 hq
      rcases hq with ⟨hv, hGe⟩
      cases hv
      rw [hGe]
      change ab_W _ _ _ G 49 [some (vR q), some (vz 3), some (vj w), none, some (vz vl), some (vz 0), some (vz 0)] [vj (0 * 4294967296 + 0)] _
      refine ab_lret rfl d_PR_addPair_49 ?_
      rw [hQ]; exact ⟨_, _, _, _, _, _, rfl, hfr, hlen, hsl, hq, hki, hne, hot, (by omega), (by omega), (by exact hp_), (by exact kext.rf)⟩
  · cases hv
    have hra := hfk.get hra (by simp only [List.mem_cons, List.not_mem_nil, or_false]; omega)
    have hfr := hfr.tr hfk (by simp)
    have hlen := hlk.trans hlen
    have hsl := hsk.trans hsl
    have hq := hNq
    have hki := hNki
    have hne := hNne
    have hot := hNot
    change ab_W _ _ _ G2 11 [some (vR q), some (vz 3), some (vj w), none, some (vz vl), none, none] [vz cnt] _
    have hp20 := prok_add (k := 3) (x := (w / 4294967296)) (v := vl) hp_ (by omega) (by omega) (by omega) (by omega) (by omega) (fun t => absurd t (by decide)) (fun t => absurd t (by decide)) (fun t => by omega) (fun t => absurd t (by decide)) (fun t => absurd t (by decide))
    obtain ⟨K20, eK20⟩ : ∃ z : Int → Int, z = zu K cnt 3 := ⟨_, rfl⟩
    have hki : cc o G2 ki (lq + 1) (za 808 K20) := by rw [← eK20.symm]; exact hki
    obtain ⟨N20, eN20⟩ : ∃ z : Int → Int, z = zu N cnt (w / 4294967296) := ⟨_, rfl⟩
    have hne : cc o G2 ne (lq + 2) (za 808 N20) := by rw [← eN20.symm]; exact hne
    obtain ⟨O20, eO20⟩ : ∃ z : Int → Int, z = zu O cnt vl := ⟨_, rfl⟩
    have hot : cc o G2 ot (lq + 3) (za 808 O20) := by rw [← eO20.symm]; exact hot
    rw [← eK20, ← eN20, ← eO20] at hp20
    have hkx20 : kext K K20 cnt := by rw [eK20]; exact kext.zu (Int.le_refl _)
    have hks20 : K20 cnt = 3 := by rw [eK20]; exact zu_self _ _ _
    change ab_W _ _ _ G2 11 [some (vR q), some (vz 3), some (vj w), none, some (vz vl), none, none] [vz cnt] _
    refine ab_istore d_PR_addPair_11 (Nat.le_of_ble_eq_true rfl) (Nat.le_of_ble_eq_true rfl) rfl ?_
    change ab_W _ _ _ G2 13 [some (vR q), some (vz 3), some (vj w), none, some (vz vl), some (vz cnt), none] [] _
    refine ab_lload_n d_PR_addPair_13 rfl ?_
    refine ab_callS (d' := d - 1) (as := [vj w]) (st := []) (z_PR_fresh (o := o) (w := w) (by omega)) (fun oc G2 h => by rcases h with ⟨h, _⟩ <;> exact ⟨_, h⟩) (by omega) m_PR_fresh ml_PR_96 st_PR_fresh (Nat.le_of_ble_eq_true rfl) d_PR_addPair_14 rfl ?_
    intro v G21 hq
    rcases hq with ⟨hv, hGe⟩
    cases hv
    rw [hGe]
    change ab_W _ _ _ G2 17 [some (vR q), some (vz 3), some (vj w), none, some (vz vl), some (vz cnt), none] [vz (w / 4294967296)] _
    refine ab_lload_n d_PR_addPair_17 rfl ?_
    refine ab_callS (d' := d - 1) (as := [vj w]) (st := [vz (w / 4294967296)]) (z_PR_used (o := o) (w := w) (by omega)) (fun oc G2 h => by rcases h with ⟨h, _⟩ <;> exact ⟨_, h⟩) (by omega) m_PR_used ml_PR_124 st_PR_used (Nat.le_of_ble_eq_true rfl) d_PR_addPair_18 rfl ?_
    intro v G22 hq
    rcases hq with ⟨hv, hGe⟩
    cases hv
    rw [hGe]
    change ab_W _ _ _ G2 21 [some (vR q), some (vz 3), some (vj w), none, some (vz vl), some (vz cnt), none] [vz (w % 4294967296), vz (w / 4294967296)] _
    refine zz_icmp_ne (tgt := 29) d_PR_addPair_21 (by decide) (by omega) (by omega) (fun c23 => ?_) (fun c23 => ?_)
    · refine ab_aload_n d_PR_addPair_29 rfl ?_
      refine ab_iload_n d_PR_addPair_30 rfl ?_
      refine ab_lload_n d_PR_addPair_31 rfl ?_
      refine ab_callS (d' := d - 1) (as := [vj w]) (st := [vz 3, vR q]) (z_PR_used (o := o) (w := w) (by omega)) (fun oc G2 h => by rcases h with ⟨h, _⟩ <;> exact ⟨_, h⟩) (by omega) m_PR_used ml_PR_124 st_PR_used (Nat.le_of_ble_eq_true rfl) d_PR_addPair_32 rfl ?_
      intro v G24 hq
      rcases hq with ⟨hv, hGe⟩
      cases hv
      rw [hGe]
      change ab_W _ _ _ G2 35 [some (vR q), some (vz 3), some (vj w), none, some (vz vl), some (vz cnt), none] [vz (w % 4294967296), vz 3, vR q] _
      refine ab_iload d_PR_addPair_35 rfl ?_
      refine ab_callV (d' := d - 1) (as := [vz 3, vz (w % 4294967296), vz vl]) (st := []) (r := _) (z_PR_add (o := o) (q := q) (lq := lq) (ki := ki) (ne := ne) (ot := ot) (cnt := (cnt + 1)) (fi := fi) (la := la24) (ra := ra) (ru := ru) (gr := gr) (wi := wi) (sz := sz) (fl := fl) (ve := ve) (mi := mi) (na := na) (nl := nl) (K := K20) (N := N20) (O := O20) (k0 := 3) (x0 := (w % 4294967296)) (v0 := vl) hq hki hne hot (by omega) (by omega) (by omega)) (fun oc G2 h => by rcases h with ⟨h, _⟩ | ⟨_, h, _⟩ <;> exact ⟨_, h⟩) (by omega) m_PR_add ml_PR_84 im_PR_add se_PR_add c_PR hq.2.2 (Nat.le_of_ble_eq_true rfl) d_PR_addPair_37 rfl ?_
      intro v G25 hq
      rcases hq with ⟨hv, hGe, hq26⟩ | ⟨la227, hv, hfk, hlk, hsk, hNq, hNki, hNne, hNot, hq28, hq29, hq30⟩
      · cases hv
        rw [hGe]
        change ab_W _ _ _ G2 40 [some (vR q), some (vz 3), some (vj w), none, some (vz vl), some (vz cnt), none] [vz 0] _
        refine ab_istore d_PR_addPair_40 (Nat.le_of_ble_eq_true rfl) (Nat.le_of_ble_eq_true rfl) rfl ?_
        change ab_W _ _ _ G2 42 [some (vR q), some (vz 3), some (vj w), none, some (vz vl), some (vz cnt), some (vz 0)] [] _
        refine ab_iload d_PR_addPair_42 rfl ?_
        refine ab_iload d_PR_addPair_44 rfl ?_
        refine ab_callS (d' := d - 1) (as := [vz cnt, vz 0]) (st := []) (z_PR_pair (o := o) (f0 := cnt) (u0 := 0) (by omega)) (fun oc G2 h => by rcases h with ⟨h, _⟩ <;> exact ⟨_, h⟩) (by omega) m_PR_pair ml_PR_88 st_PR_pair (Nat.le_of_ble_eq_true rfl) d_PR_addPair_46 rfl ?_
        intro v G31 hq
        rcases hq with ⟨hv, hGe⟩
        cases hv
        rw [hGe]
        change ab_W _ _ _ G2 49 [some (vR q), some (vz 3), some (vj w), none, some (vz vl), some (vz cnt), some (vz 0)] [vj (cnt * 4294967296 + 0)] _
        refine ab_lret rfl d_PR_addPair_49 ?_
        rw [hQ]; exact ⟨_, _, _, _, _, _, rfl, hfr, hlen, hsl, hq, hki, hne, hot, (by omega), (by omega), (by exact hp20), (by exact hkx20)⟩
      · cases hv
        have hra := hfk.get hra (by simp only [List.mem_cons, List.not_mem_nil, or_false]; omega)
        have hfr := hfr.tr hfk (by simp)
        have hlen := hlk.trans hlen
        have hsl := hsk.trans hsl
        have hq := hNq
        have hki := hNki
        have hne := hNne
        have hot := hNot
        change ab_W _ _ _ G25 40 [some (vR q), some (vz 3), some (vj w), none, some (vz vl), some (vz cnt), none] [vz (cnt + 1)] _
        have hp32 := prok_add (k := 3) (x := (w % 4294967296)) (v := vl) hp20 (by omega) (by omega) (by omega) (by omega) (by omega) (fun t => absurd t (by decide)) (fun t => absurd t (by decide)) (fun t => by omega) (fun t => absurd t (by decide)) (fun t => absurd t (by decide))
        obtain ⟨K32, eK32⟩ : ∃ z : Int → Int, z = zu K20 (cnt + 1) 3 := ⟨_, rfl⟩
        have hki : cc o G25 ki (lq + 1) (za 808 K32) := by rw [← eK32.symm]; exact hki
        obtain ⟨N32, eN32⟩ : ∃ z : Int → Int, z = zu N20 (cnt + 1) (w % 4294967296) := ⟨_, rfl⟩
        have hne : cc o G25 ne (lq + 2) (za 808 N32) := by rw [← eN32.symm]; exact hne
        obtain ⟨O32, eO32⟩ : ∃ z : Int → Int, z = zu O20 (cnt + 1) vl := ⟨_, rfl⟩
        have hot : cc o G25 ot (lq + 3) (za 808 O32) := by rw [← eO32.symm]; exact hot
        rw [← eK32, ← eN32, ← eO32] at hp32
        have hkx32 : kext K20 K32 (cnt + 1) := by rw [eK32]; exact kext.zu (Int.le_refl _)
        have hks32 : K32 (cnt + 1) = 3 := by rw [eK32]; exact zu_self _ _ _
        change ab_W _ _ _ G25 40 [some (vR q), some (vz 3), some (vj w), none, some (vz vl), some (vz cnt), none] [vz (cnt + 1)] _
        refine ab_istore d_PR_addPair_40 (Nat.le_of_ble_eq_true rfl) (Nat.le_of_ble_eq_true rfl) rfl ?_
        change ab_W _ _ _ G25 42 [some (vR q), some (vz 3), some (vj w), none, some (vz vl), some (vz cnt), some (vz (cnt + 1))] [] _
        refine ab_iload d_PR_addPair_42 rfl ?_
        refine ab_iload d_PR_addPair_44 rfl ?_
        refine ab_callS (d' := d - 1) (as := [vz cnt, vz (cnt + 1)]) (st := []) (z_PR_pair (o := o) (f0 := cnt) (u0 := (cnt + 1)) (by omega)) (fun oc G2 h => by rcases h with ⟨h, _⟩ <;> exact ⟨_, h⟩) (by omega) m_PR_pair ml_PR_88 st_PR_pair (Nat.le_of_ble_eq_true rfl) d_PR_addPair_46 rfl ?_
        intro v G33 hq
        rcases hq with ⟨hv, hGe⟩
        cases hv
        rw [hGe]
        change ab_W _ _ _ G25 49 [some (vR q), some (vz 3), some (vj w), none, some (vz vl), some (vz cnt), some (vz (cnt + 1))] [vj (cnt * 4294967296 + (cnt + 1))] _
        refine ab_lret rfl d_PR_addPair_49 ?_
        rw [hQ]; exact ⟨_, _, _, _, _, _, rfl, hfr, hlen, hsl, hq, hki, hne, hot, (by omega), (by omega), (by exact hp32), (by exact (hkx20.tr hkx32 (by omega)))⟩
    · refine ab_iload d_PR_addPair_24 rfl ?_
      refine ab_goto (tgt := 40) d_PR_addPair_26 (by decide) ?_
      refine ab_istore d_PR_addPair_40 (Nat.le_of_ble_eq_true rfl) (Nat.le_of_ble_eq_true rfl) rfl ?_
      change ab_W _ _ _ G2 42 [some (vR q), some (vz 3), some (vj w), none, some (vz vl), some (vz cnt), some (vz cnt)] [] _
      refine ab_iload d_PR_addPair_42 rfl ?_
      refine ab_iload d_PR_addPair_44 rfl ?_
      refine ab_callS (d' := d - 1) (as := [vz cnt, vz cnt]) (st := []) (z_PR_pair (o := o) (f0 := cnt) (u0 := cnt) (by omega)) (fun oc G2 h => by rcases h with ⟨h, _⟩ <;> exact ⟨_, h⟩) (by omega) m_PR_pair ml_PR_88 st_PR_pair (Nat.le_of_ble_eq_true rfl) d_PR_addPair_46 rfl ?_
      intro v G34 hq
      rcases hq with ⟨hv, hGe⟩
      cases hv
      rw [hGe]
      change ab_W _ _ _ G2 49 [some (vR q), some (vz 3), some (vj w), none, some (vz vl), some (vz cnt), some (vz cnt)] [vj (cnt * 4294967296 + cnt)] _
      refine ab_lret rfl d_PR_addPair_49 ?_
      rw [hQ]; exact ⟨_, _, _, _, _, _, rfl, hfr, hlen, hsl, hq, hki, hne, hot, (by omega), (by omega), (by exact hp20), (by exact hkx20)⟩
set_option maxRecDepth 100000 in
set_option maxHeartbeats 4000000 in
theorem z_PR_fork {X : ab_X} {d : Nat} {o : Nat → Nat} {G : ab_G} {q : Nat} {lq : Nat} {ki : Nat} {ne : Nat} {ot : Nat} {cnt : Int} {fi : Int} {la : Int} {ra : Nat} {ru : Int} {gr : Int} {wi : Int} {sz : Int} {fl : Int} {ve : Int} {mi : Int} {na : Nat} {nl : Nat} {K : Int → Int} {N : Int → Int} {O : Int → Int} {RR : Int → Int} {nr : Nat} {w : Int} {u : Int} (hq : cc o G q lq (ab_ob 5 [vR ki, vR ne, vR ot, vz cnt, vz fi, vz la, vR ra, vz ru, vz gr, vz wi, vz sz, vz fl, vz ve, vz mi, vR na, vR nl])) (hki : cc o G ki (lq + 1) (za 808 K)) (hne : cc o G ne (lq + 2) (za 808 N)) (hot : cc o G ot (lq + 3) (za 808 O)) (hra : cc o G ra (lq + 4) (za nr RR)) (n18 : ab_n0 = 18) (cq : 100 ≤ lq ∧ 2 ≤ cnt ∧ cnt ≤ 808 ∧ 0 ≤ la ∧ la ≤ 1) (hp_ : prok K N O RR cnt ru wi) (cw : 0 ≤ w ∧ w / 4294967296 < cnt ∧ w % 4294967296 < cnt) (cu : 0 ≤ u ∧ u / 4294967296 < cnt ∧ u % 4294967296 < cnt) (hd : 1 ≤ d) : ab_F X d y_PR_fork (.code y_PR_fork b_PR_fork 7 (some (.long))) [vR q, vj w, vj u] G (fun oc G2 => ∃ w2 : Int, ∃ cnt2 : Int, ∃ la2 : Int, ∃ K2 : Int → Int, ∃ N2 : Int → Int, ∃ O2 : Int → Int, oc = .returned (some (vj w2)) ∧ fx o o [lq, (lq + 1), (lq + 2), (lq + 3)] G G2 ∧ G2.length = G.length ∧ ab_slots G2 = ab_slots G ∧ cc o G2 q lq (ab_ob 5 [vR ki, vR ne, vR ot, vz cnt2, vz fi, vz la2, vR ra, vz ru, vz gr, vz wi, vz sz, vz fl, vz ve, vz mi, vR na, vR nl]) ∧ cc o G2 ki (lq + 1) (za 808 K2) ∧ cc o G2 ne (lq + 2) (za 808 N2) ∧ cc o G2 ot (lq + 3) (za 808 O2) ∧ (cnt ≤ cnt2 ∧ cnt2 ≤ 808 ∧ 0 ≤ la2 ∧ la2 ≤ 1) ∧ (0 ≤ w2 ∧ w2 / 4294967296 < cnt2 ∧ w2 % 4294967296 < cnt2) ∧ (prok K2 N2 O2 RR cnt2 ru wi) ∧ (kext K K2 cnt)) := by
  refine ab_F_of (by decide +kernel) (Nat.le_of_ble_eq_true rfl) ?_
  obtain ⟨Q, hQ⟩ : ∃ z : Outcome → ab_G → Prop, z = (fun oc G2 => ∃ w2 : Int, ∃ cnt2 : Int, ∃ la2 : Int, ∃ K2 : Int → Int, ∃ N2 : Int → Int, ∃ O2 : Int → Int, oc = .returned (some (vj w2)) ∧ fx o o [lq, (lq + 1), (lq + 2), (lq + 3)] G G2 ∧ G2.length = G.length ∧ ab_slots G2 = ab_slots G ∧ cc o G2 q lq (ab_ob 5 [vR ki, vR ne, vR ot, vz cnt2, vz fi, vz la2, vR ra, vz ru, vz gr, vz wi, vz sz, vz fl, vz ve, vz mi, vR na, vR nl]) ∧ cc o G2 ki (lq + 1) (za 808 K2) ∧ cc o G2 ne (lq + 2) (za 808 N2) ∧ cc o G2 ot (lq + 3) (za 808 O2) ∧ (cnt ≤ cnt2 ∧ cnt2 ≤ 808 ∧ 0 ≤ la2 ∧ la2 ≤ 1) ∧ (0 ≤ w2 ∧ w2 / 4294967296 < cnt2 ∧ w2 % 4294967296 < cnt2) ∧ (prok K2 N2 O2 RR cnt2 ru wi) ∧ (kext K K2 cnt)) := ⟨_, rfl⟩
  rw [← hQ]
  change ab_W X (ab_pl y_PR_fork b_PR_fork 7 (some (.long))) d G 0 [some (vR q), some (vj w), none, some (vj u), none, none, none] [] Q
  have hfr : fx o o [lq, (lq + 1), (lq + 2), (lq + 3)] G G := fx.rf
  have hlen : G.length = G.length := rfl
  have hsl : ab_slots G = ab_slots G := rfl
  refine ab_aload_n d_PR_fork_0 rfl ?_
  refine zz_bipush d_PR_fork_1 (by decide) ?_
  refine ab_lload_n d_PR_fork_3 rfl ?_
  refine ab_callS (d' := d - 1) (as := [vj w]) (st := [vz 6, vR q]) (z_PR_fresh (o := o) (w := w) (by omega)) (fun oc G2 h => by rcases h with ⟨h, _⟩ <;> exact ⟨_, h⟩) (by omega) m_PR_fresh ml_PR_96 st_PR_fresh (Nat.le_of_ble_eq_true rfl) d_PR_fork_4 rfl ?_
  intro v G1 hq
  rcases hq with ⟨hv, hGe⟩
  cases hv
  rw [hGe]
  change ab_W _ _ _ G 7 [some (vR q), some (vj w), none, some (vj u), none, none, none] [vz (w / 4294967296), vz 6, vR q] _
  refine ab_lload_n d_PR_fork_7 rfl ?_
  refine ab_callS (d' := d - 1) (as := [vj u]) (st := [vz (w / 4294967296), vz 6, vR q]) (z_PR_fresh (o := o) (w := u) (by omega)) (fun oc G2 h => by rcases h with ⟨h, _⟩ <;> exact ⟨_, h⟩) (by omega) m_PR_fresh ml_PR_96 st_PR_fresh (Nat.le_of_ble_eq_true rfl) d_PR_fork_8 rfl ?_
  intro v G2 hq
  rcases hq with ⟨hv, hGe⟩
  cases hv
  rw [hGe]
  change ab_W _ _ _ G 11 [some (vR q), some (vj w), none, some (vj u), none, none, none] [vz (u / 4294967296), vz (w / 4294967296), vz 6, vR q] _
  refine ab_callV (d' := d - 1) (as := [vz 6, vz (w / 4294967296), vz (u / 4294967296)]) (st := []) (r := _) (z_PR_add (o := o) (q := q) (lq := lq) (ki := ki) (ne := ne) (ot := ot) (cnt := cnt) (fi := fi) (la := la) (ra := ra) (ru := ru) (gr := gr) (wi := wi) (sz := sz) (fl := fl) (ve := ve) (mi := mi) (na := na) (nl := nl) (K := K) (N := N) (O := O) (k0 := 6) (x0 := (w / 4294967296)) (v0 := (u / 4294967296)) hq hki hne hot (by omega) (by omega) (by omega)) (fun oc G2 h => by rcases h with ⟨h, _⟩ | ⟨_, h, _⟩ <;> exact ⟨_, h⟩) (by omega) m_PR_add ml_PR_84 im_PR_add se_PR_add c_PR hq.2.2 (Nat.le_of_ble_eq_true rfl) d_PR_fork_11 rfl ?_
  intro v G3 hq
  rcases hq with ⟨hv, hGe, hq4⟩ | ⟨la25, hv, hfk, hlk, hsk, hNq, hNki, hNne, hNot, hq6, hq7, hq8⟩
  · cases hv
    rw [hGe]
    change ab_W _ _ _ G 14 [some (vR q), some (vj w), none, some (vj u), none, none, none] [vz 0] _
    refine ab_istore d_PR_fork_14 (Nat.le_of_ble_eq_true rfl) (Nat.le_of_ble_eq_true rfl) rfl ?_
    change ab_W _ _ _ G 16 [some (vR q), some (vj w), none, some (vj u), none, some (vz 0), none] [] _
    refine ab_lload_n d_PR_fork_16 rfl ?_
    refine ab_callS (d' := d - 1) (as := [vj w]) (st := []) (z_PR_fresh (o := o) (w := w) (by omega)) (fun oc G2 h => by rcases h with ⟨h, _⟩ <;> exact ⟨_, h⟩) (by omega) m_PR_fresh ml_PR_96 st_PR_fresh (Nat.le_of_ble_eq_true rfl) d_PR_fork_17 rfl ?_
    intro v G9 hq
    rcases hq with ⟨hv, hGe⟩
    cases hv
    rw [hGe]
    change ab_W _ _ _ G 20 [some (vR q), some (vj w), none, some (vj u), none, some (vz 0), none] [vz (w / 4294967296)] _
    refine ab_lload_n d_PR_fork_20 rfl ?_
    refine ab_callS (d' := d - 1) (as := [vj w]) (st := [vz (w / 4294967296)]) (z_PR_used (o := o) (w := w) (by omega)) (fun oc G2 h => by rcases h with ⟨h, _⟩ <;> exact ⟨_, h⟩) (by omega) m_PR_used ml_PR_124 st_PR_used (Nat.le_of_ble_eq_true rfl) d_PR_fork_21 rfl ?_
    intro v G10 hq
    rcases hq with ⟨hv, hGe⟩
    cases hv
    rw [hGe]
    change ab_W _ _ _ G 24 [some (vR q), some (vj w), none, some (vj u), none, some (vz 0), none] [vz (w % 4294967296), vz (w / 4294967296)] _
    refine zz_icmp_ne (tgt := 42) d_PR_fork_24 (by decide) (by omega) (by omega) (fun c11 => ?_) (fun c11 => ?_)
    · refine zz_iconst d_PR_fork_42 ?_
      refine ab_istore d_PR_fork_43 (Nat.le_of_ble_eq_true rfl) (Nat.le_of_ble_eq_true rfl) rfl ?_
      change ab_W _ _ _ G 45 [some (vR q), some (vj w), none, some (vj u), none, some (vz 0), some (vz 0)] [] _
      refine ab_iload d_PR_fork_45 rfl ?_
      refine ab_iload d_PR_fork_47 rfl ?_
      refine zz_if_eq (tgt := 57) d_PR_fork_49 (by decide) (by decide) (fun c12 => ?_) (fun c12 => absurd c12 (by decide))
      refine ab_aload_n d_PR_fork_57 rfl ?_
      refine zz_bipush d_PR_fork_58 (by decide) ?_
      refine ab_lload_n d_PR_fork_60 rfl ?_
      refine ab_callS (d' := d - 1) (as := [vj w]) (st := [vz 6, vR q, vz 0]) (z_PR_used (o := o) (w := w) (by omega)) (fun oc G2 h => by rcases h with ⟨h, _⟩ <;> exact ⟨_, h⟩) (by omega) m_PR_used ml_PR_124 st_PR_used (Nat.le_of_ble_eq_true rfl) d_PR_fork_61 rfl ?_
      intro v G13 hq
      rcases hq with ⟨hv, hGe⟩
      cases hv
      rw [hGe]
      change ab_W _ _ _ G 64 [some (vR q), some (vj w), none, some (vj u), none, some (vz 0), some (vz 0)] [vz (w % 4294967296), vz 6, vR q, vz 0] _
      refine ab_lload_n d_PR_fork_64 rfl ?_
      refine ab_callS (d' := d - 1) (as := [vj u]) (st := [vz (w % 4294967296), vz 6, vR q, vz 0]) (z_PR_used (o := o) (w := u) (by omega)) (fun oc G2 h => by rcases h with ⟨h, _⟩ <;> exact ⟨_, h⟩) (by omega) m_PR_used ml_PR_124 st_PR_used (Nat.le_of_ble_eq_true rfl) d_PR_fork_65 rfl ?_
      intro v G14 hq
      rcases hq with ⟨hv, hGe⟩
      cases hv
      rw [hGe]
      change ab_W _ _ _ G 68 [some (vR q), some (vj w), none, some (vj u), none, some (vz 0), some (vz 0)] [vz (u % 4294967296), vz (w % 4294967296), vz 6, vR q, vz 0] _
      refine ab_callV (d' := d - 1) (as := [vz 6, vz (w % 4294967296), vz (u % 4294967296)]) (st := [vz 0]) (r := _) (z_PR_add (o := o) (q := q) (lq := lq) (ki := ki) (ne := ne) (ot := ot) (cnt := cnt) (fi := fi) (la := la) (ra := ra) (ru := ru) (gr := gr) (wi := wi) (sz := sz) (fl := fl) (ve := ve) (mi := mi) (na := na) (nl := nl) (K := K) (N := N) (O := O) (k0 := 6) (x0 := (w % 4294967296)) (v0 := (u % 4294967296)) hq hki hne hot (by omega) (by omega) (by omega)) (fun oc G2 h => by rcases h with ⟨h, _⟩ | ⟨_, h, _⟩ <;> exact ⟨_, h⟩) (by omega) m_PR_add ml_PR_84 im_PR_add se_PR_add c_PR hq.2.2 (Nat.le_of_ble_eq_true rfl) d_PR_fork_68 rfl ?_
      intro v G15 hq
      rcases hq with ⟨hv, hGe, hq16⟩ | ⟨la217, hv, hfk, hlk, hsk, hNq, hNki, hNne, hNot, hq18, hq19, hq20⟩
      · cases hv
        rw [hGe]
        change ab_W _ _ _ G 71 [some (vR q), some (vj w), none, some (vj u), none, some (vz 0), some (vz 0)] [vz 0, vz 0] _
        refine ab_callS (d' := d - 1) (as := [vz 0, vz 0]) (st := []) (z_PR_pair (o := o) (f0 := 0) (u0 := 0) (by omega)) (fun oc G2 h => by rcases h with ⟨h, _⟩ <;> exact ⟨_, h⟩) (by omega) m_PR_pair ml_PR_88 st_PR_pair (Nat.le_of_ble_eq_true rfl) d_PR_fork_71 rfl ?_
        intro v G21 hq
        rcases hq with ⟨hv, hGe⟩
        cases hv
        rw [hGe]
        change ab_W _ _ _ G 74 [some (vR q), some (vj w), none, some (vj u), none, some (vz 0), some (vz 0)] [vj (0 * 4294967296 + 0)] _
        refine ab_lret rfl d_PR_fork_74 ?_
        rw [hQ]; exact ⟨_, _, _, _, _, _, rfl, hfr, hlen, hsl, hq, hki, hne, hot, (by omega), (by omega), (by exact hp_), (by exact kext.rf)⟩
      · cases hv
        have hra := hfk.get hra (by simp only [List.mem_cons, List.not_mem_nil, or_false]; omega)
        have hfr := hfr.tr hfk (by simp)
        have hlen := hlk.trans hlen
        have hsl := hsk.trans hsl
        have hq := hNq
        have hki := hNki
        have hne := hNne
        have hot := hNot
        change ab_W _ _ _ G15 71 [some (vR q), some (vj w), none, some (vj u), none, some (vz 0), some (vz 0)] [vz cnt, vz 0] _
        exfalso; omega
    · refine ab_lload_n d_PR_fork_27 rfl ?_
      refine ab_callS (d' := d - 1) (as := [vj u]) (st := []) (z_PR_fresh (o := o) (w := u) (by omega)) (fun oc G2 h => by rcases h with ⟨h, _⟩ <;> exact ⟨_, h⟩) (by omega) m_PR_fresh ml_PR_96 st_PR_fresh (Nat.le_of_ble_eq_true rfl) d_PR_fork_28 rfl ?_
      intro v G22 hq
      rcases hq with ⟨hv, hGe⟩
      cases hv
      rw [hGe]
      change ab_W _ _ _ G 31 [some (vR q), some (vj w), none, some (vj u), none, some (vz 0), none] [vz (u / 4294967296)] _
      refine ab_lload_n d_PR_fork_31 rfl ?_
      refine ab_callS (d' := d - 1) (as := [vj u]) (st := [vz (u / 4294967296)]) (z_PR_used (o := o) (w := u) (by omega)) (fun oc G2 h => by rcases h with ⟨h, _⟩ <;> exact ⟨_, h⟩) (by omega) m_PR_used ml_PR_124 st_PR_used (Nat.le_of_ble_eq_true rfl) d_PR_fork_32 rfl ?_
      intro v G23 hq
      rcases hq with ⟨hv, hGe⟩
      cases hv
      rw [hGe]
      change ab_W _ _ _ G 35 [some (vR q), some (vj w), none, some (vj u), none, some (vz 0), none] [vz (u % 4294967296), vz (u / 4294967296)] _
      refine zz_icmp_ne (tgt := 42) d_PR_fork_35 (by decide) (by omega) (by omega) (fun c24 => ?_) (fun c24 => ?_)
      · refine zz_iconst d_PR_fork_42 ?_
        refine ab_istore d_PR_fork_43 (Nat.le_of_ble_eq_true rfl) (Nat.le_of_ble_eq_true rfl) rfl ?_
        change ab_W _ _ _ G 45 [some (vR q), some (vj w), none, some (vj u), none, some (vz 0), some (vz 0)] [] _
        refine ab_iload d_PR_fork_45 rfl ?_
        refine ab_iload d_PR_fork_47 rfl ?_
        refine zz_if_eq (tgt := 57) d_PR_fork_49 (by decide) (by decide) (fun c25 => ?_) (fun c25 => absurd c25 (by decide))
        refine ab_aload_n d_PR_fork_57 rfl ?_
        refine zz_bipush d_PR_fork_58 (by decide) ?_
        refine ab_lload_n d_PR_fork_60 rfl ?_
        refine ab_callS (d' := d - 1) (as := [vj w]) (st := [vz 6, vR q, vz 0]) (z_PR_used (o := o) (w := w) (by omega)) (fun oc G2 h => by rcases h with ⟨h, _⟩ <;> exact ⟨_, h⟩) (by omega) m_PR_used ml_PR_124 st_PR_used (Nat.le_of_ble_eq_true rfl) d_PR_fork_61 rfl ?_
        intro v G26 hq
        rcases hq with ⟨hv, hGe⟩
        cases hv
        rw [hGe]
        change ab_W _ _ _ G 64 [some (vR q), some (vj w), none, some (vj u), none, some (vz 0), some (vz 0)] [vz (w % 4294967296), vz 6, vR q, vz 0] _
        refine ab_lload_n d_PR_fork_64 rfl ?_
        refine ab_callS (d' := d - 1) (as := [vj u]) (st := [vz (w % 4294967296), vz 6, vR q, vz 0]) (z_PR_used (o := o) (w := u) (by omega)) (fun oc G2 h => by rcases h with ⟨h, _⟩ <;> exact ⟨_, h⟩) (by omega) m_PR_used ml_PR_124 st_PR_used (Nat.le_of_ble_eq_true rfl) d_PR_fork_65 rfl ?_
        intro v G27 hq
        rcases hq with ⟨hv, hGe⟩
        cases hv
        rw [hGe]
        change ab_W _ _ _ G 68 [some (vR q), some (vj w), none, some (vj u), none, some (vz 0), some (vz 0)] [vz (u % 4294967296), vz (w % 4294967296), vz 6, vR q, vz 0] _
        refine ab_callV (d' := d - 1) (as := [vz 6, vz (w % 4294967296), vz (u % 4294967296)]) (st := [vz 0]) (r := _) (z_PR_add (o := o) (q := q) (lq := lq) (ki := ki) (ne := ne) (ot := ot) (cnt := cnt) (fi := fi) (la := la) (ra := ra) (ru := ru) (gr := gr) (wi := wi) (sz := sz) (fl := fl) (ve := ve) (mi := mi) (na := na) (nl := nl) (K := K) (N := N) (O := O) (k0 := 6) (x0 := (w % 4294967296)) (v0 := (u % 4294967296)) hq hki hne hot (by omega) (by omega) (by omega)) (fun oc G2 h => by rcases h with ⟨h, _⟩ | ⟨_, h, _⟩ <;> exact ⟨_, h⟩) (by omega) m_PR_add ml_PR_84 im_PR_add se_PR_add c_PR hq.2.2 (Nat.le_of_ble_eq_true rfl) d_PR_fork_68 rfl ?_
        intro v G28 hq
        rcases hq with ⟨hv, hGe, hq29⟩ | ⟨la230, hv, hfk, hlk, hsk, hNq, hNki, hNne, hNot, hq31, hq32, hq33⟩
        · cases hv
          rw [hGe]
          change ab_W _ _ _ G 71 [some (vR q), some (vj w), none, some (vj u), none, some (vz 0), some (vz 0)] [vz 0, vz 0] _
          refine ab_callS (d' := d - 1) (as := [vz 0, vz 0]) (st := []) (z_PR_pair (o := o) (f0 := 0) (u0 := 0) (by omega)) (fun oc G2 h => by rcases h with ⟨h, _⟩ <;> exact ⟨_, h⟩) (by omega) m_PR_pair ml_PR_88 st_PR_pair (Nat.le_of_ble_eq_true rfl) d_PR_fork_71 rfl ?_
          intro v G34 hq
          rcases hq with ⟨hv, hGe⟩
          cases hv
          rw [hGe]
          change ab_W _ _ _ G 74 [some (vR q), some (vj w), none, some (vj u), none, some (vz 0), some (vz 0)] [vj (0 * 4294967296 + 0)] _
          refine ab_lret rfl d_PR_fork_74 ?_
          rw [hQ]; exact ⟨_, _, _, _, _, _, rfl, hfr, hlen, hsl, hq, hki, hne, hot, (by omega), (by omega), (by exact hp_), (by exact kext.rf)⟩
        · cases hv
          have hra := hfk.get hra (by simp only [List.mem_cons, List.not_mem_nil, or_false]; omega)
          have hfr := hfr.tr hfk (by simp)
          have hlen := hlk.trans hlen
          have hsl := hsk.trans hsl
          have hq := hNq
          have hki := hNki
          have hne := hNne
          have hot := hNot
          change ab_W _ _ _ G28 71 [some (vR q), some (vj w), none, some (vj u), none, some (vz 0), some (vz 0)] [vz cnt, vz 0] _
          exfalso; omega
      · refine zz_iconst d_PR_fork_38 ?_
        refine ab_goto (tgt := 43) d_PR_fork_39 (by decide) ?_
        refine ab_istore d_PR_fork_43 (Nat.le_of_ble_eq_true rfl) (Nat.le_of_ble_eq_true rfl) rfl ?_
        change ab_W _ _ _ G 45 [some (vR q), some (vj w), none, some (vj u), none, some (vz 0), some (vz 1)] [] _
        refine ab_iload d_PR_fork_45 rfl ?_
        refine ab_iload d_PR_fork_47 rfl ?_
        refine zz_if_eq (tgt := 57) d_PR_fork_49 (by decide) (by decide) (fun c35 => absurd c35 (by decide)) (fun c35 => ?_)
        refine ab_iload d_PR_fork_52 rfl ?_
        refine ab_goto (tgt := 71) d_PR_fork_54 (by decide) ?_
        refine ab_callS (d' := d - 1) (as := [vz 0, vz 0]) (st := []) (z_PR_pair (o := o) (f0 := 0) (u0 := 0) (by omega)) (fun oc G2 h => by rcases h with ⟨h, _⟩ <;> exact ⟨_, h⟩) (by omega) m_PR_pair ml_PR_88 st_PR_pair (Nat.le_of_ble_eq_true rfl) d_PR_fork_71 rfl ?_
        intro v G36 hq
        rcases hq with ⟨hv, hGe⟩
        cases hv
        rw [hGe]
        change ab_W _ _ _ G 74 [some (vR q), some (vj w), none, some (vj u), none, some (vz 0), some (vz 1)] [vj (0 * 4294967296 + 0)] _
        refine ab_lret rfl d_PR_fork_74 ?_
        rw [hQ]; exact ⟨_, _, _, _, _, _, rfl, hfr, hlen, hsl, hq, hki, hne, hot, (by omega), (by omega), (by exact hp_), (by exact kext.rf)⟩
  · cases hv
    have hra := hfk.get hra (by simp only [List.mem_cons, List.not_mem_nil, or_false]; omega)
    have hfr := hfr.tr hfk (by simp)
    have hlen := hlk.trans hlen
    have hsl := hsk.trans hsl
    have hq := hNq
    have hki := hNki
    have hne := hNne
    have hot := hNot
    change ab_W _ _ _ G3 14 [some (vR q), some (vj w), none, some (vj u), none, none, none] [vz cnt] _
    have hp37 := prok_add (k := 6) (x := (w / 4294967296)) (v := (u / 4294967296)) hp_ (by omega) (by omega) (by omega) (by omega) (by omega) (fun t => by omega) (fun t => absurd t (by decide)) (fun t => absurd t (by decide)) (fun t => absurd t (by decide)) (fun t => absurd t (by decide))
    obtain ⟨K37, eK37⟩ : ∃ z : Int → Int, z = zu K cnt 6 := ⟨_, rfl⟩
    have hki : cc o G3 ki (lq + 1) (za 808 K37) := by rw [← eK37.symm]; exact hki
    obtain ⟨N37, eN37⟩ : ∃ z : Int → Int, z = zu N cnt (w / 4294967296) := ⟨_, rfl⟩
    have hne : cc o G3 ne (lq + 2) (za 808 N37) := by rw [← eN37.symm]; exact hne
    obtain ⟨O37, eO37⟩ : ∃ z : Int → Int, z = zu O cnt (u / 4294967296) := ⟨_, rfl⟩
    have hot : cc o G3 ot (lq + 3) (za 808 O37) := by rw [← eO37.symm]; exact hot
    rw [← eK37, ← eN37, ← eO37] at hp37
    have hkx37 : kext K K37 cnt := by rw [eK37]; exact kext.zu (Int.le_refl _)
    have hks37 : K37 cnt = 6 := by rw [eK37]; exact zu_self _ _ _
    change ab_W _ _ _ G3 14 [some (vR q), some (vj w), none, some (vj u), none, none, none] [vz cnt] _
    refine ab_istore d_PR_fork_14 (Nat.le_of_ble_eq_true rfl) (Nat.le_of_ble_eq_true rfl) rfl ?_
    change ab_W _ _ _ G3 16 [some (vR q), some (vj w), none, some (vj u), none, some (vz cnt), none] [] _
    refine ab_lload_n d_PR_fork_16 rfl ?_
    refine ab_callS (d' := d - 1) (as := [vj w]) (st := []) (z_PR_fresh (o := o) (w := w) (by omega)) (fun oc G2 h => by rcases h with ⟨h, _⟩ <;> exact ⟨_, h⟩) (by omega) m_PR_fresh ml_PR_96 st_PR_fresh (Nat.le_of_ble_eq_true rfl) d_PR_fork_17 rfl ?_
    intro v G38 hq
    rcases hq with ⟨hv, hGe⟩
    cases hv
    rw [hGe]
    change ab_W _ _ _ G3 20 [some (vR q), some (vj w), none, some (vj u), none, some (vz cnt), none] [vz (w / 4294967296)] _
    refine ab_lload_n d_PR_fork_20 rfl ?_
    refine ab_callS (d' := d - 1) (as := [vj w]) (st := [vz (w / 4294967296)]) (z_PR_used (o := o) (w := w) (by omega)) (fun oc G2 h => by rcases h with ⟨h, _⟩ <;> exact ⟨_, h⟩) (by omega) m_PR_used ml_PR_124 st_PR_used (Nat.le_of_ble_eq_true rfl) d_PR_fork_21 rfl ?_
    intro v G39 hq
    rcases hq with ⟨hv, hGe⟩
    cases hv
    rw [hGe]
    change ab_W _ _ _ G3 24 [some (vR q), some (vj w), none, some (vj u), none, some (vz cnt), none] [vz (w % 4294967296), vz (w / 4294967296)] _
    refine zz_icmp_ne (tgt := 42) d_PR_fork_24 (by decide) (by omega) (by omega) (fun c40 => ?_) (fun c40 => ?_)
    · refine zz_iconst d_PR_fork_42 ?_
      refine ab_istore d_PR_fork_43 (Nat.le_of_ble_eq_true rfl) (Nat.le_of_ble_eq_true rfl) rfl ?_
      change ab_W _ _ _ G3 45 [some (vR q), some (vj w), none, some (vj u), none, some (vz cnt), some (vz 0)] [] _
      refine ab_iload d_PR_fork_45 rfl ?_
      refine ab_iload d_PR_fork_47 rfl ?_
      refine zz_if_eq (tgt := 57) d_PR_fork_49 (by decide) (by decide) (fun c41 => ?_) (fun c41 => absurd c41 (by decide))
      refine ab_aload_n d_PR_fork_57 rfl ?_
      refine zz_bipush d_PR_fork_58 (by decide) ?_
      refine ab_lload_n d_PR_fork_60 rfl ?_
      refine ab_callS (d' := d - 1) (as := [vj w]) (st := [vz 6, vR q, vz cnt]) (z_PR_used (o := o) (w := w) (by omega)) (fun oc G2 h => by rcases h with ⟨h, _⟩ <;> exact ⟨_, h⟩) (by omega) m_PR_used ml_PR_124 st_PR_used (Nat.le_of_ble_eq_true rfl) d_PR_fork_61 rfl ?_
      intro v G42 hq
      rcases hq with ⟨hv, hGe⟩
      cases hv
      rw [hGe]
      change ab_W _ _ _ G3 64 [some (vR q), some (vj w), none, some (vj u), none, some (vz cnt), some (vz 0)] [vz (w % 4294967296), vz 6, vR q, vz cnt] _
      refine ab_lload_n d_PR_fork_64 rfl ?_
      refine ab_callS (d' := d - 1) (as := [vj u]) (st := [vz (w % 4294967296), vz 6, vR q, vz cnt]) (z_PR_used (o := o) (w := u) (by omega)) (fun oc G2 h => by rcases h with ⟨h, _⟩ <;> exact ⟨_, h⟩) (by omega) m_PR_used ml_PR_124 st_PR_used (Nat.le_of_ble_eq_true rfl) d_PR_fork_65 rfl ?_
      intro v G43 hq
      rcases hq with ⟨hv, hGe⟩
      cases hv
      rw [hGe]
      change ab_W _ _ _ G3 68 [some (vR q), some (vj w), none, some (vj u), none, some (vz cnt), some (vz 0)] [vz (u % 4294967296), vz (w % 4294967296), vz 6, vR q, vz cnt] _
      refine ab_callV (d' := d - 1) (as := [vz 6, vz (w % 4294967296), vz (u % 4294967296)]) (st := [vz cnt]) (r := _) (z_PR_add (o := o) (q := q) (lq := lq) (ki := ki) (ne := ne) (ot := ot) (cnt := (cnt + 1)) (fi := fi) (la := la25) (ra := ra) (ru := ru) (gr := gr) (wi := wi) (sz := sz) (fl := fl) (ve := ve) (mi := mi) (na := na) (nl := nl) (K := K37) (N := N37) (O := O37) (k0 := 6) (x0 := (w % 4294967296)) (v0 := (u % 4294967296)) hq hki hne hot (by omega) (by omega) (by omega)) (fun oc G2 h => by rcases h with ⟨h, _⟩ | ⟨_, h, _⟩ <;> exact ⟨_, h⟩) (by omega) m_PR_add ml_PR_84 im_PR_add se_PR_add c_PR hq.2.2 (Nat.le_of_ble_eq_true rfl) d_PR_fork_68 rfl ?_
      intro v G44 hq
      rcases hq with ⟨hv, hGe, hq45⟩ | ⟨la246, hv, hfk, hlk, hsk, hNq, hNki, hNne, hNot, hq47, hq48, hq49⟩
      · cases hv
        rw [hGe]
        change ab_W _ _ _ G3 71 [some (vR q), some (vj w), none, some (vj u), none, some (vz cnt), some (vz 0)] [vz 0, vz cnt] _
        refine ab_callS (d' := d - 1) (as := [vz cnt, vz 0]) (st := []) (z_PR_pair (o := o) (f0 := cnt) (u0 := 0) (by omega)) (fun oc G2 h => by rcases h with ⟨h, _⟩ <;> exact ⟨_, h⟩) (by omega) m_PR_pair ml_PR_88 st_PR_pair (Nat.le_of_ble_eq_true rfl) d_PR_fork_71 rfl ?_
        intro v G50 hq
        rcases hq with ⟨hv, hGe⟩
        cases hv
        rw [hGe]
        change ab_W _ _ _ G3 74 [some (vR q), some (vj w), none, some (vj u), none, some (vz cnt), some (vz 0)] [vj (cnt * 4294967296 + 0)] _
        refine ab_lret rfl d_PR_fork_74 ?_
        rw [hQ]; exact ⟨_, _, _, _, _, _, rfl, hfr, hlen, hsl, hq, hki, hne, hot, (by omega), (by omega), (by exact hp37), (by exact hkx37)⟩
      · cases hv
        have hra := hfk.get hra (by simp only [List.mem_cons, List.not_mem_nil, or_false]; omega)
        have hfr := hfr.tr hfk (by simp)
        have hlen := hlk.trans hlen
        have hsl := hsk.trans hsl
        have hq := hNq
        have hki := hNki
        have hne := hNne
        have hot := hNot
        change ab_W _ _ _ G44 71 [some (vR q), some (vj w), none, some (vj u), none, some (vz cnt), some (vz 0)] [vz (cnt + 1), vz cnt] _
        have hp51 := prok_add (k := 6) (x := (w % 4294967296)) (v := (u % 4294967296)) hp37 (by omega) (by omega) (by omega) (by omega) (by omega) (fun t => by omega) (fun t => absurd t (by decide)) (fun t => absurd t (by decide)) (fun t => absurd t (by decide)) (fun t => absurd t (by decide))
        obtain ⟨K51, eK51⟩ : ∃ z : Int → Int, z = zu K37 (cnt + 1) 6 := ⟨_, rfl⟩
        have hki : cc o G44 ki (lq + 1) (za 808 K51) := by rw [← eK51.symm]; exact hki
        obtain ⟨N51, eN51⟩ : ∃ z : Int → Int, z = zu N37 (cnt + 1) (w % 4294967296) := ⟨_, rfl⟩
        have hne : cc o G44 ne (lq + 2) (za 808 N51) := by rw [← eN51.symm]; exact hne
        obtain ⟨O51, eO51⟩ : ∃ z : Int → Int, z = zu O37 (cnt + 1) (u % 4294967296) := ⟨_, rfl⟩
        have hot : cc o G44 ot (lq + 3) (za 808 O51) := by rw [← eO51.symm]; exact hot
        rw [← eK51, ← eN51, ← eO51] at hp51
        have hkx51 : kext K37 K51 (cnt + 1) := by rw [eK51]; exact kext.zu (Int.le_refl _)
        have hks51 : K51 (cnt + 1) = 6 := by rw [eK51]; exact zu_self _ _ _
        change ab_W _ _ _ G44 71 [some (vR q), some (vj w), none, some (vj u), none, some (vz cnt), some (vz 0)] [vz (cnt + 1), vz cnt] _
        refine ab_callS (d' := d - 1) (as := [vz cnt, vz (cnt + 1)]) (st := []) (z_PR_pair (o := o) (f0 := cnt) (u0 := (cnt + 1)) (by omega)) (fun oc G2 h => by rcases h with ⟨h, _⟩ <;> exact ⟨_, h⟩) (by omega) m_PR_pair ml_PR_88 st_PR_pair (Nat.le_of_ble_eq_true rfl) d_PR_fork_71 rfl ?_
        intro v G52 hq
        rcases hq with ⟨hv, hGe⟩
        cases hv
        rw [hGe]
        change ab_W _ _ _ G44 74 [some (vR q), some (vj w), none, some (vj u), none, some (vz cnt), some (vz 0)] [vj (cnt * 4294967296 + (cnt + 1))] _
        refine ab_lret rfl d_PR_fork_74 ?_
        rw [hQ]; exact ⟨_, _, _, _, _, _, rfl, hfr, hlen, hsl, hq, hki, hne, hot, (by omega), (by omega), (by exact hp51), (by exact (hkx37.tr hkx51 (by omega)))⟩
    · refine ab_lload_n d_PR_fork_27 rfl ?_
      refine ab_callS (d' := d - 1) (as := [vj u]) (st := []) (z_PR_fresh (o := o) (w := u) (by omega)) (fun oc G2 h => by rcases h with ⟨h, _⟩ <;> exact ⟨_, h⟩) (by omega) m_PR_fresh ml_PR_96 st_PR_fresh (Nat.le_of_ble_eq_true rfl) d_PR_fork_28 rfl ?_
      intro v G53 hq
      rcases hq with ⟨hv, hGe⟩
      cases hv
      rw [hGe]
      change ab_W _ _ _ G3 31 [some (vR q), some (vj w), none, some (vj u), none, some (vz cnt), none] [vz (u / 4294967296)] _
      refine ab_lload_n d_PR_fork_31 rfl ?_
      refine ab_callS (d' := d - 1) (as := [vj u]) (st := [vz (u / 4294967296)]) (z_PR_used (o := o) (w := u) (by omega)) (fun oc G2 h => by rcases h with ⟨h, _⟩ <;> exact ⟨_, h⟩) (by omega) m_PR_used ml_PR_124 st_PR_used (Nat.le_of_ble_eq_true rfl) d_PR_fork_32 rfl ?_
      intro v G54 hq
      rcases hq with ⟨hv, hGe⟩
      cases hv
      rw [hGe]
      change ab_W _ _ _ G3 35 [some (vR q), some (vj w), none, some (vj u), none, some (vz cnt), none] [vz (u % 4294967296), vz (u / 4294967296)] _
      refine zz_icmp_ne (tgt := 42) d_PR_fork_35 (by decide) (by omega) (by omega) (fun c55 => ?_) (fun c55 => ?_)
      · refine zz_iconst d_PR_fork_42 ?_
        refine ab_istore d_PR_fork_43 (Nat.le_of_ble_eq_true rfl) (Nat.le_of_ble_eq_true rfl) rfl ?_
        change ab_W _ _ _ G3 45 [some (vR q), some (vj w), none, some (vj u), none, some (vz cnt), some (vz 0)] [] _
        refine ab_iload d_PR_fork_45 rfl ?_
        refine ab_iload d_PR_fork_47 rfl ?_
        refine zz_if_eq (tgt := 57) d_PR_fork_49 (by decide) (by decide) (fun c56 => ?_) (fun c56 => absurd c56 (by decide))
        refine ab_aload_n d_PR_fork_57 rfl ?_
        refine zz_bipush d_PR_fork_58 (by decide) ?_
        refine ab_lload_n d_PR_fork_60 rfl ?_
        refine ab_callS (d' := d - 1) (as := [vj w]) (st := [vz 6, vR q, vz cnt]) (z_PR_used (o := o) (w := w) (by omega)) (fun oc G2 h => by rcases h with ⟨h, _⟩ <;> exact ⟨_, h⟩) (by omega) m_PR_used ml_PR_124 st_PR_used (Nat.le_of_ble_eq_true rfl) d_PR_fork_61 rfl ?_
        intro v G57 hq
        rcases hq with ⟨hv, hGe⟩
        cases hv
        rw [hGe]
        change ab_W _ _ _ G3 64 [some (vR q), some (vj w), none, some (vj u), none, some (vz cnt), some (vz 0)] [vz (w % 4294967296), vz 6, vR q, vz cnt] _
        refine ab_lload_n d_PR_fork_64 rfl ?_
        refine ab_callS (d' := d - 1) (as := [vj u]) (st := [vz (w % 4294967296), vz 6, vR q, vz cnt]) (z_PR_used (o := o) (w := u) (by omega)) (fun oc G2 h => by rcases h with ⟨h, _⟩ <;> exact ⟨_, h⟩) (by omega) m_PR_used ml_PR_124 st_PR_used (Nat.le_of_ble_eq_true rfl) d_PR_fork_65 rfl ?_
        intro v G58 hq
        rcases hq with ⟨hv, hGe⟩
        cases hv
        rw [hGe]
        change ab_W _ _ _ G3 68 [some (vR q), some (vj w), none, some (vj u), none, some (vz cnt), some (vz 0)] [vz (u % 4294967296), vz (w % 4294967296), vz 6, vR q, vz cnt] _
        refine ab_callV (d' := d - 1) (as := [vz 6, vz (w % 4294967296), vz (u % 4294967296)]) (st := [vz cnt]) (r := _) (z_PR_add (o := o) (q := q) (lq := lq) (ki := ki) (ne := ne) (ot := ot) (cnt := (cnt + 1)) (fi := fi) (la := la25) (ra := ra) (ru := ru) (gr := gr) (wi := wi) (sz := sz) (fl := fl) (ve := ve) (mi := mi) (na := na) (nl := nl) (K := K37) (N := N37) (O := O37) (k0 := 6) (x0 := (w % 4294967296)) (v0 := (u % 4294967296)) hq hki hne hot (by omega) (by omega) (by omega)) (fun oc G2 h => by rcases h with ⟨h, _⟩ | ⟨_, h, _⟩ <;> exact ⟨_, h⟩) (by omega) m_PR_add ml_PR_84 im_PR_add se_PR_add c_PR hq.2.2 (Nat.le_of_ble_eq_true rfl) d_PR_fork_68 rfl ?_
        intro v G59 hq
        rcases hq with ⟨hv, hGe, hq60⟩ | ⟨la261, hv, hfk, hlk, hsk, hNq, hNki, hNne, hNot, hq62, hq63, hq64⟩
        · cases hv
          rw [hGe]
          change ab_W _ _ _ G3 71 [some (vR q), some (vj w), none, some (vj u), none, some (vz cnt), some (vz 0)] [vz 0, vz cnt] _
          refine ab_callS (d' := d - 1) (as := [vz cnt, vz 0]) (st := []) (z_PR_pair (o := o) (f0 := cnt) (u0 := 0) (by omega)) (fun oc G2 h => by rcases h with ⟨h, _⟩ <;> exact ⟨_, h⟩) (by omega) m_PR_pair ml_PR_88 st_PR_pair (Nat.le_of_ble_eq_true rfl) d_PR_fork_71 rfl ?_
          intro v G65 hq
          rcases hq with ⟨hv, hGe⟩
          cases hv
          rw [hGe]
          change ab_W _ _ _ G3 74 [some (vR q), some (vj w), none, some (vj u), none, some (vz cnt), some (vz 0)] [vj (cnt * 4294967296 + 0)] _
          refine ab_lret rfl d_PR_fork_74 ?_
          rw [hQ]; exact ⟨_, _, _, _, _, _, rfl, hfr, hlen, hsl, hq, hki, hne, hot, (by omega), (by omega), (by exact hp37), (by exact hkx37)⟩
        · cases hv
          have hra := hfk.get hra (by simp only [List.mem_cons, List.not_mem_nil, or_false]; omega)
          have hfr := hfr.tr hfk (by simp)
          have hlen := hlk.trans hlen
          have hsl := hsk.trans hsl
          have hq := hNq
          have hki := hNki
          have hne := hNne
          have hot := hNot
          change ab_W _ _ _ G59 71 [some (vR q), some (vj w), none, some (vj u), none, some (vz cnt), some (vz 0)] [vz (cnt + 1), vz cnt] _
          have hp66 := prok_add (k := 6) (x := (w % 4294967296)) (v := (u % 4294967296)) hp37 (by omega) (by omega) (by omega) (by omega) (by omega) (fun t => by omega) (fun t => absurd t (by decide)) (fun t => absurd t (by decide)) (fun t => absurd t (by decide)) (fun t => absurd t (by decide))
          obtain ⟨K66, eK66⟩ : ∃ z : Int → Int, z = zu K37 (cnt + 1) 6 := ⟨_, rfl⟩
          have hki : cc o G59 ki (lq + 1) (za 808 K66) := by rw [← eK66.symm]; exact hki
          obtain ⟨N66, eN66⟩ : ∃ z : Int → Int, z = zu N37 (cnt + 1) (w % 4294967296) := ⟨_, rfl⟩
          have hne : cc o G59 ne (lq + 2) (za 808 N66) := by rw [← eN66.symm]; exact hne
          obtain ⟨O66, eO66⟩ : ∃ z : Int → Int, z = zu O37 (cnt + 1) (u % 4294967296) := ⟨_, rfl⟩
          have hot : cc o G59 ot (lq + 3) (za 808 O66) := by rw [← eO66.symm]; exact hot
          rw [← eK66, ← eN66, ← eO66] at hp66
          have hkx66 : kext K37 K66 (cnt + 1) := by rw [eK66]; exact kext.zu (Int.le_refl _)
          have hks66 : K66 (cnt + 1) = 6 := by rw [eK66]; exact zu_self _ _ _
          change ab_W _ _ _ G59 71 [some (vR q), some (vj w), none, some (vj u), none, some (vz cnt), some (vz 0)] [vz (cnt + 1), vz cnt] _
          refine ab_callS (d' := d - 1) (as := [vz cnt, vz (cnt + 1)]) (st := []) (z_PR_pair (o := o) (f0 := cnt) (u0 := (cnt + 1)) (by omega)) (fun oc G2 h => by rcases h with ⟨h, _⟩ <;> exact ⟨_, h⟩) (by omega) m_PR_pair ml_PR_88 st_PR_pair (Nat.le_of_ble_eq_true rfl) d_PR_fork_71 rfl ?_
          intro v G67 hq
          rcases hq with ⟨hv, hGe⟩
          cases hv
          rw [hGe]
          change ab_W _ _ _ G59 74 [some (vR q), some (vj w), none, some (vj u), none, some (vz cnt), some (vz 0)] [vj (cnt * 4294967296 + (cnt + 1))] _
          refine ab_lret rfl d_PR_fork_74 ?_
          rw [hQ]; exact ⟨_, _, _, _, _, _, rfl, hfr, hlen, hsl, hq, hki, hne, hot, (by omega), (by omega), (by exact hp66), (by exact (hkx37.tr hkx66 (by omega)))⟩
      · refine zz_iconst d_PR_fork_38 ?_
        refine ab_goto (tgt := 43) d_PR_fork_39 (by decide) ?_
        refine ab_istore d_PR_fork_43 (Nat.le_of_ble_eq_true rfl) (Nat.le_of_ble_eq_true rfl) rfl ?_
        change ab_W _ _ _ G3 45 [some (vR q), some (vj w), none, some (vj u), none, some (vz cnt), some (vz 1)] [] _
        refine ab_iload d_PR_fork_45 rfl ?_
        refine ab_iload d_PR_fork_47 rfl ?_
        refine zz_if_eq (tgt := 57) d_PR_fork_49 (by decide) (by decide) (fun c68 => absurd c68 (by decide)) (fun c68 => ?_)
        refine ab_iload d_PR_fork_52 rfl ?_
        refine ab_goto (tgt := 71) d_PR_fork_54 (by decide) ?_
        refine ab_callS (d' := d - 1) (as := [vz cnt, vz cnt]) (st := []) (z_PR_pair (o := o) (f0 := cnt) (u0 := cnt) (by omega)) (fun oc G2 h => by rcases h with ⟨h, _⟩ <;> exact ⟨_, h⟩) (by omega) m_PR_pair ml_PR_88 st_PR_pair (Nat.le_of_ble_eq_true rfl) d_PR_fork_71 rfl ?_
        intro v G69 hq
        rcases hq with ⟨hv, hGe⟩
        cases hv
        rw [hGe]
        change ab_W _ _ _ G3 74 [some (vR q), some (vj w), none, some (vj u), none, some (vz cnt), some (vz 1)] [vj (cnt * 4294967296 + cnt)] _
        refine ab_lret rfl d_PR_fork_74 ?_
        rw [hQ]; exact ⟨_, _, _, _, _, _, rfl, hfr, hlen, hsl, hq, hki, hne, hot, (by omega), (by omega), (by exact hp37), (by exact hkx37)⟩
set_option maxRecDepth 100000 in
set_option maxHeartbeats 4000000 in
theorem z_PR_once {X : ab_X} {d : Nat} {o : Nat → Nat} {G : ab_G} {q : Nat} {lq : Nat} {ki : Nat} {ne : Nat} {ot : Nat} {cnt : Int} {fi : Int} {la : Int} {ra : Nat} {ru : Int} {gr : Int} {wi : Int} {sz : Int} {fl : Int} {ve : Int} {mi : Int} {na : Nat} {nl : Nat} {K : Int → Int} {N : Int → Int} {O : Int → Int} {RR : Int → Int} {nr : Nat} {ps : Nat → Nat} {wt : Nat → Nat} {bs : Nat} {ph : Int} {gq : Int} {p : Nat} {w : Int} {dd : Int} (hq : cc o G q lq (ab_ob 5 [vR ki, vR ne, vR ot, vz cnt, vz fi, vz la, vR ra, vz ru, vz gr, vz wi, vz sz, vz fl, vz ve, vz mi, vR na, vR nl])) (hki : cc o G ki (lq + 1) (za 808 K)) (hne : cc o G ne (lq + 2) (za 808 N)) (hot : cc o G ot (lq + 3) (za 808 O)) (hra : cc o G ra (lq + 4) (za nr RR)) (ppaI_0 : paI o G 0 ps wt bs gq (prc RR ru) ph) (n18 : ab_n0 = 18) (cq : 100 ≤ lq ∧ 2 ≤ cnt ∧ cnt ≤ 808 ∧ 0 ≤ la ∧ la ≤ 1 ∧ 0 ≤ ru ∧ ru ≤ ↑nr ∧ ↑nr ≤ (100000 : Int) ∧ 32 ≤ nr ∧ 0 ≤ ph ∧ ru + ph ≤ 50000) (hp_ : prok K N O RR cnt ru wi) (hr : hrr RR ↑nr) (ck0 : K 0 = 9) (cg_ : 0 ≤ gq ∧ gq ≤ 9 ∧ wi = 2 * (gq + 1)) (hpp : ps p = 90) (cw : 0 ≤ w ∧ w / 4294967296 < cnt ∧ w % 4294967296 < cnt) (cdd : 0 ≤ dd ∧ dd ≤ 30) (hdd : 6 * (31 - dd) + 6 ≤ (↑d : Int)) (rc : G.length + 100200 ≤ ab_n0 + room_1.cells + nr) (rs : ab_slots G + 200000 ≤ room_1.slots + 2 * nr) (ihR : ∀ {d : Nat} {o : Nat → Nat} {G : ab_G} {q : Nat} {lq : Nat} {ki : Nat} {ne : Nat} {ot : Nat} {cnt : Int} {fi : Int} {la : Int} {ra : Nat} {ru : Int} {gr : Int} {wi : Int} {sz : Int} {fl : Int} {ve : Int} {mi : Int} {na : Nat} {nl : Nat} {K : Int → Int} {N : Int → Int} {O : Int → Int} {RR : Int → Int} {nr : Nat} {ps : Nat → Nat} {wt : Nat → Nat} {bs : Nat} {ph : Int} {gq : Int} {p : Nat} {w : Int}, (cc o G q lq (ab_ob 5 [vR ki, vR ne, vR ot, vz cnt, vz fi, vz la, vR ra, vz ru, vz gr, vz wi, vz sz, vz fl, vz ve, vz mi, vR na, vR nl])) → (cc o G ki (lq + 1) (za 808 K)) → (cc o G ne (lq + 2) (za 808 N)) → (cc o G ot (lq + 3) (za 808 O)) → (cc o G ra (lq + 4) (za nr RR)) → (paI o G 0 ps wt bs gq (prc RR ru) ph) → (ab_n0 = 18) → (100 ≤ lq ∧ 2 ≤ cnt ∧ cnt ≤ 808 ∧ 0 ≤ la ∧ la ≤ 1 ∧ 0 ≤ ru ∧ ru ≤ ↑nr ∧ ↑nr ≤ (100000 : Int) ∧ 32 ≤ nr ∧ 0 ≤ ph ∧ ru + ph ≤ 50000) → (prok K N O RR cnt ru wi) → (hrr RR ↑nr) → (K 0 = 9) → (0 ≤ gq ∧ gq ≤ 9 ∧ wi = 2 * (gq + 1)) → (ps p = 90) → (0 ≤ w ∧ w / 4294967296 < cnt ∧ w % 4294967296 < cnt) → (0 ≤ (dd + 1) ∧ (dd + 1) ≤ 31) → (6 * (31 - (dd + 1)) + 10 ≤ (↑d : Int)) → (G.length + 100200 ≤ ab_n0 + room_1.cells + nr) → (ab_slots G + 200000 ≤ room_1.slots + 2 * nr) → ab_F X d y_PR_rows (.code y_PR_rows b_PR_rows 8 (some (.long))) [vR q, vR p, vj w, vz (dd + 1)] G (fun oc G2 => ∃ o2 : Nat → Nat, ∃ w2 : Int, ∃ cnt2 : Int, ∃ la2 : Int, ∃ ra2 : Nat, ∃ nr2 : Nat, ∃ ru2 : Int, ∃ K2 : Int → Int, ∃ N2 : Int → Int, ∃ O2 : Int → Int, ∃ RR2 : Int → Int, ∃ ph2 : Int, oc = .returned (some (vj w2)) ∧ fx o o2 [lq, (lq + 1), (lq + 2), (lq + 3), (lq + 4), 90] G G2 ∧ cc o2 G2 q lq (ab_ob 5 [vR ki, vR ne, vR ot, vz cnt2, vz fi, vz la2, vR ra2, vz ru2, vz gr, vz wi, vz sz, vz fl, vz ve, vz mi, vR na, vR nl]) ∧ cc o2 G2 ki (lq + 1) (za 808 K2) ∧ cc o2 G2 ne (lq + 2) (za 808 N2) ∧ cc o2 G2 ot (lq + 3) (za 808 O2) ∧ cc o2 G2 ra2 (lq + 4) (za nr2 RR2) ∧ paI o2 G2 0 ps wt bs gq (prc RR2 ru2) ph2 ∧ (cnt ≤ cnt2 ∧ cnt2 ≤ 808 ∧ 0 ≤ la2 ∧ la2 ≤ 1) ∧ (0 ≤ w2 ∧ w2 / 4294967296 < cnt2 ∧ w2 % 4294967296 < cnt2) ∧ (0 ≤ ru2 ∧ ru2 ≤ ↑nr2 ∧ ↑nr2 ≤ (100000 : Int) ∧ nr ≤ nr2) ∧ (0 ≤ ph2 ∧ ru2 + ph2 ≤ ru + ph) ∧ (prok K2 N2 O2 RR2 cnt2 ru2 wi) ∧ (hrr RR2 ↑nr2) ∧ (kext K K2 cnt) ∧ (fzr ps o o2 G G2) ∧ (G2.length + nr ≤ G.length + nr2) ∧ (ab_slots G2 + 2 * nr ≤ ab_slots G + 2 * nr2))) : ab_F X d y_PR_once (.code y_PR_once b_PR_once 7 (some (.long))) [vR q, vR p, vj w, vz dd] G (fun oc G2 => ∃ o2 : Nat → Nat, ∃ w2 : Int, ∃ cnt2 : Int, ∃ la2 : Int, ∃ ra2 : Nat, ∃ nr2 : Nat, ∃ ru2 : Int, ∃ K2 : Int → Int, ∃ N2 : Int → Int, ∃ O2 : Int → Int, ∃ RR2 : Int → Int, ∃ ph2 : Int, oc = .returned (some (vj w2)) ∧ fx o o2 [lq, (lq + 1), (lq + 2), (lq + 3), (lq + 4), 90] G G2 ∧ cc o2 G2 q lq (ab_ob 5 [vR ki, vR ne, vR ot, vz cnt2, vz fi, vz la2, vR ra2, vz ru2, vz gr, vz wi, vz sz, vz fl, vz ve, vz mi, vR na, vR nl]) ∧ cc o2 G2 ki (lq + 1) (za 808 K2) ∧ cc o2 G2 ne (lq + 2) (za 808 N2) ∧ cc o2 G2 ot (lq + 3) (za 808 O2) ∧ cc o2 G2 ra2 (lq + 4) (za nr2 RR2) ∧ paI o2 G2 0 ps wt bs gq (prc RR2 ru2) ph2 ∧ (cnt ≤ cnt2 ∧ cnt2 ≤ 808 ∧ 0 ≤ la2 ∧ la2 ≤ 1) ∧ (0 ≤ w2 ∧ w2 / 4294967296 < cnt2 ∧ w2 % 4294967296 < cnt2) ∧ (0 ≤ ru2 ∧ ru2 ≤ ↑nr2 ∧ ↑nr2 ≤ (100000 : Int) ∧ nr ≤ nr2) ∧ (0 ≤ ph2 ∧ ru2 + ph2 ≤ ru + ph) ∧ (prok K2 N2 O2 RR2 cnt2 ru2 wi) ∧ (hrr RR2 ↑nr2) ∧ (kext K K2 cnt) ∧ (fzr ps o o2 G G2) ∧ (G2.length + nr ≤ G.length + nr2) ∧ (ab_slots G2 + 2 * nr ≤ ab_slots G + 2 * nr2)) := by
  refine ab_F_of (by decide +kernel) (Nat.le_of_ble_eq_true rfl) ?_
  obtain ⟨Q, hQ⟩ : ∃ z : Outcome → ab_G → Prop, z = (fun oc G2 => ∃ o2 : Nat → Nat, ∃ w2 : Int, ∃ cnt2 : Int, ∃ la2 : Int, ∃ ra2 : Nat, ∃ nr2 : Nat, ∃ ru2 : Int, ∃ K2 : Int → Int, ∃ N2 : Int → Int, ∃ O2 : Int → Int, ∃ RR2 : Int → Int, ∃ ph2 : Int, oc = .returned (some (vj w2)) ∧ fx o o2 [lq, (lq + 1), (lq + 2), (lq + 3), (lq + 4), 90] G G2 ∧ cc o2 G2 q lq (ab_ob 5 [vR ki, vR ne, vR ot, vz cnt2, vz fi, vz la2, vR ra2, vz ru2, vz gr, vz wi, vz sz, vz fl, vz ve, vz mi, vR na, vR nl]) ∧ cc o2 G2 ki (lq + 1) (za 808 K2) ∧ cc o2 G2 ne (lq + 2) (za 808 N2) ∧ cc o2 G2 ot (lq + 3) (za 808 O2) ∧ cc o2 G2 ra2 (lq + 4) (za nr2 RR2) ∧ paI o2 G2 0 ps wt bs gq (prc RR2 ru2) ph2 ∧ (cnt ≤ cnt2 ∧ cnt2 ≤ 808 ∧ 0 ≤ la2 ∧ la2 ≤ 1) ∧ (0 ≤ w2 ∧ w2 / 4294967296 < cnt2 ∧ w2 % 4294967296 < cnt2) ∧ (0 ≤ ru2 ∧ ru2 ≤ ↑nr2 ∧ ↑nr2 ≤ (100000 : Int) ∧ nr ≤ nr2) ∧ (0 ≤ ph2 ∧ ru2 + ph2 ≤ ru + ph) ∧ (prok K2 N2 O2 RR2 cnt2 ru2 wi) ∧ (hrr RR2 ↑nr2) ∧ (kext K K2 cnt) ∧ (fzr ps o o2 G G2) ∧ (G2.length + nr ≤ G.length + nr2) ∧ (ab_slots G2 + 2 * nr ≤ ab_slots G + 2 * nr2)) := ⟨_, rfl⟩
  rw [← hQ]
  change ab_W X (ab_pl y_PR_once b_PR_once 7 (some (.long))) d G 0 [some (vR q), some (vR p), some (vj w), none, some (vz dd), none, none] [] Q
  have hfr : fx o o [lq, (lq + 1), (lq + 2), (lq + 3), (lq + 4), 90] G G := fx.rf
  have hzr : fzr ps o o G G := fzr.rf
  obtain ⟨k_1, v_1, rg_1, pl_1, fl_1, ou_1, ls_1, bf_1, sz_1, mb_1, oe_1, le_1, mo_1, la_1, rc_1, hp, hn1, hb1, hg1, ho1, hl1, hf1⟩ := ppaI_0.1 p hpp
  have hB1 := hb1
  unfold pnB at hB1
  have hK1 := hn1.1
  refine ab_aload_n d_PR_once_0 rfl ?_
  refine ab_getf (fs := [vz k_1, vz v_1, rg_1, vz pl_1, vz fl_1, ou_1, ls_1, bf_1, vz sz_1, vz mb_1, vz oe_1, vz le_1, vz mo_1, vz la_1, vz rc_1]) f_PR_162 d_PR_once_1 hp.2.2 rfl ?_
  refine zz_iconst d_PR_once_4 ?_
  refine zz_icmp_ne (tgt := 26) d_PR_once_5 (by decide) (by omega) (by decide) (fun c2 => ?_) (fun c2 => ?_)
  · refine ab_aload_n d_PR_once_26 rfl ?_
    refine ab_getf (fs := [vz k_1, vz v_1, rg_1, vz pl_1, vz fl_1, ou_1, ls_1, bf_1, vz sz_1, vz mb_1, vz oe_1, vz le_1, vz mo_1, vz la_1, vz rc_1]) f_PR_162 d_PR_once_27 hp.2.2 rfl ?_
    refine zz_iconst d_PR_once_30 ?_
    refine zz_icmp_ne (tgt := 75) d_PR_once_31 (by decide) (by omega) (by decide) (fun c3 => ?_) (fun c3 => absurd c3 (by omega))
    refine ab_aload_n d_PR_once_75 rfl ?_
    refine ab_getf (fs := [vz k_1, vz v_1, rg_1, vz pl_1, vz fl_1, ou_1, ls_1, bf_1, vz sz_1, vz mb_1, vz oe_1, vz le_1, vz mo_1, vz la_1, vz rc_1]) f_PR_162 d_PR_once_76 hp.2.2 rfl ?_
    refine zz_iconst d_PR_once_79 ?_
    refine zz_icmp_ne (tgt := 94) d_PR_once_80 (by decide) (by omega) (by decide) (fun c4 => ?_) (fun c4 => ?_)
    · refine ab_aload_n d_PR_once_94 rfl ?_
      refine ab_aload_n d_PR_once_95 rfl ?_
      refine ab_getf (fs := [vz k_1, vz v_1, rg_1, vz pl_1, vz fl_1, ou_1, ls_1, bf_1, vz sz_1, vz mb_1, vz oe_1, vz le_1, vz mo_1, vz la_1, vz rc_1]) f_PR_162 d_PR_once_96 hp.2.2 rfl ?_
      refine ab_lload_n d_PR_once_99 rfl ?_
      refine ab_callS (d' := d - 1) (as := [vj w]) (st := [vz k_1, vR q]) (z_PR_used (o := o) (w := w) (by omega)) (fun oc G2 h => by rcases h with ⟨h, _⟩ <;> exact ⟨_, h⟩) (by omega) m_PR_used ml_PR_124 st_PR_used (Nat.le_of_ble_eq_true rfl) d_PR_once_100 rfl ?_
      intro v G5 hq
      rcases hq with ⟨hv, hGe⟩
      cases hv
      rw [hGe]
      change ab_W _ _ _ G 103 [some (vR q), some (vR p), some (vj w), none, some (vz dd), none, none] [vz (w % 4294967296), vz k_1, vR q] _
      refine ab_aload_n d_PR_once_103 rfl ?_
      refine ab_getf (fs := [vz k_1, vz v_1, rg_1, vz pl_1, vz fl_1, ou_1, ls_1, bf_1, vz sz_1, vz mb_1, vz oe_1, vz le_1, vz mo_1, vz la_1, vz rc_1]) f_PR_162 d_PR_once_104 hp.2.2 rfl ?_
      refine zz_iconst d_PR_once_107 ?_
      refine zz_icmp_ne (tgt := 119) d_PR_once_108 (by decide) (by omega) (by decide) (fun c6 => ?_) (fun c6 => ?_)
      · refine ab_aload_n d_PR_once_119 rfl ?_
        refine ab_getf (fs := [vz k_1, vz v_1, rg_1, vz pl_1, vz fl_1, ou_1, ls_1, bf_1, vz sz_1, vz mb_1, vz oe_1, vz le_1, vz mo_1, vz la_1, vz rc_1]) f_PR_165 d_PR_once_120 hp.2.2 rfl ?_
        refine ab_callV (d' := d - 1) (as := [vz k_1, vz (w % 4294967296), vz v_1]) (st := []) (r := _) (z_PR_add (o := o) (q := q) (lq := lq) (ki := ki) (ne := ne) (ot := ot) (cnt := cnt) (fi := fi) (la := la) (ra := ra) (ru := ru) (gr := gr) (wi := wi) (sz := sz) (fl := fl) (ve := ve) (mi := mi) (na := na) (nl := nl) (K := K) (N := N) (O := O) (k0 := k_1) (x0 := (w % 4294967296)) (v0 := v_1) hq hki hne hot (by omega) (by omega) (by omega)) (fun oc G2 h => by rcases h with ⟨h, _⟩ | ⟨_, h, _⟩ <;> exact ⟨_, h⟩) (by omega) m_PR_add ml_PR_84 im_PR_add se_PR_add c_PR hq.2.2 (Nat.le_of_ble_eq_true rfl) d_PR_once_123 rfl ?_
        intro v G7 hq
        rcases hq with ⟨hv, hGe, hq8⟩ | ⟨la29, hv, hfk, hlk, hsk, hNq, hNki, hNne, hNot, hq10, hq11, hq12⟩
        · cases hv
          rw [hGe]
          change ab_W _ _ _ G 126 [some (vR q), some (vR p), some (vj w), none, some (vz dd), none, none] [vz 0] _
          refine ab_istore d_PR_once_126 (Nat.le_of_ble_eq_true rfl) (Nat.le_of_ble_eq_true rfl) rfl ?_
          change ab_W _ _ _ G 128 [some (vR q), some (vR p), some (vj w), none, some (vz dd), some (vz 0), none] [] _
          refine ab_iload d_PR_once_128 rfl ?_
          refine ab_iload d_PR_once_130 rfl ?_
          refine ab_callS (d' := d - 1) (as := [vz 0, vz 0]) (st := []) (z_PR_pair (o := o) (f0 := 0) (u0 := 0) (by omega)) (fun oc G2 h => by rcases h with ⟨h, _⟩ <;> exact ⟨_, h⟩) (by omega) m_PR_pair ml_PR_88 st_PR_pair (Nat.le_of_ble_eq_true rfl) d_PR_once_132 rfl ?_
          intro v G15 hq
          rcases hq with ⟨hv, hGe⟩
          cases hv
          rw [hGe]
          change ab_W _ _ _ G 135 [some (vR q), some (vR p), some (vj w), none, some (vz dd), some (vz 0), none] [vj (0 * 4294967296 + 0)] _
          refine ab_lret rfl d_PR_once_135 ?_
          rw [hQ]; exact ⟨_, _, _, _, _, _, _, _, _, _, _, _, rfl, hfr, hq, hki, hne, hot, hra, ppaI_0, (by omega), (by omega), (by omega), (by omega), (by exact hp_), (by exact hr), (by exact kext.rf), (by exact hzr), (by omega), (by omega)⟩
        · cases hv
          have hzr := hzr.tr (fzr.fx hfk (by simp only [List.mem_cons, List.not_mem_nil, or_false]; omega))
          have hra := hfk.get hra (by simp only [List.mem_cons, List.not_mem_nil, or_false]; omega)
          have hp := hfk.get hp (by simp only [List.mem_cons, List.not_mem_nil, or_false]; omega)
          have ppaI_0 := paI.fr hfk ppaI_0 (by simp only [List.mem_cons, List.not_mem_nil, or_false]; omega) (by simp only [List.mem_cons, List.not_mem_nil, or_false]; omega) (by simp only [List.mem_cons, List.not_mem_nil, or_false]; omega) (by intro xx hx; simp only [List.mem_cons, List.not_mem_nil, or_false] at hx; omega)
          have hfr := hfr.tr hfk (by simp)
          have hq13 := hlk
          have hq14 := hsk
          have hq := hNq
          have hki := hNki
          have hne := hNne
          have hot := hNot
          change ab_W _ _ _ G7 126 [some (vR q), some (vR p), some (vj w), none, some (vz dd), none, none] [vz cnt] _
          have hp16 := prok_add (k := k_1) (x := (w % 4294967296)) (v := v_1) hp_ (by omega) (by omega) (by omega) (by omega) (by omega) (fun t => absurd t (by omega)) (fun t => absurd t (by omega)) (fun t => absurd t (by omega)) (fun t => by have hv0 := hn1.2.1 (by omega); omega) (fun t => absurd t (by omega))
          obtain ⟨K16, eK16⟩ : ∃ z : Int → Int, z = zu K cnt k_1 := ⟨_, rfl⟩
          have hki : cc o G7 ki (lq + 1) (za 808 K16) := by rw [← eK16.symm]; exact hki
          obtain ⟨N16, eN16⟩ : ∃ z : Int → Int, z = zu N cnt (w % 4294967296) := ⟨_, rfl⟩
          have hne : cc o G7 ne (lq + 2) (za 808 N16) := by rw [← eN16.symm]; exact hne
          obtain ⟨O16, eO16⟩ : ∃ z : Int → Int, z = zu O cnt v_1 := ⟨_, rfl⟩
          have hot : cc o G7 ot (lq + 3) (za 808 O16) := by rw [← eO16.symm]; exact hot
          rw [← eK16, ← eN16, ← eO16] at hp16
          have hkx16 : kext K K16 cnt := by rw [eK16]; exact kext.zu (Int.le_refl _)
          have hks16 : K16 cnt = k_1 := by rw [eK16]; exact zu_self _ _ _
          change ab_W _ _ _ G7 126 [some (vR q), some (vR p), some (vj w), none, some (vz dd), none, none] [vz cnt] _
          refine ab_istore d_PR_once_126 (Nat.le_of_ble_eq_true rfl) (Nat.le_of_ble_eq_true rfl) rfl ?_
          change ab_W _ _ _ G7 128 [some (vR q), some (vR p), some (vj w), none, some (vz dd), some (vz cnt), none] [] _
          refine ab_iload d_PR_once_128 rfl ?_
          refine ab_iload d_PR_once_130 rfl ?_
          refine ab_callS (d' := d - 1) (as := [vz cnt, vz cnt]) (st := []) (z_PR_pair (o := o) (f0 := cnt) (u0 := cnt) (by omega)) (fun oc G2 h => by rcases h with ⟨h, _⟩ <;> exact ⟨_, h⟩) (by omega) m_PR_pair ml_PR_88 st_PR_pair (Nat.le_of_ble_eq_true rfl) d_PR_once_132 rfl ?_
          intro v G17 hq
          rcases hq with ⟨hv, hGe⟩
          cases hv
          rw [hGe]
          change ab_W _ _ _ G7 135 [some (vR q), some (vR p), some (vj w), none, some (vz dd), some (vz cnt), none] [vj (cnt * 4294967296 + cnt)] _
          refine ab_lret rfl d_PR_once_135 ?_
          rw [hQ]; exact ⟨_, _, _, _, _, _, _, _, _, _, _, _, rfl, hfr, hq, hki, hne, hot, hra, ppaI_0, (by omega), (by omega), (by omega), (by omega), (by exact hp16), (by exact hr), (by exact hkx16), (by exact hzr), (by omega), (by omega)⟩
      · refine ab_aload_n d_PR_once_111 rfl ?_
        refine ab_aload_n d_PR_once_112 rfl ?_
        refine ab_callV (d' := d - 1) (as := [vR p]) (st := [vz (w % 4294967296), vz k_1, vR q]) (r := _) (z_PR_recordOf (o := o) (q := q) (lq := lq) (ki := ki) (ne := ne) (ot := ot) (cnt := cnt) (fi := fi) (la := la) (ra := ra) (ru := ru) (gr := gr) (wi := wi) (sz := sz) (fl := fl) (ve := ve) (mi := mi) (na := na) (nl := nl) (RR := RR) (nr := nr) (kp := k_1) (vp := v_1) (rgp := rg_1) (plp := pl_1) (flp := fl_1) (oup := ou_1) (lsp := ls_1) (bfp := bf_1) (szp := sz_1) (mbp := mb_1) (oep := oe_1) (lep := le_1) (mop := mo_1) (lap := la_1) (rcp := rc_1) (ps := ps) (wt := wt) (bs := bs) (ph := ph) (gq := gq) (p := p) hq hra hp ppaI_0 (by omega) (by omega) hp_ hr hpp (by omega) hn1 (by omega) (by omega) (by omega)) (fun oc G2 h => by rcases h with ⟨_, _, _, _, _, _, _, _, h, _⟩ <;> exact ⟨_, h⟩) (by omega) m_PR_recordOf ml_PR_172 im_PR_recordOf se_PR_recordOf c_PR hq.2.2 (Nat.le_of_ble_eq_true rfl) d_PR_once_113 rfl ?_
        intro v G18 hq
        rcases hq with ⟨o19, v20, ra221, nr222, ru223, RR224, ph225, rc226, hv, hfk, hNq, hNra221, hNp, pNpaI_0, hq27, hq28, hq29, hq30, hq31, hq32, hq33, hq34, hq35⟩
        cases hv
        have hzr := hzr.tr hq33
        have hki := hfk.get hki (by simp only [List.mem_cons, List.not_mem_nil, or_false]; omega)
        have hne := hfk.get hne (by simp only [List.mem_cons, List.not_mem_nil, or_false]; omega)
        have hot := hfk.get hot (by simp only [List.mem_cons, List.not_mem_nil, or_false]; omega)
        have ppaI_0 := pNpaI_0
        have hfr := hfr.tr hfk (by simp)
        have hq36 := hfk.1
        have hq := hNq
        have hra221 := hNra221
        have hp := hNp
        change ab_W _ _ _ G18 116 [some (vR q), some (vR p), some (vj w), none, some (vz dd), none, none] [vz v20, vz (w % 4294967296), vz k_1, vR q] _
        refine ab_goto (tgt := 123) d_PR_once_116 (by decide) ?_
        refine ab_callV (d' := d - 1) (as := [vz k_1, vz (w % 4294967296), vz v20]) (st := []) (r := _) (z_PR_add (o := o19) (q := q) (lq := lq) (ki := ki) (ne := ne) (ot := ot) (cnt := cnt) (fi := fi) (la := la) (ra := ra221) (ru := ru223) (gr := gr) (wi := wi) (sz := sz) (fl := fl) (ve := ve) (mi := mi) (na := na) (nl := nl) (K := K) (N := N) (O := O) (k0 := k_1) (x0 := (w % 4294967296)) (v0 := v20) hq hki hne hot (by omega) (by omega) (by omega)) (fun oc G2 h => by rcases h with ⟨h, _⟩ | ⟨_, h, _⟩ <;> exact ⟨_, h⟩) (by omega) m_PR_add ml_PR_84 im_PR_add se_PR_add c_PR hq.2.2 (Nat.le_of_ble_eq_true rfl) d_PR_once_123 rfl ?_
        intro v G37 hq
        rcases hq with ⟨hv, hGe, hq38⟩ | ⟨la239, hv, hfk, hlk, hsk, hNq, hNki, hNne, hNot, hq40, hq41, hq42⟩
        · cases hv
          rw [hGe]
          change ab_W _ _ _ G18 126 [some (vR q), some (vR p), some (vj w), none, some (vz dd), none, none] [vz 0] _
          refine ab_istore d_PR_once_126 (Nat.le_of_ble_eq_true rfl) (Nat.le_of_ble_eq_true rfl) rfl ?_
          change ab_W _ _ _ G18 128 [some (vR q), some (vR p), some (vj w), none, some (vz dd), some (vz 0), none] [] _
          refine ab_iload d_PR_once_128 rfl ?_
          refine ab_iload d_PR_once_130 rfl ?_
          refine ab_callS (d' := d - 1) (as := [vz 0, vz 0]) (st := []) (z_PR_pair (o := o19) (f0 := 0) (u0 := 0) (by omega)) (fun oc G2 h => by rcases h with ⟨h, _⟩ <;> exact ⟨_, h⟩) (by omega) m_PR_pair ml_PR_88 st_PR_pair (Nat.le_of_ble_eq_true rfl) d_PR_once_132 rfl ?_
          intro v G45 hq
          rcases hq with ⟨hv, hGe⟩
          cases hv
          rw [hGe]
          change ab_W _ _ _ G18 135 [some (vR q), some (vR p), some (vj w), none, some (vz dd), some (vz 0), none] [vj (0 * 4294967296 + 0)] _
          refine ab_lret rfl d_PR_once_135 ?_
          rw [hQ]; exact ⟨_, _, _, _, _, _, _, _, _, _, _, _, rfl, hfr, hq, hki, hne, hot, hra221, ppaI_0, (by omega), (by omega), (by omega), (by omega), (by exact hq29), (by exact hq30), (by exact kext.rf), (by exact hzr), (by omega), (by omega)⟩
        · cases hv
          have hzr := hzr.tr (fzr.fx hfk (by simp only [List.mem_cons, List.not_mem_nil, or_false]; omega))
          have hp := hfk.get hp (by simp only [List.mem_cons, List.not_mem_nil, or_false]; omega)
          have hra221 := hfk.get hra221 (by simp only [List.mem_cons, List.not_mem_nil, or_false]; omega)
          have ppaI_0 := paI.fr hfk ppaI_0 (by simp only [List.mem_cons, List.not_mem_nil, or_false]; omega) (by simp only [List.mem_cons, List.not_mem_nil, or_false]; omega) (by simp only [List.mem_cons, List.not_mem_nil, or_false]; omega) (by intro xx hx; simp only [List.mem_cons, List.not_mem_nil, or_false] at hx; omega)
          have hfr := hfr.tr hfk (by simp)
          have hq43 := hlk
          have hq44 := hsk
          have hq := hNq
          have hki := hNki
          have hne := hNne
          have hot := hNot
          change ab_W _ _ _ G37 126 [some (vR q), some (vR p), some (vj w), none, some (vz dd), none, none] [vz cnt] _
          have hp46 := prok_add (k := k_1) (x := (w % 4294967296)) (v := v20) hq29 (by omega) (by omega) (by omega) (by omega) (by omega) (fun t => absurd t (by omega)) (fun t => absurd t (by omega)) (fun t => absurd t (by omega)) (fun t => by have hv0 := hn1.2.1 (by omega); omega) (fun t => hq27)
          obtain ⟨K46, eK46⟩ : ∃ z : Int → Int, z = zu K cnt k_1 := ⟨_, rfl⟩
          have hki : cc o19 G37 ki (lq + 1) (za 808 K46) := by rw [← eK46.symm]; exact hki
          obtain ⟨N46, eN46⟩ : ∃ z : Int → Int, z = zu N cnt (w % 4294967296) := ⟨_, rfl⟩
          have hne : cc o19 G37 ne (lq + 2) (za 808 N46) := by rw [← eN46.symm]; exact hne
          obtain ⟨O46, eO46⟩ : ∃ z : Int → Int, z = zu O cnt v20 := ⟨_, rfl⟩
          have hot : cc o19 G37 ot (lq + 3) (za 808 O46) := by rw [← eO46.symm]; exact hot
          rw [← eK46, ← eN46, ← eO46] at hp46
          have hkx46 : kext K K46 cnt := by rw [eK46]; exact kext.zu (Int.le_refl _)
          have hks46 : K46 cnt = k_1 := by rw [eK46]; exact zu_self _ _ _
          change ab_W _ _ _ G37 126 [some (vR q), some (vR p), some (vj w), none, some (vz dd), none, none] [vz cnt] _
          refine ab_istore d_PR_once_126 (Nat.le_of_ble_eq_true rfl) (Nat.le_of_ble_eq_true rfl) rfl ?_
          change ab_W _ _ _ G37 128 [some (vR q), some (vR p), some (vj w), none, some (vz dd), some (vz cnt), none] [] _
          refine ab_iload d_PR_once_128 rfl ?_
          refine ab_iload d_PR_once_130 rfl ?_
          refine ab_callS (d' := d - 1) (as := [vz cnt, vz cnt]) (st := []) (z_PR_pair (o := o19) (f0 := cnt) (u0 := cnt) (by omega)) (fun oc G2 h => by rcases h with ⟨h, _⟩ <;> exact ⟨_, h⟩) (by omega) m_PR_pair ml_PR_88 st_PR_pair (Nat.le_of_ble_eq_true rfl) d_PR_once_132 rfl ?_
          intro v G47 hq
          rcases hq with ⟨hv, hGe⟩
          cases hv
          rw [hGe]
          change ab_W _ _ _ G37 135 [some (vR q), some (vR p), some (vj w), none, some (vz dd), some (vz cnt), none] [vj (cnt * 4294967296 + cnt)] _
          refine ab_lret rfl d_PR_once_135 ?_
          rw [hQ]; exact ⟨_, _, _, _, _, _, _, _, _, _, _, _, rfl, hfr, hq, hki, hne, hot, hra221, ppaI_0, (by omega), (by omega), (by omega), (by omega), (by exact hp46), (by exact hq30), (by exact hkx46), (by exact hzr), (by omega), (by omega)⟩
    · have hv3 := hn1.2.2.1 (by omega)
      refine ab_aload_n d_PR_once_83 rfl ?_
      refine zz_iconst d_PR_once_84 ?_
      refine ab_lload_n d_PR_once_85 rfl ?_
      refine ab_aload_n d_PR_once_86 rfl ?_
      refine ab_getf (fs := [vz k_1, vz v_1, rg_1, vz pl_1, vz fl_1, ou_1, ls_1, bf_1, vz sz_1, vz mb_1, vz oe_1, vz le_1, vz mo_1, vz la_1, vz rc_1]) f_PR_165 d_PR_once_87 hp.2.2 rfl ?_
      refine ab_callV (d' := d - 1) (as := [vz 3, vj w, vz v_1]) (st := []) (r := _) (za_PR_addPair (o := o) (q := q) (lq := lq) (ki := ki) (ne := ne) (ot := ot) (cnt := cnt) (fi := fi) (la := la) (ra := ra) (ru := ru) (gr := gr) (wi := wi) (sz := sz) (fl := fl) (ve := ve) (mi := mi) (na := na) (nl := nl) (K := K) (N := N) (O := O) (RR := RR) (nr := nr) (w := w) (vl := v_1) hq hki hne hot hra (by omega) (by omega) hp_ (by omega) (by omega) (by omega)) (fun oc G2 h => by rcases h with ⟨_, _, _, _, _, _, h, _⟩ <;> exact ⟨_, h⟩) (by omega) m_PR_addPair ml_PR_168 im_PR_addPair se_PR_addPair c_PR hq.2.2 (Nat.le_of_ble_eq_true rfl) d_PR_once_90 rfl ?_
      intro v G48 hq
      rcases hq with ⟨w249, cnt250, la251, K252, N253, O254, hv, hfk, hlk, hsk, hNq, hNki, hNne, hNot, hq55, hq56, hq57, hq58⟩
      cases hv
      have hzr := hzr.tr (fzr.fx hfk (by simp only [List.mem_cons, List.not_mem_nil, or_false]; omega))
      have hra := hfk.get hra (by simp only [List.mem_cons, List.not_mem_nil, or_false]; omega)
      have hp := hfk.get hp (by simp only [List.mem_cons, List.not_mem_nil, or_false]; omega)
      have ppaI_0 := paI.fr hfk ppaI_0 (by simp only [List.mem_cons, List.not_mem_nil, or_false]; omega) (by simp only [List.mem_cons, List.not_mem_nil, or_false]; omega) (by simp only [List.mem_cons, List.not_mem_nil, or_false]; omega) (by intro xx hx; simp only [List.mem_cons, List.not_mem_nil, or_false] at hx; omega)
      have hfr := hfr.tr hfk (by simp)
      have hq59 := hlk
      have hq60 := hsk
      have hq := hNq
      have hki := hNki
      have hne := hNne
      have hot := hNot
      change ab_W _ _ _ G48 93 [some (vR q), some (vR p), some (vj w), none, some (vz dd), none, none] [vj w249] _
      refine ab_lret rfl d_PR_once_93 ?_
      rw [hQ]; exact ⟨_, _, _, _, _, _, _, _, _, _, _, _, rfl, hfr, hq, hki, hne, hot, hra, ppaI_0, (by omega), (by omega), (by omega), (by omega), (by exact hq57), (by exact hr), (by exact hq58), (by exact hzr), (by omega), (by omega)⟩
  · refine ab_aload_n d_PR_once_8 rfl ?_
    refine ab_getf (fs := [vz k_1, vz v_1, rg_1, vz pl_1, vz fl_1, ou_1, ls_1, bf_1, vz sz_1, vz mb_1, vz oe_1, vz le_1, vz mo_1, vz la_1, vz rc_1]) f_PR_165 d_PR_once_9 hp.2.2 rfl ?_
    refine zz_if_ne (tgt := 26) d_PR_once_12 (by decide) (by omega) (fun c61 => ?_) (fun c61 => ?_)
    · refine ab_aload_n d_PR_once_26 rfl ?_
      refine ab_getf (fs := [vz k_1, vz v_1, rg_1, vz pl_1, vz fl_1, ou_1, ls_1, bf_1, vz sz_1, vz mb_1, vz oe_1, vz le_1, vz mo_1, vz la_1, vz rc_1]) f_PR_162 d_PR_once_27 hp.2.2 rfl ?_
      refine zz_iconst d_PR_once_30 ?_
      refine zz_icmp_ne (tgt := 75) d_PR_once_31 (by decide) (by omega) (by decide) (fun c62 => absurd c62 (by omega)) (fun c62 => ?_)
      have hv4 := hn1.2.2.2.1 (by omega)
      refine ab_aload_n d_PR_once_34 rfl ?_
      refine ab_aload_n d_PR_once_35 rfl ?_
      refine ab_aload_n d_PR_once_36 rfl ?_
      refine zz_bipush d_PR_once_37 (by decide) ?_
      refine ab_lload_n d_PR_once_39 rfl ?_
      refine zz_iconst d_PR_once_40 ?_
      refine ab_aload_n d_PR_once_41 rfl ?_
      refine ab_getf (fs := [vz k_1, vz v_1, rg_1, vz pl_1, vz fl_1, ou_1, ls_1, bf_1, vz sz_1, vz mb_1, vz oe_1, vz le_1, vz mo_1, vz la_1, vz rc_1]) f_PR_165 d_PR_once_42 hp.2.2 rfl ?_
      refine zz_imul d_PR_once_45 ?_
      refine zz_iconst d_PR_once_46 ?_
      refine zz_iadd d_PR_once_47 ?_
      refine ab_callV (d' := d - 1) (as := [vz 7, vj w, vz ((2 * v_1) + 1)]) (st := [vR p, vR q]) (r := _) (zs_PR_addPair (o := o) (q := q) (lq := lq) (ki := ki) (ne := ne) (ot := ot) (cnt := cnt) (fi := fi) (la := la) (ra := ra) (ru := ru) (gr := gr) (wi := wi) (sz := sz) (fl := fl) (ve := ve) (mi := mi) (na := na) (nl := nl) (K := K) (N := N) (O := O) (RR := RR) (nr := nr) (w := w) (vl := ((2 * v_1) + 1)) hq hki hne hot hra (by omega) (by omega) hp_ (by omega) (by omega) (by omega)) (fun oc G2 h => by rcases h with ⟨_, _, _, _, _, _, h, _⟩ <;> exact ⟨_, h⟩) (by omega) m_PR_addPair ml_PR_168 im_PR_addPair se_PR_addPair c_PR hq.2.2 (Nat.le_of_ble_eq_true rfl) d_PR_once_48 rfl ?_
      intro v G63 hq
      rcases hq with ⟨w264, cnt265, la266, K267, N268, O269, hv, hfk, hlk, hsk, hNq, hNki, hNne, hNot, hq70, hq71, hq72, hq73⟩
      cases hv
      have hzr := hzr.tr (fzr.fx hfk (by simp only [List.mem_cons, List.not_mem_nil, or_false]; omega))
      have hra := hfk.get hra (by simp only [List.mem_cons, List.not_mem_nil, or_false]; omega)
      have hp := hfk.get hp (by simp only [List.mem_cons, List.not_mem_nil, or_false]; omega)
      have ppaI_0 := paI.fr hfk ppaI_0 (by simp only [List.mem_cons, List.not_mem_nil, or_false]; omega) (by simp only [List.mem_cons, List.not_mem_nil, or_false]; omega) (by simp only [List.mem_cons, List.not_mem_nil, or_false]; omega) (by intro xx hx; simp only [List.mem_cons, List.not_mem_nil, or_false] at hx; omega)
      have hfr := hfr.tr hfk (by simp)
      have hq74 := hlk
      have hq75 := hsk
      have hq := hNq
      have hki := hNki
      have hne := hNne
      have hot := hNot
      change ab_W _ _ _ G63 51 [some (vR q), some (vR p), some (vj w), none, some (vz dd), none, none] [vj w264, vR p, vR q] _
      refine ab_iload d_PR_once_51 rfl ?_
      refine zz_iconst d_PR_once_53 ?_
      refine zz_iadd d_PR_once_54 ?_
      refine ab_callV (d' := d - 1) (as := [vR p, vj w264, vz (dd + 1)]) (st := []) (r := _) (ihR (o := o) (q := q) (lq := lq) (ki := ki) (ne := ne) (ot := ot) (cnt := cnt265) (fi := fi) (la := la266) (ra := ra) (ru := ru) (gr := gr) (wi := wi) (sz := sz) (fl := fl) (ve := ve) (mi := mi) (na := na) (nl := nl) (K := K267) (N := N268) (O := O269) (RR := RR) (nr := nr) (ps := ps) (wt := wt) (bs := bs) (ph := ph) (gq := gq) (p := p) (w := w264) hq hki hne hot hra ppaI_0 (by omega) (by omega) hq72 hr ((hq73 0 (by omega) (by omega)).trans ck0) (by omega) hpp (by omega) (by omega) (by omega) (by omega) (by omega)) (fun oc G2 h => by rcases h with ⟨_, _, _, _, _, _, _, _, _, _, _, _, h, _⟩ <;> exact ⟨_, h⟩) (by omega) m_PR_rows ml_PR_92 im_PR_rows se_PR_rows c_PR hq.2.2 (Nat.le_of_ble_eq_true rfl) d_PR_once_55 rfl ?_
      intro v G76 hq
      rcases hq with ⟨o77, w278, cnt279, la280, ra281, nr282, ru283, K284, N285, O286, RR287, ph288, hv, hfk, hNq, hNki, hNne, hNot, hNra281, pNpaI_0, hq89, hq90, hq91, hq92, hq93, hq94, hq95, hq96, hq97, hq98⟩
      cases hv
      have hzr := hzr.tr hq96
      obtain ⟨rc99, hKp⟩ := hq96 _ _ _ _ _ _ _ _ _ _ _ _ _ _ _ _ hpp hp
      have hp := hKp
      have ppaI_0 := pNpaI_0
      have hfr := hfr.tr hfk (by simp)
      have hq100 := hfk.1
      have hq := hNq
      have hki := hNki
      have hne := hNne
      have hot := hNot
      have hra281 := hNra281
      change ab_W _ _ _ G76 58 [some (vR q), some (vR p), some (vj w), none, some (vz dd), none, none] [vj w278] _
      refine ab_lstore d_PR_once_58 (Nat.le_of_ble_eq_true rfl) (Nat.le_of_ble_eq_true rfl) rfl ?_
      change ab_W _ _ _ G76 60 [some (vR q), some (vR p), some (vj w), none, some (vz dd), some (vj w278), none] [] _
      refine ab_aload_n d_PR_once_60 rfl ?_
      refine zz_bipush d_PR_once_61 (by decide) ?_
      refine ab_lload d_PR_once_63 rfl ?_
      refine zz_iconst d_PR_once_65 ?_
      refine ab_aload_n d_PR_once_66 rfl ?_
      refine ab_getf (fs := [vz k_1, vz v_1, rg_1, vz pl_1, vz fl_1, ou_1, ls_1, bf_1, vz sz_1, vz mb_1, vz oe_1, vz le_1, vz mo_1, vz la_1, vz rc99]) f_PR_165 d_PR_once_67 hp.2.2 rfl ?_
      refine zz_imul d_PR_once_70 ?_
      refine ab_callV (d' := d - 1) (as := [vz 7, vj w278, vz (2 * v_1)]) (st := []) (r := _) (zs_PR_addPair (o := o77) (q := q) (lq := lq) (ki := ki) (ne := ne) (ot := ot) (cnt := cnt279) (fi := fi) (la := la280) (ra := ra281) (ru := ru283) (gr := gr) (wi := wi) (sz := sz) (fl := fl) (ve := ve) (mi := mi) (na := na) (nl := nl) (K := K284) (N := N285) (O := O286) (RR := RR287) (nr := nr282) (w := w278) (vl := (2 * v_1)) hq hki hne hot hra281 (by omega) (by omega) hq93 (by omega) (by omega) (by omega)) (fun oc G2 h => by rcases h with ⟨_, _, _, _, _, _, h, _⟩ <;> exact ⟨_, h⟩) (by omega) m_PR_addPair ml_PR_168 im_PR_addPair se_PR_addPair c_PR hq.2.2 (Nat.le_of_ble_eq_true rfl) d_PR_once_71 rfl ?_
      intro v G101 hq
      rcases hq with ⟨w2102, cnt2103, la2104, K2105, N2106, O2107, hv, hfk, hlk, hsk, hNq, hNki, hNne, hNot, hq108, hq109, hq110, hq111⟩
      cases hv
      have hzr := hzr.tr (fzr.fx hfk (by simp only [List.mem_cons, List.not_mem_nil, or_false]; omega))
      have hp := hfk.get hp (by simp only [List.mem_cons, List.not_mem_nil, or_false]; omega)
      have hra281 := hfk.get hra281 (by simp only [List.mem_cons, List.not_mem_nil, or_false]; omega)
      have ppaI_0 := paI.fr hfk ppaI_0 (by simp only [List.mem_cons, List.not_mem_nil, or_false]; omega) (by simp only [List.mem_cons, List.not_mem_nil, or_false]; omega) (by simp only [List.mem_cons, List.not_mem_nil, or_false]; omega) (by intro xx hx; simp only [List.mem_cons, List.not_mem_nil, or_false] at hx; omega)
      have hfr := hfr.tr hfk (by simp)
      have hq112 := hlk
      have hq113 := hsk
      have hq := hNq
      have hki := hNki
      have hne := hNne
      have hot := hNot
      change ab_W _ _ _ G101 74 [some (vR q), some (vR p), some (vj w), none, some (vz dd), some (vj w278), none] [vj w2102] _
      refine ab_lret rfl d_PR_once_74 ?_
      rw [hQ]; exact ⟨_, _, _, _, _, _, _, _, _, _, _, _, rfl, hfr, hq, hki, hne, hot, hra281, ppaI_0, (by omega), (by omega), (by omega), (by omega), (by exact hq110), (by exact hq94), (by exact ((hq73.tr hq95 (by omega)).tr hq111 (by omega))), (by exact hzr), (by omega), (by omega)⟩
    · refine ab_aload_n d_PR_once_15 rfl ?_
      refine ab_aload_n d_PR_once_16 rfl ?_
      refine ab_lload_n d_PR_once_17 rfl ?_
      refine ab_iload d_PR_once_18 rfl ?_
      refine zz_iconst d_PR_once_20 ?_
      refine zz_iadd d_PR_once_21 ?_
      refine ab_callV (d' := d - 1) (as := [vR p, vj w, vz (dd + 1)]) (st := []) (r := _) (ihR (o := o) (q := q) (lq := lq) (ki := ki) (ne := ne) (ot := ot) (cnt := cnt) (fi := fi) (la := la) (ra := ra) (ru := ru) (gr := gr) (wi := wi) (sz := sz) (fl := fl) (ve := ve) (mi := mi) (na := na) (nl := nl) (K := K) (N := N) (O := O) (RR := RR) (nr := nr) (ps := ps) (wt := wt) (bs := bs) (ph := ph) (gq := gq) (p := p) (w := w) hq hki hne hot hra ppaI_0 (by omega) (by omega) hp_ hr ck0 (by omega) hpp (by omega) (by omega) (by omega) (by omega) (by omega)) (fun oc G2 h => by rcases h with ⟨_, _, _, _, _, _, _, _, _, _, _, _, h, _⟩ <;> exact ⟨_, h⟩) (by omega) m_PR_rows ml_PR_92 im_PR_rows se_PR_rows c_PR hq.2.2 (Nat.le_of_ble_eq_true rfl) d_PR_once_22 rfl ?_
      intro v G114 hq
      rcases hq with ⟨o115, w2116, cnt2117, la2118, ra2119, nr2120, ru2121, K2122, N2123, O2124, RR2125, ph2126, hv, hfk, hNq, hNki, hNne, hNot, hNra2119, pNpaI_0, hq127, hq128, hq129, hq130, hq131, hq132, hq133, hq134, hq135, hq136⟩
      cases hv
      have hzr := hzr.tr hq134
      obtain ⟨rc137, hKp⟩ := hq134 _ _ _ _ _ _ _ _ _ _ _ _ _ _ _ _ hpp hp
      have hp := hKp
      have ppaI_0 := pNpaI_0
      have hfr := hfr.tr hfk (by simp)
      have hq138 := hfk.1
      have hq := hNq
      have hki := hNki
      have hne := hNne
      have hot := hNot
      have hra2119 := hNra2119
      change ab_W _ _ _ G114 25 [some (vR q), some (vR p), some (vj w), none, some (vz dd), none, none] [vj w2116] _
      refine ab_lret rfl d_PR_once_25 ?_
      rw [hQ]; exact ⟨_, _, _, _, _, _, _, _, _, _, _, _, rfl, hfr, hq, hki, hne, hot, hra2119, ppaI_0, (by omega), (by omega), (by omega), (by omega), (by exact hq131), (by exact hq132), (by exact hq133), (by exact hzr), (by omega), (by omega)⟩
set_option maxRecDepth 100000 in
set_option maxHeartbeats 4000000 in
theorem z_PR_loop {X : ab_X} {d : Nat} {o : Nat → Nat} {G : ab_G} {q : Nat} {lq : Nat} {ki : Nat} {ne : Nat} {ot : Nat} {cnt : Int} {fi : Int} {la : Int} {ra : Nat} {ru : Int} {gr : Int} {wi : Int} {sz : Int} {fl : Int} {ve : Int} {mi : Int} {na : Nat} {nl : Nat} {K : Int → Int} {N : Int → Int} {O : Int → Int} {RR : Int → Int} {nr : Nat} {ps : Nat → Nat} {wt : Nat → Nat} {bs : Nat} {ph : Int} {gq : Int} {p : Nat} {w : Int} {dd : Int} (hq : cc o G q lq (ab_ob 5 [vR ki, vR ne, vR ot, vz cnt, vz fi, vz la, vR ra, vz ru, vz gr, vz wi, vz sz, vz fl, vz ve, vz mi, vR na, vR nl])) (hki : cc o G ki (lq + 1) (za 808 K)) (hne : cc o G ne (lq + 2) (za 808 N)) (hot : cc o G ot (lq + 3) (za 808 O)) (hra : cc o G ra (lq + 4) (za nr RR)) (ppaI_0 : paI o G 0 ps wt bs gq (prc RR ru) ph) (n18 : ab_n0 = 18) (cq : 100 ≤ lq ∧ 2 ≤ cnt ∧ cnt ≤ 808 ∧ 0 ≤ la ∧ la ≤ 1 ∧ 0 ≤ ru ∧ ru ≤ ↑nr ∧ ↑nr ≤ (100000 : Int) ∧ 32 ≤ nr ∧ 0 ≤ ph ∧ ru + ph ≤ 50000) (hp_ : prok K N O RR cnt ru wi) (hr : hrr RR ↑nr) (ck0 : K 0 = 9) (cg_ : 0 ≤ gq ∧ gq ≤ 9 ∧ wi = 2 * (gq + 1)) (hpp : ps p = 90) (cw : 0 ≤ w ∧ w / 4294967296 < cnt ∧ w % 4294967296 < cnt) (cdd : 0 ≤ dd ∧ dd ≤ 30) (hdd : 6 * (31 - dd) + 7 ≤ (↑d : Int)) (rc : G.length + 100200 ≤ ab_n0 + room_1.cells + nr) (rs : ab_slots G + 200000 ≤ room_1.slots + 2 * nr) (ihR : ∀ {d : Nat} {o : Nat → Nat} {G : ab_G} {q : Nat} {lq : Nat} {ki : Nat} {ne : Nat} {ot : Nat} {cnt : Int} {fi : Int} {la : Int} {ra : Nat} {ru : Int} {gr : Int} {wi : Int} {sz : Int} {fl : Int} {ve : Int} {mi : Int} {na : Nat} {nl : Nat} {K : Int → Int} {N : Int → Int} {O : Int → Int} {RR : Int → Int} {nr : Nat} {ps : Nat → Nat} {wt : Nat → Nat} {bs : Nat} {ph : Int} {gq : Int} {p : Nat} {w : Int}, (cc o G q lq (ab_ob 5 [vR ki, vR ne, vR ot, vz cnt, vz fi, vz la, vR ra, vz ru, vz gr, vz wi, vz sz, vz fl, vz ve, vz mi, vR na, vR nl])) → (cc o G ki (lq + 1) (za 808 K)) → (cc o G ne (lq + 2) (za 808 N)) → (cc o G ot (lq + 3) (za 808 O)) → (cc o G ra (lq + 4) (za nr RR)) → (paI o G 0 ps wt bs gq (prc RR ru) ph) → (ab_n0 = 18) → (100 ≤ lq ∧ 2 ≤ cnt ∧ cnt ≤ 808 ∧ 0 ≤ la ∧ la ≤ 1 ∧ 0 ≤ ru ∧ ru ≤ ↑nr ∧ ↑nr ≤ (100000 : Int) ∧ 32 ≤ nr ∧ 0 ≤ ph ∧ ru + ph ≤ 50000) → (prok K N O RR cnt ru wi) → (hrr RR ↑nr) → (K 0 = 9) → (0 ≤ gq ∧ gq ≤ 9 ∧ wi = 2 * (gq + 1)) → (ps p = 90) → (0 ≤ w ∧ w / 4294967296 < cnt ∧ w % 4294967296 < cnt) → (0 ≤ (dd + 1) ∧ (dd + 1) ≤ 31) → (6 * (31 - (dd + 1)) + 10 ≤ (↑d : Int)) → (G.length + 100200 ≤ ab_n0 + room_1.cells + nr) → (ab_slots G + 200000 ≤ room_1.slots + 2 * nr) → ab_F X d y_PR_rows (.code y_PR_rows b_PR_rows 8 (some (.long))) [vR q, vR p, vj w, vz (dd + 1)] G (fun oc G2 => ∃ o2 : Nat → Nat, ∃ w2 : Int, ∃ cnt2 : Int, ∃ la2 : Int, ∃ ra2 : Nat, ∃ nr2 : Nat, ∃ ru2 : Int, ∃ K2 : Int → Int, ∃ N2 : Int → Int, ∃ O2 : Int → Int, ∃ RR2 : Int → Int, ∃ ph2 : Int, oc = .returned (some (vj w2)) ∧ fx o o2 [lq, (lq + 1), (lq + 2), (lq + 3), (lq + 4), 90] G G2 ∧ cc o2 G2 q lq (ab_ob 5 [vR ki, vR ne, vR ot, vz cnt2, vz fi, vz la2, vR ra2, vz ru2, vz gr, vz wi, vz sz, vz fl, vz ve, vz mi, vR na, vR nl]) ∧ cc o2 G2 ki (lq + 1) (za 808 K2) ∧ cc o2 G2 ne (lq + 2) (za 808 N2) ∧ cc o2 G2 ot (lq + 3) (za 808 O2) ∧ cc o2 G2 ra2 (lq + 4) (za nr2 RR2) ∧ paI o2 G2 0 ps wt bs gq (prc RR2 ru2) ph2 ∧ (cnt ≤ cnt2 ∧ cnt2 ≤ 808 ∧ 0 ≤ la2 ∧ la2 ≤ 1) ∧ (0 ≤ w2 ∧ w2 / 4294967296 < cnt2 ∧ w2 % 4294967296 < cnt2) ∧ (0 ≤ ru2 ∧ ru2 ≤ ↑nr2 ∧ ↑nr2 ≤ (100000 : Int) ∧ nr ≤ nr2) ∧ (0 ≤ ph2 ∧ ru2 + ph2 ≤ ru + ph) ∧ (prok K2 N2 O2 RR2 cnt2 ru2 wi) ∧ (hrr RR2 ↑nr2) ∧ (kext K K2 cnt) ∧ (fzr ps o o2 G G2) ∧ (G2.length + nr ≤ G.length + nr2) ∧ (ab_slots G2 + 2 * nr ≤ ab_slots G + 2 * nr2))) : ab_F X d y_PR_loop (.code y_PR_loop b_PR_loop 8 (some (.long))) [vR q, vR p, vj w, vz dd] G (fun oc G2 => ∃ o2 : Nat → Nat, ∃ w2 : Int, ∃ cnt2 : Int, ∃ la2 : Int, ∃ ra2 : Nat, ∃ nr2 : Nat, ∃ ru2 : Int, ∃ K2 : Int → Int, ∃ N2 : Int → Int, ∃ O2 : Int → Int, ∃ RR2 : Int → Int, ∃ ph2 : Int, oc = .returned (some (vj w2)) ∧ fx o o2 [lq, (lq + 1), (lq + 2), (lq + 3), (lq + 4), 90] G G2 ∧ cc o2 G2 q lq (ab_ob 5 [vR ki, vR ne, vR ot, vz cnt2, vz fi, vz la2, vR ra2, vz ru2, vz gr, vz wi, vz sz, vz fl, vz ve, vz mi, vR na, vR nl]) ∧ cc o2 G2 ki (lq + 1) (za 808 K2) ∧ cc o2 G2 ne (lq + 2) (za 808 N2) ∧ cc o2 G2 ot (lq + 3) (za 808 O2) ∧ cc o2 G2 ra2 (lq + 4) (za nr2 RR2) ∧ paI o2 G2 0 ps wt bs gq (prc RR2 ru2) ph2 ∧ (cnt ≤ cnt2 ∧ cnt2 ≤ 808 ∧ 0 ≤ la2 ∧ la2 ≤ 1) ∧ (0 ≤ w2 ∧ w2 / 4294967296 < cnt2 ∧ w2 % 4294967296 < cnt2) ∧ (0 ≤ ru2 ∧ ru2 ≤ ↑nr2 ∧ ↑nr2 ≤ (100000 : Int) ∧ nr ≤ nr2) ∧ (0 ≤ ph2 ∧ ru2 + ph2 ≤ ru + ph) ∧ (prok K2 N2 O2 RR2 cnt2 ru2 wi) ∧ (hrr RR2 ↑nr2) ∧ (kext K K2 cnt) ∧ (fzr ps o o2 G G2) ∧ (G2.length + nr ≤ G.length + nr2) ∧ (ab_slots G2 + 2 * nr ≤ ab_slots G + 2 * nr2)) := by
  refine ab_F_of (by decide +kernel) (Nat.le_of_ble_eq_true rfl) ?_
  obtain ⟨Q, hQ⟩ : ∃ z : Outcome → ab_G → Prop, z = (fun oc G2 => ∃ o2 : Nat → Nat, ∃ w2 : Int, ∃ cnt2 : Int, ∃ la2 : Int, ∃ ra2 : Nat, ∃ nr2 : Nat, ∃ ru2 : Int, ∃ K2 : Int → Int, ∃ N2 : Int → Int, ∃ O2 : Int → Int, ∃ RR2 : Int → Int, ∃ ph2 : Int, oc = .returned (some (vj w2)) ∧ fx o o2 [lq, (lq + 1), (lq + 2), (lq + 3), (lq + 4), 90] G G2 ∧ cc o2 G2 q lq (ab_ob 5 [vR ki, vR ne, vR ot, vz cnt2, vz fi, vz la2, vR ra2, vz ru2, vz gr, vz wi, vz sz, vz fl, vz ve, vz mi, vR na, vR nl]) ∧ cc o2 G2 ki (lq + 1) (za 808 K2) ∧ cc o2 G2 ne (lq + 2) (za 808 N2) ∧ cc o2 G2 ot (lq + 3) (za 808 O2) ∧ cc o2 G2 ra2 (lq + 4) (za nr2 RR2) ∧ paI o2 G2 0 ps wt bs gq (prc RR2 ru2) ph2 ∧ (cnt ≤ cnt2 ∧ cnt2 ≤ 808 ∧ 0 ≤ la2 ∧ la2 ≤ 1) ∧ (0 ≤ w2 ∧ w2 / 4294967296 < cnt2 ∧ w2 % 4294967296 < cnt2) ∧ (0 ≤ ru2 ∧ ru2 ≤ ↑nr2 ∧ ↑nr2 ≤ (100000 : Int) ∧ nr ≤ nr2) ∧ (0 ≤ ph2 ∧ ru2 + ph2 ≤ ru + ph) ∧ (prok K2 N2 O2 RR2 cnt2 ru2 wi) ∧ (hrr RR2 ↑nr2) ∧ (kext K K2 cnt) ∧ (fzr ps o o2 G G2) ∧ (G2.length + nr ≤ G.length + nr2) ∧ (ab_slots G2 + 2 * nr ≤ ab_slots G + 2 * nr2)) := ⟨_, rfl⟩
  rw [← hQ]
  change ab_W X (ab_pl y_PR_loop b_PR_loop 8 (some (.long))) d G 0 [some (vR q), some (vR p), some (vj w), none, some (vz dd), none, none, none] [] Q
  have hfr : fx o o [lq, (lq + 1), (lq + 2), (lq + 3), (lq + 4), 90] G G := fx.rf
  have hzr : fzr ps o o G G := fzr.rf
  obtain ⟨k_1, v_1, rg_1, pl_1, fl_1, ou_1, ls_1, bf_1, sz_1, mb_1, oe_1, le_1, mo_1, la_1, rc_1, hp, hn1, hb1, hg1, ho1, hl1, hf1⟩ := ppaI_0.1 p hpp
  have hB1 := hb1
  unfold pnB at hB1
  have hK1 := hn1.1
  refine ab_aload_n d_PR_loop_0 rfl ?_
  refine zz_bipush d_PR_loop_1 (by decide) ?_
  refine zz_iconst d_PR_loop_3 ?_
  refine zz_iconst d_PR_loop_4 ?_
  refine ab_callV (d' := d - 1) (as := [vz 6, vz 0, vz 0]) (st := []) (r := _) (z_PR_add (o := o) (q := q) (lq := lq) (ki := ki) (ne := ne) (ot := ot) (cnt := cnt) (fi := fi) (la := la) (ra := ra) (ru := ru) (gr := gr) (wi := wi) (sz := sz) (fl := fl) (ve := ve) (mi := mi) (na := na) (nl := nl) (K := K) (N := N) (O := O) (k0 := 6) (x0 := 0) (v0 := 0) hq hki hne hot (by omega) (by omega) (by omega)) (fun oc G2 h => by rcases h with ⟨h, _⟩ | ⟨_, h, _⟩ <;> exact ⟨_, h⟩) (by omega) m_PR_add ml_PR_84 im_PR_add se_PR_add c_PR hq.2.2 (Nat.le_of_ble_eq_true rfl) d_PR_loop_5 rfl ?_
  intro v G2 hq
  rcases hq with ⟨hv, hGe, hq3⟩ | ⟨la24, hv, hfk, hlk, hsk, hNq, hNki, hNne, hNot, hq5, hq6, hq7⟩
  · cases hv
    rw [hGe]
    change ab_W _ _ _ G 8 [some (vR q), some (vR p), some (vj w), none, some (vz dd), none, none, none] [vz 0] _
    refine ab_istore d_PR_loop_8 (Nat.le_of_ble_eq_true rfl) (Nat.le_of_ble_eq_true rfl) rfl ?_
    change ab_W _ _ _ G 10 [some (vR q), some (vR p), some (vj w), none, some (vz dd), some (vz 0), none, none] [] _
    refine ab_aload_n d_PR_loop_10 rfl ?_
    refine ab_aload_n d_PR_loop_11 rfl ?_
    refine ab_aload_n d_PR_loop_12 rfl ?_
    refine ab_getf (fs := [vz k_1, vz v_1, rg_1, vz pl_1, vz fl_1, ou_1, ls_1, bf_1, vz sz_1, vz mb_1, vz oe_1, vz le_1, vz mo_1, vz la_1, vz rc_1]) f_PR_159 d_PR_loop_13 hp.2.2 rfl ?_
    refine zz_if_eq (tgt := 23) d_PR_loop_16 (by decide) (by omega) (fun c10 => ?_) (fun c10 => ?_)
    · refine ab_iload d_PR_loop_23 rfl ?_
      refine ab_iload d_PR_loop_25 rfl ?_
      refine ab_callS (d' := d - 1) (as := [vz 0, vz 0]) (st := [vR p, vR q]) (z_PR_pair (o := o) (f0 := 0) (u0 := 0) (by omega)) (fun oc G2 h => by rcases h with ⟨h, _⟩ <;> exact ⟨_, h⟩) (by omega) m_PR_pair ml_PR_88 st_PR_pair (Nat.le_of_ble_eq_true rfl) d_PR_loop_27 rfl ?_
      intro v G11 hq
      rcases hq with ⟨hv, hGe⟩
      cases hv
      rw [hGe]
      change ab_W _ _ _ G 30 [some (vR q), some (vR p), some (vj w), none, some (vz dd), some (vz 0), none, none] [vj (0 * 4294967296 + 0), vR p, vR q] _
      refine ab_iload d_PR_loop_30 rfl ?_
      refine ab_callV (d' := d - 1) (as := [vR p, vj (0 * 4294967296 + 0), vz dd]) (st := []) (r := _) (z_PR_once (o := o) (q := q) (lq := lq) (ki := ki) (ne := ne) (ot := ot) (cnt := cnt) (fi := fi) (la := la) (ra := ra) (ru := ru) (gr := gr) (wi := wi) (sz := sz) (fl := fl) (ve := ve) (mi := mi) (na := na) (nl := nl) (K := K) (N := N) (O := O) (RR := RR) (nr := nr) (ps := ps) (wt := wt) (bs := bs) (ph := ph) (gq := gq) (p := p) (w := (0 * 4294967296 + 0)) (dd := dd) hq hki hne hot hra ppaI_0 (by omega) (by omega) hp_ hr ck0 (by omega) hpp (by omega) (by omega) (by omega) (by omega) (by omega) ihR) (fun oc G2 h => by rcases h with ⟨_, _, _, _, _, _, _, _, _, _, _, _, h, _⟩ <;> exact ⟨_, h⟩) (by omega) m_PR_once ml_PR_153 im_PR_once se_PR_once c_PR hq.2.2 (Nat.le_of_ble_eq_true rfl) d_PR_loop_32 rfl ?_
      intro v G12 hq
      rcases hq with ⟨o13, w214, cnt215, la216, ra217, nr218, ru219, K220, N221, O222, RR223, ph224, hv, hfk, hNq, hNki, hNne, hNot, hNra217, pNpaI_0, hq25, hq26, hq27, hq28, hq29, hq30, hq31, hq32, hq33, hq34⟩
      cases hv
      have hzr := hzr.tr hq32
      obtain ⟨rc35, hKp⟩ := hq32 _ _ _ _ _ _ _ _ _ _ _ _ _ _ _ _ hpp hp
      have hp := hKp
      have ppaI_0 := pNpaI_0
      have hfr := hfr.tr hfk (by simp)
      have hq36 := hfk.1
      have hq := hNq
      have hki := hNki
      have hne := hNne
      have hot := hNot
      have hra217 := hNra217
      change ab_W _ _ _ G12 35 [some (vR q), some (vR p), some (vj w), none, some (vz dd), some (vz 0), none, none] [vj w214] _
      refine ab_callS (d' := d - 1) (as := [vj w214]) (st := []) (z_PR_fresh (o := o13) (w := w214) (by omega)) (fun oc G2 h => by rcases h with ⟨h, _⟩ <;> exact ⟨_, h⟩) (by omega) m_PR_fresh ml_PR_96 st_PR_fresh (Nat.le_of_ble_eq_true rfl) d_PR_loop_35 rfl ?_
      intro v G37 hq
      rcases hq with ⟨hv, hGe⟩
      cases hv
      rw [hGe]
      change ab_W _ _ _ G12 38 [some (vR q), some (vR p), some (vj w), none, some (vz dd), some (vz 0), none, none] [vz (w214 / 4294967296)] _
      refine ab_istore d_PR_loop_38 (Nat.le_of_ble_eq_true rfl) (Nat.le_of_ble_eq_true rfl) rfl ?_
      change ab_W _ _ _ G12 40 [some (vR q), some (vR p), some (vj w), none, some (vz dd), some (vz 0), some (vz (w214 / 4294967296)), none] [] _
      refine ab_aload_n d_PR_loop_40 rfl ?_
      refine ab_getf (fs := [vR ki, vR ne, vR ot, vz cnt215, vz fi, vz la216, vR ra217, vz ru219, vz gr, vz wi, vz sz, vz fl, vz ve, vz mi, vR na, vR nl]) f_PR_15 d_PR_loop_41 hq.2.2 rfl ?_
      refine ab_iload d_PR_loop_44 rfl ?_
      refine ab_aload_n d_PR_loop_46 rfl ?_
      refine ab_getf (fs := [vz k_1, vz v_1, rg_1, vz pl_1, vz fl_1, ou_1, ls_1, bf_1, vz sz_1, vz mb_1, vz oe_1, vz le_1, vz mo_1, vz la_1, vz rc35]) f_PR_156 d_PR_loop_47 hp.2.2 rfl ?_
      refine zz_if_eq (tgt := 60) d_PR_loop_50 (by decide) (by omega) (fun c38 => ?_) (fun c38 => ?_)
      · refine ab_iload d_PR_loop_60 rfl ?_
        refine zz_iast d_PR_loop_62 hne (by omega) (hne.2.1 (by first | omega | exact (show 18 ≤ _ by omega))) ?_
        obtain ⟨G39, eG39⟩ : ∃ z : ab_G, z = List.set G12 ne (za 808 (zu N221 0 (w214 / 4294967296))) := ⟨_, rfl⟩
        have hq := hq.keep hne eG39 (by omega)
        have hki := hki.keep hne eG39 (by omega)
        have hot := hot.keep hne eG39 (by omega)
        have hp := hp.keep hne eG39 (by omega)
        have hra217 := hra217.keep hne eG39 (by omega)
        have hzr := hzr.wr hne eG39 (by omega)
        have hst := (fx.rf (o := o13) (S := [(lq + 2)]) (G := G12)).wr hne eG39 (List.mem_singleton.mpr rfl)
        have ppaI_0 := paI.fr hst ppaI_0 (by simp only [List.mem_cons, List.not_mem_nil, or_false]; omega) (by simp only [List.mem_cons, List.not_mem_nil, or_false]; omega) (by simp only [List.mem_cons, List.not_mem_nil, or_false]; omega) (by intro xx hx; simp only [List.mem_cons, List.not_mem_nil, or_false] at hx; omega)
        have hq40 := z_len eG39
        have hq41 := z_sl hne eG39 rfl
        have hfr := hfr.wr hne eG39 (by simp)
        have hne := hne.kept eG39
        change ab_W _ _ _ (List.set G12 ne (za 808 (zu N221 0 (w214 / 4294967296)))) 63 [some (vR q), some (vR p), some (vj w), none, some (vz dd), some (vz 0), some (vz (w214 / 4294967296)), none] [] _
        rw [← eG39]
        have hp42 := prok_next (a := 0) (x := (w214 / 4294967296)) hq29 (by omega)
        obtain ⟨N42, eN42⟩ : ∃ z : Int → Int, z = zu N221 0 (w214 / 4294967296) := ⟨_, rfl⟩
        have hne : cc o13 G39 ne (lq + 2) (za 808 N42) := by rw [← eN42.symm]; exact hne
        rw [← eN42] at hp42
        change ab_W _ _ _ G39 63 [some (vR q), some (vR p), some (vj w), none, some (vz dd), some (vz 0), some (vz (w214 / 4294967296)), none] [] _
        refine ab_aload_n d_PR_loop_63 rfl ?_
        refine ab_getf (fs := [vR ki, vR ne, vR ot, vz cnt215, vz fi, vz la216, vR ra217, vz ru219, vz gr, vz wi, vz sz, vz fl, vz ve, vz mi, vR na, vR nl]) f_PR_18 d_PR_loop_64 hq.2.2 rfl ?_
        refine ab_iload d_PR_loop_67 rfl ?_
        refine ab_aload_n d_PR_loop_69 rfl ?_
        refine ab_getf (fs := [vz k_1, vz v_1, rg_1, vz pl_1, vz fl_1, ou_1, ls_1, bf_1, vz sz_1, vz mb_1, vz oe_1, vz le_1, vz mo_1, vz la_1, vz rc35]) f_PR_156 d_PR_loop_70 hp.2.2 rfl ?_
        refine zz_if_eq (tgt := 81) d_PR_loop_73 (by decide) (by omega) (fun c43 => ?_) (fun c43 => absurd c43 (by omega))
        refine ab_lload_n d_PR_loop_81 rfl ?_
        refine ab_callS (d' := d - 1) (as := [vj w]) (st := [vz 0, vR ot]) (z_PR_used (o := o13) (w := w) (by omega)) (fun oc G2 h => by rcases h with ⟨h, _⟩ <;> exact ⟨_, h⟩) (by omega) m_PR_used ml_PR_124 st_PR_used (Nat.le_of_ble_eq_true rfl) d_PR_loop_82 rfl ?_
        intro v G44 hq
        rcases hq with ⟨hv, hGe⟩
        cases hv
        rw [hGe]
        change ab_W _ _ _ G39 85 [some (vR q), some (vR p), some (vj w), none, some (vz dd), some (vz 0), some (vz (w214 / 4294967296)), none] [vz (w % 4294967296), vz 0, vR ot] _
        refine zz_iast d_PR_loop_85 hot (by omega) (hot.2.1 (by first | omega | exact (show 18 ≤ _ by omega))) ?_
        obtain ⟨G45, eG45⟩ : ∃ z : ab_G, z = List.set G39 ot (za 808 (zu O222 0 (w % 4294967296))) := ⟨_, rfl⟩
        have hq := hq.keep hot eG45 (by omega)
        have hki := hki.keep hot eG45 (by omega)
        have hne := hne.keep hot eG45 (by omega)
        have hp := hp.keep hot eG45 (by omega)
        have hra217 := hra217.keep hot eG45 (by omega)
        have hzr := hzr.wr hot eG45 (by omega)
        have hst := (fx.rf (o := o13) (S := [(lq + 3)]) (G := G39)).wr hot eG45 (List.mem_singleton.mpr rfl)
        have ppaI_0 := paI.fr hst ppaI_0 (by simp only [List.mem_cons, List.not_mem_nil, or_false]; omega) (by simp only [List.mem_cons, List.not_mem_nil, or_false]; omega) (by simp only [List.mem_cons, List.not_mem_nil, or_false]; omega) (by intro xx hx; simp only [List.mem_cons, List.not_mem_nil, or_false] at hx; omega)
        have hq46 := z_len eG45
        have hq47 := z_sl hot eG45 rfl
        have hfr := hfr.wr hot eG45 (by simp)
        have hot := hot.kept eG45
        change ab_W _ _ _ (List.set G39 ot (za 808 (zu O222 0 (w % 4294967296)))) 86 [some (vR q), some (vR p), some (vj w), none, some (vz dd), some (vz 0), some (vz (w214 / 4294967296)), none] [] _
        rw [← eG45]
        have hp48 := prok_other (a := 0) (x := (w % 4294967296)) hp42 (by omega) (Or.inr ((hq31 0 (by omega) (by omega)).trans ck0))
        obtain ⟨O48, eO48⟩ : ∃ z : Int → Int, z = zu O222 0 (w % 4294967296) := ⟨_, rfl⟩
        have hot : cc o13 G45 ot (lq + 3) (za 808 O48) := by rw [← eO48.symm]; exact hot
        rw [← eO48] at hp48
        change ab_W _ _ _ G45 86 [some (vR q), some (vR p), some (vj w), none, some (vz dd), some (vz 0), some (vz (w214 / 4294967296)), none] [] _
        refine ab_lload_n d_PR_loop_86 rfl ?_
        refine ab_callS (d' := d - 1) (as := [vj w]) (st := []) (z_PR_fresh (o := o13) (w := w) (by omega)) (fun oc G2 h => by rcases h with ⟨h, _⟩ <;> exact ⟨_, h⟩) (by omega) m_PR_fresh ml_PR_96 st_PR_fresh (Nat.le_of_ble_eq_true rfl) d_PR_loop_87 rfl ?_
        intro v G49 hq
        rcases hq with ⟨hv, hGe⟩
        cases hv
        rw [hGe]
        change ab_W _ _ _ G45 90 [some (vR q), some (vR p), some (vj w), none, some (vz dd), some (vz 0), some (vz (w214 / 4294967296)), none] [vz (w / 4294967296)] _
        refine ab_lload_n d_PR_loop_90 rfl ?_
        refine ab_callS (d' := d - 1) (as := [vj w]) (st := [vz (w / 4294967296)]) (z_PR_used (o := o13) (w := w) (by omega)) (fun oc G2 h => by rcases h with ⟨h, _⟩ <;> exact ⟨_, h⟩) (by omega) m_PR_used ml_PR_124 st_PR_used (Nat.le_of_ble_eq_true rfl) d_PR_loop_91 rfl ?_
        intro v G50 hq
        rcases hq with ⟨hv, hGe⟩
        cases hv
        rw [hGe]
        change ab_W _ _ _ G45 94 [some (vR q), some (vR p), some (vj w), none, some (vz dd), some (vz 0), some (vz (w214 / 4294967296)), none] [vz (w % 4294967296), vz (w / 4294967296)] _
        refine zz_icmp_ne (tgt := 105) d_PR_loop_94 (by decide) (by omega) (by omega) (fun c51 => ?_) (fun c51 => ?_)
        · refine ab_aload_n d_PR_loop_105 rfl ?_
          refine ab_getf (fs := [vz k_1, vz v_1, rg_1, vz pl_1, vz fl_1, ou_1, ls_1, bf_1, vz sz_1, vz mb_1, vz oe_1, vz le_1, vz mo_1, vz la_1, vz rc35]) f_PR_156 d_PR_loop_106 hp.2.2 rfl ?_
          refine zz_if_eq (tgt := 127) d_PR_loop_109 (by decide) (by omega) (fun c52 => ?_) (fun c52 => absurd c52 (by omega))
          refine ab_aload_n d_PR_loop_127 rfl ?_
          refine zz_bipush d_PR_loop_128 (by decide) ?_
          refine ab_iload d_PR_loop_130 rfl ?_
          refine ab_lload_n d_PR_loop_132 rfl ?_
          refine ab_callS (d' := d - 1) (as := [vj w]) (st := [vz (w214 / 4294967296), vz 6, vR q]) (z_PR_fresh (o := o13) (w := w) (by omega)) (fun oc G2 h => by rcases h with ⟨h, _⟩ <;> exact ⟨_, h⟩) (by omega) m_PR_fresh ml_PR_96 st_PR_fresh (Nat.le_of_ble_eq_true rfl) d_PR_loop_133 rfl ?_
          intro v G53 hq
          rcases hq with ⟨hv, hGe⟩
          cases hv
          rw [hGe]
          change ab_W _ _ _ G45 136 [some (vR q), some (vR p), some (vj w), none, some (vz dd), some (vz 0), some (vz (w214 / 4294967296)), none] [vz (w / 4294967296), vz (w214 / 4294967296), vz 6, vR q] _
          refine ab_callV (d' := d - 1) (as := [vz 6, vz (w214 / 4294967296), vz (w / 4294967296)]) (st := []) (r := _) (z_PR_add (o := o13) (q := q) (lq := lq) (ki := ki) (ne := ne) (ot := ot) (cnt := cnt215) (fi := fi) (la := la216) (ra := ra217) (ru := ru219) (gr := gr) (wi := wi) (sz := sz) (fl := fl) (ve := ve) (mi := mi) (na := na) (nl := nl) (K := K220) (N := N42) (O := O48) (k0 := 6) (x0 := (w214 / 4294967296)) (v0 := (w / 4294967296)) hq hki hne hot (by omega) (by omega) (by omega)) (fun oc G2 h => by rcases h with ⟨h, _⟩ | ⟨_, h, _⟩ <;> exact ⟨_, h⟩) (by omega) m_PR_add ml_PR_84 im_PR_add se_PR_add c_PR hq.2.2 (Nat.le_of_ble_eq_true rfl) d_PR_loop_136 rfl ?_
          intro v G54 hq
          rcases hq with ⟨hv, hGe, hq55⟩ | ⟨la256, hv, hfk, hlk, hsk, hNq, hNki, hNne, hNot, hq57, hq58, hq59⟩
          · cases hv
            rw [hGe]
            change ab_W _ _ _ G45 139 [some (vR q), some (vR p), some (vj w), none, some (vz dd), some (vz 0), some (vz (w214 / 4294967296)), none] [vz 0] _
            refine ab_istore d_PR_loop_139 (Nat.le_of_ble_eq_true rfl) (Nat.le_of_ble_eq_true rfl) rfl ?_
            change ab_W _ _ _ G45 141 [some (vR q), some (vR p), some (vj w), none, some (vz dd), some (vz 0), some (vz (w214 / 4294967296)), some (vz 0)] [] _
            refine ab_iload d_PR_loop_141 rfl ?_
            refine ab_iload d_PR_loop_143 rfl ?_
            refine ab_callS (d' := d - 1) (as := [vz 0, vz 0]) (st := []) (z_PR_pair (o := o13) (f0 := 0) (u0 := 0) (by omega)) (fun oc G2 h => by rcases h with ⟨h, _⟩ <;> exact ⟨_, h⟩) (by omega) m_PR_pair ml_PR_88 st_PR_pair (Nat.le_of_ble_eq_true rfl) d_PR_loop_145 rfl ?_
            intro v G62 hq
            rcases hq with ⟨hv, hGe⟩
            cases hv
            rw [hGe]
            change ab_W _ _ _ G45 148 [some (vR q), some (vR p), some (vj w), none, some (vz dd), some (vz 0), some (vz (w214 / 4294967296)), some (vz 0)] [vj (0 * 4294967296 + 0)] _
            refine ab_lret rfl d_PR_loop_148 ?_
            rw [hQ]; exact ⟨_, _, _, _, _, _, _, _, _, _, _, _, rfl, hfr, hq, hki, hne, hot, hra217, ppaI_0, (by omega), (by omega), (by omega), (by omega), (by exact hp48), (by exact hq30), (by exact hq31), (by exact hzr), (by omega), (by omega)⟩
          · cases hv
            have hzr := hzr.tr (fzr.fx hfk (by simp only [List.mem_cons, List.not_mem_nil, or_false]; omega))
            have hp := hfk.get hp (by simp only [List.mem_cons, List.not_mem_nil, or_false]; omega)
            have hra217 := hfk.get hra217 (by simp only [List.mem_cons, List.not_mem_nil, or_false]; omega)
            have ppaI_0 := paI.fr hfk ppaI_0 (by simp only [List.mem_cons, List.not_mem_nil, or_false]; omega) (by simp only [List.mem_cons, List.not_mem_nil, or_false]; omega) (by simp only [List.mem_cons, List.not_mem_nil, or_false]; omega) (by intro xx hx; simp only [List.mem_cons, List.not_mem_nil, or_false] at hx; omega)
            have hfr := hfr.tr hfk (by simp)
            have hq60 := hlk
            have hq61 := hsk
            have hq := hNq
            have hki := hNki
            have hne := hNne
            have hot := hNot
            change ab_W _ _ _ G54 139 [some (vR q), some (vR p), some (vj w), none, some (vz dd), some (vz 0), some (vz (w214 / 4294967296)), none] [vz cnt215] _
            exfalso; omega
        · refine ab_iload d_PR_loop_97 rfl ?_
          refine ab_iload d_PR_loop_99 rfl ?_
          refine ab_callS (d' := d - 1) (as := [vz 0, vz 0]) (st := []) (z_PR_pair (o := o13) (f0 := 0) (u0 := 0) (by omega)) (fun oc G2 h => by rcases h with ⟨h, _⟩ <;> exact ⟨_, h⟩) (by omega) m_PR_pair ml_PR_88 st_PR_pair (Nat.le_of_ble_eq_true rfl) d_PR_loop_101 rfl ?_
          intro v G63 hq
          rcases hq with ⟨hv, hGe⟩
          cases hv
          rw [hGe]
          change ab_W _ _ _ G45 104 [some (vR q), some (vR p), some (vj w), none, some (vz dd), some (vz 0), some (vz (w214 / 4294967296)), none] [vj (0 * 4294967296 + 0)] _
          refine ab_lret rfl d_PR_loop_104 ?_
          rw [hQ]; exact ⟨_, _, _, _, _, _, _, _, _, _, _, _, rfl, hfr, hq, hki, hne, hot, hra217, ppaI_0, (by omega), (by omega), (by omega), (by omega), (by exact hp48), (by exact hq30), (by exact hq31), (by exact hzr), (by omega), (by omega)⟩
      · refine ab_lload_n d_PR_loop_53 rfl ?_
        refine ab_callS (d' := d - 1) (as := [vj w]) (st := [vz 0, vR ne]) (z_PR_used (o := o13) (w := w) (by omega)) (fun oc G2 h => by rcases h with ⟨h, _⟩ <;> exact ⟨_, h⟩) (by omega) m_PR_used ml_PR_124 st_PR_used (Nat.le_of_ble_eq_true rfl) d_PR_loop_54 rfl ?_
        intro v G64 hq
        rcases hq with ⟨hv, hGe⟩
        cases hv
        rw [hGe]
        change ab_W _ _ _ G12 57 [some (vR q), some (vR p), some (vj w), none, some (vz dd), some (vz 0), some (vz (w214 / 4294967296)), none] [vz (w % 4294967296), vz 0, vR ne] _
        refine ab_goto (tgt := 62) d_PR_loop_57 (by decide) ?_
        refine zz_iast d_PR_loop_62 hne (by omega) (hne.2.1 (by first | omega | exact (show 18 ≤ _ by omega))) ?_
        obtain ⟨G65, eG65⟩ : ∃ z : ab_G, z = List.set G12 ne (za 808 (zu N221 0 (w % 4294967296))) := ⟨_, rfl⟩
        have hq := hq.keep hne eG65 (by omega)
        have hki := hki.keep hne eG65 (by omega)
        have hot := hot.keep hne eG65 (by omega)
        have hp := hp.keep hne eG65 (by omega)
        have hra217 := hra217.keep hne eG65 (by omega)
        have hzr := hzr.wr hne eG65 (by omega)
        have hst := (fx.rf (o := o13) (S := [(lq + 2)]) (G := G12)).wr hne eG65 (List.mem_singleton.mpr rfl)
        have ppaI_0 := paI.fr hst ppaI_0 (by simp only [List.mem_cons, List.not_mem_nil, or_false]; omega) (by simp only [List.mem_cons, List.not_mem_nil, or_false]; omega) (by simp only [List.mem_cons, List.not_mem_nil, or_false]; omega) (by intro xx hx; simp only [List.mem_cons, List.not_mem_nil, or_false] at hx; omega)
        have hq66 := z_len eG65
        have hq67 := z_sl hne eG65 rfl
        have hfr := hfr.wr hne eG65 (by simp)
        have hne := hne.kept eG65
        change ab_W _ _ _ (List.set G12 ne (za 808 (zu N221 0 (w % 4294967296)))) 63 [some (vR q), some (vR p), some (vj w), none, some (vz dd), some (vz 0), some (vz (w214 / 4294967296)), none] [] _
        rw [← eG65]
        have hp68 := prok_next (a := 0) (x := (w % 4294967296)) hq29 (by omega)
        obtain ⟨N68, eN68⟩ : ∃ z : Int → Int, z = zu N221 0 (w % 4294967296) := ⟨_, rfl⟩
        have hne : cc o13 G65 ne (lq + 2) (za 808 N68) := by rw [← eN68.symm]; exact hne
        rw [← eN68] at hp68
        change ab_W _ _ _ G65 63 [some (vR q), some (vR p), some (vj w), none, some (vz dd), some (vz 0), some (vz (w214 / 4294967296)), none] [] _
        refine ab_aload_n d_PR_loop_63 rfl ?_
        refine ab_getf (fs := [vR ki, vR ne, vR ot, vz cnt215, vz fi, vz la216, vR ra217, vz ru219, vz gr, vz wi, vz sz, vz fl, vz ve, vz mi, vR na, vR nl]) f_PR_18 d_PR_loop_64 hq.2.2 rfl ?_
        refine ab_iload d_PR_loop_67 rfl ?_
        refine ab_aload_n d_PR_loop_69 rfl ?_
        refine ab_getf (fs := [vz k_1, vz v_1, rg_1, vz pl_1, vz fl_1, ou_1, ls_1, bf_1, vz sz_1, vz mb_1, vz oe_1, vz le_1, vz mo_1, vz la_1, vz rc35]) f_PR_156 d_PR_loop_70 hp.2.2 rfl ?_
        refine zz_if_eq (tgt := 81) d_PR_loop_73 (by decide) (by omega) (fun c69 => absurd c69 (by omega)) (fun c69 => ?_)
        refine ab_iload d_PR_loop_76 rfl ?_
        refine ab_goto (tgt := 85) d_PR_loop_78 (by decide) ?_
        refine zz_iast d_PR_loop_85 hot (by omega) (hot.2.1 (by first | omega | exact (show 18 ≤ _ by omega))) ?_
        obtain ⟨G70, eG70⟩ : ∃ z : ab_G, z = List.set G65 ot (za 808 (zu O222 0 (w214 / 4294967296))) := ⟨_, rfl⟩
        have hq := hq.keep hot eG70 (by omega)
        have hki := hki.keep hot eG70 (by omega)
        have hne := hne.keep hot eG70 (by omega)
        have hp := hp.keep hot eG70 (by omega)
        have hra217 := hra217.keep hot eG70 (by omega)
        have hzr := hzr.wr hot eG70 (by omega)
        have hst := (fx.rf (o := o13) (S := [(lq + 3)]) (G := G65)).wr hot eG70 (List.mem_singleton.mpr rfl)
        have ppaI_0 := paI.fr hst ppaI_0 (by simp only [List.mem_cons, List.not_mem_nil, or_false]; omega) (by simp only [List.mem_cons, List.not_mem_nil, or_false]; omega) (by simp only [List.mem_cons, List.not_mem_nil, or_false]; omega) (by intro xx hx; simp only [List.mem_cons, List.not_mem_nil, or_false] at hx; omega)
        have hq71 := z_len eG70
        have hq72 := z_sl hot eG70 rfl
        have hfr := hfr.wr hot eG70 (by simp)
        have hot := hot.kept eG70
        change ab_W _ _ _ (List.set G65 ot (za 808 (zu O222 0 (w214 / 4294967296)))) 86 [some (vR q), some (vR p), some (vj w), none, some (vz dd), some (vz 0), some (vz (w214 / 4294967296)), none] [] _
        rw [← eG70]
        have hp73 := prok_other (a := 0) (x := (w214 / 4294967296)) hp68 (by omega) (Or.inr ((hq31 0 (by omega) (by omega)).trans ck0))
        obtain ⟨O73, eO73⟩ : ∃ z : Int → Int, z = zu O222 0 (w214 / 4294967296) := ⟨_, rfl⟩
        have hot : cc o13 G70 ot (lq + 3) (za 808 O73) := by rw [← eO73.symm]; exact hot
        rw [← eO73] at hp73
        change ab_W _ _ _ G70 86 [some (vR q), some (vR p), some (vj w), none, some (vz dd), some (vz 0), some (vz (w214 / 4294967296)), none] [] _
        refine ab_lload_n d_PR_loop_86 rfl ?_
        refine ab_callS (d' := d - 1) (as := [vj w]) (st := []) (z_PR_fresh (o := o13) (w := w) (by omega)) (fun oc G2 h => by rcases h with ⟨h, _⟩ <;> exact ⟨_, h⟩) (by omega) m_PR_fresh ml_PR_96 st_PR_fresh (Nat.le_of_ble_eq_true rfl) d_PR_loop_87 rfl ?_
        intro v G74 hq
        rcases hq with ⟨hv, hGe⟩
        cases hv
        rw [hGe]
        change ab_W _ _ _ G70 90 [some (vR q), some (vR p), some (vj w), none, some (vz dd), some (vz 0), some (vz (w214 / 4294967296)), none] [vz (w / 4294967296)] _
        refine ab_lload_n d_PR_loop_90 rfl ?_
        refine ab_callS (d' := d - 1) (as := [vj w]) (st := [vz (w / 4294967296)]) (z_PR_used (o := o13) (w := w) (by omega)) (fun oc G2 h => by rcases h with ⟨h, _⟩ <;> exact ⟨_, h⟩) (by omega) m_PR_used ml_PR_124 st_PR_used (Nat.le_of_ble_eq_true rfl) d_PR_loop_91 rfl ?_
        intro v G75 hq
        rcases hq with ⟨hv, hGe⟩
        cases hv
        rw [hGe]
        change ab_W _ _ _ G70 94 [some (vR q), some (vR p), some (vj w), none, some (vz dd), some (vz 0), some (vz (w214 / 4294967296)), none] [vz (w % 4294967296), vz (w / 4294967296)] _
        refine zz_icmp_ne (tgt := 105) d_PR_loop_94 (by decide) (by omega) (by omega) (fun c76 => ?_) (fun c76 => ?_)
        · refine ab_aload_n d_PR_loop_105 rfl ?_
          refine ab_getf (fs := [vz k_1, vz v_1, rg_1, vz pl_1, vz fl_1, ou_1, ls_1, bf_1, vz sz_1, vz mb_1, vz oe_1, vz le_1, vz mo_1, vz la_1, vz rc35]) f_PR_156 d_PR_loop_106 hp.2.2 rfl ?_
          refine zz_if_eq (tgt := 127) d_PR_loop_109 (by decide) (by omega) (fun c77 => absurd c77 (by omega)) (fun c77 => ?_)
          refine ab_aload_n d_PR_loop_112 rfl ?_
          refine zz_bipush d_PR_loop_113 (by decide) ?_
          refine ab_lload_n d_PR_loop_115 rfl ?_
          refine ab_callS (d' := d - 1) (as := [vj w]) (st := [vz 6, vR q]) (z_PR_fresh (o := o13) (w := w) (by omega)) (fun oc G2 h => by rcases h with ⟨h, _⟩ <;> exact ⟨_, h⟩) (by omega) m_PR_fresh ml_PR_96 st_PR_fresh (Nat.le_of_ble_eq_true rfl) d_PR_loop_116 rfl ?_
          intro v G78 hq
          rcases hq with ⟨hv, hGe⟩
          cases hv
          rw [hGe]
          change ab_W _ _ _ G70 119 [some (vR q), some (vR p), some (vj w), none, some (vz dd), some (vz 0), some (vz (w214 / 4294967296)), none] [vz (w / 4294967296), vz 6, vR q] _
          refine ab_iload d_PR_loop_119 rfl ?_
          refine ab_callV (d' := d - 1) (as := [vz 6, vz (w / 4294967296), vz (w214 / 4294967296)]) (st := []) (r := _) (z_PR_add (o := o13) (q := q) (lq := lq) (ki := ki) (ne := ne) (ot := ot) (cnt := cnt215) (fi := fi) (la := la216) (ra := ra217) (ru := ru219) (gr := gr) (wi := wi) (sz := sz) (fl := fl) (ve := ve) (mi := mi) (na := na) (nl := nl) (K := K220) (N := N68) (O := O73) (k0 := 6) (x0 := (w / 4294967296)) (v0 := (w214 / 4294967296)) hq hki hne hot (by omega) (by omega) (by omega)) (fun oc G2 h => by rcases h with ⟨h, _⟩ | ⟨_, h, _⟩ <;> exact ⟨_, h⟩) (by omega) m_PR_add ml_PR_84 im_PR_add se_PR_add c_PR hq.2.2 (Nat.le_of_ble_eq_true rfl) d_PR_loop_121 rfl ?_
          intro v G79 hq
          rcases hq with ⟨hv, hGe, hq80⟩ | ⟨la281, hv, hfk, hlk, hsk, hNq, hNki, hNne, hNot, hq82, hq83, hq84⟩
          · cases hv
            rw [hGe]
            change ab_W _ _ _ G70 124 [some (vR q), some (vR p), some (vj w), none, some (vz dd), some (vz 0), some (vz (w214 / 4294967296)), none] [vz 0] _
            refine ab_goto (tgt := 139) d_PR_loop_124 (by decide) ?_
            refine ab_istore d_PR_loop_139 (Nat.le_of_ble_eq_true rfl) (Nat.le_of_ble_eq_true rfl) rfl ?_
            change ab_W _ _ _ G70 141 [some (vR q), some (vR p), some (vj w), none, some (vz dd), some (vz 0), some (vz (w214 / 4294967296)), some (vz 0)] [] _
            refine ab_iload d_PR_loop_141 rfl ?_
            refine ab_iload d_PR_loop_143 rfl ?_
            refine ab_callS (d' := d - 1) (as := [vz 0, vz 0]) (st := []) (z_PR_pair (o := o13) (f0 := 0) (u0 := 0) (by omega)) (fun oc G2 h => by rcases h with ⟨h, _⟩ <;> exact ⟨_, h⟩) (by omega) m_PR_pair ml_PR_88 st_PR_pair (Nat.le_of_ble_eq_true rfl) d_PR_loop_145 rfl ?_
            intro v G87 hq
            rcases hq with ⟨hv, hGe⟩
            cases hv
            rw [hGe]
            change ab_W _ _ _ G70 148 [some (vR q), some (vR p), some (vj w), none, some (vz dd), some (vz 0), some (vz (w214 / 4294967296)), some (vz 0)] [vj (0 * 4294967296 + 0)] _
            refine ab_lret rfl d_PR_loop_148 ?_
            rw [hQ]; exact ⟨_, _, _, _, _, _, _, _, _, _, _, _, rfl, hfr, hq, hki, hne, hot, hra217, ppaI_0, (by omega), (by omega), (by omega), (by omega), (by exact hp73), (by exact hq30), (by exact hq31), (by exact hzr), (by omega), (by omega)⟩
          · cases hv
            have hzr := hzr.tr (fzr.fx hfk (by simp only [List.mem_cons, List.not_mem_nil, or_false]; omega))
            have hp := hfk.get hp (by simp only [List.mem_cons, List.not_mem_nil, or_false]; omega)
            have hra217 := hfk.get hra217 (by simp only [List.mem_cons, List.not_mem_nil, or_false]; omega)
            have ppaI_0 := paI.fr hfk ppaI_0 (by simp only [List.mem_cons, List.not_mem_nil, or_false]; omega) (by simp only [List.mem_cons, List.not_mem_nil, or_false]; omega) (by simp only [List.mem_cons, List.not_mem_nil, or_false]; omega) (by intro xx hx; simp only [List.mem_cons, List.not_mem_nil, or_false] at hx; omega)
            have hfr := hfr.tr hfk (by simp)
            have hq85 := hlk
            have hq86 := hsk
            have hq := hNq
            have hki := hNki
            have hne := hNne
            have hot := hNot
            change ab_W _ _ _ G79 124 [some (vR q), some (vR p), some (vj w), none, some (vz dd), some (vz 0), some (vz (w214 / 4294967296)), none] [vz cnt215] _
            exfalso; omega
        · refine ab_iload d_PR_loop_97 rfl ?_
          refine ab_iload d_PR_loop_99 rfl ?_
          refine ab_callS (d' := d - 1) (as := [vz 0, vz 0]) (st := []) (z_PR_pair (o := o13) (f0 := 0) (u0 := 0) (by omega)) (fun oc G2 h => by rcases h with ⟨h, _⟩ <;> exact ⟨_, h⟩) (by omega) m_PR_pair ml_PR_88 st_PR_pair (Nat.le_of_ble_eq_true rfl) d_PR_loop_101 rfl ?_
          intro v G88 hq
          rcases hq with ⟨hv, hGe⟩
          cases hv
          rw [hGe]
          change ab_W _ _ _ G70 104 [some (vR q), some (vR p), some (vj w), none, some (vz dd), some (vz 0), some (vz (w214 / 4294967296)), none] [vj (0 * 4294967296 + 0)] _
          refine ab_lret rfl d_PR_loop_104 ?_
          rw [hQ]; exact ⟨_, _, _, _, _, _, _, _, _, _, _, _, rfl, hfr, hq, hki, hne, hot, hra217, ppaI_0, (by omega), (by omega), (by omega), (by omega), (by exact hp73), (by exact hq30), (by exact hq31), (by exact hzr), (by omega), (by omega)⟩
    · refine zz_iconst d_PR_loop_19 ?_
      refine ab_goto (tgt := 25) d_PR_loop_20 (by decide) ?_
      refine ab_iload d_PR_loop_25 rfl ?_
      refine ab_callS (d' := d - 1) (as := [vz 0, vz 0]) (st := [vR p, vR q]) (z_PR_pair (o := o) (f0 := 0) (u0 := 0) (by omega)) (fun oc G2 h => by rcases h with ⟨h, _⟩ <;> exact ⟨_, h⟩) (by omega) m_PR_pair ml_PR_88 st_PR_pair (Nat.le_of_ble_eq_true rfl) d_PR_loop_27 rfl ?_
      intro v G89 hq
      rcases hq with ⟨hv, hGe⟩
      cases hv
      rw [hGe]
      change ab_W _ _ _ G 30 [some (vR q), some (vR p), some (vj w), none, some (vz dd), some (vz 0), none, none] [vj (0 * 4294967296 + 0), vR p, vR q] _
      refine ab_iload d_PR_loop_30 rfl ?_
      refine ab_callV (d' := d - 1) (as := [vR p, vj (0 * 4294967296 + 0), vz dd]) (st := []) (r := _) (z_PR_once (o := o) (q := q) (lq := lq) (ki := ki) (ne := ne) (ot := ot) (cnt := cnt) (fi := fi) (la := la) (ra := ra) (ru := ru) (gr := gr) (wi := wi) (sz := sz) (fl := fl) (ve := ve) (mi := mi) (na := na) (nl := nl) (K := K) (N := N) (O := O) (RR := RR) (nr := nr) (ps := ps) (wt := wt) (bs := bs) (ph := ph) (gq := gq) (p := p) (w := (0 * 4294967296 + 0)) (dd := dd) hq hki hne hot hra ppaI_0 (by omega) (by omega) hp_ hr ck0 (by omega) hpp (by omega) (by omega) (by omega) (by omega) (by omega) ihR) (fun oc G2 h => by rcases h with ⟨_, _, _, _, _, _, _, _, _, _, _, _, h, _⟩ <;> exact ⟨_, h⟩) (by omega) m_PR_once ml_PR_153 im_PR_once se_PR_once c_PR hq.2.2 (Nat.le_of_ble_eq_true rfl) d_PR_loop_32 rfl ?_
      intro v G90 hq
      rcases hq with ⟨o91, w292, cnt293, la294, ra295, nr296, ru297, K298, N299, O2100, RR2101, ph2102, hv, hfk, hNq, hNki, hNne, hNot, hNra295, pNpaI_0, hq103, hq104, hq105, hq106, hq107, hq108, hq109, hq110, hq111, hq112⟩
      cases hv
      have hzr := hzr.tr hq110
      obtain ⟨rc113, hKp⟩ := hq110 _ _ _ _ _ _ _ _ _ _ _ _ _ _ _ _ hpp hp
      have hp := hKp
      have ppaI_0 := pNpaI_0
      have hfr := hfr.tr hfk (by simp)
      have hq114 := hfk.1
      have hq := hNq
      have hki := hNki
      have hne := hNne
      have hot := hNot
      have hra295 := hNra295
      change ab_W _ _ _ G90 35 [some (vR q), some (vR p), some (vj w), none, some (vz dd), some (vz 0), none, none] [vj w292] _
      refine ab_callS (d' := d - 1) (as := [vj w292]) (st := []) (z_PR_fresh (o := o91) (w := w292) (by omega)) (fun oc G2 h => by rcases h with ⟨h, _⟩ <;> exact ⟨_, h⟩) (by omega) m_PR_fresh ml_PR_96 st_PR_fresh (Nat.le_of_ble_eq_true rfl) d_PR_loop_35 rfl ?_
      intro v G115 hq
      rcases hq with ⟨hv, hGe⟩
      cases hv
      rw [hGe]
      change ab_W _ _ _ G90 38 [some (vR q), some (vR p), some (vj w), none, some (vz dd), some (vz 0), none, none] [vz (w292 / 4294967296)] _
      refine ab_istore d_PR_loop_38 (Nat.le_of_ble_eq_true rfl) (Nat.le_of_ble_eq_true rfl) rfl ?_
      change ab_W _ _ _ G90 40 [some (vR q), some (vR p), some (vj w), none, some (vz dd), some (vz 0), some (vz (w292 / 4294967296)), none] [] _
      refine ab_aload_n d_PR_loop_40 rfl ?_
      refine ab_getf (fs := [vR ki, vR ne, vR ot, vz cnt293, vz fi, vz la294, vR ra295, vz ru297, vz gr, vz wi, vz sz, vz fl, vz ve, vz mi, vR na, vR nl]) f_PR_15 d_PR_loop_41 hq.2.2 rfl ?_
      refine ab_iload d_PR_loop_44 rfl ?_
      refine ab_aload_n d_PR_loop_46 rfl ?_
      refine ab_getf (fs := [vz k_1, vz v_1, rg_1, vz pl_1, vz fl_1, ou_1, ls_1, bf_1, vz sz_1, vz mb_1, vz oe_1, vz le_1, vz mo_1, vz la_1, vz rc113]) f_PR_156 d_PR_loop_47 hp.2.2 rfl ?_
      refine zz_if_eq (tgt := 60) d_PR_loop_50 (by decide) (by omega) (fun c116 => ?_) (fun c116 => ?_)
      · refine ab_iload d_PR_loop_60 rfl ?_
        refine zz_iast d_PR_loop_62 hne (by omega) (hne.2.1 (by first | omega | exact (show 18 ≤ _ by omega))) ?_
        obtain ⟨G117, eG117⟩ : ∃ z : ab_G, z = List.set G90 ne (za 808 (zu N299 0 (w292 / 4294967296))) := ⟨_, rfl⟩
        have hq := hq.keep hne eG117 (by omega)
        have hki := hki.keep hne eG117 (by omega)
        have hot := hot.keep hne eG117 (by omega)
        have hp := hp.keep hne eG117 (by omega)
        have hra295 := hra295.keep hne eG117 (by omega)
        have hzr := hzr.wr hne eG117 (by omega)
        have hst := (fx.rf (o := o91) (S := [(lq + 2)]) (G := G90)).wr hne eG117 (List.mem_singleton.mpr rfl)
        have ppaI_0 := paI.fr hst ppaI_0 (by simp only [List.mem_cons, List.not_mem_nil, or_false]; omega) (by simp only [List.mem_cons, List.not_mem_nil, or_false]; omega) (by simp only [List.mem_cons, List.not_mem_nil, or_false]; omega) (by intro xx hx; simp only [List.mem_cons, List.not_mem_nil, or_false] at hx; omega)
        have hq118 := z_len eG117
        have hq119 := z_sl hne eG117 rfl
        have hfr := hfr.wr hne eG117 (by simp)
        have hne := hne.kept eG117
        change ab_W _ _ _ (List.set G90 ne (za 808 (zu N299 0 (w292 / 4294967296)))) 63 [some (vR q), some (vR p), some (vj w), none, some (vz dd), some (vz 0), some (vz (w292 / 4294967296)), none] [] _
        rw [← eG117]
        have hp120 := prok_next (a := 0) (x := (w292 / 4294967296)) hq107 (by omega)
        obtain ⟨N120, eN120⟩ : ∃ z : Int → Int, z = zu N299 0 (w292 / 4294967296) := ⟨_, rfl⟩
        have hne : cc o91 G117 ne (lq + 2) (za 808 N120) := by rw [← eN120.symm]; exact hne
        rw [← eN120] at hp120
        change ab_W _ _ _ G117 63 [some (vR q), some (vR p), some (vj w), none, some (vz dd), some (vz 0), some (vz (w292 / 4294967296)), none] [] _
        refine ab_aload_n d_PR_loop_63 rfl ?_
        refine ab_getf (fs := [vR ki, vR ne, vR ot, vz cnt293, vz fi, vz la294, vR ra295, vz ru297, vz gr, vz wi, vz sz, vz fl, vz ve, vz mi, vR na, vR nl]) f_PR_18 d_PR_loop_64 hq.2.2 rfl ?_
        refine ab_iload d_PR_loop_67 rfl ?_
        refine ab_aload_n d_PR_loop_69 rfl ?_
        refine ab_getf (fs := [vz k_1, vz v_1, rg_1, vz pl_1, vz fl_1, ou_1, ls_1, bf_1, vz sz_1, vz mb_1, vz oe_1, vz le_1, vz mo_1, vz la_1, vz rc113]) f_PR_156 d_PR_loop_70 hp.2.2 rfl ?_
        refine zz_if_eq (tgt := 81) d_PR_loop_73 (by decide) (by omega) (fun c121 => ?_) (fun c121 => absurd c121 (by omega))
        refine ab_lload_n d_PR_loop_81 rfl ?_
        refine ab_callS (d' := d - 1) (as := [vj w]) (st := [vz 0, vR ot]) (z_PR_used (o := o91) (w := w) (by omega)) (fun oc G2 h => by rcases h with ⟨h, _⟩ <;> exact ⟨_, h⟩) (by omega) m_PR_used ml_PR_124 st_PR_used (Nat.le_of_ble_eq_true rfl) d_PR_loop_82 rfl ?_
        intro v G122 hq
        rcases hq with ⟨hv, hGe⟩
        cases hv
        rw [hGe]
        change ab_W _ _ _ G117 85 [some (vR q), some (vR p), some (vj w), none, some (vz dd), some (vz 0), some (vz (w292 / 4294967296)), none] [vz (w % 4294967296), vz 0, vR ot] _
        refine zz_iast d_PR_loop_85 hot (by omega) (hot.2.1 (by first | omega | exact (show 18 ≤ _ by omega))) ?_
        obtain ⟨G123, eG123⟩ : ∃ z : ab_G, z = List.set G117 ot (za 808 (zu O2100 0 (w % 4294967296))) := ⟨_, rfl⟩
        have hq := hq.keep hot eG123 (by omega)
        have hki := hki.keep hot eG123 (by omega)
        have hne := hne.keep hot eG123 (by omega)
        have hp := hp.keep hot eG123 (by omega)
        have hra295 := hra295.keep hot eG123 (by omega)
        have hzr := hzr.wr hot eG123 (by omega)
        have hst := (fx.rf (o := o91) (S := [(lq + 3)]) (G := G117)).wr hot eG123 (List.mem_singleton.mpr rfl)
        have ppaI_0 := paI.fr hst ppaI_0 (by simp only [List.mem_cons, List.not_mem_nil, or_false]; omega) (by simp only [List.mem_cons, List.not_mem_nil, or_false]; omega) (by simp only [List.mem_cons, List.not_mem_nil, or_false]; omega) (by intro xx hx; simp only [List.mem_cons, List.not_mem_nil, or_false] at hx; omega)
        have hq124 := z_len eG123
        have hq125 := z_sl hot eG123 rfl
        have hfr := hfr.wr hot eG123 (by simp)
        have hot := hot.kept eG123
        change ab_W _ _ _ (List.set G117 ot (za 808 (zu O2100 0 (w % 4294967296)))) 86 [some (vR q), some (vR p), some (vj w), none, some (vz dd), some (vz 0), some (vz (w292 / 4294967296)), none] [] _
        rw [← eG123]
        have hp126 := prok_other (a := 0) (x := (w % 4294967296)) hp120 (by omega) (Or.inr ((hq109 0 (by omega) (by omega)).trans ck0))
        obtain ⟨O126, eO126⟩ : ∃ z : Int → Int, z = zu O2100 0 (w % 4294967296) := ⟨_, rfl⟩
        have hot : cc o91 G123 ot (lq + 3) (za 808 O126) := by rw [← eO126.symm]; exact hot
        rw [← eO126] at hp126
        change ab_W _ _ _ G123 86 [some (vR q), some (vR p), some (vj w), none, some (vz dd), some (vz 0), some (vz (w292 / 4294967296)), none] [] _
        refine ab_lload_n d_PR_loop_86 rfl ?_
        refine ab_callS (d' := d - 1) (as := [vj w]) (st := []) (z_PR_fresh (o := o91) (w := w) (by omega)) (fun oc G2 h => by rcases h with ⟨h, _⟩ <;> exact ⟨_, h⟩) (by omega) m_PR_fresh ml_PR_96 st_PR_fresh (Nat.le_of_ble_eq_true rfl) d_PR_loop_87 rfl ?_
        intro v G127 hq
        rcases hq with ⟨hv, hGe⟩
        cases hv
        rw [hGe]
        change ab_W _ _ _ G123 90 [some (vR q), some (vR p), some (vj w), none, some (vz dd), some (vz 0), some (vz (w292 / 4294967296)), none] [vz (w / 4294967296)] _
        refine ab_lload_n d_PR_loop_90 rfl ?_
        refine ab_callS (d' := d - 1) (as := [vj w]) (st := [vz (w / 4294967296)]) (z_PR_used (o := o91) (w := w) (by omega)) (fun oc G2 h => by rcases h with ⟨h, _⟩ <;> exact ⟨_, h⟩) (by omega) m_PR_used ml_PR_124 st_PR_used (Nat.le_of_ble_eq_true rfl) d_PR_loop_91 rfl ?_
        intro v G128 hq
        rcases hq with ⟨hv, hGe⟩
        cases hv
        rw [hGe]
        change ab_W _ _ _ G123 94 [some (vR q), some (vR p), some (vj w), none, some (vz dd), some (vz 0), some (vz (w292 / 4294967296)), none] [vz (w % 4294967296), vz (w / 4294967296)] _
        refine zz_icmp_ne (tgt := 105) d_PR_loop_94 (by decide) (by omega) (by omega) (fun c129 => ?_) (fun c129 => ?_)
        · refine ab_aload_n d_PR_loop_105 rfl ?_
          refine ab_getf (fs := [vz k_1, vz v_1, rg_1, vz pl_1, vz fl_1, ou_1, ls_1, bf_1, vz sz_1, vz mb_1, vz oe_1, vz le_1, vz mo_1, vz la_1, vz rc113]) f_PR_156 d_PR_loop_106 hp.2.2 rfl ?_
          refine zz_if_eq (tgt := 127) d_PR_loop_109 (by decide) (by omega) (fun c130 => ?_) (fun c130 => absurd c130 (by omega))
          refine ab_aload_n d_PR_loop_127 rfl ?_
          refine zz_bipush d_PR_loop_128 (by decide) ?_
          refine ab_iload d_PR_loop_130 rfl ?_
          refine ab_lload_n d_PR_loop_132 rfl ?_
          refine ab_callS (d' := d - 1) (as := [vj w]) (st := [vz (w292 / 4294967296), vz 6, vR q]) (z_PR_fresh (o := o91) (w := w) (by omega)) (fun oc G2 h => by rcases h with ⟨h, _⟩ <;> exact ⟨_, h⟩) (by omega) m_PR_fresh ml_PR_96 st_PR_fresh (Nat.le_of_ble_eq_true rfl) d_PR_loop_133 rfl ?_
          intro v G131 hq
          rcases hq with ⟨hv, hGe⟩
          cases hv
          rw [hGe]
          change ab_W _ _ _ G123 136 [some (vR q), some (vR p), some (vj w), none, some (vz dd), some (vz 0), some (vz (w292 / 4294967296)), none] [vz (w / 4294967296), vz (w292 / 4294967296), vz 6, vR q] _
          refine ab_callV (d' := d - 1) (as := [vz 6, vz (w292 / 4294967296), vz (w / 4294967296)]) (st := []) (r := _) (z_PR_add (o := o91) (q := q) (lq := lq) (ki := ki) (ne := ne) (ot := ot) (cnt := cnt293) (fi := fi) (la := la294) (ra := ra295) (ru := ru297) (gr := gr) (wi := wi) (sz := sz) (fl := fl) (ve := ve) (mi := mi) (na := na) (nl := nl) (K := K298) (N := N120) (O := O126) (k0 := 6) (x0 := (w292 / 4294967296)) (v0 := (w / 4294967296)) hq hki hne hot (by omega) (by omega) (by omega)) (fun oc G2 h => by rcases h with ⟨h, _⟩ | ⟨_, h, _⟩ <;> exact ⟨_, h⟩) (by omega) m_PR_add ml_PR_84 im_PR_add se_PR_add c_PR hq.2.2 (Nat.le_of_ble_eq_true rfl) d_PR_loop_136 rfl ?_
          intro v G132 hq
          rcases hq with ⟨hv, hGe, hq133⟩ | ⟨la2134, hv, hfk, hlk, hsk, hNq, hNki, hNne, hNot, hq135, hq136, hq137⟩
          · cases hv
            rw [hGe]
            change ab_W _ _ _ G123 139 [some (vR q), some (vR p), some (vj w), none, some (vz dd), some (vz 0), some (vz (w292 / 4294967296)), none] [vz 0] _
            refine ab_istore d_PR_loop_139 (Nat.le_of_ble_eq_true rfl) (Nat.le_of_ble_eq_true rfl) rfl ?_
            change ab_W _ _ _ G123 141 [some (vR q), some (vR p), some (vj w), none, some (vz dd), some (vz 0), some (vz (w292 / 4294967296)), some (vz 0)] [] _
            refine ab_iload d_PR_loop_141 rfl ?_
            refine ab_iload d_PR_loop_143 rfl ?_
            refine ab_callS (d' := d - 1) (as := [vz 0, vz 0]) (st := []) (z_PR_pair (o := o91) (f0 := 0) (u0 := 0) (by omega)) (fun oc G2 h => by rcases h with ⟨h, _⟩ <;> exact ⟨_, h⟩) (by omega) m_PR_pair ml_PR_88 st_PR_pair (Nat.le_of_ble_eq_true rfl) d_PR_loop_145 rfl ?_
            intro v G140 hq
            rcases hq with ⟨hv, hGe⟩
            cases hv
            rw [hGe]
            change ab_W _ _ _ G123 148 [some (vR q), some (vR p), some (vj w), none, some (vz dd), some (vz 0), some (vz (w292 / 4294967296)), some (vz 0)] [vj (0 * 4294967296 + 0)] _
            refine ab_lret rfl d_PR_loop_148 ?_
            rw [hQ]; exact ⟨_, _, _, _, _, _, _, _, _, _, _, _, rfl, hfr, hq, hki, hne, hot, hra295, ppaI_0, (by omega), (by omega), (by omega), (by omega), (by exact hp126), (by exact hq108), (by exact hq109), (by exact hzr), (by omega), (by omega)⟩
          · cases hv
            have hzr := hzr.tr (fzr.fx hfk (by simp only [List.mem_cons, List.not_mem_nil, or_false]; omega))
            have hp := hfk.get hp (by simp only [List.mem_cons, List.not_mem_nil, or_false]; omega)
            have hra295 := hfk.get hra295 (by simp only [List.mem_cons, List.not_mem_nil, or_false]; omega)
            have ppaI_0 := paI.fr hfk ppaI_0 (by simp only [List.mem_cons, List.not_mem_nil, or_false]; omega) (by simp only [List.mem_cons, List.not_mem_nil, or_false]; omega) (by simp only [List.mem_cons, List.not_mem_nil, or_false]; omega) (by intro xx hx; simp only [List.mem_cons, List.not_mem_nil, or_false] at hx; omega)
            have hfr := hfr.tr hfk (by simp)
            have hq138 := hlk
            have hq139 := hsk
            have hq := hNq
            have hki := hNki
            have hne := hNne
            have hot := hNot
            change ab_W _ _ _ G132 139 [some (vR q), some (vR p), some (vj w), none, some (vz dd), some (vz 0), some (vz (w292 / 4294967296)), none] [vz cnt293] _
            exfalso; omega
        · refine ab_iload d_PR_loop_97 rfl ?_
          refine ab_iload d_PR_loop_99 rfl ?_
          refine ab_callS (d' := d - 1) (as := [vz 0, vz 0]) (st := []) (z_PR_pair (o := o91) (f0 := 0) (u0 := 0) (by omega)) (fun oc G2 h => by rcases h with ⟨h, _⟩ <;> exact ⟨_, h⟩) (by omega) m_PR_pair ml_PR_88 st_PR_pair (Nat.le_of_ble_eq_true rfl) d_PR_loop_101 rfl ?_
          intro v G141 hq
          rcases hq with ⟨hv, hGe⟩
          cases hv
          rw [hGe]
          change ab_W _ _ _ G123 104 [some (vR q), some (vR p), some (vj w), none, some (vz dd), some (vz 0), some (vz (w292 / 4294967296)), none] [vj (0 * 4294967296 + 0)] _
          refine ab_lret rfl d_PR_loop_104 ?_
          rw [hQ]; exact ⟨_, _, _, _, _, _, _, _, _, _, _, _, rfl, hfr, hq, hki, hne, hot, hra295, ppaI_0, (by omega), (by omega), (by omega), (by omega), (by exact hp126), (by exact hq108), (by exact hq109), (by exact hzr), (by omega), (by omega)⟩
      · refine ab_lload_n d_PR_loop_53 rfl ?_
        refine ab_callS (d' := d - 1) (as := [vj w]) (st := [vz 0, vR ne]) (z_PR_used (o := o91) (w := w) (by omega)) (fun oc G2 h => by rcases h with ⟨h, _⟩ <;> exact ⟨_, h⟩) (by omega) m_PR_used ml_PR_124 st_PR_used (Nat.le_of_ble_eq_true rfl) d_PR_loop_54 rfl ?_
        intro v G142 hq
        rcases hq with ⟨hv, hGe⟩
        cases hv
        rw [hGe]
        change ab_W _ _ _ G90 57 [some (vR q), some (vR p), some (vj w), none, some (vz dd), some (vz 0), some (vz (w292 / 4294967296)), none] [vz (w % 4294967296), vz 0, vR ne] _
        refine ab_goto (tgt := 62) d_PR_loop_57 (by decide) ?_
        refine zz_iast d_PR_loop_62 hne (by omega) (hne.2.1 (by first | omega | exact (show 18 ≤ _ by omega))) ?_
        obtain ⟨G143, eG143⟩ : ∃ z : ab_G, z = List.set G90 ne (za 808 (zu N299 0 (w % 4294967296))) := ⟨_, rfl⟩
        have hq := hq.keep hne eG143 (by omega)
        have hki := hki.keep hne eG143 (by omega)
        have hot := hot.keep hne eG143 (by omega)
        have hp := hp.keep hne eG143 (by omega)
        have hra295 := hra295.keep hne eG143 (by omega)
        have hzr := hzr.wr hne eG143 (by omega)
        have hst := (fx.rf (o := o91) (S := [(lq + 2)]) (G := G90)).wr hne eG143 (List.mem_singleton.mpr rfl)
        have ppaI_0 := paI.fr hst ppaI_0 (by simp only [List.mem_cons, List.not_mem_nil, or_false]; omega) (by simp only [List.mem_cons, List.not_mem_nil, or_false]; omega) (by simp only [List.mem_cons, List.not_mem_nil, or_false]; omega) (by intro xx hx; simp only [List.mem_cons, List.not_mem_nil, or_false] at hx; omega)
        have hq144 := z_len eG143
        have hq145 := z_sl hne eG143 rfl
        have hfr := hfr.wr hne eG143 (by simp)
        have hne := hne.kept eG143
        change ab_W _ _ _ (List.set G90 ne (za 808 (zu N299 0 (w % 4294967296)))) 63 [some (vR q), some (vR p), some (vj w), none, some (vz dd), some (vz 0), some (vz (w292 / 4294967296)), none] [] _
        rw [← eG143]
        have hp146 := prok_next (a := 0) (x := (w % 4294967296)) hq107 (by omega)
        obtain ⟨N146, eN146⟩ : ∃ z : Int → Int, z = zu N299 0 (w % 4294967296) := ⟨_, rfl⟩
        have hne : cc o91 G143 ne (lq + 2) (za 808 N146) := by rw [← eN146.symm]; exact hne
        rw [← eN146] at hp146
        change ab_W _ _ _ G143 63 [some (vR q), some (vR p), some (vj w), none, some (vz dd), some (vz 0), some (vz (w292 / 4294967296)), none] [] _
        refine ab_aload_n d_PR_loop_63 rfl ?_
        refine ab_getf (fs := [vR ki, vR ne, vR ot, vz cnt293, vz fi, vz la294, vR ra295, vz ru297, vz gr, vz wi, vz sz, vz fl, vz ve, vz mi, vR na, vR nl]) f_PR_18 d_PR_loop_64 hq.2.2 rfl ?_
        refine ab_iload d_PR_loop_67 rfl ?_
        refine ab_aload_n d_PR_loop_69 rfl ?_
        refine ab_getf (fs := [vz k_1, vz v_1, rg_1, vz pl_1, vz fl_1, ou_1, ls_1, bf_1, vz sz_1, vz mb_1, vz oe_1, vz le_1, vz mo_1, vz la_1, vz rc113]) f_PR_156 d_PR_loop_70 hp.2.2 rfl ?_
        refine zz_if_eq (tgt := 81) d_PR_loop_73 (by decide) (by omega) (fun c147 => absurd c147 (by omega)) (fun c147 => ?_)
        refine ab_iload d_PR_loop_76 rfl ?_
        refine ab_goto (tgt := 85) d_PR_loop_78 (by decide) ?_
        refine zz_iast d_PR_loop_85 hot (by omega) (hot.2.1 (by first | omega | exact (show 18 ≤ _ by omega))) ?_
        obtain ⟨G148, eG148⟩ : ∃ z : ab_G, z = List.set G143 ot (za 808 (zu O2100 0 (w292 / 4294967296))) := ⟨_, rfl⟩
        have hq := hq.keep hot eG148 (by omega)
        have hki := hki.keep hot eG148 (by omega)
        have hne := hne.keep hot eG148 (by omega)
        have hp := hp.keep hot eG148 (by omega)
        have hra295 := hra295.keep hot eG148 (by omega)
        have hzr := hzr.wr hot eG148 (by omega)
        have hst := (fx.rf (o := o91) (S := [(lq + 3)]) (G := G143)).wr hot eG148 (List.mem_singleton.mpr rfl)
        have ppaI_0 := paI.fr hst ppaI_0 (by simp only [List.mem_cons, List.not_mem_nil, or_false]; omega) (by simp only [List.mem_cons, List.not_mem_nil, or_false]; omega) (by simp only [List.mem_cons, List.not_mem_nil, or_false]; omega) (by intro xx hx; simp only [List.mem_cons, List.not_mem_nil, or_false] at hx; omega)
        have hq149 := z_len eG148
        have hq150 := z_sl hot eG148 rfl
        have hfr := hfr.wr hot eG148 (by simp)
        have hot := hot.kept eG148
        change ab_W _ _ _ (List.set G143 ot (za 808 (zu O2100 0 (w292 / 4294967296)))) 86 [some (vR q), some (vR p), some (vj w), none, some (vz dd), some (vz 0), some (vz (w292 / 4294967296)), none] [] _
        rw [← eG148]
        have hp151 := prok_other (a := 0) (x := (w292 / 4294967296)) hp146 (by omega) (Or.inr ((hq109 0 (by omega) (by omega)).trans ck0))
        obtain ⟨O151, eO151⟩ : ∃ z : Int → Int, z = zu O2100 0 (w292 / 4294967296) := ⟨_, rfl⟩
        have hot : cc o91 G148 ot (lq + 3) (za 808 O151) := by rw [← eO151.symm]; exact hot
        rw [← eO151] at hp151
        change ab_W _ _ _ G148 86 [some (vR q), some (vR p), some (vj w), none, some (vz dd), some (vz 0), some (vz (w292 / 4294967296)), none] [] _
        refine ab_lload_n d_PR_loop_86 rfl ?_
        refine ab_callS (d' := d - 1) (as := [vj w]) (st := []) (z_PR_fresh (o := o91) (w := w) (by omega)) (fun oc G2 h => by rcases h with ⟨h, _⟩ <;> exact ⟨_, h⟩) (by omega) m_PR_fresh ml_PR_96 st_PR_fresh (Nat.le_of_ble_eq_true rfl) d_PR_loop_87 rfl ?_
        intro v G152 hq
        rcases hq with ⟨hv, hGe⟩
        cases hv
        rw [hGe]
        change ab_W _ _ _ G148 90 [some (vR q), some (vR p), some (vj w), none, some (vz dd), some (vz 0), some (vz (w292 / 4294967296)), none] [vz (w / 4294967296)] _
        refine ab_lload_n d_PR_loop_90 rfl ?_
        refine ab_callS (d' := d - 1) (as := [vj w]) (st := [vz (w / 4294967296)]) (z_PR_used (o := o91) (w := w) (by omega)) (fun oc G2 h => by rcases h with ⟨h, _⟩ <;> exact ⟨_, h⟩) (by omega) m_PR_used ml_PR_124 st_PR_used (Nat.le_of_ble_eq_true rfl) d_PR_loop_91 rfl ?_
        intro v G153 hq
        rcases hq with ⟨hv, hGe⟩
        cases hv
        rw [hGe]
        change ab_W _ _ _ G148 94 [some (vR q), some (vR p), some (vj w), none, some (vz dd), some (vz 0), some (vz (w292 / 4294967296)), none] [vz (w % 4294967296), vz (w / 4294967296)] _
        refine zz_icmp_ne (tgt := 105) d_PR_loop_94 (by decide) (by omega) (by omega) (fun c154 => ?_) (fun c154 => ?_)
        · refine ab_aload_n d_PR_loop_105 rfl ?_
          refine ab_getf (fs := [vz k_1, vz v_1, rg_1, vz pl_1, vz fl_1, ou_1, ls_1, bf_1, vz sz_1, vz mb_1, vz oe_1, vz le_1, vz mo_1, vz la_1, vz rc113]) f_PR_156 d_PR_loop_106 hp.2.2 rfl ?_
          refine zz_if_eq (tgt := 127) d_PR_loop_109 (by decide) (by omega) (fun c155 => absurd c155 (by omega)) (fun c155 => ?_)
          refine ab_aload_n d_PR_loop_112 rfl ?_
          refine zz_bipush d_PR_loop_113 (by decide) ?_
          refine ab_lload_n d_PR_loop_115 rfl ?_
          refine ab_callS (d' := d - 1) (as := [vj w]) (st := [vz 6, vR q]) (z_PR_fresh (o := o91) (w := w) (by omega)) (fun oc G2 h => by rcases h with ⟨h, _⟩ <;> exact ⟨_, h⟩) (by omega) m_PR_fresh ml_PR_96 st_PR_fresh (Nat.le_of_ble_eq_true rfl) d_PR_loop_116 rfl ?_
          intro v G156 hq
          rcases hq with ⟨hv, hGe⟩
          cases hv
          rw [hGe]
          change ab_W _ _ _ G148 119 [some (vR q), some (vR p), some (vj w), none, some (vz dd), some (vz 0), some (vz (w292 / 4294967296)), none] [vz (w / 4294967296), vz 6, vR q] _
          refine ab_iload d_PR_loop_119 rfl ?_
          refine ab_callV (d' := d - 1) (as := [vz 6, vz (w / 4294967296), vz (w292 / 4294967296)]) (st := []) (r := _) (z_PR_add (o := o91) (q := q) (lq := lq) (ki := ki) (ne := ne) (ot := ot) (cnt := cnt293) (fi := fi) (la := la294) (ra := ra295) (ru := ru297) (gr := gr) (wi := wi) (sz := sz) (fl := fl) (ve := ve) (mi := mi) (na := na) (nl := nl) (K := K298) (N := N146) (O := O151) (k0 := 6) (x0 := (w / 4294967296)) (v0 := (w292 / 4294967296)) hq hki hne hot (by omega) (by omega) (by omega)) (fun oc G2 h => by rcases h with ⟨h, _⟩ | ⟨_, h, _⟩ <;> exact ⟨_, h⟩) (by omega) m_PR_add ml_PR_84 im_PR_add se_PR_add c_PR hq.2.2 (Nat.le_of_ble_eq_true rfl) d_PR_loop_121 rfl ?_
          intro v G157 hq
          rcases hq with ⟨hv, hGe, hq158⟩ | ⟨la2159, hv, hfk, hlk, hsk, hNq, hNki, hNne, hNot, hq160, hq161, hq162⟩
          · cases hv
            rw [hGe]
            change ab_W _ _ _ G148 124 [some (vR q), some (vR p), some (vj w), none, some (vz dd), some (vz 0), some (vz (w292 / 4294967296)), none] [vz 0] _
            refine ab_goto (tgt := 139) d_PR_loop_124 (by decide) ?_
            refine ab_istore d_PR_loop_139 (Nat.le_of_ble_eq_true rfl) (Nat.le_of_ble_eq_true rfl) rfl ?_
            change ab_W _ _ _ G148 141 [some (vR q), some (vR p), some (vj w), none, some (vz dd), some (vz 0), some (vz (w292 / 4294967296)), some (vz 0)] [] _
            refine ab_iload d_PR_loop_141 rfl ?_
            refine ab_iload d_PR_loop_143 rfl ?_
            refine ab_callS (d' := d - 1) (as := [vz 0, vz 0]) (st := []) (z_PR_pair (o := o91) (f0 := 0) (u0 := 0) (by omega)) (fun oc G2 h => by rcases h with ⟨h, _⟩ <;> exact ⟨_, h⟩) (by omega) m_PR_pair ml_PR_88 st_PR_pair (Nat.le_of_ble_eq_true rfl) d_PR_loop_145 rfl ?_
            intro v G165 hq
            rcases hq with ⟨hv, hGe⟩
            cases hv
            rw [hGe]
            change ab_W _ _ _ G148 148 [some (vR q), some (vR p), some (vj w), none, some (vz dd), some (vz 0), some (vz (w292 / 4294967296)), some (vz 0)] [vj (0 * 4294967296 + 0)] _
            refine ab_lret rfl d_PR_loop_148 ?_
            rw [hQ]; exact ⟨_, _, _, _, _, _, _, _, _, _, _, _, rfl, hfr, hq, hki, hne, hot, hra295, ppaI_0, (by omega), (by omega), (by omega), (by omega), (by exact hp151), (by exact hq108), (by exact hq109), (by exact hzr), (by omega), (by omega)⟩
          · cases hv
            have hzr := hzr.tr (fzr.fx hfk (by simp only [List.mem_cons, List.not_mem_nil, or_false]; omega))
            have hp := hfk.get hp (by simp only [List.mem_cons, List.not_mem_nil, or_false]; omega)
            have hra295 := hfk.get hra295 (by simp only [List.mem_cons, List.not_mem_nil, or_false]; omega)
            have ppaI_0 := paI.fr hfk ppaI_0 (by simp only [List.mem_cons, List.not_mem_nil, or_false]; omega) (by simp only [List.mem_cons, List.not_mem_nil, or_false]; omega) (by simp only [List.mem_cons, List.not_mem_nil, or_false]; omega) (by intro xx hx; simp only [List.mem_cons, List.not_mem_nil, or_false] at hx; omega)
            have hfr := hfr.tr hfk (by simp)
            have hq163 := hlk
            have hq164 := hsk
            have hq := hNq
            have hki := hNki
            have hne := hNne
            have hot := hNot
            change ab_W _ _ _ G157 124 [some (vR q), some (vR p), some (vj w), none, some (vz dd), some (vz 0), some (vz (w292 / 4294967296)), none] [vz cnt293] _
            exfalso; omega
        · refine ab_iload d_PR_loop_97 rfl ?_
          refine ab_iload d_PR_loop_99 rfl ?_
          refine ab_callS (d' := d - 1) (as := [vz 0, vz 0]) (st := []) (z_PR_pair (o := o91) (f0 := 0) (u0 := 0) (by omega)) (fun oc G2 h => by rcases h with ⟨h, _⟩ <;> exact ⟨_, h⟩) (by omega) m_PR_pair ml_PR_88 st_PR_pair (Nat.le_of_ble_eq_true rfl) d_PR_loop_101 rfl ?_
          intro v G166 hq
          rcases hq with ⟨hv, hGe⟩
          cases hv
          rw [hGe]
          change ab_W _ _ _ G148 104 [some (vR q), some (vR p), some (vj w), none, some (vz dd), some (vz 0), some (vz (w292 / 4294967296)), none] [vj (0 * 4294967296 + 0)] _
          refine ab_lret rfl d_PR_loop_104 ?_
          rw [hQ]; exact ⟨_, _, _, _, _, _, _, _, _, _, _, _, rfl, hfr, hq, hki, hne, hot, hra295, ppaI_0, (by omega), (by omega), (by omega), (by omega), (by exact hp151), (by exact hq108), (by exact hq109), (by exact hzr), (by omega), (by omega)⟩
  · cases hv
    have hzr := hzr.tr (fzr.fx hfk (by simp only [List.mem_cons, List.not_mem_nil, or_false]; omega))
    have hra := hfk.get hra (by simp only [List.mem_cons, List.not_mem_nil, or_false]; omega)
    have hp := hfk.get hp (by simp only [List.mem_cons, List.not_mem_nil, or_false]; omega)
    have ppaI_0 := paI.fr hfk ppaI_0 (by simp only [List.mem_cons, List.not_mem_nil, or_false]; omega) (by simp only [List.mem_cons, List.not_mem_nil, or_false]; omega) (by simp only [List.mem_cons, List.not_mem_nil, or_false]; omega) (by intro xx hx; simp only [List.mem_cons, List.not_mem_nil, or_false] at hx; omega)
    have hfr := hfr.tr hfk (by simp)
    have hq8 := hlk
    have hq9 := hsk
    have hq := hNq
    have hki := hNki
    have hne := hNne
    have hot := hNot
    change ab_W _ _ _ G2 8 [some (vR q), some (vR p), some (vj w), none, some (vz dd), none, none, none] [vz cnt] _
    have hp167 := prok_add (k := 6) (x := 0) (v := 0) hp_ (by omega) (by omega) (by omega) (by omega) (by omega) (fun t => by omega) (fun t => absurd t (by decide)) (fun t => absurd t (by decide)) (fun t => absurd t (by decide)) (fun t => absurd t (by decide))
    obtain ⟨K167, eK167⟩ : ∃ z : Int → Int, z = zu K cnt 6 := ⟨_, rfl⟩
    have hki : cc o G2 ki (lq + 1) (za 808 K167) := by rw [← eK167.symm]; exact hki
    obtain ⟨N167, eN167⟩ : ∃ z : Int → Int, z = zu N cnt 0 := ⟨_, rfl⟩
    have hne : cc o G2 ne (lq + 2) (za 808 N167) := by rw [← eN167.symm]; exact hne
    obtain ⟨O167, eO167⟩ : ∃ z : Int → Int, z = zu O cnt 0 := ⟨_, rfl⟩
    have hot : cc o G2 ot (lq + 3) (za 808 O167) := by rw [← eO167.symm]; exact hot
    rw [← eK167, ← eN167, ← eO167] at hp167
    have hkx167 : kext K K167 cnt := by rw [eK167]; exact kext.zu (Int.le_refl _)
    have hks167 : K167 cnt = 6 := by rw [eK167]; exact zu_self _ _ _
    change ab_W _ _ _ G2 8 [some (vR q), some (vR p), some (vj w), none, some (vz dd), none, none, none] [vz cnt] _
    refine ab_istore d_PR_loop_8 (Nat.le_of_ble_eq_true rfl) (Nat.le_of_ble_eq_true rfl) rfl ?_
    change ab_W _ _ _ G2 10 [some (vR q), some (vR p), some (vj w), none, some (vz dd), some (vz cnt), none, none] [] _
    refine ab_aload_n d_PR_loop_10 rfl ?_
    refine ab_aload_n d_PR_loop_11 rfl ?_
    refine ab_aload_n d_PR_loop_12 rfl ?_
    refine ab_getf (fs := [vz k_1, vz v_1, rg_1, vz pl_1, vz fl_1, ou_1, ls_1, bf_1, vz sz_1, vz mb_1, vz oe_1, vz le_1, vz mo_1, vz la_1, vz rc_1]) f_PR_159 d_PR_loop_13 hp.2.2 rfl ?_
    refine zz_if_eq (tgt := 23) d_PR_loop_16 (by decide) (by omega) (fun c168 => ?_) (fun c168 => ?_)
    · refine ab_iload d_PR_loop_23 rfl ?_
      refine ab_iload d_PR_loop_25 rfl ?_
      refine ab_callS (d' := d - 1) (as := [vz cnt, vz cnt]) (st := [vR p, vR q]) (z_PR_pair (o := o) (f0 := cnt) (u0 := cnt) (by omega)) (fun oc G2 h => by rcases h with ⟨h, _⟩ <;> exact ⟨_, h⟩) (by omega) m_PR_pair ml_PR_88 st_PR_pair (Nat.le_of_ble_eq_true rfl) d_PR_loop_27 rfl ?_
      intro v G169 hq
      rcases hq with ⟨hv, hGe⟩
      cases hv
      rw [hGe]
      change ab_W _ _ _ G2 30 [some (vR q), some (vR p), some (vj w), none, some (vz dd), some (vz cnt), none, none] [vj (cnt * 4294967296 + cnt), vR p, vR q] _
      refine ab_iload d_PR_loop_30 rfl ?_
      refine ab_callV (d' := d - 1) (as := [vR p, vj (cnt * 4294967296 + cnt), vz dd]) (st := []) (r := _) (z_PR_once (o := o) (q := q) (lq := lq) (ki := ki) (ne := ne) (ot := ot) (cnt := (cnt + 1)) (fi := fi) (la := la24) (ra := ra) (ru := ru) (gr := gr) (wi := wi) (sz := sz) (fl := fl) (ve := ve) (mi := mi) (na := na) (nl := nl) (K := K167) (N := N167) (O := O167) (RR := RR) (nr := nr) (ps := ps) (wt := wt) (bs := bs) (ph := ph) (gq := gq) (p := p) (w := (cnt * 4294967296 + cnt)) (dd := dd) hq hki hne hot hra ppaI_0 (by omega) (by omega) hp167 hr ((hkx167 0 (by omega) (by omega)).trans ck0) (by omega) hpp (by omega) (by omega) (by omega) (by omega) (by omega) ihR) (fun oc G2 h => by rcases h with ⟨_, _, _, _, _, _, _, _, _, _, _, _, h, _⟩ <;> exact ⟨_, h⟩) (by omega) m_PR_once ml_PR_153 im_PR_once se_PR_once c_PR hq.2.2 (Nat.le_of_ble_eq_true rfl) d_PR_loop_32 rfl ?_
      intro v G170 hq
      rcases hq with ⟨o171, w2172, cnt2173, la2174, ra2175, nr2176, ru2177, K2178, N2179, O2180, RR2181, ph2182, hv, hfk, hNq, hNki, hNne, hNot, hNra2175, pNpaI_0, hq183, hq184, hq185, hq186, hq187, hq188, hq189, hq190, hq191, hq192⟩
      cases hv
      have hzr := hzr.tr hq190
      obtain ⟨rc193, hKp⟩ := hq190 _ _ _ _ _ _ _ _ _ _ _ _ _ _ _ _ hpp hp
      have hp := hKp
      have ppaI_0 := pNpaI_0
      have hfr := hfr.tr hfk (by simp)
      have hq194 := hfk.1
      have hq := hNq
      have hki := hNki
      have hne := hNne
      have hot := hNot
      have hra2175 := hNra2175
      change ab_W _ _ _ G170 35 [some (vR q), some (vR p), some (vj w), none, some (vz dd), some (vz cnt), none, none] [vj w2172] _
      refine ab_callS (d' := d - 1) (as := [vj w2172]) (st := []) (z_PR_fresh (o := o171) (w := w2172) (by omega)) (fun oc G2 h => by rcases h with ⟨h, _⟩ <;> exact ⟨_, h⟩) (by omega) m_PR_fresh ml_PR_96 st_PR_fresh (Nat.le_of_ble_eq_true rfl) d_PR_loop_35 rfl ?_
      intro v G195 hq
      rcases hq with ⟨hv, hGe⟩
      cases hv
      rw [hGe]
      change ab_W _ _ _ G170 38 [some (vR q), some (vR p), some (vj w), none, some (vz dd), some (vz cnt), none, none] [vz (w2172 / 4294967296)] _
      refine ab_istore d_PR_loop_38 (Nat.le_of_ble_eq_true rfl) (Nat.le_of_ble_eq_true rfl) rfl ?_
      change ab_W _ _ _ G170 40 [some (vR q), some (vR p), some (vj w), none, some (vz dd), some (vz cnt), some (vz (w2172 / 4294967296)), none] [] _
      refine ab_aload_n d_PR_loop_40 rfl ?_
      refine ab_getf (fs := [vR ki, vR ne, vR ot, vz cnt2173, vz fi, vz la2174, vR ra2175, vz ru2177, vz gr, vz wi, vz sz, vz fl, vz ve, vz mi, vR na, vR nl]) f_PR_15 d_PR_loop_41 hq.2.2 rfl ?_
      refine ab_iload d_PR_loop_44 rfl ?_
      refine ab_aload_n d_PR_loop_46 rfl ?_
      refine ab_getf (fs := [vz k_1, vz v_1, rg_1, vz pl_1, vz fl_1, ou_1, ls_1, bf_1, vz sz_1, vz mb_1, vz oe_1, vz le_1, vz mo_1, vz la_1, vz rc193]) f_PR_156 d_PR_loop_47 hp.2.2 rfl ?_
      refine zz_if_eq (tgt := 60) d_PR_loop_50 (by decide) (by omega) (fun c196 => ?_) (fun c196 => ?_)
      · refine ab_iload d_PR_loop_60 rfl ?_
        refine zz_iast d_PR_loop_62 hne (by omega) (hne.2.1 (by first | omega | exact (show 18 ≤ _ by omega))) ?_
        obtain ⟨G197, eG197⟩ : ∃ z : ab_G, z = List.set G170 ne (za 808 (zu N2179 cnt (w2172 / 4294967296))) := ⟨_, rfl⟩
        have hq := hq.keep hne eG197 (by omega)
        have hki := hki.keep hne eG197 (by omega)
        have hot := hot.keep hne eG197 (by omega)
        have hp := hp.keep hne eG197 (by omega)
        have hra2175 := hra2175.keep hne eG197 (by omega)
        have hzr := hzr.wr hne eG197 (by omega)
        have hst := (fx.rf (o := o171) (S := [(lq + 2)]) (G := G170)).wr hne eG197 (List.mem_singleton.mpr rfl)
        have ppaI_0 := paI.fr hst ppaI_0 (by simp only [List.mem_cons, List.not_mem_nil, or_false]; omega) (by simp only [List.mem_cons, List.not_mem_nil, or_false]; omega) (by simp only [List.mem_cons, List.not_mem_nil, or_false]; omega) (by intro xx hx; simp only [List.mem_cons, List.not_mem_nil, or_false] at hx; omega)
        have hq198 := z_len eG197
        have hq199 := z_sl hne eG197 rfl
        have hfr := hfr.wr hne eG197 (by simp)
        have hne := hne.kept eG197
        change ab_W _ _ _ (List.set G170 ne (za 808 (zu N2179 cnt (w2172 / 4294967296)))) 63 [some (vR q), some (vR p), some (vj w), none, some (vz dd), some (vz cnt), some (vz (w2172 / 4294967296)), none] [] _
        rw [← eG197]
        have hp200 := prok_next (a := cnt) (x := (w2172 / 4294967296)) hq187 (by omega)
        obtain ⟨N200, eN200⟩ : ∃ z : Int → Int, z = zu N2179 cnt (w2172 / 4294967296) := ⟨_, rfl⟩
        have hne : cc o171 G197 ne (lq + 2) (za 808 N200) := by rw [← eN200.symm]; exact hne
        rw [← eN200] at hp200
        change ab_W _ _ _ G197 63 [some (vR q), some (vR p), some (vj w), none, some (vz dd), some (vz cnt), some (vz (w2172 / 4294967296)), none] [] _
        refine ab_aload_n d_PR_loop_63 rfl ?_
        refine ab_getf (fs := [vR ki, vR ne, vR ot, vz cnt2173, vz fi, vz la2174, vR ra2175, vz ru2177, vz gr, vz wi, vz sz, vz fl, vz ve, vz mi, vR na, vR nl]) f_PR_18 d_PR_loop_64 hq.2.2 rfl ?_
        refine ab_iload d_PR_loop_67 rfl ?_
        refine ab_aload_n d_PR_loop_69 rfl ?_
        refine ab_getf (fs := [vz k_1, vz v_1, rg_1, vz pl_1, vz fl_1, ou_1, ls_1, bf_1, vz sz_1, vz mb_1, vz oe_1, vz le_1, vz mo_1, vz la_1, vz rc193]) f_PR_156 d_PR_loop_70 hp.2.2 rfl ?_
        refine zz_if_eq (tgt := 81) d_PR_loop_73 (by decide) (by omega) (fun c201 => ?_) (fun c201 => absurd c201 (by omega))
        refine ab_lload_n d_PR_loop_81 rfl ?_
        refine ab_callS (d' := d - 1) (as := [vj w]) (st := [vz cnt, vR ot]) (z_PR_used (o := o171) (w := w) (by omega)) (fun oc G2 h => by rcases h with ⟨h, _⟩ <;> exact ⟨_, h⟩) (by omega) m_PR_used ml_PR_124 st_PR_used (Nat.le_of_ble_eq_true rfl) d_PR_loop_82 rfl ?_
        intro v G202 hq
        rcases hq with ⟨hv, hGe⟩
        cases hv
        rw [hGe]
        change ab_W _ _ _ G197 85 [some (vR q), some (vR p), some (vj w), none, some (vz dd), some (vz cnt), some (vz (w2172 / 4294967296)), none] [vz (w % 4294967296), vz cnt, vR ot] _
        refine zz_iast d_PR_loop_85 hot (by omega) (hot.2.1 (by first | omega | exact (show 18 ≤ _ by omega))) ?_
        obtain ⟨G203, eG203⟩ : ∃ z : ab_G, z = List.set G197 ot (za 808 (zu O2180 cnt (w % 4294967296))) := ⟨_, rfl⟩
        have hq := hq.keep hot eG203 (by omega)
        have hki := hki.keep hot eG203 (by omega)
        have hne := hne.keep hot eG203 (by omega)
        have hp := hp.keep hot eG203 (by omega)
        have hra2175 := hra2175.keep hot eG203 (by omega)
        have hzr := hzr.wr hot eG203 (by omega)
        have hst := (fx.rf (o := o171) (S := [(lq + 3)]) (G := G197)).wr hot eG203 (List.mem_singleton.mpr rfl)
        have ppaI_0 := paI.fr hst ppaI_0 (by simp only [List.mem_cons, List.not_mem_nil, or_false]; omega) (by simp only [List.mem_cons, List.not_mem_nil, or_false]; omega) (by simp only [List.mem_cons, List.not_mem_nil, or_false]; omega) (by intro xx hx; simp only [List.mem_cons, List.not_mem_nil, or_false] at hx; omega)
        have hq204 := z_len eG203
        have hq205 := z_sl hot eG203 rfl
        have hfr := hfr.wr hot eG203 (by simp)
        have hot := hot.kept eG203
        change ab_W _ _ _ (List.set G197 ot (za 808 (zu O2180 cnt (w % 4294967296)))) 86 [some (vR q), some (vR p), some (vj w), none, some (vz dd), some (vz cnt), some (vz (w2172 / 4294967296)), none] [] _
        rw [← eG203]
        have hp206 := prok_other (a := cnt) (x := (w % 4294967296)) hp200 (by omega) (Or.inl ((hq189 cnt (by omega) (by omega)).trans hks167))
        obtain ⟨O206, eO206⟩ : ∃ z : Int → Int, z = zu O2180 cnt (w % 4294967296) := ⟨_, rfl⟩
        have hot : cc o171 G203 ot (lq + 3) (za 808 O206) := by rw [← eO206.symm]; exact hot
        rw [← eO206] at hp206
        change ab_W _ _ _ G203 86 [some (vR q), some (vR p), some (vj w), none, some (vz dd), some (vz cnt), some (vz (w2172 / 4294967296)), none] [] _
        refine ab_lload_n d_PR_loop_86 rfl ?_
        refine ab_callS (d' := d - 1) (as := [vj w]) (st := []) (z_PR_fresh (o := o171) (w := w) (by omega)) (fun oc G2 h => by rcases h with ⟨h, _⟩ <;> exact ⟨_, h⟩) (by omega) m_PR_fresh ml_PR_96 st_PR_fresh (Nat.le_of_ble_eq_true rfl) d_PR_loop_87 rfl ?_
        intro v G207 hq
        rcases hq with ⟨hv, hGe⟩
        cases hv
        rw [hGe]
        change ab_W _ _ _ G203 90 [some (vR q), some (vR p), some (vj w), none, some (vz dd), some (vz cnt), some (vz (w2172 / 4294967296)), none] [vz (w / 4294967296)] _
        refine ab_lload_n d_PR_loop_90 rfl ?_
        refine ab_callS (d' := d - 1) (as := [vj w]) (st := [vz (w / 4294967296)]) (z_PR_used (o := o171) (w := w) (by omega)) (fun oc G2 h => by rcases h with ⟨h, _⟩ <;> exact ⟨_, h⟩) (by omega) m_PR_used ml_PR_124 st_PR_used (Nat.le_of_ble_eq_true rfl) d_PR_loop_91 rfl ?_
        intro v G208 hq
        rcases hq with ⟨hv, hGe⟩
        cases hv
        rw [hGe]
        change ab_W _ _ _ G203 94 [some (vR q), some (vR p), some (vj w), none, some (vz dd), some (vz cnt), some (vz (w2172 / 4294967296)), none] [vz (w % 4294967296), vz (w / 4294967296)] _
        refine zz_icmp_ne (tgt := 105) d_PR_loop_94 (by decide) (by omega) (by omega) (fun c209 => ?_) (fun c209 => ?_)
        · refine ab_aload_n d_PR_loop_105 rfl ?_
          refine ab_getf (fs := [vz k_1, vz v_1, rg_1, vz pl_1, vz fl_1, ou_1, ls_1, bf_1, vz sz_1, vz mb_1, vz oe_1, vz le_1, vz mo_1, vz la_1, vz rc193]) f_PR_156 d_PR_loop_106 hp.2.2 rfl ?_
          refine zz_if_eq (tgt := 127) d_PR_loop_109 (by decide) (by omega) (fun c210 => ?_) (fun c210 => absurd c210 (by omega))
          refine ab_aload_n d_PR_loop_127 rfl ?_
          refine zz_bipush d_PR_loop_128 (by decide) ?_
          refine ab_iload d_PR_loop_130 rfl ?_
          refine ab_lload_n d_PR_loop_132 rfl ?_
          refine ab_callS (d' := d - 1) (as := [vj w]) (st := [vz (w2172 / 4294967296), vz 6, vR q]) (z_PR_fresh (o := o171) (w := w) (by omega)) (fun oc G2 h => by rcases h with ⟨h, _⟩ <;> exact ⟨_, h⟩) (by omega) m_PR_fresh ml_PR_96 st_PR_fresh (Nat.le_of_ble_eq_true rfl) d_PR_loop_133 rfl ?_
          intro v G211 hq
          rcases hq with ⟨hv, hGe⟩
          cases hv
          rw [hGe]
          change ab_W _ _ _ G203 136 [some (vR q), some (vR p), some (vj w), none, some (vz dd), some (vz cnt), some (vz (w2172 / 4294967296)), none] [vz (w / 4294967296), vz (w2172 / 4294967296), vz 6, vR q] _
          refine ab_callV (d' := d - 1) (as := [vz 6, vz (w2172 / 4294967296), vz (w / 4294967296)]) (st := []) (r := _) (z_PR_add (o := o171) (q := q) (lq := lq) (ki := ki) (ne := ne) (ot := ot) (cnt := cnt2173) (fi := fi) (la := la2174) (ra := ra2175) (ru := ru2177) (gr := gr) (wi := wi) (sz := sz) (fl := fl) (ve := ve) (mi := mi) (na := na) (nl := nl) (K := K2178) (N := N200) (O := O206) (k0 := 6) (x0 := (w2172 / 4294967296)) (v0 := (w / 4294967296)) hq hki hne hot (by omega) (by omega) (by omega)) (fun oc G2 h => by rcases h with ⟨h, _⟩ | ⟨_, h, _⟩ <;> exact ⟨_, h⟩) (by omega) m_PR_add ml_PR_84 im_PR_add se_PR_add c_PR hq.2.2 (Nat.le_of_ble_eq_true rfl) d_PR_loop_136 rfl ?_
          intro v G212 hq
          rcases hq with ⟨hv, hGe, hq213⟩ | ⟨la2214, hv, hfk, hlk, hsk, hNq, hNki, hNne, hNot, hq215, hq216, hq217⟩
          · cases hv
            rw [hGe]
            change ab_W _ _ _ G203 139 [some (vR q), some (vR p), some (vj w), none, some (vz dd), some (vz cnt), some (vz (w2172 / 4294967296)), none] [vz 0] _
            refine ab_istore d_PR_loop_139 (Nat.le_of_ble_eq_true rfl) (Nat.le_of_ble_eq_true rfl) rfl ?_
            change ab_W _ _ _ G203 141 [some (vR q), some (vR p), some (vj w), none, some (vz dd), some (vz cnt), some (vz (w2172 / 4294967296)), some (vz 0)] [] _
            refine ab_iload d_PR_loop_141 rfl ?_
            refine ab_iload d_PR_loop_143 rfl ?_
            refine ab_callS (d' := d - 1) (as := [vz 0, vz cnt]) (st := []) (z_PR_pair (o := o171) (f0 := 0) (u0 := cnt) (by omega)) (fun oc G2 h => by rcases h with ⟨h, _⟩ <;> exact ⟨_, h⟩) (by omega) m_PR_pair ml_PR_88 st_PR_pair (Nat.le_of_ble_eq_true rfl) d_PR_loop_145 rfl ?_
            intro v G220 hq
            rcases hq with ⟨hv, hGe⟩
            cases hv
            rw [hGe]
            change ab_W _ _ _ G203 148 [some (vR q), some (vR p), some (vj w), none, some (vz dd), some (vz cnt), some (vz (w2172 / 4294967296)), some (vz 0)] [vj (0 * 4294967296 + cnt)] _
            refine ab_lret rfl d_PR_loop_148 ?_
            rw [hQ]; exact ⟨_, _, _, _, _, _, _, _, _, _, _, _, rfl, hfr, hq, hki, hne, hot, hra2175, ppaI_0, (by omega), (by omega), (by omega), (by omega), (by exact hp206), (by exact hq188), (by exact (hkx167.tr hq189 (by omega))), (by exact hzr), (by omega), (by omega)⟩
          · cases hv
            have hzr := hzr.tr (fzr.fx hfk (by simp only [List.mem_cons, List.not_mem_nil, or_false]; omega))
            have hp := hfk.get hp (by simp only [List.mem_cons, List.not_mem_nil, or_false]; omega)
            have hra2175 := hfk.get hra2175 (by simp only [List.mem_cons, List.not_mem_nil, or_false]; omega)
            have ppaI_0 := paI.fr hfk ppaI_0 (by simp only [List.mem_cons, List.not_mem_nil, or_false]; omega) (by simp only [List.mem_cons, List.not_mem_nil, or_false]; omega) (by simp only [List.mem_cons, List.not_mem_nil, or_false]; omega) (by intro xx hx; simp only [List.mem_cons, List.not_mem_nil, or_false] at hx; omega)
            have hfr := hfr.tr hfk (by simp)
            have hq218 := hlk
            have hq219 := hsk
            have hq := hNq
            have hki := hNki
            have hne := hNne
            have hot := hNot
            change ab_W _ _ _ G212 139 [some (vR q), some (vR p), some (vj w), none, some (vz dd), some (vz cnt), some (vz (w2172 / 4294967296)), none] [vz cnt2173] _
            have hp221 := prok_add (k := 6) (x := (w2172 / 4294967296)) (v := (w / 4294967296)) hp206 (by omega) (by omega) (by omega) (by omega) (by omega) (fun t => by omega) (fun t => absurd t (by decide)) (fun t => absurd t (by decide)) (fun t => absurd t (by decide)) (fun t => absurd t (by decide))
            obtain ⟨K221, eK221⟩ : ∃ z : Int → Int, z = zu K2178 cnt2173 6 := ⟨_, rfl⟩
            have hki : cc o171 G212 ki (lq + 1) (za 808 K221) := by rw [← eK221.symm]; exact hki
            obtain ⟨N221, eN221⟩ : ∃ z : Int → Int, z = zu N200 cnt2173 (w2172 / 4294967296) := ⟨_, rfl⟩
            have hne : cc o171 G212 ne (lq + 2) (za 808 N221) := by rw [← eN221.symm]; exact hne
            obtain ⟨O221, eO221⟩ : ∃ z : Int → Int, z = zu O206 cnt2173 (w / 4294967296) := ⟨_, rfl⟩
            have hot : cc o171 G212 ot (lq + 3) (za 808 O221) := by rw [← eO221.symm]; exact hot
            rw [← eK221, ← eN221, ← eO221] at hp221
            have hkx221 : kext K2178 K221 cnt2173 := by rw [eK221]; exact kext.zu (Int.le_refl _)
            have hks221 : K221 cnt2173 = 6 := by rw [eK221]; exact zu_self _ _ _
            change ab_W _ _ _ G212 139 [some (vR q), some (vR p), some (vj w), none, some (vz dd), some (vz cnt), some (vz (w2172 / 4294967296)), none] [vz cnt2173] _
            refine ab_istore d_PR_loop_139 (Nat.le_of_ble_eq_true rfl) (Nat.le_of_ble_eq_true rfl) rfl ?_
            change ab_W _ _ _ G212 141 [some (vR q), some (vR p), some (vj w), none, some (vz dd), some (vz cnt), some (vz (w2172 / 4294967296)), some (vz cnt2173)] [] _
            refine ab_iload d_PR_loop_141 rfl ?_
            refine ab_iload d_PR_loop_143 rfl ?_
            refine ab_callS (d' := d - 1) (as := [vz cnt2173, vz cnt]) (st := []) (z_PR_pair (o := o171) (f0 := cnt2173) (u0 := cnt) (by omega)) (fun oc G2 h => by rcases h with ⟨h, _⟩ <;> exact ⟨_, h⟩) (by omega) m_PR_pair ml_PR_88 st_PR_pair (Nat.le_of_ble_eq_true rfl) d_PR_loop_145 rfl ?_
            intro v G222 hq
            rcases hq with ⟨hv, hGe⟩
            cases hv
            rw [hGe]
            change ab_W _ _ _ G212 148 [some (vR q), some (vR p), some (vj w), none, some (vz dd), some (vz cnt), some (vz (w2172 / 4294967296)), some (vz cnt2173)] [vj (cnt2173 * 4294967296 + cnt)] _
            refine ab_lret rfl d_PR_loop_148 ?_
            rw [hQ]; exact ⟨_, _, _, _, _, _, _, _, _, _, _, _, rfl, hfr, hq, hki, hne, hot, hra2175, ppaI_0, (by omega), (by omega), (by omega), (by omega), (by exact hp221), (by exact hq188), (by exact ((hkx167.tr hq189 (by omega)).tr hkx221 (by omega))), (by exact hzr), (by omega), (by omega)⟩
        · refine ab_iload d_PR_loop_97 rfl ?_
          refine ab_iload d_PR_loop_99 rfl ?_
          refine ab_callS (d' := d - 1) (as := [vz cnt, vz cnt]) (st := []) (z_PR_pair (o := o171) (f0 := cnt) (u0 := cnt) (by omega)) (fun oc G2 h => by rcases h with ⟨h, _⟩ <;> exact ⟨_, h⟩) (by omega) m_PR_pair ml_PR_88 st_PR_pair (Nat.le_of_ble_eq_true rfl) d_PR_loop_101 rfl ?_
          intro v G223 hq
          rcases hq with ⟨hv, hGe⟩
          cases hv
          rw [hGe]
          change ab_W _ _ _ G203 104 [some (vR q), some (vR p), some (vj w), none, some (vz dd), some (vz cnt), some (vz (w2172 / 4294967296)), none] [vj (cnt * 4294967296 + cnt)] _
          refine ab_lret rfl d_PR_loop_104 ?_
          rw [hQ]; exact ⟨_, _, _, _, _, _, _, _, _, _, _, _, rfl, hfr, hq, hki, hne, hot, hra2175, ppaI_0, (by omega), (by omega), (by omega), (by omega), (by exact hp206), (by exact hq188), (by exact (hkx167.tr hq189 (by omega))), (by exact hzr), (by omega), (by omega)⟩
      · refine ab_lload_n d_PR_loop_53 rfl ?_
        refine ab_callS (d' := d - 1) (as := [vj w]) (st := [vz cnt, vR ne]) (z_PR_used (o := o171) (w := w) (by omega)) (fun oc G2 h => by rcases h with ⟨h, _⟩ <;> exact ⟨_, h⟩) (by omega) m_PR_used ml_PR_124 st_PR_used (Nat.le_of_ble_eq_true rfl) d_PR_loop_54 rfl ?_
        intro v G224 hq
        rcases hq with ⟨hv, hGe⟩
        cases hv
        rw [hGe]
        change ab_W _ _ _ G170 57 [some (vR q), some (vR p), some (vj w), none, some (vz dd), some (vz cnt), some (vz (w2172 / 4294967296)), none] [vz (w % 4294967296), vz cnt, vR ne] _
        refine ab_goto (tgt := 62) d_PR_loop_57 (by decide) ?_
        refine zz_iast d_PR_loop_62 hne (by omega) (hne.2.1 (by first | omega | exact (show 18 ≤ _ by omega))) ?_
        obtain ⟨G225, eG225⟩ : ∃ z : ab_G, z = List.set G170 ne (za 808 (zu N2179 cnt (w % 4294967296))) := ⟨_, rfl⟩
        have hq := hq.keep hne eG225 (by omega)
        have hki := hki.keep hne eG225 (by omega)
        have hot := hot.keep hne eG225 (by omega)
        have hp := hp.keep hne eG225 (by omega)
        have hra2175 := hra2175.keep hne eG225 (by omega)
        have hzr := hzr.wr hne eG225 (by omega)
        have hst := (fx.rf (o := o171) (S := [(lq + 2)]) (G := G170)).wr hne eG225 (List.mem_singleton.mpr rfl)
        have ppaI_0 := paI.fr hst ppaI_0 (by simp only [List.mem_cons, List.not_mem_nil, or_false]; omega) (by simp only [List.mem_cons, List.not_mem_nil, or_false]; omega) (by simp only [List.mem_cons, List.not_mem_nil, or_false]; omega) (by intro xx hx; simp only [List.mem_cons, List.not_mem_nil, or_false] at hx; omega)
        have hq226 := z_len eG225
        have hq227 := z_sl hne eG225 rfl
        have hfr := hfr.wr hne eG225 (by simp)
        have hne := hne.kept eG225
        change ab_W _ _ _ (List.set G170 ne (za 808 (zu N2179 cnt (w % 4294967296)))) 63 [some (vR q), some (vR p), some (vj w), none, some (vz dd), some (vz cnt), some (vz (w2172 / 4294967296)), none] [] _
        rw [← eG225]
        have hp228 := prok_next (a := cnt) (x := (w % 4294967296)) hq187 (by omega)
        obtain ⟨N228, eN228⟩ : ∃ z : Int → Int, z = zu N2179 cnt (w % 4294967296) := ⟨_, rfl⟩
        have hne : cc o171 G225 ne (lq + 2) (za 808 N228) := by rw [← eN228.symm]; exact hne
        rw [← eN228] at hp228
        change ab_W _ _ _ G225 63 [some (vR q), some (vR p), some (vj w), none, some (vz dd), some (vz cnt), some (vz (w2172 / 4294967296)), none] [] _
        refine ab_aload_n d_PR_loop_63 rfl ?_
        refine ab_getf (fs := [vR ki, vR ne, vR ot, vz cnt2173, vz fi, vz la2174, vR ra2175, vz ru2177, vz gr, vz wi, vz sz, vz fl, vz ve, vz mi, vR na, vR nl]) f_PR_18 d_PR_loop_64 hq.2.2 rfl ?_
        refine ab_iload d_PR_loop_67 rfl ?_
        refine ab_aload_n d_PR_loop_69 rfl ?_
        refine ab_getf (fs := [vz k_1, vz v_1, rg_1, vz pl_1, vz fl_1, ou_1, ls_1, bf_1, vz sz_1, vz mb_1, vz oe_1, vz le_1, vz mo_1, vz la_1, vz rc193]) f_PR_156 d_PR_loop_70 hp.2.2 rfl ?_
        refine zz_if_eq (tgt := 81) d_PR_loop_73 (by decide) (by omega) (fun c229 => absurd c229 (by omega)) (fun c229 => ?_)
        refine ab_iload d_PR_loop_76 rfl ?_
        refine ab_goto (tgt := 85) d_PR_loop_78 (by decide) ?_
        refine zz_iast d_PR_loop_85 hot (by omega) (hot.2.1 (by first | omega | exact (show 18 ≤ _ by omega))) ?_
        obtain ⟨G230, eG230⟩ : ∃ z : ab_G, z = List.set G225 ot (za 808 (zu O2180 cnt (w2172 / 4294967296))) := ⟨_, rfl⟩
        have hq := hq.keep hot eG230 (by omega)
        have hki := hki.keep hot eG230 (by omega)
        have hne := hne.keep hot eG230 (by omega)
        have hp := hp.keep hot eG230 (by omega)
        have hra2175 := hra2175.keep hot eG230 (by omega)
        have hzr := hzr.wr hot eG230 (by omega)
        have hst := (fx.rf (o := o171) (S := [(lq + 3)]) (G := G225)).wr hot eG230 (List.mem_singleton.mpr rfl)
        have ppaI_0 := paI.fr hst ppaI_0 (by simp only [List.mem_cons, List.not_mem_nil, or_false]; omega) (by simp only [List.mem_cons, List.not_mem_nil, or_false]; omega) (by simp only [List.mem_cons, List.not_mem_nil, or_false]; omega) (by intro xx hx; simp only [List.mem_cons, List.not_mem_nil, or_false] at hx; omega)
        have hq231 := z_len eG230
        have hq232 := z_sl hot eG230 rfl
        have hfr := hfr.wr hot eG230 (by simp)
        have hot := hot.kept eG230
        change ab_W _ _ _ (List.set G225 ot (za 808 (zu O2180 cnt (w2172 / 4294967296)))) 86 [some (vR q), some (vR p), some (vj w), none, some (vz dd), some (vz cnt), some (vz (w2172 / 4294967296)), none] [] _
        rw [← eG230]
        have hp233 := prok_other (a := cnt) (x := (w2172 / 4294967296)) hp228 (by omega) (Or.inl ((hq189 cnt (by omega) (by omega)).trans hks167))
        obtain ⟨O233, eO233⟩ : ∃ z : Int → Int, z = zu O2180 cnt (w2172 / 4294967296) := ⟨_, rfl⟩
        have hot : cc o171 G230 ot (lq + 3) (za 808 O233) := by rw [← eO233.symm]; exact hot
        rw [← eO233] at hp233
        change ab_W _ _ _ G230 86 [some (vR q), some (vR p), some (vj w), none, some (vz dd), some (vz cnt), some (vz (w2172 / 4294967296)), none] [] _
        refine ab_lload_n d_PR_loop_86 rfl ?_
        refine ab_callS (d' := d - 1) (as := [vj w]) (st := []) (z_PR_fresh (o := o171) (w := w) (by omega)) (fun oc G2 h => by rcases h with ⟨h, _⟩ <;> exact ⟨_, h⟩) (by omega) m_PR_fresh ml_PR_96 st_PR_fresh (Nat.le_of_ble_eq_true rfl) d_PR_loop_87 rfl ?_
        intro v G234 hq
        rcases hq with ⟨hv, hGe⟩
        cases hv
        rw [hGe]
        change ab_W _ _ _ G230 90 [some (vR q), some (vR p), some (vj w), none, some (vz dd), some (vz cnt), some (vz (w2172 / 4294967296)), none] [vz (w / 4294967296)] _
        refine ab_lload_n d_PR_loop_90 rfl ?_
        refine ab_callS (d' := d - 1) (as := [vj w]) (st := [vz (w / 4294967296)]) (z_PR_used (o := o171) (w := w) (by omega)) (fun oc G2 h => by rcases h with ⟨h, _⟩ <;> exact ⟨_, h⟩) (by omega) m_PR_used ml_PR_124 st_PR_used (Nat.le_of_ble_eq_true rfl) d_PR_loop_91 rfl ?_
        intro v G235 hq
        rcases hq with ⟨hv, hGe⟩
        cases hv
        rw [hGe]
        change ab_W _ _ _ G230 94 [some (vR q), some (vR p), some (vj w), none, some (vz dd), some (vz cnt), some (vz (w2172 / 4294967296)), none] [vz (w % 4294967296), vz (w / 4294967296)] _
        refine zz_icmp_ne (tgt := 105) d_PR_loop_94 (by decide) (by omega) (by omega) (fun c236 => ?_) (fun c236 => ?_)
        · refine ab_aload_n d_PR_loop_105 rfl ?_
          refine ab_getf (fs := [vz k_1, vz v_1, rg_1, vz pl_1, vz fl_1, ou_1, ls_1, bf_1, vz sz_1, vz mb_1, vz oe_1, vz le_1, vz mo_1, vz la_1, vz rc193]) f_PR_156 d_PR_loop_106 hp.2.2 rfl ?_
          refine zz_if_eq (tgt := 127) d_PR_loop_109 (by decide) (by omega) (fun c237 => absurd c237 (by omega)) (fun c237 => ?_)
          refine ab_aload_n d_PR_loop_112 rfl ?_
          refine zz_bipush d_PR_loop_113 (by decide) ?_
          refine ab_lload_n d_PR_loop_115 rfl ?_
          refine ab_callS (d' := d - 1) (as := [vj w]) (st := [vz 6, vR q]) (z_PR_fresh (o := o171) (w := w) (by omega)) (fun oc G2 h => by rcases h with ⟨h, _⟩ <;> exact ⟨_, h⟩) (by omega) m_PR_fresh ml_PR_96 st_PR_fresh (Nat.le_of_ble_eq_true rfl) d_PR_loop_116 rfl ?_
          intro v G238 hq
          rcases hq with ⟨hv, hGe⟩
          cases hv
          rw [hGe]
          change ab_W _ _ _ G230 119 [some (vR q), some (vR p), some (vj w), none, some (vz dd), some (vz cnt), some (vz (w2172 / 4294967296)), none] [vz (w / 4294967296), vz 6, vR q] _
          refine ab_iload d_PR_loop_119 rfl ?_
          refine ab_callV (d' := d - 1) (as := [vz 6, vz (w / 4294967296), vz (w2172 / 4294967296)]) (st := []) (r := _) (z_PR_add (o := o171) (q := q) (lq := lq) (ki := ki) (ne := ne) (ot := ot) (cnt := cnt2173) (fi := fi) (la := la2174) (ra := ra2175) (ru := ru2177) (gr := gr) (wi := wi) (sz := sz) (fl := fl) (ve := ve) (mi := mi) (na := na) (nl := nl) (K := K2178) (N := N228) (O := O233) (k0 := 6) (x0 := (w / 4294967296)) (v0 := (w2172 / 4294967296)) hq hki hne hot (by omega) (by omega) (by omega)) (fun oc G2 h => by rcases h with ⟨h, _⟩ | ⟨_, h, _⟩ <;> exact ⟨_, h⟩) (by omega) m_PR_add ml_PR_84 im_PR_add se_PR_add c_PR hq.2.2 (Nat.le_of_ble_eq_true rfl) d_PR_loop_121 rfl ?_
          intro v G239 hq
          rcases hq with ⟨hv, hGe, hq240⟩ | ⟨la2241, hv, hfk, hlk, hsk, hNq, hNki, hNne, hNot, hq242, hq243, hq244⟩
          · cases hv
            rw [hGe]
            change ab_W _ _ _ G230 124 [some (vR q), some (vR p), some (vj w), none, some (vz dd), some (vz cnt), some (vz (w2172 / 4294967296)), none] [vz 0] _
            refine ab_goto (tgt := 139) d_PR_loop_124 (by decide) ?_
            refine ab_istore d_PR_loop_139 (Nat.le_of_ble_eq_true rfl) (Nat.le_of_ble_eq_true rfl) rfl ?_
            change ab_W _ _ _ G230 141 [some (vR q), some (vR p), some (vj w), none, some (vz dd), some (vz cnt), some (vz (w2172 / 4294967296)), some (vz 0)] [] _
            refine ab_iload d_PR_loop_141 rfl ?_
            refine ab_iload d_PR_loop_143 rfl ?_
            refine ab_callS (d' := d - 1) (as := [vz 0, vz cnt]) (st := []) (z_PR_pair (o := o171) (f0 := 0) (u0 := cnt) (by omega)) (fun oc G2 h => by rcases h with ⟨h, _⟩ <;> exact ⟨_, h⟩) (by omega) m_PR_pair ml_PR_88 st_PR_pair (Nat.le_of_ble_eq_true rfl) d_PR_loop_145 rfl ?_
            intro v G247 hq
            rcases hq with ⟨hv, hGe⟩
            cases hv
            rw [hGe]
            change ab_W _ _ _ G230 148 [some (vR q), some (vR p), some (vj w), none, some (vz dd), some (vz cnt), some (vz (w2172 / 4294967296)), some (vz 0)] [vj (0 * 4294967296 + cnt)] _
            refine ab_lret rfl d_PR_loop_148 ?_
            rw [hQ]; exact ⟨_, _, _, _, _, _, _, _, _, _, _, _, rfl, hfr, hq, hki, hne, hot, hra2175, ppaI_0, (by omega), (by omega), (by omega), (by omega), (by exact hp233), (by exact hq188), (by exact (hkx167.tr hq189 (by omega))), (by exact hzr), (by omega), (by omega)⟩
          · cases hv
            have hzr := hzr.tr (fzr.fx hfk (by simp only [List.mem_cons, List.not_mem_nil, or_false]; omega))
            have hp := hfk.get hp (by simp only [List.mem_cons, List.not_mem_nil, or_false]; omega)
            have hra2175 := hfk.get hra2175 (by simp only [List.mem_cons, List.not_mem_nil, or_false]; omega)
            have ppaI_0 := paI.fr hfk ppaI_0 (by simp only [List.mem_cons, List.not_mem_nil, or_false]; omega) (by simp only [List.mem_cons, List.not_mem_nil, or_false]; omega) (by simp only [List.mem_cons, List.not_mem_nil, or_false]; omega) (by intro xx hx; simp only [List.mem_cons, List.not_mem_nil, or_false] at hx; omega)
            have hfr := hfr.tr hfk (by simp)
            have hq245 := hlk
            have hq246 := hsk
            have hq := hNq
            have hki := hNki
            have hne := hNne
            have hot := hNot
            change ab_W _ _ _ G239 124 [some (vR q), some (vR p), some (vj w), none, some (vz dd), some (vz cnt), some (vz (w2172 / 4294967296)), none] [vz cnt2173] _
            have hp248 := prok_add (k := 6) (x := (w / 4294967296)) (v := (w2172 / 4294967296)) hp233 (by omega) (by omega) (by omega) (by omega) (by omega) (fun t => by omega) (fun t => absurd t (by decide)) (fun t => absurd t (by decide)) (fun t => absurd t (by decide)) (fun t => absurd t (by decide))
            obtain ⟨K248, eK248⟩ : ∃ z : Int → Int, z = zu K2178 cnt2173 6 := ⟨_, rfl⟩
            have hki : cc o171 G239 ki (lq + 1) (za 808 K248) := by rw [← eK248.symm]; exact hki
            obtain ⟨N248, eN248⟩ : ∃ z : Int → Int, z = zu N228 cnt2173 (w / 4294967296) := ⟨_, rfl⟩
            have hne : cc o171 G239 ne (lq + 2) (za 808 N248) := by rw [← eN248.symm]; exact hne
            obtain ⟨O248, eO248⟩ : ∃ z : Int → Int, z = zu O233 cnt2173 (w2172 / 4294967296) := ⟨_, rfl⟩
            have hot : cc o171 G239 ot (lq + 3) (za 808 O248) := by rw [← eO248.symm]; exact hot
            rw [← eK248, ← eN248, ← eO248] at hp248
            have hkx248 : kext K2178 K248 cnt2173 := by rw [eK248]; exact kext.zu (Int.le_refl _)
            have hks248 : K248 cnt2173 = 6 := by rw [eK248]; exact zu_self _ _ _
            change ab_W _ _ _ G239 124 [some (vR q), some (vR p), some (vj w), none, some (vz dd), some (vz cnt), some (vz (w2172 / 4294967296)), none] [vz cnt2173] _
            refine ab_goto (tgt := 139) d_PR_loop_124 (by decide) ?_
            refine ab_istore d_PR_loop_139 (Nat.le_of_ble_eq_true rfl) (Nat.le_of_ble_eq_true rfl) rfl ?_
            change ab_W _ _ _ G239 141 [some (vR q), some (vR p), some (vj w), none, some (vz dd), some (vz cnt), some (vz (w2172 / 4294967296)), some (vz cnt2173)] [] _
            refine ab_iload d_PR_loop_141 rfl ?_
            refine ab_iload d_PR_loop_143 rfl ?_
            refine ab_callS (d' := d - 1) (as := [vz cnt2173, vz cnt]) (st := []) (z_PR_pair (o := o171) (f0 := cnt2173) (u0 := cnt) (by omega)) (fun oc G2 h => by rcases h with ⟨h, _⟩ <;> exact ⟨_, h⟩) (by omega) m_PR_pair ml_PR_88 st_PR_pair (Nat.le_of_ble_eq_true rfl) d_PR_loop_145 rfl ?_
            intro v G249 hq
            rcases hq with ⟨hv, hGe⟩
            cases hv
            rw [hGe]
            change ab_W _ _ _ G239 148 [some (vR q), some (vR p), some (vj w), none, some (vz dd), some (vz cnt), some (vz (w2172 / 4294967296)), some (vz cnt2173)] [vj (cnt2173 * 4294967296 + cnt)] _
            refine ab_lret rfl d_PR_loop_148 ?_
            rw [hQ]; exact ⟨_, _, _, _, _, _, _, _, _, _, _, _, rfl, hfr, hq, hki, hne, hot, hra2175, ppaI_0, (by omega), (by omega), (by omega), (by omega), (by exact hp248), (by exact hq188), (by exact ((hkx167.tr hq189 (by omega)).tr hkx248 (by omega))), (by exact hzr), (by omega), (by omega)⟩
        · refine ab_iload d_PR_loop_97 rfl ?_
          refine ab_iload d_PR_loop_99 rfl ?_
          refine ab_callS (d' := d - 1) (as := [vz cnt, vz cnt]) (st := []) (z_PR_pair (o := o171) (f0 := cnt) (u0 := cnt) (by omega)) (fun oc G2 h => by rcases h with ⟨h, _⟩ <;> exact ⟨_, h⟩) (by omega) m_PR_pair ml_PR_88 st_PR_pair (Nat.le_of_ble_eq_true rfl) d_PR_loop_101 rfl ?_
          intro v G250 hq
          rcases hq with ⟨hv, hGe⟩
          cases hv
          rw [hGe]
          change ab_W _ _ _ G230 104 [some (vR q), some (vR p), some (vj w), none, some (vz dd), some (vz cnt), some (vz (w2172 / 4294967296)), none] [vj (cnt * 4294967296 + cnt)] _
          refine ab_lret rfl d_PR_loop_104 ?_
          rw [hQ]; exact ⟨_, _, _, _, _, _, _, _, _, _, _, _, rfl, hfr, hq, hki, hne, hot, hra2175, ppaI_0, (by omega), (by omega), (by omega), (by omega), (by exact hp233), (by exact hq188), (by exact (hkx167.tr hq189 (by omega))), (by exact hzr), (by omega), (by omega)⟩
    · refine zz_iconst d_PR_loop_19 ?_
      refine ab_goto (tgt := 25) d_PR_loop_20 (by decide) ?_
      refine ab_iload d_PR_loop_25 rfl ?_
      refine ab_callS (d' := d - 1) (as := [vz 0, vz cnt]) (st := [vR p, vR q]) (z_PR_pair (o := o) (f0 := 0) (u0 := cnt) (by omega)) (fun oc G2 h => by rcases h with ⟨h, _⟩ <;> exact ⟨_, h⟩) (by omega) m_PR_pair ml_PR_88 st_PR_pair (Nat.le_of_ble_eq_true rfl) d_PR_loop_27 rfl ?_
      intro v G251 hq
      rcases hq with ⟨hv, hGe⟩
      cases hv
      rw [hGe]
      change ab_W _ _ _ G2 30 [some (vR q), some (vR p), some (vj w), none, some (vz dd), some (vz cnt), none, none] [vj (0 * 4294967296 + cnt), vR p, vR q] _
      refine ab_iload d_PR_loop_30 rfl ?_
      refine ab_callV (d' := d - 1) (as := [vR p, vj (0 * 4294967296 + cnt), vz dd]) (st := []) (r := _) (z_PR_once (o := o) (q := q) (lq := lq) (ki := ki) (ne := ne) (ot := ot) (cnt := (cnt + 1)) (fi := fi) (la := la24) (ra := ra) (ru := ru) (gr := gr) (wi := wi) (sz := sz) (fl := fl) (ve := ve) (mi := mi) (na := na) (nl := nl) (K := K167) (N := N167) (O := O167) (RR := RR) (nr := nr) (ps := ps) (wt := wt) (bs := bs) (ph := ph) (gq := gq) (p := p) (w := (0 * 4294967296 + cnt)) (dd := dd) hq hki hne hot hra ppaI_0 (by omega) (by omega) hp167 hr ((hkx167 0 (by omega) (by omega)).trans ck0) (by omega) hpp (by omega) (by omega) (by omega) (by omega) (by omega) ihR) (fun oc G2 h => by rcases h with ⟨_, _, _, _, _, _, _, _, _, _, _, _, h, _⟩ <;> exact ⟨_, h⟩) (by omega) m_PR_once ml_PR_153 im_PR_once se_PR_once c_PR hq.2.2 (Nat.le_of_ble_eq_true rfl) d_PR_loop_32 rfl ?_
      intro v G252 hq
      rcases hq with ⟨o253, w2254, cnt2255, la2256, ra2257, nr2258, ru2259, K2260, N2261, O2262, RR2263, ph2264, hv, hfk, hNq, hNki, hNne, hNot, hNra2257, pNpaI_0, hq265, hq266, hq267, hq268, hq269, hq270, hq271, hq272, hq273, hq274⟩
      cases hv
      have hzr := hzr.tr hq272
      obtain ⟨rc275, hKp⟩ := hq272 _ _ _ _ _ _ _ _ _ _ _ _ _ _ _ _ hpp hp
      have hp := hKp
      have ppaI_0 := pNpaI_0
      have hfr := hfr.tr hfk (by simp)
      have hq276 := hfk.1
      have hq := hNq
      have hki := hNki
      have hne := hNne
      have hot := hNot
      have hra2257 := hNra2257
      change ab_W _ _ _ G252 35 [some (vR q), some (vR p), some (vj w), none, some (vz dd), some (vz cnt), none, none] [vj w2254] _
      refine ab_callS (d' := d - 1) (as := [vj w2254]) (st := []) (z_PR_fresh (o := o253) (w := w2254) (by omega)) (fun oc G2 h => by rcases h with ⟨h, _⟩ <;> exact ⟨_, h⟩) (by omega) m_PR_fresh ml_PR_96 st_PR_fresh (Nat.le_of_ble_eq_true rfl) d_PR_loop_35 rfl ?_
      intro v G277 hq
      rcases hq with ⟨hv, hGe⟩
      cases hv
      rw [hGe]
      change ab_W _ _ _ G252 38 [some (vR q), some (vR p), some (vj w), none, some (vz dd), some (vz cnt), none, none] [vz (w2254 / 4294967296)] _
      refine ab_istore d_PR_loop_38 (Nat.le_of_ble_eq_true rfl) (Nat.le_of_ble_eq_true rfl) rfl ?_
      change ab_W _ _ _ G252 40 [some (vR q), some (vR p), some (vj w), none, some (vz dd), some (vz cnt), some (vz (w2254 / 4294967296)), none] [] _
      refine ab_aload_n d_PR_loop_40 rfl ?_
      refine ab_getf (fs := [vR ki, vR ne, vR ot, vz cnt2255, vz fi, vz la2256, vR ra2257, vz ru2259, vz gr, vz wi, vz sz, vz fl, vz ve, vz mi, vR na, vR nl]) f_PR_15 d_PR_loop_41 hq.2.2 rfl ?_
      refine ab_iload d_PR_loop_44 rfl ?_
      refine ab_aload_n d_PR_loop_46 rfl ?_
      refine ab_getf (fs := [vz k_1, vz v_1, rg_1, vz pl_1, vz fl_1, ou_1, ls_1, bf_1, vz sz_1, vz mb_1, vz oe_1, vz le_1, vz mo_1, vz la_1, vz rc275]) f_PR_156 d_PR_loop_47 hp.2.2 rfl ?_
      refine zz_if_eq (tgt := 60) d_PR_loop_50 (by decide) (by omega) (fun c278 => ?_) (fun c278 => ?_)
      · refine ab_iload d_PR_loop_60 rfl ?_
        refine zz_iast d_PR_loop_62 hne (by omega) (hne.2.1 (by first | omega | exact (show 18 ≤ _ by omega))) ?_
        obtain ⟨G279, eG279⟩ : ∃ z : ab_G, z = List.set G252 ne (za 808 (zu N2261 cnt (w2254 / 4294967296))) := ⟨_, rfl⟩
        have hq := hq.keep hne eG279 (by omega)
        have hki := hki.keep hne eG279 (by omega)
        have hot := hot.keep hne eG279 (by omega)
        have hp := hp.keep hne eG279 (by omega)
        have hra2257 := hra2257.keep hne eG279 (by omega)
        have hzr := hzr.wr hne eG279 (by omega)
        have hst := (fx.rf (o := o253) (S := [(lq + 2)]) (G := G252)).wr hne eG279 (List.mem_singleton.mpr rfl)
        have ppaI_0 := paI.fr hst ppaI_0 (by simp only [List.mem_cons, List.not_mem_nil, or_false]; omega) (by simp only [List.mem_cons, List.not_mem_nil, or_false]; omega) (by simp only [List.mem_cons, List.not_mem_nil, or_false]; omega) (by intro xx hx; simp only [List.mem_cons, List.not_mem_nil, or_false] at hx; omega)
        have hq280 := z_len eG279
        have hq281 := z_sl hne eG279 rfl
        have hfr := hfr.wr hne eG279 (by simp)
        have hne := hne.kept eG279
        change ab_W _ _ _ (List.set G252 ne (za 808 (zu N2261 cnt (w2254 / 4294967296)))) 63 [some (vR q), some (vR p), some (vj w), none, some (vz dd), some (vz cnt), some (vz (w2254 / 4294967296)), none] [] _
        rw [← eG279]
        have hp282 := prok_next (a := cnt) (x := (w2254 / 4294967296)) hq269 (by omega)
        obtain ⟨N282, eN282⟩ : ∃ z : Int → Int, z = zu N2261 cnt (w2254 / 4294967296) := ⟨_, rfl⟩
        have hne : cc o253 G279 ne (lq + 2) (za 808 N282) := by rw [← eN282.symm]; exact hne
        rw [← eN282] at hp282
        change ab_W _ _ _ G279 63 [some (vR q), some (vR p), some (vj w), none, some (vz dd), some (vz cnt), some (vz (w2254 / 4294967296)), none] [] _
        refine ab_aload_n d_PR_loop_63 rfl ?_
        refine ab_getf (fs := [vR ki, vR ne, vR ot, vz cnt2255, vz fi, vz la2256, vR ra2257, vz ru2259, vz gr, vz wi, vz sz, vz fl, vz ve, vz mi, vR na, vR nl]) f_PR_18 d_PR_loop_64 hq.2.2 rfl ?_
        refine ab_iload d_PR_loop_67 rfl ?_
        refine ab_aload_n d_PR_loop_69 rfl ?_
        refine ab_getf (fs := [vz k_1, vz v_1, rg_1, vz pl_1, vz fl_1, ou_1, ls_1, bf_1, vz sz_1, vz mb_1, vz oe_1, vz le_1, vz mo_1, vz la_1, vz rc275]) f_PR_156 d_PR_loop_70 hp.2.2 rfl ?_
        refine zz_if_eq (tgt := 81) d_PR_loop_73 (by decide) (by omega) (fun c283 => ?_) (fun c283 => absurd c283 (by omega))
        refine ab_lload_n d_PR_loop_81 rfl ?_
        refine ab_callS (d' := d - 1) (as := [vj w]) (st := [vz cnt, vR ot]) (z_PR_used (o := o253) (w := w) (by omega)) (fun oc G2 h => by rcases h with ⟨h, _⟩ <;> exact ⟨_, h⟩) (by omega) m_PR_used ml_PR_124 st_PR_used (Nat.le_of_ble_eq_true rfl) d_PR_loop_82 rfl ?_
        intro v G284 hq
        rcases hq with ⟨hv, hGe⟩
        cases hv
        rw [hGe]
        change ab_W _ _ _ G279 85 [some (vR q), some (vR p), some (vj w), none, some (vz dd), some (vz cnt), some (vz (w2254 / 4294967296)), none] [vz (w % 4294967296), vz cnt, vR ot] _
        refine zz_iast d_PR_loop_85 hot (by omega) (hot.2.1 (by first | omega | exact (show 18 ≤ _ by omega))) ?_
        obtain ⟨G285, eG285⟩ : ∃ z : ab_G, z = List.set G279 ot (za 808 (zu O2262 cnt (w % 4294967296))) := ⟨_, rfl⟩
        have hq := hq.keep hot eG285 (by omega)
        have hki := hki.keep hot eG285 (by omega)
        have hne := hne.keep hot eG285 (by omega)
        have hp := hp.keep hot eG285 (by omega)
        have hra2257 := hra2257.keep hot eG285 (by omega)
        have hzr := hzr.wr hot eG285 (by omega)
        have hst := (fx.rf (o := o253) (S := [(lq + 3)]) (G := G279)).wr hot eG285 (List.mem_singleton.mpr rfl)
        have ppaI_0 := paI.fr hst ppaI_0 (by simp only [List.mem_cons, List.not_mem_nil, or_false]; omega) (by simp only [List.mem_cons, List.not_mem_nil, or_false]; omega) (by simp only [List.mem_cons, List.not_mem_nil, or_false]; omega) (by intro xx hx; simp only [List.mem_cons, List.not_mem_nil, or_false] at hx; omega)
        have hq286 := z_len eG285
        have hq287 := z_sl hot eG285 rfl
        have hfr := hfr.wr hot eG285 (by simp)
        have hot := hot.kept eG285
        change ab_W _ _ _ (List.set G279 ot (za 808 (zu O2262 cnt (w % 4294967296)))) 86 [some (vR q), some (vR p), some (vj w), none, some (vz dd), some (vz cnt), some (vz (w2254 / 4294967296)), none] [] _
        rw [← eG285]
        have hp288 := prok_other (a := cnt) (x := (w % 4294967296)) hp282 (by omega) (Or.inl ((hq271 cnt (by omega) (by omega)).trans hks167))
        obtain ⟨O288, eO288⟩ : ∃ z : Int → Int, z = zu O2262 cnt (w % 4294967296) := ⟨_, rfl⟩
        have hot : cc o253 G285 ot (lq + 3) (za 808 O288) := by rw [← eO288.symm]; exact hot
        rw [← eO288] at hp288
        change ab_W _ _ _ G285 86 [some (vR q), some (vR p), some (vj w), none, some (vz dd), some (vz cnt), some (vz (w2254 / 4294967296)), none] [] _
        refine ab_lload_n d_PR_loop_86 rfl ?_
        refine ab_callS (d' := d - 1) (as := [vj w]) (st := []) (z_PR_fresh (o := o253) (w := w) (by omega)) (fun oc G2 h => by rcases h with ⟨h, _⟩ <;> exact ⟨_, h⟩) (by omega) m_PR_fresh ml_PR_96 st_PR_fresh (Nat.le_of_ble_eq_true rfl) d_PR_loop_87 rfl ?_
        intro v G289 hq
        rcases hq with ⟨hv, hGe⟩
        cases hv
        rw [hGe]
        change ab_W _ _ _ G285 90 [some (vR q), some (vR p), some (vj w), none, some (vz dd), some (vz cnt), some (vz (w2254 / 4294967296)), none] [vz (w / 4294967296)] _
        refine ab_lload_n d_PR_loop_90 rfl ?_
        refine ab_callS (d' := d - 1) (as := [vj w]) (st := [vz (w / 4294967296)]) (z_PR_used (o := o253) (w := w) (by omega)) (fun oc G2 h => by rcases h with ⟨h, _⟩ <;> exact ⟨_, h⟩) (by omega) m_PR_used ml_PR_124 st_PR_used (Nat.le_of_ble_eq_true rfl) d_PR_loop_91 rfl ?_
        intro v G290 hq
        rcases hq with ⟨hv, hGe⟩
        cases hv
        rw [hGe]
        change ab_W _ _ _ G285 94 [some (vR q), some (vR p), some (vj w), none, some (vz dd), some (vz cnt), some (vz (w2254 / 4294967296)), none] [vz (w % 4294967296), vz (w / 4294967296)] _
        refine zz_icmp_ne (tgt := 105) d_PR_loop_94 (by decide) (by omega) (by omega) (fun c291 => ?_) (fun c291 => ?_)
        · refine ab_aload_n d_PR_loop_105 rfl ?_
          refine ab_getf (fs := [vz k_1, vz v_1, rg_1, vz pl_1, vz fl_1, ou_1, ls_1, bf_1, vz sz_1, vz mb_1, vz oe_1, vz le_1, vz mo_1, vz la_1, vz rc275]) f_PR_156 d_PR_loop_106 hp.2.2 rfl ?_
          refine zz_if_eq (tgt := 127) d_PR_loop_109 (by decide) (by omega) (fun c292 => ?_) (fun c292 => absurd c292 (by omega))
          refine ab_aload_n d_PR_loop_127 rfl ?_
          refine zz_bipush d_PR_loop_128 (by decide) ?_
          refine ab_iload d_PR_loop_130 rfl ?_
          refine ab_lload_n d_PR_loop_132 rfl ?_
          refine ab_callS (d' := d - 1) (as := [vj w]) (st := [vz (w2254 / 4294967296), vz 6, vR q]) (z_PR_fresh (o := o253) (w := w) (by omega)) (fun oc G2 h => by rcases h with ⟨h, _⟩ <;> exact ⟨_, h⟩) (by omega) m_PR_fresh ml_PR_96 st_PR_fresh (Nat.le_of_ble_eq_true rfl) d_PR_loop_133 rfl ?_
          intro v G293 hq
          rcases hq with ⟨hv, hGe⟩
          cases hv
          rw [hGe]
          change ab_W _ _ _ G285 136 [some (vR q), some (vR p), some (vj w), none, some (vz dd), some (vz cnt), some (vz (w2254 / 4294967296)), none] [vz (w / 4294967296), vz (w2254 / 4294967296), vz 6, vR q] _
          refine ab_callV (d' := d - 1) (as := [vz 6, vz (w2254 / 4294967296), vz (w / 4294967296)]) (st := []) (r := _) (z_PR_add (o := o253) (q := q) (lq := lq) (ki := ki) (ne := ne) (ot := ot) (cnt := cnt2255) (fi := fi) (la := la2256) (ra := ra2257) (ru := ru2259) (gr := gr) (wi := wi) (sz := sz) (fl := fl) (ve := ve) (mi := mi) (na := na) (nl := nl) (K := K2260) (N := N282) (O := O288) (k0 := 6) (x0 := (w2254 / 4294967296)) (v0 := (w / 4294967296)) hq hki hne hot (by omega) (by omega) (by omega)) (fun oc G2 h => by rcases h with ⟨h, _⟩ | ⟨_, h, _⟩ <;> exact ⟨_, h⟩) (by omega) m_PR_add ml_PR_84 im_PR_add se_PR_add c_PR hq.2.2 (Nat.le_of_ble_eq_true rfl) d_PR_loop_136 rfl ?_
          intro v G294 hq
          rcases hq with ⟨hv, hGe, hq295⟩ | ⟨la2296, hv, hfk, hlk, hsk, hNq, hNki, hNne, hNot, hq297, hq298, hq299⟩
          · cases hv
            rw [hGe]
            change ab_W _ _ _ G285 139 [some (vR q), some (vR p), some (vj w), none, some (vz dd), some (vz cnt), some (vz (w2254 / 4294967296)), none] [vz 0] _
            refine ab_istore d_PR_loop_139 (Nat.le_of_ble_eq_true rfl) (Nat.le_of_ble_eq_true rfl) rfl ?_
            change ab_W _ _ _ G285 141 [some (vR q), some (vR p), some (vj w), none, some (vz dd), some (vz cnt), some (vz (w2254 / 4294967296)), some (vz 0)] [] _
            refine ab_iload d_PR_loop_141 rfl ?_
            refine ab_iload d_PR_loop_143 rfl ?_
            refine ab_callS (d' := d - 1) (as := [vz 0, vz cnt]) (st := []) (z_PR_pair (o := o253) (f0 := 0) (u0 := cnt) (by omega)) (fun oc G2 h => by rcases h with ⟨h, _⟩ <;> exact ⟨_, h⟩) (by omega) m_PR_pair ml_PR_88 st_PR_pair (Nat.le_of_ble_eq_true rfl) d_PR_loop_145 rfl ?_
            intro v G302 hq
            rcases hq with ⟨hv, hGe⟩
            cases hv
            rw [hGe]
            change ab_W _ _ _ G285 148 [some (vR q), some (vR p), some (vj w), none, some (vz dd), some (vz cnt), some (vz (w2254 / 4294967296)), some (vz 0)] [vj (0 * 4294967296 + cnt)] _
            refine ab_lret rfl d_PR_loop_148 ?_
            rw [hQ]; exact ⟨_, _, _, _, _, _, _, _, _, _, _, _, rfl, hfr, hq, hki, hne, hot, hra2257, ppaI_0, (by omega), (by omega), (by omega), (by omega), (by exact hp288), (by exact hq270), (by exact (hkx167.tr hq271 (by omega))), (by exact hzr), (by omega), (by omega)⟩
          · cases hv
            have hzr := hzr.tr (fzr.fx hfk (by simp only [List.mem_cons, List.not_mem_nil, or_false]; omega))
            have hp := hfk.get hp (by simp only [List.mem_cons, List.not_mem_nil, or_false]; omega)
            have hra2257 := hfk.get hra2257 (by simp only [List.mem_cons, List.not_mem_nil, or_false]; omega)
            have ppaI_0 := paI.fr hfk ppaI_0 (by simp only [List.mem_cons, List.not_mem_nil, or_false]; omega) (by simp only [List.mem_cons, List.not_mem_nil, or_false]; omega) (by simp only [List.mem_cons, List.not_mem_nil, or_false]; omega) (by intro xx hx; simp only [List.mem_cons, List.not_mem_nil, or_false] at hx; omega)
            have hfr := hfr.tr hfk (by simp)
            have hq300 := hlk
            have hq301 := hsk
            have hq := hNq
            have hki := hNki
            have hne := hNne
            have hot := hNot
            change ab_W _ _ _ G294 139 [some (vR q), some (vR p), some (vj w), none, some (vz dd), some (vz cnt), some (vz (w2254 / 4294967296)), none] [vz cnt2255] _
            have hp303 := prok_add (k := 6) (x := (w2254 / 4294967296)) (v := (w / 4294967296)) hp288 (by omega) (by omega) (by omega) (by omega) (by omega) (fun t => by omega) (fun t => absurd t (by decide)) (fun t => absurd t (by decide)) (fun t => absurd t (by decide)) (fun t => absurd t (by decide))
            obtain ⟨K303, eK303⟩ : ∃ z : Int → Int, z = zu K2260 cnt2255 6 := ⟨_, rfl⟩
            have hki : cc o253 G294 ki (lq + 1) (za 808 K303) := by rw [← eK303.symm]; exact hki
            obtain ⟨N303, eN303⟩ : ∃ z : Int → Int, z = zu N282 cnt2255 (w2254 / 4294967296) := ⟨_, rfl⟩
            have hne : cc o253 G294 ne (lq + 2) (za 808 N303) := by rw [← eN303.symm]; exact hne
            obtain ⟨O303, eO303⟩ : ∃ z : Int → Int, z = zu O288 cnt2255 (w / 4294967296) := ⟨_, rfl⟩
            have hot : cc o253 G294 ot (lq + 3) (za 808 O303) := by rw [← eO303.symm]; exact hot
            rw [← eK303, ← eN303, ← eO303] at hp303
            have hkx303 : kext K2260 K303 cnt2255 := by rw [eK303]; exact kext.zu (Int.le_refl _)
            have hks303 : K303 cnt2255 = 6 := by rw [eK303]; exact zu_self _ _ _
            change ab_W _ _ _ G294 139 [some (vR q), some (vR p), some (vj w), none, some (vz dd), some (vz cnt), some (vz (w2254 / 4294967296)), none] [vz cnt2255] _
            refine ab_istore d_PR_loop_139 (Nat.le_of_ble_eq_true rfl) (Nat.le_of_ble_eq_true rfl) rfl ?_
            change ab_W _ _ _ G294 141 [some (vR q), some (vR p), some (vj w), none, some (vz dd), some (vz cnt), some (vz (w2254 / 4294967296)), some (vz cnt2255)] [] _
            refine ab_iload d_PR_loop_141 rfl ?_
            refine ab_iload d_PR_loop_143 rfl ?_
            refine ab_callS (d' := d - 1) (as := [vz cnt2255, vz cnt]) (st := []) (z_PR_pair (o := o253) (f0 := cnt2255) (u0 := cnt) (by omega)) (fun oc G2 h => by rcases h with ⟨h, _⟩ <;> exact ⟨_, h⟩) (by omega) m_PR_pair ml_PR_88 st_PR_pair (Nat.le_of_ble_eq_true rfl) d_PR_loop_145 rfl ?_
            intro v G304 hq
            rcases hq with ⟨hv, hGe⟩
            cases hv
            rw [hGe]
            change ab_W _ _ _ G294 148 [some (vR q), some (vR p), some (vj w), none, some (vz dd), some (vz cnt), some (vz (w2254 / 4294967296)), some (vz cnt2255)] [vj (cnt2255 * 4294967296 + cnt)] _
            refine ab_lret rfl d_PR_loop_148 ?_
            rw [hQ]; exact ⟨_, _, _, _, _, _, _, _, _, _, _, _, rfl, hfr, hq, hki, hne, hot, hra2257, ppaI_0, (by omega), (by omega), (by omega), (by omega), (by exact hp303), (by exact hq270), (by exact ((hkx167.tr hq271 (by omega)).tr hkx303 (by omega))), (by exact hzr), (by omega), (by omega)⟩
        · refine ab_iload d_PR_loop_97 rfl ?_
          refine ab_iload d_PR_loop_99 rfl ?_
          refine ab_callS (d' := d - 1) (as := [vz cnt, vz cnt]) (st := []) (z_PR_pair (o := o253) (f0 := cnt) (u0 := cnt) (by omega)) (fun oc G2 h => by rcases h with ⟨h, _⟩ <;> exact ⟨_, h⟩) (by omega) m_PR_pair ml_PR_88 st_PR_pair (Nat.le_of_ble_eq_true rfl) d_PR_loop_101 rfl ?_
          intro v G305 hq
          rcases hq with ⟨hv, hGe⟩
          cases hv
          rw [hGe]
          change ab_W _ _ _ G285 104 [some (vR q), some (vR p), some (vj w), none, some (vz dd), some (vz cnt), some (vz (w2254 / 4294967296)), none] [vj (cnt * 4294967296 + cnt)] _
          refine ab_lret rfl d_PR_loop_104 ?_
          rw [hQ]; exact ⟨_, _, _, _, _, _, _, _, _, _, _, _, rfl, hfr, hq, hki, hne, hot, hra2257, ppaI_0, (by omega), (by omega), (by omega), (by omega), (by exact hp288), (by exact hq270), (by exact (hkx167.tr hq271 (by omega))), (by exact hzr), (by omega), (by omega)⟩
      · refine ab_lload_n d_PR_loop_53 rfl ?_
        refine ab_callS (d' := d - 1) (as := [vj w]) (st := [vz cnt, vR ne]) (z_PR_used (o := o253) (w := w) (by omega)) (fun oc G2 h => by rcases h with ⟨h, _⟩ <;> exact ⟨_, h⟩) (by omega) m_PR_used ml_PR_124 st_PR_used (Nat.le_of_ble_eq_true rfl) d_PR_loop_54 rfl ?_
        intro v G306 hq
        rcases hq with ⟨hv, hGe⟩
        cases hv
        rw [hGe]
        change ab_W _ _ _ G252 57 [some (vR q), some (vR p), some (vj w), none, some (vz dd), some (vz cnt), some (vz (w2254 / 4294967296)), none] [vz (w % 4294967296), vz cnt, vR ne] _
        refine ab_goto (tgt := 62) d_PR_loop_57 (by decide) ?_
        refine zz_iast d_PR_loop_62 hne (by omega) (hne.2.1 (by first | omega | exact (show 18 ≤ _ by omega))) ?_
        obtain ⟨G307, eG307⟩ : ∃ z : ab_G, z = List.set G252 ne (za 808 (zu N2261 cnt (w % 4294967296))) := ⟨_, rfl⟩
        have hq := hq.keep hne eG307 (by omega)
        have hki := hki.keep hne eG307 (by omega)
        have hot := hot.keep hne eG307 (by omega)
        have hp := hp.keep hne eG307 (by omega)
        have hra2257 := hra2257.keep hne eG307 (by omega)
        have hzr := hzr.wr hne eG307 (by omega)
        have hst := (fx.rf (o := o253) (S := [(lq + 2)]) (G := G252)).wr hne eG307 (List.mem_singleton.mpr rfl)
        have ppaI_0 := paI.fr hst ppaI_0 (by simp only [List.mem_cons, List.not_mem_nil, or_false]; omega) (by simp only [List.mem_cons, List.not_mem_nil, or_false]; omega) (by simp only [List.mem_cons, List.not_mem_nil, or_false]; omega) (by intro xx hx; simp only [List.mem_cons, List.not_mem_nil, or_false] at hx; omega)
        have hq308 := z_len eG307
        have hq309 := z_sl hne eG307 rfl
        have hfr := hfr.wr hne eG307 (by simp)
        have hne := hne.kept eG307
        change ab_W _ _ _ (List.set G252 ne (za 808 (zu N2261 cnt (w % 4294967296)))) 63 [some (vR q), some (vR p), some (vj w), none, some (vz dd), some (vz cnt), some (vz (w2254 / 4294967296)), none] [] _
        rw [← eG307]
        have hp310 := prok_next (a := cnt) (x := (w % 4294967296)) hq269 (by omega)
        obtain ⟨N310, eN310⟩ : ∃ z : Int → Int, z = zu N2261 cnt (w % 4294967296) := ⟨_, rfl⟩
        have hne : cc o253 G307 ne (lq + 2) (za 808 N310) := by rw [← eN310.symm]; exact hne
        rw [← eN310] at hp310
        change ab_W _ _ _ G307 63 [some (vR q), some (vR p), some (vj w), none, some (vz dd), some (vz cnt), some (vz (w2254 / 4294967296)), none] [] _
        refine ab_aload_n d_PR_loop_63 rfl ?_
        refine ab_getf (fs := [vR ki, vR ne, vR ot, vz cnt2255, vz fi, vz la2256, vR ra2257, vz ru2259, vz gr, vz wi, vz sz, vz fl, vz ve, vz mi, vR na, vR nl]) f_PR_18 d_PR_loop_64 hq.2.2 rfl ?_
        refine ab_iload d_PR_loop_67 rfl ?_
        refine ab_aload_n d_PR_loop_69 rfl ?_
        refine ab_getf (fs := [vz k_1, vz v_1, rg_1, vz pl_1, vz fl_1, ou_1, ls_1, bf_1, vz sz_1, vz mb_1, vz oe_1, vz le_1, vz mo_1, vz la_1, vz rc275]) f_PR_156 d_PR_loop_70 hp.2.2 rfl ?_
        refine zz_if_eq (tgt := 81) d_PR_loop_73 (by decide) (by omega) (fun c311 => absurd c311 (by omega)) (fun c311 => ?_)
        refine ab_iload d_PR_loop_76 rfl ?_
        refine ab_goto (tgt := 85) d_PR_loop_78 (by decide) ?_
        refine zz_iast d_PR_loop_85 hot (by omega) (hot.2.1 (by first | omega | exact (show 18 ≤ _ by omega))) ?_
        obtain ⟨G312, eG312⟩ : ∃ z : ab_G, z = List.set G307 ot (za 808 (zu O2262 cnt (w2254 / 4294967296))) := ⟨_, rfl⟩
        have hq := hq.keep hot eG312 (by omega)
        have hki := hki.keep hot eG312 (by omega)
        have hne := hne.keep hot eG312 (by omega)
        have hp := hp.keep hot eG312 (by omega)
        have hra2257 := hra2257.keep hot eG312 (by omega)
        have hzr := hzr.wr hot eG312 (by omega)
        have hst := (fx.rf (o := o253) (S := [(lq + 3)]) (G := G307)).wr hot eG312 (List.mem_singleton.mpr rfl)
        have ppaI_0 := paI.fr hst ppaI_0 (by simp only [List.mem_cons, List.not_mem_nil, or_false]; omega) (by simp only [List.mem_cons, List.not_mem_nil, or_false]; omega) (by simp only [List.mem_cons, List.not_mem_nil, or_false]; omega) (by intro xx hx; simp only [List.mem_cons, List.not_mem_nil, or_false] at hx; omega)
        have hq313 := z_len eG312
        have hq314 := z_sl hot eG312 rfl
        have hfr := hfr.wr hot eG312 (by simp)
        have hot := hot.kept eG312
        change ab_W _ _ _ (List.set G307 ot (za 808 (zu O2262 cnt (w2254 / 4294967296)))) 86 [some (vR q), some (vR p), some (vj w), none, some (vz dd), some (vz cnt), some (vz (w2254 / 4294967296)), none] [] _
        rw [← eG312]
        have hp315 := prok_other (a := cnt) (x := (w2254 / 4294967296)) hp310 (by omega) (Or.inl ((hq271 cnt (by omega) (by omega)).trans hks167))
        obtain ⟨O315, eO315⟩ : ∃ z : Int → Int, z = zu O2262 cnt (w2254 / 4294967296) := ⟨_, rfl⟩
        have hot : cc o253 G312 ot (lq + 3) (za 808 O315) := by rw [← eO315.symm]; exact hot
        rw [← eO315] at hp315
        change ab_W _ _ _ G312 86 [some (vR q), some (vR p), some (vj w), none, some (vz dd), some (vz cnt), some (vz (w2254 / 4294967296)), none] [] _
        refine ab_lload_n d_PR_loop_86 rfl ?_
        refine ab_callS (d' := d - 1) (as := [vj w]) (st := []) (z_PR_fresh (o := o253) (w := w) (by omega)) (fun oc G2 h => by rcases h with ⟨h, _⟩ <;> exact ⟨_, h⟩) (by omega) m_PR_fresh ml_PR_96 st_PR_fresh (Nat.le_of_ble_eq_true rfl) d_PR_loop_87 rfl ?_
        intro v G316 hq
        rcases hq with ⟨hv, hGe⟩
        cases hv
        rw [hGe]
        change ab_W _ _ _ G312 90 [some (vR q), some (vR p), some (vj w), none, some (vz dd), some (vz cnt), some (vz (w2254 / 4294967296)), none] [vz (w / 4294967296)] _
        refine ab_lload_n d_PR_loop_90 rfl ?_
        refine ab_callS (d' := d - 1) (as := [vj w]) (st := [vz (w / 4294967296)]) (z_PR_used (o := o253) (w := w) (by omega)) (fun oc G2 h => by rcases h with ⟨h, _⟩ <;> exact ⟨_, h⟩) (by omega) m_PR_used ml_PR_124 st_PR_used (Nat.le_of_ble_eq_true rfl) d_PR_loop_91 rfl ?_
        intro v G317 hq
        rcases hq with ⟨hv, hGe⟩
        cases hv
        rw [hGe]
        change ab_W _ _ _ G312 94 [some (vR q), some (vR p), some (vj w), none, some (vz dd), some (vz cnt), some (vz (w2254 / 4294967296)), none] [vz (w % 4294967296), vz (w / 4294967296)] _
        refine zz_icmp_ne (tgt := 105) d_PR_loop_94 (by decide) (by omega) (by omega) (fun c318 => ?_) (fun c318 => ?_)
        · refine ab_aload_n d_PR_loop_105 rfl ?_
          refine ab_getf (fs := [vz k_1, vz v_1, rg_1, vz pl_1, vz fl_1, ou_1, ls_1, bf_1, vz sz_1, vz mb_1, vz oe_1, vz le_1, vz mo_1, vz la_1, vz rc275]) f_PR_156 d_PR_loop_106 hp.2.2 rfl ?_
          refine zz_if_eq (tgt := 127) d_PR_loop_109 (by decide) (by omega) (fun c319 => absurd c319 (by omega)) (fun c319 => ?_)
          refine ab_aload_n d_PR_loop_112 rfl ?_
          refine zz_bipush d_PR_loop_113 (by decide) ?_
          refine ab_lload_n d_PR_loop_115 rfl ?_
          refine ab_callS (d' := d - 1) (as := [vj w]) (st := [vz 6, vR q]) (z_PR_fresh (o := o253) (w := w) (by omega)) (fun oc G2 h => by rcases h with ⟨h, _⟩ <;> exact ⟨_, h⟩) (by omega) m_PR_fresh ml_PR_96 st_PR_fresh (Nat.le_of_ble_eq_true rfl) d_PR_loop_116 rfl ?_
          intro v G320 hq
          rcases hq with ⟨hv, hGe⟩
          cases hv
          rw [hGe]
          change ab_W _ _ _ G312 119 [some (vR q), some (vR p), some (vj w), none, some (vz dd), some (vz cnt), some (vz (w2254 / 4294967296)), none] [vz (w / 4294967296), vz 6, vR q] _
          refine ab_iload d_PR_loop_119 rfl ?_
          refine ab_callV (d' := d - 1) (as := [vz 6, vz (w / 4294967296), vz (w2254 / 4294967296)]) (st := []) (r := _) (z_PR_add (o := o253) (q := q) (lq := lq) (ki := ki) (ne := ne) (ot := ot) (cnt := cnt2255) (fi := fi) (la := la2256) (ra := ra2257) (ru := ru2259) (gr := gr) (wi := wi) (sz := sz) (fl := fl) (ve := ve) (mi := mi) (na := na) (nl := nl) (K := K2260) (N := N310) (O := O315) (k0 := 6) (x0 := (w / 4294967296)) (v0 := (w2254 / 4294967296)) hq hki hne hot (by omega) (by omega) (by omega)) (fun oc G2 h => by rcases h with ⟨h, _⟩ | ⟨_, h, _⟩ <;> exact ⟨_, h⟩) (by omega) m_PR_add ml_PR_84 im_PR_add se_PR_add c_PR hq.2.2 (Nat.le_of_ble_eq_true rfl) d_PR_loop_121 rfl ?_
          intro v G321 hq
          rcases hq with ⟨hv, hGe, hq322⟩ | ⟨la2323, hv, hfk, hlk, hsk, hNq, hNki, hNne, hNot, hq324, hq325, hq326⟩
          · cases hv
            rw [hGe]
            change ab_W _ _ _ G312 124 [some (vR q), some (vR p), some (vj w), none, some (vz dd), some (vz cnt), some (vz (w2254 / 4294967296)), none] [vz 0] _
            refine ab_goto (tgt := 139) d_PR_loop_124 (by decide) ?_
            refine ab_istore d_PR_loop_139 (Nat.le_of_ble_eq_true rfl) (Nat.le_of_ble_eq_true rfl) rfl ?_
            change ab_W _ _ _ G312 141 [some (vR q), some (vR p), some (vj w), none, some (vz dd), some (vz cnt), some (vz (w2254 / 4294967296)), some (vz 0)] [] _
            refine ab_iload d_PR_loop_141 rfl ?_
            refine ab_iload d_PR_loop_143 rfl ?_
            refine ab_callS (d' := d - 1) (as := [vz 0, vz cnt]) (st := []) (z_PR_pair (o := o253) (f0 := 0) (u0 := cnt) (by omega)) (fun oc G2 h => by rcases h with ⟨h, _⟩ <;> exact ⟨_, h⟩) (by omega) m_PR_pair ml_PR_88 st_PR_pair (Nat.le_of_ble_eq_true rfl) d_PR_loop_145 rfl ?_
            intro v G329 hq
            rcases hq with ⟨hv, hGe⟩
            cases hv
            rw [hGe]
            change ab_W _ _ _ G312 148 [some (vR q), some (vR p), some (vj w), none, some (vz dd), some (vz cnt), some (vz (w2254 / 4294967296)), some (vz 0)] [vj (0 * 4294967296 + cnt)] _
            refine ab_lret rfl d_PR_loop_148 ?_
            rw [hQ]; exact ⟨_, _, _, _, _, _, _, _, _, _, _, _, rfl, hfr, hq, hki, hne, hot, hra2257, ppaI_0, (by omega), (by omega), (by omega), (by omega), (by exact hp315), (by exact hq270), (by exact (hkx167.tr hq271 (by omega))), (by exact hzr), (by omega), (by omega)⟩
          · cases hv
            have hzr := hzr.tr (fzr.fx hfk (by simp only [List.mem_cons, List.not_mem_nil, or_false]; omega))
            have hp := hfk.get hp (by simp only [List.mem_cons, List.not_mem_nil, or_false]; omega)
            have hra2257 := hfk.get hra2257 (by simp only [List.mem_cons, List.not_mem_nil, or_false]; omega)
            have ppaI_0 := paI.fr hfk ppaI_0 (by simp only [List.mem_cons, List.not_mem_nil, or_false]; omega) (by simp only [List.mem_cons, List.not_mem_nil, or_false]; omega) (by simp only [List.mem_cons, List.not_mem_nil, or_false]; omega) (by intro xx hx; simp only [List.mem_cons, List.not_mem_nil, or_false] at hx; omega)
            have hfr := hfr.tr hfk (by simp)
            have hq327 := hlk
            have hq328 := hsk
            have hq := hNq
            have hki := hNki
            have hne := hNne
            have hot := hNot
            change ab_W _ _ _ G321 124 [some (vR q), some (vR p), some (vj w), none, some (vz dd), some (vz cnt), some (vz (w2254 / 4294967296)), none] [vz cnt2255] _
            have hp330 := prok_add (k := 6) (x := (w / 4294967296)) (v := (w2254 / 4294967296)) hp315 (by omega) (by omega) (by omega) (by omega) (by omega) (fun t => by omega) (fun t => absurd t (by decide)) (fun t => absurd t (by decide)) (fun t => absurd t (by decide)) (fun t => absurd t (by decide))
            obtain ⟨K330, eK330⟩ : ∃ z : Int → Int, z = zu K2260 cnt2255 6 := ⟨_, rfl⟩
            have hki : cc o253 G321 ki (lq + 1) (za 808 K330) := by rw [← eK330.symm]; exact hki
            obtain ⟨N330, eN330⟩ : ∃ z : Int → Int, z = zu N310 cnt2255 (w / 4294967296) := ⟨_, rfl⟩
            have hne : cc o253 G321 ne (lq + 2) (za 808 N330) := by rw [← eN330.symm]; exact hne
            obtain ⟨O330, eO330⟩ : ∃ z : Int → Int, z = zu O315 cnt2255 (w2254 / 4294967296) := ⟨_, rfl⟩
            have hot : cc o253 G321 ot (lq + 3) (za 808 O330) := by rw [← eO330.symm]; exact hot
            rw [← eK330, ← eN330, ← eO330] at hp330
            have hkx330 : kext K2260 K330 cnt2255 := by rw [eK330]; exact kext.zu (Int.le_refl _)
            have hks330 : K330 cnt2255 = 6 := by rw [eK330]; exact zu_self _ _ _
            change ab_W _ _ _ G321 124 [some (vR q), some (vR p), some (vj w), none, some (vz dd), some (vz cnt), some (vz (w2254 / 4294967296)), none] [vz cnt2255] _
            refine ab_goto (tgt := 139) d_PR_loop_124 (by decide) ?_
            refine ab_istore d_PR_loop_139 (Nat.le_of_ble_eq_true rfl) (Nat.le_of_ble_eq_true rfl) rfl ?_
            change ab_W _ _ _ G321 141 [some (vR q), some (vR p), some (vj w), none, some (vz dd), some (vz cnt), some (vz (w2254 / 4294967296)), some (vz cnt2255)] [] _
            refine ab_iload d_PR_loop_141 rfl ?_
            refine ab_iload d_PR_loop_143 rfl ?_
            refine ab_callS (d' := d - 1) (as := [vz cnt2255, vz cnt]) (st := []) (z_PR_pair (o := o253) (f0 := cnt2255) (u0 := cnt) (by omega)) (fun oc G2 h => by rcases h with ⟨h, _⟩ <;> exact ⟨_, h⟩) (by omega) m_PR_pair ml_PR_88 st_PR_pair (Nat.le_of_ble_eq_true rfl) d_PR_loop_145 rfl ?_
            intro v G331 hq
            rcases hq with ⟨hv, hGe⟩
            cases hv
            rw [hGe]
            change ab_W _ _ _ G321 148 [some (vR q), some (vR p), some (vj w), none, some (vz dd), some (vz cnt), some (vz (w2254 / 4294967296)), some (vz cnt2255)] [vj (cnt2255 * 4294967296 + cnt)] _
            refine ab_lret rfl d_PR_loop_148 ?_
            rw [hQ]; exact ⟨_, _, _, _, _, _, _, _, _, _, _, _, rfl, hfr, hq, hki, hne, hot, hra2257, ppaI_0, (by omega), (by omega), (by omega), (by omega), (by exact hp330), (by exact hq270), (by exact ((hkx167.tr hq271 (by omega)).tr hkx330 (by omega))), (by exact hzr), (by omega), (by omega)⟩
        · refine ab_iload d_PR_loop_97 rfl ?_
          refine ab_iload d_PR_loop_99 rfl ?_
          refine ab_callS (d' := d - 1) (as := [vz cnt, vz cnt]) (st := []) (z_PR_pair (o := o253) (f0 := cnt) (u0 := cnt) (by omega)) (fun oc G2 h => by rcases h with ⟨h, _⟩ <;> exact ⟨_, h⟩) (by omega) m_PR_pair ml_PR_88 st_PR_pair (Nat.le_of_ble_eq_true rfl) d_PR_loop_101 rfl ?_
          intro v G332 hq
          rcases hq with ⟨hv, hGe⟩
          cases hv
          rw [hGe]
          change ab_W _ _ _ G312 104 [some (vR q), some (vR p), some (vj w), none, some (vz dd), some (vz cnt), some (vz (w2254 / 4294967296)), none] [vj (cnt * 4294967296 + cnt)] _
          refine ab_lret rfl d_PR_loop_104 ?_
          rw [hQ]; exact ⟨_, _, _, _, _, _, _, _, _, _, _, _, rfl, hfr, hq, hki, hne, hot, hra2257, ppaI_0, (by omega), (by omega), (by omega), (by omega), (by exact hp315), (by exact hq270), (by exact (hkx167.tr hq271 (by omega))), (by exact hzr), (by omega), (by omega)⟩
