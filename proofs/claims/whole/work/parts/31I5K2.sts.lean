set_option maxRecDepth 100000 in
set_option maxHeartbeats 4000000 in
theorem y_ST_lastCut_10 {X : ab_X} {d : Nat} {Q : Outcome → ab_G → Prop} {o : Nat → Nat} {G0 : ab_G} {a : Nat} {cu : Nat} {eg : Nat} {po : Nat} {bg : Nat} {bd : Nat} {sd : Nat} {se_ : Nat} {stk : Nat} {mst : Int} {q0 : Value} {vr : Int} {ro : Int} {cn : Int} {ct : Int} {sc : Int} {sta : Int} {arv : Int} {stp : Int} {CU : Int → Int} {c : Int} (cc0 : 0 ≤ cn ∧ cn ≤ 120) (cx_ : -1 ≤ c ∧ c ≤ 1114112) (jcu : rgs CU 120 0 1114112) (jcs : cuS CU cn) : ∀ (mz : Nat) {G : ab_G} {low : Int} {high : Int} {tu : Int}, (cc o G a 60 (ab_ob 8 [vz mst, q0, vz vr, vz ro, vR cu, vz cn, vR eg, vR po, vR bg, vR bd, vz ct, vR sd, vz sc, vR se_, vz sta, vR stk, vz arv, vj stp])) → (cc o G cu 61 (za 120 CU)) → (0 ≤ low ∧ low ≤ high ∧ high ≤ cn ∧ 0 ≤ tu ∧ tu ≤ 32) → (lcI CU cn c low high tu) → (fx o o [] G0 G) → (G.length = G0.length) → (ab_slots G = ab_slots G0) → (Int.toNat (32 - tu) < mz) → (∀ (G2 : ab_G) (v : Int), (-1 ≤ v ∧ v + 1 ≤ cn) → (cuL CU cn c v) → (fx o o [] G0 G2) → (G2.length = G0.length) → (ab_slots G2 = ab_slots G0) → Q (.returned (some (vz v))) G2) → ab_W X (ab_pl y_ST_lastCut b_ST_lastCut 6 (some (.int))) d G 10 [some (vR a), some (vz c), some (vz low), some (vz high), some (vz tu), none] [] Q := by
  intro mz
  induction mz with
  | zero => intro G low high tu ha hcu ci jlc hfr hlen hsl hm hk0; exact absurd hm (Nat.not_lt_zero _)
  | succ mz ih =>
    intro G low high tu ha hcu ci jlc hfr hlen hsl hm hk0
    refine ab_iload d_ST_lastCut_10 rfl ?_
    refine zz_bipush d_ST_lastCut_12 (by decide) ?_
    refine zz_icmp_ge (tgt := 57) d_ST_lastCut_14 (by decide) (by omega) (by decide) (fun c1 => ?_) (fun c1 => ?_)
    · refine ab_iload_n d_ST_lastCut_57 rfl ?_
      refine zz_iconst d_ST_lastCut_58 ?_
      refine zz_isub d_ST_lastCut_59 ?_
      refine zz_iret rfl d_ST_lastCut_60 ?_
      exact hk0 _ _ (by omega) (by exact lcI_e jlc (by omega) (by omega)) hfr hlen hsl
    · refine ab_iload_n d_ST_lastCut_17 rfl ?_
      refine ab_iload_n d_ST_lastCut_18 rfl ?_
      refine zz_icmp_ge (tgt := 57) d_ST_lastCut_19 (by decide) (by omega) (by omega) (fun c2 => ?_) (fun c2 => ?_)
      · refine ab_iload_n d_ST_lastCut_57 rfl ?_
        refine zz_iconst d_ST_lastCut_58 ?_
        refine zz_isub d_ST_lastCut_59 ?_
        refine zz_iret rfl d_ST_lastCut_60 ?_
        exact hk0 _ _ (by omega) (by exact lcI_e jlc (by omega) (by omega)) hfr hlen hsl
      · refine ab_iload_n d_ST_lastCut_22 rfl ?_
        refine ab_iload_n d_ST_lastCut_23 rfl ?_
        refine zz_iadd d_ST_lastCut_24 ?_
        refine zz_iconst d_ST_lastCut_25 ?_
        refine zz_iushr1 d_ST_lastCut_26 (by omega) ?_
        refine ab_istore d_ST_lastCut_27 (Nat.le_of_ble_eq_true rfl) (Nat.le_of_ble_eq_true rfl) rfl ?_
        change ab_W _ _ _ G 29 [some (vR a), some (vz c), some (vz low), some (vz high), some (vz tu), some (vz ((low + high) / 2))] [] _
        refine ab_aload_n d_ST_lastCut_29 rfl ?_
        refine ab_getf (fs := [vz mst, q0, vz vr, vz ro, vR cu, vz cn, vR eg, vR po, vR bg, vR bd, vz ct, vR sd, vz sc, vR se_, vz sta, vR stk, vz arv, vj stp]) f_ST_15 d_ST_lastCut_30 ha.2.2 rfl ?_
        refine ab_iload d_ST_lastCut_33 rfl ?_
        refine zz_iald d_ST_lastCut_35 hcu (by omega) ?_
        have hq3 := jcu ((low + high) / 2) (by omega) (by omega)
        refine ab_iload_n d_ST_lastCut_36 rfl ?_
        refine zz_icmp_gt (tgt := 48) d_ST_lastCut_37 (by decide) (by omega) (by omega) (fun c4 => ?_) (fun c4 => ?_)
        · refine ab_iload d_ST_lastCut_48 rfl ?_
          refine ab_istore_n d_ST_lastCut_50 (Nat.le_of_ble_eq_true rfl) (Nat.le_of_ble_eq_true rfl) rfl ?_
          change ab_W _ _ _ G 51 [some (vR a), some (vz c), some (vz low), some (vz ((low + high) / 2)), some (vz tu), some (vz ((low + high) / 2))] [] _
          refine zz_iinc d_ST_lastCut_51 rfl (Nat.le_of_ble_eq_true rfl) (Nat.le_of_ble_eq_true rfl) rfl ?_
          change ab_W _ _ _ G 54 [some (vR a), some (vz c), some (vz low), some (vz ((low + high) / 2)), some (vz (tu + 1)), some (vz ((low + high) / 2))] [] _
          refine ab_goto (tgt := 10) d_ST_lastCut_54 (by decide) ?_
          refine ab_less (L' := [some (vR a), some (vz c), some (vz low), some (vz ((low + high) / 2)), some (vz (tu + 1)), none]) (fun i v h => by rcases i with _ | _ | _ | _ | _ | _ | i <;> first | exact h | (simp at h)) ?_
          exact ih (low := low) (high := ((low + high) / 2)) (tu := (tu + 1)) ha hcu (by omega) (lcI_hi jlc jcs (by omega) (by omega)) hfr hlen hsl (by omega) hk0
        · refine ab_iload d_ST_lastCut_40 rfl ?_
          refine zz_iconst d_ST_lastCut_42 ?_
          refine zz_iadd d_ST_lastCut_43 ?_
          refine ab_istore_n d_ST_lastCut_44 (Nat.le_of_ble_eq_true rfl) (Nat.le_of_ble_eq_true rfl) rfl ?_
          change ab_W _ _ _ G 45 [some (vR a), some (vz c), some (vz (((low + high) / 2) + 1)), some (vz high), some (vz tu), some (vz ((low + high) / 2))] [] _
          refine ab_goto (tgt := 51) d_ST_lastCut_45 (by decide) ?_
          refine zz_iinc d_ST_lastCut_51 rfl (Nat.le_of_ble_eq_true rfl) (Nat.le_of_ble_eq_true rfl) rfl ?_
          change ab_W _ _ _ G 54 [some (vR a), some (vz c), some (vz (((low + high) / 2) + 1)), some (vz high), some (vz (tu + 1)), some (vz ((low + high) / 2))] [] _
          refine ab_goto (tgt := 10) d_ST_lastCut_54 (by decide) ?_
          refine ab_less (L' := [some (vR a), some (vz c), some (vz (((low + high) / 2) + 1)), some (vz high), some (vz (tu + 1)), none]) (fun i v h => by rcases i with _ | _ | _ | _ | _ | _ | i <;> first | exact h | (simp at h)) ?_
          exact ih (low := (((low + high) / 2) + 1)) (high := high) (tu := (tu + 1)) ha hcu (by omega) (lcI_lo jlc jcs (by omega) (by omega)) hfr hlen hsl (by omega) hk0
set_option maxRecDepth 100000 in
set_option maxHeartbeats 4000000 in
theorem z_ST_lastCut {X : ab_X} {d : Nat} {o : Nat → Nat} {G : ab_G} {a : Nat} {cu : Nat} {eg : Nat} {po : Nat} {bg : Nat} {bd : Nat} {sd : Nat} {se_ : Nat} {stk : Nat} {mst : Int} {q0 : Value} {vr : Int} {ro : Int} {cn : Int} {ct : Int} {sc : Int} {sta : Int} {arv : Int} {stp : Int} {CU : Int → Int} {c : Int} (ha : cc o G a 60 (ab_ob 8 [vz mst, q0, vz vr, vz ro, vR cu, vz cn, vR eg, vR po, vR bg, vR bd, vz ct, vR sd, vz sc, vR se_, vz sta, vR stk, vz arv, vj stp])) (hcu : cc o G cu 61 (za 120 CU)) (cc0 : 0 ≤ cn ∧ cn ≤ 120) (cx_ : -1 ≤ c ∧ c ≤ 1114112) (jcu : rgs CU 120 0 1114112) (jcs : cuS CU cn) : ab_F X d y_ST_lastCut (.code y_ST_lastCut b_ST_lastCut 6 (some (.int))) [vR a, vz c] G (fun oc G2 => ∃ v : Int, oc = .returned (some (vz v)) ∧ fx o o [] G G2 ∧ G2.length = G.length ∧ ab_slots G2 = ab_slots G ∧ (-1 ≤ v ∧ v + 1 ≤ cn) ∧ (cuL CU cn c v)) := by
  refine ab_F_of (by decide +kernel) (Nat.le_of_ble_eq_true rfl) ?_
  obtain ⟨Q, hQ⟩ : ∃ z : Outcome → ab_G → Prop, z = (fun oc G2 => ∃ v : Int, oc = .returned (some (vz v)) ∧ fx o o [] G G2 ∧ G2.length = G.length ∧ ab_slots G2 = ab_slots G ∧ (-1 ≤ v ∧ v + 1 ≤ cn) ∧ (cuL CU cn c v)) := ⟨_, rfl⟩
  rw [← hQ]
  change ab_W X (ab_pl y_ST_lastCut b_ST_lastCut 6 (some (.int))) d G 0 [some (vR a), some (vz c), none, none, none, none] [] Q
  have hfr : fx o o [] G G := fx.rf
  have hlen : G.length = G.length := rfl
  have hsl : ab_slots G = ab_slots G := rfl
  refine zz_iconst d_ST_lastCut_0 ?_
  refine ab_istore_n d_ST_lastCut_1 (Nat.le_of_ble_eq_true rfl) (Nat.le_of_ble_eq_true rfl) rfl ?_
  change ab_W _ _ _ G 2 [some (vR a), some (vz c), some (vz 0), none, none, none] [] _
  refine ab_aload_n d_ST_lastCut_2 rfl ?_
  refine ab_getf (fs := [vz mst, q0, vz vr, vz ro, vR cu, vz cn, vR eg, vR po, vR bg, vR bd, vz ct, vR sd, vz sc, vR se_, vz sta, vR stk, vz arv, vj stp]) f_ST_63 d_ST_lastCut_3 ha.2.2 rfl ?_
  refine ab_istore_n d_ST_lastCut_6 (Nat.le_of_ble_eq_true rfl) (Nat.le_of_ble_eq_true rfl) rfl ?_
  change ab_W _ _ _ G 7 [some (vR a), some (vz c), some (vz 0), some (vz cn), none, none] [] _
  refine zz_iconst d_ST_lastCut_7 ?_
  refine ab_istore d_ST_lastCut_8 (Nat.le_of_ble_eq_true rfl) (Nat.le_of_ble_eq_true rfl) rfl ?_
  change ab_W _ _ _ G 10 [some (vR a), some (vz c), some (vz 0), some (vz cn), some (vz 0), none] [] _
  refine y_ST_lastCut_10 (a := a) (cu := cu) (eg := eg) (po := po) (bg := bg) (bd := bd) (sd := sd) (se_ := se_) (stk := stk) (mst := mst) (q0 := q0) (vr := vr) (ro := ro) (cn := cn) (ct := ct) (sc := sc) (sta := sta) (arv := arv) (stp := stp) (CU := CU) (c := c) (G0 := G) (low := 0) (high := cn) (tu := 0) (by omega) (by omega) jcu jcs (Int.toNat (32 - 0) + 1) ha hcu (by omega) (lcI_0 (by omega)) fx.rf rfl rfl (by omega) (fun G1 v2 hq3 hq4 hfk hlk hsk => ?_)
  · have ha := hfk.get ha (by decide)
    have hcu := hfk.get hcu (by decide)
    have hfr := hfr.tr hfk (by decide)
    have hlen := hlk.trans hlen
    have hsl := hsk.trans hsl
    rw [hQ]; exact ⟨_, rfl, hfr, hlen, hsl, (by omega), (by exact hq4)⟩
set_option maxRecDepth 100000 in
set_option maxHeartbeats 4000000 in
theorem z_ST_addCut {X : ab_X} {d : Nat} {o : Nat → Nat} {G : ab_G} {a : Nat} {cu : Nat} {eg : Nat} {po : Nat} {bg : Nat} {bd : Nat} {sd : Nat} {se_ : Nat} {stk : Nat} {mst : Int} {q0 : Value} {vr : Int} {ro : Int} {cn : Int} {ct : Int} {sc : Int} {sta : Int} {arv : Int} {stp : Int} {CU : Int → Int} {c : Int} (ha : cc o G a 60 (ab_ob 8 [vz mst, q0, vz vr, vz ro, vR cu, vz cn, vR eg, vR po, vR bg, vR bd, vz ct, vR sd, vz sc, vR se_, vz sta, vR stk, vz arv, vj stp])) (hcu : cc o G cu 61 (za 120 CU)) (ccn : 0 ≤ cn ∧ cn ≤ 121) (cx_ : 0 ≤ c ∧ c ≤ 1114112) (jcu : rgs CU 120 0 1114112) (jcg : cuG CU cn) (hd : 2 ≤ d) : ab_F X d y_ST_addCut (.code y_ST_addCut b_ST_addCut 3 none) [vR a, vz c] G (fun oc G2 => ∃ cn2 : Int, ∃ CU2 : Int → Int, oc = .returned none ∧ fx o o [60, 61] G G2 ∧ G2.length = G.length ∧ ab_slots G2 = ab_slots G ∧ cc o G2 a 60 (ab_ob 8 [vz mst, q0, vz vr, vz ro, vR cu, vz cn2, vR eg, vR po, vR bg, vR bd, vz ct, vR sd, vz sc, vR se_, vz sta, vR stk, vz arv, vj stp]) ∧ cc o G2 cu 61 (za 120 CU2) ∧ (0 ≤ cn2 ∧ cn2 ≤ 121) ∧ (rgs CU2 120 0 1114112) ∧ (cuA CU cn CU2 cn2 c)) := by
  refine ab_F_of (by decide +kernel) (Nat.le_of_ble_eq_true rfl) ?_
  obtain ⟨Q, hQ⟩ : ∃ z : Outcome → ab_G → Prop, z = (fun oc G2 => ∃ cn2 : Int, ∃ CU2 : Int → Int, oc = .returned none ∧ fx o o [60, 61] G G2 ∧ G2.length = G.length ∧ ab_slots G2 = ab_slots G ∧ cc o G2 a 60 (ab_ob 8 [vz mst, q0, vz vr, vz ro, vR cu, vz cn2, vR eg, vR po, vR bg, vR bd, vz ct, vR sd, vz sc, vR se_, vz sta, vR stk, vz arv, vj stp]) ∧ cc o G2 cu 61 (za 120 CU2) ∧ (0 ≤ cn2 ∧ cn2 ≤ 121) ∧ (rgs CU2 120 0 1114112) ∧ (cuA CU cn CU2 cn2 c)) := ⟨_, rfl⟩
  rw [← hQ]
  change ab_W X (ab_pl y_ST_addCut b_ST_addCut 3 none) d G 0 [some (vR a), some (vz c), none] [] Q
  have hfr : fx o o [60, 61] G G := fx.rf
  have hlen : G.length = G.length := rfl
  have hsl : ab_slots G = ab_slots G := rfl
  refine ab_aload_n d_ST_addCut_0 rfl ?_
  refine ab_getf (fs := [vz mst, q0, vz vr, vz ro, vR cu, vz cn, vR eg, vR po, vR bg, vR bd, vz ct, vR sd, vz sc, vR se_, vz sta, vR stk, vz arv, vj stp]) f_ST_63 d_ST_addCut_1 ha.2.2 rfl ?_
  refine zz_bipush d_ST_addCut_4 (by decide) ?_
  refine zz_icmp_le (tgt := 13) d_ST_addCut_6 (by decide) (by omega) (by decide) (fun c1 => ?_) (fun c1 => ?_)
  · refine ab_aload_n d_ST_addCut_13 rfl ?_
    refine ab_iload_n d_ST_addCut_14 rfl ?_
    refine ab_callV (d' := d - 1) (as := [vz c]) (st := []) (r := _) (z_ST_lastCut (o := o) (a := a) (cu := cu) (eg := eg) (po := po) (bg := bg) (bd := bd) (sd := sd) (se_ := se_) (stk := stk) (mst := mst) (q0 := q0) (vr := vr) (ro := ro) (cn := cn) (ct := ct) (sc := sc) (sta := sta) (arv := arv) (stp := stp) (CU := CU) (c := c) ha hcu (by omega) (by omega) jcu (jcg (by omega))) (fun oc G2 h => by rcases h with ⟨_, h, _⟩ <;> exact ⟨_, h⟩) (by omega) m_ST_lastCut ml_ST_107 im_ST_lastCut se_ST_lastCut c_ST ha.2.2 (Nat.le_of_ble_eq_true rfl) d_ST_addCut_15 rfl ?_
    intro v G2 hq
    rcases hq with ⟨v3, hv, hfk, hlk, hsk, hq4, hq5⟩
    cases hv
    have ha := hfk.get ha (by decide)
    have hcu := hfk.get hcu (by decide)
    have hfr := hfr.tr hfk (by decide)
    have hlen := hlk.trans hlen
    have hsl := hsk.trans hsl
    change ab_W _ _ _ G2 18 [some (vR a), some (vz c), none] [vz v3] _
    refine zz_iconst d_ST_addCut_18 ?_
    refine zz_iadd d_ST_addCut_19 ?_
    refine ab_istore_n d_ST_addCut_20 (Nat.le_of_ble_eq_true rfl) (Nat.le_of_ble_eq_true rfl) rfl ?_
    change ab_W _ _ _ G2 21 [some (vR a), some (vz c), some (vz (v3 + 1))] [] _
    refine ab_aload_n d_ST_addCut_21 rfl ?_
    refine ab_getf (fs := [vz mst, q0, vz vr, vz ro, vR cu, vz cn, vR eg, vR po, vR bg, vR bd, vz ct, vR sd, vz sc, vR se_, vz sta, vR stk, vz arv, vj stp]) f_ST_63 d_ST_addCut_22 ha.2.2 rfl ?_
    refine zz_bipush d_ST_addCut_25 (by decide) ?_
    refine zz_icmp_gt (tgt := 46) d_ST_addCut_27 (by decide) (by omega) (by decide) (fun c6 => absurd c6 (by omega)) (fun c6 => ?_)
    refine ab_iload_n d_ST_addCut_30 rfl ?_
    refine zz_if_le (tgt := 47) d_ST_addCut_31 (by decide) (by omega) (fun c7 => ?_) (fun c7 => ?_)
    · refine ab_aload_n d_ST_addCut_47 rfl ?_
      refine ab_getf (fs := [vz mst, q0, vz vr, vz ro, vR cu, vz cn, vR eg, vR po, vR bg, vR bd, vz ct, vR sd, vz sc, vR se_, vz sta, vR stk, vz arv, vj stp]) f_ST_63 d_ST_addCut_48 ha.2.2 rfl ?_
      refine zz_bipush d_ST_addCut_51 (by decide) ?_
      refine zz_icmp_ge (tgt := 84) d_ST_addCut_53 (by decide) (by omega) (by decide) (fun c8 => ?_) (fun c8 => ?_)
      · refine ab_aload_n d_ST_addCut_84 rfl ?_
        refine ab_dup d_ST_addCut_85 rfl ?_
        refine ab_getf (fs := [vz mst, q0, vz vr, vz ro, vR cu, vz cn, vR eg, vR po, vR bg, vR bd, vz ct, vR sd, vz sc, vR se_, vz sta, vR stk, vz arv, vj stp]) f_ST_63 d_ST_addCut_86 ha.2.2 rfl ?_
        refine zz_iconst d_ST_addCut_89 ?_
        refine zz_iadd d_ST_addCut_90 ?_
        refine ab_putf (fs := [vz mst, q0, vz vr, vz ro, vR cu, vz cn, vR eg, vR po, vR bg, vR bd, vz ct, vR sd, vz sc, vR se_, vz sta, vR stk, vz arv, vj stp]) f_ST_63 (Or.inl rfl) d_ST_addCut_91 ha.2.2 (Nat.le_of_ble_eq_true rfl) (fun _ => ⟨rfl, rfl⟩) (ha.2.1 (by decide)) ?_
        obtain ⟨G9, eG9⟩ : ∃ z : ab_G, z = List.set G2 a (ab_ob 8 [vz mst, q0, vz vr, vz ro, vR cu, vz (cn + 1), vR eg, vR po, vR bg, vR bd, vz ct, vR sd, vz sc, vR se_, vz sta, vR stk, vz arv, vj stp]) := ⟨_, rfl⟩
        have hcu := hcu.keep ha eG9 (by decide)
        have hlen := (z_len eG9).trans hlen
        have hsl := (z_sl ha eG9 rfl).trans hsl
        have hfr := hfr.wr ha eG9 (by decide)
        have ha := ha.kept eG9
        change ab_W _ _ _ (List.set G2 a (ab_ob 8 [vz mst, q0, vz vr, vz ro, vR cu, vz (cn + 1), vR eg, vR po, vR bg, vR bd, vz ct, vR sd, vz sc, vR se_, vz sta, vR stk, vz arv, vj stp])) 94 [some (vR a), some (vz c), some (vz (v3 + 1))] [] _
        rw [← eG9]
        refine ab_vret rfl d_ST_addCut_94 ?_
        rw [hQ]; exact ⟨_, _, rfl, hfr, hlen, hsl, ha, hcu, (by omega), (by first | exact jcu | exact rgs_w jcu (by omega)), (by exact cuA_f (by omega))⟩
      · refine ab_aload_n d_ST_addCut_56 rfl ?_
        refine ab_getf (fs := [vz mst, q0, vz vr, vz ro, vR cu, vz cn, vR eg, vR po, vR bg, vR bd, vz ct, vR sd, vz sc, vR se_, vz sta, vR stk, vz arv, vj stp]) f_ST_15 d_ST_addCut_57 ha.2.2 rfl ?_
        refine ab_iload_n d_ST_addCut_60 rfl ?_
        refine ab_aload_n d_ST_addCut_61 rfl ?_
        refine ab_getf (fs := [vz mst, q0, vz vr, vz ro, vR cu, vz cn, vR eg, vR po, vR bg, vR bd, vz ct, vR sd, vz sc, vR se_, vz sta, vR stk, vz arv, vj stp]) f_ST_15 d_ST_addCut_62 ha.2.2 rfl ?_
        refine ab_iload_n d_ST_addCut_65 rfl ?_
        refine zz_iconst d_ST_addCut_66 ?_
        refine zz_iadd d_ST_addCut_67 ?_
        refine ab_aload_n d_ST_addCut_68 rfl ?_
        refine ab_getf (fs := [vz mst, q0, vz vr, vz ro, vR cu, vz cn, vR eg, vR po, vR bg, vR bd, vz ct, vR sd, vz sc, vR se_, vz sta, vR stk, vz arv, vj stp]) f_ST_63 d_ST_addCut_69 ha.2.2 rfl ?_
        refine ab_iload_n d_ST_addCut_72 rfl ?_
        refine zz_isub d_ST_addCut_73 ?_
        refine zz_copy mj_ST_111 d_ST_addCut_74 hcu hcu (hcu.2.1 (by decide)) (by omega) (Nat.le_of_ble_eq_true rfl) (by omega) ?_
        obtain ⟨G10, eG10⟩ : ∃ z : ab_G, z = List.set G2 cu (za 120 (zcpy CU CU (v3 + 1) ((v3 + 1) + 1) (cn - (v3 + 1)))) := ⟨_, rfl⟩
        have ha := ha.keep hcu eG10 (by decide)
        have hlen := (z_len eG10).trans hlen
        have hsl := (z_sl hcu eG10 rfl).trans hsl
        have hfr := hfr.wr hcu eG10 (by decide)
        have hcu := hcu.kept eG10
        change ab_W _ _ _ (List.set G2 cu (za 120 (zcpy CU CU (v3 + 1) ((v3 + 1) + 1) (cn - (v3 + 1))))) 77 [some (vR a), some (vz c), some (vz (v3 + 1))] [] _
        rw [← eG10]
        refine ab_aload_n d_ST_addCut_77 rfl ?_
        refine ab_getf (fs := [vz mst, q0, vz vr, vz ro, vR cu, vz cn, vR eg, vR po, vR bg, vR bd, vz ct, vR sd, vz sc, vR se_, vz sta, vR stk, vz arv, vj stp]) f_ST_15 d_ST_addCut_78 ha.2.2 rfl ?_
        refine ab_iload_n d_ST_addCut_81 rfl ?_
        refine ab_iload_n d_ST_addCut_82 rfl ?_
        refine zz_iast d_ST_addCut_83 hcu (by omega) (hcu.2.1 (by decide)) ?_
        obtain ⟨G11, eG11⟩ : ∃ z : ab_G, z = List.set G10 cu (za 120 (zu (zcpy CU CU (v3 + 1) ((v3 + 1) + 1) (cn - (v3 + 1))) (v3 + 1) c)) := ⟨_, rfl⟩
        have ha := ha.keep hcu eG11 (by decide)
        have hlen := (z_len eG11).trans hlen
        have hsl := (z_sl hcu eG11 rfl).trans hsl
        have hfr := hfr.wr hcu eG11 (by decide)
        have hcu := hcu.kept eG11
        change ab_W _ _ _ (List.set G10 cu (za 120 (zu (zcpy CU CU (v3 + 1) ((v3 + 1) + 1) (cn - (v3 + 1))) (v3 + 1) c))) 84 [some (vR a), some (vz c), some (vz (v3 + 1))] [] _
        rw [← eG11]
        refine ab_aload_n d_ST_addCut_84 rfl ?_
        refine ab_dup d_ST_addCut_85 rfl ?_
        refine ab_getf (fs := [vz mst, q0, vz vr, vz ro, vR cu, vz cn, vR eg, vR po, vR bg, vR bd, vz ct, vR sd, vz sc, vR se_, vz sta, vR stk, vz arv, vj stp]) f_ST_63 d_ST_addCut_86 ha.2.2 rfl ?_
        refine zz_iconst d_ST_addCut_89 ?_
        refine zz_iadd d_ST_addCut_90 ?_
        refine ab_putf (fs := [vz mst, q0, vz vr, vz ro, vR cu, vz cn, vR eg, vR po, vR bg, vR bd, vz ct, vR sd, vz sc, vR se_, vz sta, vR stk, vz arv, vj stp]) f_ST_63 (Or.inl rfl) d_ST_addCut_91 ha.2.2 (Nat.le_of_ble_eq_true rfl) (fun _ => ⟨rfl, rfl⟩) (ha.2.1 (by decide)) ?_
        obtain ⟨G12, eG12⟩ : ∃ z : ab_G, z = List.set G11 a (ab_ob 8 [vz mst, q0, vz vr, vz ro, vR cu, vz (cn + 1), vR eg, vR po, vR bg, vR bd, vz ct, vR sd, vz sc, vR se_, vz sta, vR stk, vz arv, vj stp]) := ⟨_, rfl⟩
        have hcu := hcu.keep ha eG12 (by decide)
        have hlen := (z_len eG12).trans hlen
        have hsl := (z_sl ha eG12 rfl).trans hsl
        have hfr := hfr.wr ha eG12 (by decide)
        have ha := ha.kept eG12
        change ab_W _ _ _ (List.set G11 a (ab_ob 8 [vz mst, q0, vz vr, vz ro, vR cu, vz (cn + 1), vR eg, vR po, vR bg, vR bd, vz ct, vR sd, vz sc, vR se_, vz sta, vR stk, vz arv, vj stp])) 94 [some (vR a), some (vz c), some (vz (v3 + 1))] [] _
        rw [← eG12]
        refine ab_vret rfl d_ST_addCut_94 ?_
        rw [hQ]; exact ⟨_, _, rfl, hfr, hlen, hsl, ha, hcu, (by omega), (by first | exact (rgs_zu (rgs_cpy jcu jcu (by omega)) (by omega)) | exact rgs_w (rgs_zu (rgs_cpy jcu jcu (by omega)) (by omega)) (by omega)), (by exact cuA_i jcg (by omega) hq5 (fun q => by omega))⟩
    · refine ab_aload_n d_ST_addCut_34 rfl ?_
      refine ab_getf (fs := [vz mst, q0, vz vr, vz ro, vR cu, vz cn, vR eg, vR po, vR bg, vR bd, vz ct, vR sd, vz sc, vR se_, vz sta, vR stk, vz arv, vj stp]) f_ST_15 d_ST_addCut_35 ha.2.2 rfl ?_
      refine ab_iload_n d_ST_addCut_38 rfl ?_
      refine zz_iconst d_ST_addCut_39 ?_
      refine zz_isub d_ST_addCut_40 ?_
      refine zz_iald d_ST_addCut_41 hcu (by omega) ?_
      have hq13 := jcu ((v3 + 1) - 1) (by omega) (by omega)
      refine ab_iload_n d_ST_addCut_42 rfl ?_
      refine zz_icmp_ne (tgt := 47) d_ST_addCut_43 (by decide) (by omega) (by omega) (fun c14 => ?_) (fun c14 => ?_)
      · refine ab_aload_n d_ST_addCut_47 rfl ?_
        refine ab_getf (fs := [vz mst, q0, vz vr, vz ro, vR cu, vz cn, vR eg, vR po, vR bg, vR bd, vz ct, vR sd, vz sc, vR se_, vz sta, vR stk, vz arv, vj stp]) f_ST_63 d_ST_addCut_48 ha.2.2 rfl ?_
        refine zz_bipush d_ST_addCut_51 (by decide) ?_
        refine zz_icmp_ge (tgt := 84) d_ST_addCut_53 (by decide) (by omega) (by decide) (fun c15 => ?_) (fun c15 => ?_)
        · refine ab_aload_n d_ST_addCut_84 rfl ?_
          refine ab_dup d_ST_addCut_85 rfl ?_
          refine ab_getf (fs := [vz mst, q0, vz vr, vz ro, vR cu, vz cn, vR eg, vR po, vR bg, vR bd, vz ct, vR sd, vz sc, vR se_, vz sta, vR stk, vz arv, vj stp]) f_ST_63 d_ST_addCut_86 ha.2.2 rfl ?_
          refine zz_iconst d_ST_addCut_89 ?_
          refine zz_iadd d_ST_addCut_90 ?_
          refine ab_putf (fs := [vz mst, q0, vz vr, vz ro, vR cu, vz cn, vR eg, vR po, vR bg, vR bd, vz ct, vR sd, vz sc, vR se_, vz sta, vR stk, vz arv, vj stp]) f_ST_63 (Or.inl rfl) d_ST_addCut_91 ha.2.2 (Nat.le_of_ble_eq_true rfl) (fun _ => ⟨rfl, rfl⟩) (ha.2.1 (by decide)) ?_
          obtain ⟨G16, eG16⟩ : ∃ z : ab_G, z = List.set G2 a (ab_ob 8 [vz mst, q0, vz vr, vz ro, vR cu, vz (cn + 1), vR eg, vR po, vR bg, vR bd, vz ct, vR sd, vz sc, vR se_, vz sta, vR stk, vz arv, vj stp]) := ⟨_, rfl⟩
          have hcu := hcu.keep ha eG16 (by decide)
          have hlen := (z_len eG16).trans hlen
          have hsl := (z_sl ha eG16 rfl).trans hsl
          have hfr := hfr.wr ha eG16 (by decide)
          have ha := ha.kept eG16
          change ab_W _ _ _ (List.set G2 a (ab_ob 8 [vz mst, q0, vz vr, vz ro, vR cu, vz (cn + 1), vR eg, vR po, vR bg, vR bd, vz ct, vR sd, vz sc, vR se_, vz sta, vR stk, vz arv, vj stp])) 94 [some (vR a), some (vz c), some (vz (v3 + 1))] [] _
          rw [← eG16]
          refine ab_vret rfl d_ST_addCut_94 ?_
          rw [hQ]; exact ⟨_, _, rfl, hfr, hlen, hsl, ha, hcu, (by omega), (by first | exact jcu | exact rgs_w jcu (by omega)), (by exact cuA_f (by omega))⟩
        · refine ab_aload_n d_ST_addCut_56 rfl ?_
          refine ab_getf (fs := [vz mst, q0, vz vr, vz ro, vR cu, vz cn, vR eg, vR po, vR bg, vR bd, vz ct, vR sd, vz sc, vR se_, vz sta, vR stk, vz arv, vj stp]) f_ST_15 d_ST_addCut_57 ha.2.2 rfl ?_
          refine ab_iload_n d_ST_addCut_60 rfl ?_
          refine ab_aload_n d_ST_addCut_61 rfl ?_
          refine ab_getf (fs := [vz mst, q0, vz vr, vz ro, vR cu, vz cn, vR eg, vR po, vR bg, vR bd, vz ct, vR sd, vz sc, vR se_, vz sta, vR stk, vz arv, vj stp]) f_ST_15 d_ST_addCut_62 ha.2.2 rfl ?_
          refine ab_iload_n d_ST_addCut_65 rfl ?_
          refine zz_iconst d_ST_addCut_66 ?_
          refine zz_iadd d_ST_addCut_67 ?_
          refine ab_aload_n d_ST_addCut_68 rfl ?_
          refine ab_getf (fs := [vz mst, q0, vz vr, vz ro, vR cu, vz cn, vR eg, vR po, vR bg, vR bd, vz ct, vR sd, vz sc, vR se_, vz sta, vR stk, vz arv, vj stp]) f_ST_63 d_ST_addCut_69 ha.2.2 rfl ?_
          refine ab_iload_n d_ST_addCut_72 rfl ?_
          refine zz_isub d_ST_addCut_73 ?_
          refine zz_copy mj_ST_111 d_ST_addCut_74 hcu hcu (hcu.2.1 (by decide)) (by omega) (Nat.le_of_ble_eq_true rfl) (by omega) ?_
          obtain ⟨G17, eG17⟩ : ∃ z : ab_G, z = List.set G2 cu (za 120 (zcpy CU CU (v3 + 1) ((v3 + 1) + 1) (cn - (v3 + 1)))) := ⟨_, rfl⟩
          have ha := ha.keep hcu eG17 (by decide)
          have hlen := (z_len eG17).trans hlen
          have hsl := (z_sl hcu eG17 rfl).trans hsl
          have hfr := hfr.wr hcu eG17 (by decide)
          have hcu := hcu.kept eG17
          change ab_W _ _ _ (List.set G2 cu (za 120 (zcpy CU CU (v3 + 1) ((v3 + 1) + 1) (cn - (v3 + 1))))) 77 [some (vR a), some (vz c), some (vz (v3 + 1))] [] _
          rw [← eG17]
          refine ab_aload_n d_ST_addCut_77 rfl ?_
          refine ab_getf (fs := [vz mst, q0, vz vr, vz ro, vR cu, vz cn, vR eg, vR po, vR bg, vR bd, vz ct, vR sd, vz sc, vR se_, vz sta, vR stk, vz arv, vj stp]) f_ST_15 d_ST_addCut_78 ha.2.2 rfl ?_
          refine ab_iload_n d_ST_addCut_81 rfl ?_
          refine ab_iload_n d_ST_addCut_82 rfl ?_
          refine zz_iast d_ST_addCut_83 hcu (by omega) (hcu.2.1 (by decide)) ?_
          obtain ⟨G18, eG18⟩ : ∃ z : ab_G, z = List.set G17 cu (za 120 (zu (zcpy CU CU (v3 + 1) ((v3 + 1) + 1) (cn - (v3 + 1))) (v3 + 1) c)) := ⟨_, rfl⟩
          have ha := ha.keep hcu eG18 (by decide)
          have hlen := (z_len eG18).trans hlen
          have hsl := (z_sl hcu eG18 rfl).trans hsl
          have hfr := hfr.wr hcu eG18 (by decide)
          have hcu := hcu.kept eG18
          change ab_W _ _ _ (List.set G17 cu (za 120 (zu (zcpy CU CU (v3 + 1) ((v3 + 1) + 1) (cn - (v3 + 1))) (v3 + 1) c))) 84 [some (vR a), some (vz c), some (vz (v3 + 1))] [] _
          rw [← eG18]
          refine ab_aload_n d_ST_addCut_84 rfl ?_
          refine ab_dup d_ST_addCut_85 rfl ?_
          refine ab_getf (fs := [vz mst, q0, vz vr, vz ro, vR cu, vz cn, vR eg, vR po, vR bg, vR bd, vz ct, vR sd, vz sc, vR se_, vz sta, vR stk, vz arv, vj stp]) f_ST_63 d_ST_addCut_86 ha.2.2 rfl ?_
          refine zz_iconst d_ST_addCut_89 ?_
          refine zz_iadd d_ST_addCut_90 ?_
          refine ab_putf (fs := [vz mst, q0, vz vr, vz ro, vR cu, vz cn, vR eg, vR po, vR bg, vR bd, vz ct, vR sd, vz sc, vR se_, vz sta, vR stk, vz arv, vj stp]) f_ST_63 (Or.inl rfl) d_ST_addCut_91 ha.2.2 (Nat.le_of_ble_eq_true rfl) (fun _ => ⟨rfl, rfl⟩) (ha.2.1 (by decide)) ?_
          obtain ⟨G19, eG19⟩ : ∃ z : ab_G, z = List.set G18 a (ab_ob 8 [vz mst, q0, vz vr, vz ro, vR cu, vz (cn + 1), vR eg, vR po, vR bg, vR bd, vz ct, vR sd, vz sc, vR se_, vz sta, vR stk, vz arv, vj stp]) := ⟨_, rfl⟩
          have hcu := hcu.keep ha eG19 (by decide)
          have hlen := (z_len eG19).trans hlen
          have hsl := (z_sl ha eG19 rfl).trans hsl
          have hfr := hfr.wr ha eG19 (by decide)
          have ha := ha.kept eG19
          change ab_W _ _ _ (List.set G18 a (ab_ob 8 [vz mst, q0, vz vr, vz ro, vR cu, vz (cn + 1), vR eg, vR po, vR bg, vR bd, vz ct, vR sd, vz sc, vR se_, vz sta, vR stk, vz arv, vj stp])) 94 [some (vR a), some (vz c), some (vz (v3 + 1))] [] _
          rw [← eG19]
          refine ab_vret rfl d_ST_addCut_94 ?_
          rw [hQ]; exact ⟨_, _, rfl, hfr, hlen, hsl, ha, hcu, (by omega), (by first | exact (rgs_zu (rgs_cpy jcu jcu (by omega)) (by omega)) | exact rgs_w (rgs_zu (rgs_cpy jcu jcu (by omega)) (by omega)) (by omega)), (by exact cuA_i jcg (by omega) hq5 (fun q => by omega))⟩
      · refine ab_vret rfl d_ST_addCut_46 ?_
        rw [hQ]; exact ⟨_, _, rfl, hfr, hlen, hsl, ha, hcu, (by omega), (by first | exact jcu | exact rgs_w jcu (by omega)), (by exact cuA_s jcg (i := v3 + 1 - 1) (by omega) (by omega))⟩
  · refine zz_iconst d_ST_addCut_9 ?_
    refine ab_goto (tgt := 20) d_ST_addCut_10 (by decide) ?_
    refine ab_istore_n d_ST_addCut_20 (Nat.le_of_ble_eq_true rfl) (Nat.le_of_ble_eq_true rfl) rfl ?_
    change ab_W _ _ _ G 21 [some (vR a), some (vz c), some (vz 0)] [] _
    refine ab_aload_n d_ST_addCut_21 rfl ?_
    refine ab_getf (fs := [vz mst, q0, vz vr, vz ro, vR cu, vz cn, vR eg, vR po, vR bg, vR bd, vz ct, vR sd, vz sc, vR se_, vz sta, vR stk, vz arv, vj stp]) f_ST_63 d_ST_addCut_22 ha.2.2 rfl ?_
    refine zz_bipush d_ST_addCut_25 (by decide) ?_
    refine zz_icmp_gt (tgt := 46) d_ST_addCut_27 (by decide) (by omega) (by decide) (fun c20 => ?_) (fun c20 => absurd c20 (by omega))
    refine ab_vret rfl d_ST_addCut_46 ?_
    rw [hQ]; exact ⟨_, _, rfl, hfr, hlen, hsl, ha, hcu, (by omega), (by first | exact jcu | exact rgs_w jcu (by omega)), (by exact cuA_g jcg (by omega))⟩
set_option maxRecDepth 100000 in
set_option maxHeartbeats 4000000 in
theorem y_ST_findCuts_7 {X : ab_X} {d : Nat} {Q : Outcome → ab_G → Prop} {o : Nat → Nat} {G0 : ab_G} {a : Nat} {cu : Nat} {eg : Nat} {po : Nat} {bg : Nat} {bd : Nat} {sd : Nat} {se_ : Nat} {stk : Nat} {mst : Int} {vr : Int} {ro : Int} {ct : Int} {sc : Int} {sta : Int} {arv : Int} {stp : Int} {q : Nat} (hd : 3 ≤ d) : ∀ (mz : Nat) {G : ab_G} {cn : Int} {CU : Int → Int} {i_ : Int}, (cc o G a 60 (ab_ob 8 [vz mst, vR q, vz vr, vz ro, vR cu, vz cn, vR eg, vR po, vR bg, vR bd, vz ct, vR sd, vz sc, vR se_, vz sta, vR stk, vz arv, vj stp])) → (cc o G cu 61 (za 120 CU)) → (cc o G 17 17 (za 12 zFC)) → (0 ≤ cn ∧ cn ≤ 121) → (rgs CU 120 0 1114112) → (0 ≤ i_ ∧ i_ ≤ 12) → (fcA CU cn i_) → (fx o o [60, 61] G0 G) → (G.length = G0.length) → (ab_slots G = ab_slots G0) → (Int.toNat (12 - i_) < mz) → (∀ (G2 : ab_G) (cn2 : Int) (CU2 : Int → Int), (cc o G2 a 60 (ab_ob 8 [vz mst, vR q, vz vr, vz ro, vR cu, vz cn2, vR eg, vR po, vR bg, vR bd, vz ct, vR sd, vz sc, vR se_, vz sta, vR stk, vz arv, vj stp])) → (cc o G2 cu 61 (za 120 CU2)) → (0 ≤ cn2 ∧ cn2 ≤ 121) → (rgs CU2 120 0 1114112) → (fcA CU2 cn2 12) → (fx o o [60, 61] G0 G2) → (G2.length = G0.length) → (ab_slots G2 = ab_slots G0) → ab_W X (ab_pl y_ST_findCuts b_ST_findCuts 5 none) d G2 30 [some (vR a), none, none, none, none] [] Q) → ab_W X (ab_pl y_ST_findCuts b_ST_findCuts 5 none) d G 7 [some (vR a), some (vz i_), none, none, none] [] Q := by
  intro mz
  induction mz with
  | zero => intro G cn CU i_ ha hcu h17 ccn jcu ci jfc hfr hlen hsl hm hk0; exact absurd hm (Nat.not_lt_zero _)
  | succ mz ih =>
    intro G cn CU i_ ha hcu h17 ccn jcu ci jfc hfr hlen hsl hm hk0
    refine ab_iload_n d_ST_findCuts_7 rfl ?_
    refine ab_gets (i := 17) (by decide) s_ST_87 d_ST_findCuts_8 ?_
    refine zz_alen d_ST_findCuts_11 h17 ?_
    change ab_W _ _ _ G 12 [some (vR a), some (vz i_), none, none, none] [vz 12, vz i_] _
    refine zz_icmp_ge (tgt := 30) d_ST_findCuts_12 (by decide) (by omega) (by decide) (fun c1 => ?_) (fun c1 => ?_)
    · refine ab_less (L' := [some (vR a), none, none, none, none]) (fun i v h => by rcases i with _ | _ | _ | _ | _ | i <;> first | exact h | (simp at h)) ?_
      exact hk0 _ _ _ ha hcu (by omega) (by exact jcu) (by exact (show i_ = 12 by omega) ▸ jfc) hfr hlen hsl
    · refine ab_aload_n d_ST_findCuts_15 rfl ?_
      refine ab_gets (i := 17) (by decide) s_ST_87 d_ST_findCuts_16 ?_
      refine ab_iload_n d_ST_findCuts_19 rfl ?_
      refine zz_iald d_ST_findCuts_20 h17 (by omega) ?_
      have hq2 := zFC_in i_ (by omega) (by omega)
      refine ab_callV (d' := d - 1) (as := [vz (zFC i_)]) (st := []) (r := _) (z_ST_addCut (o := o) (a := a) (cu := cu) (eg := eg) (po := po) (bg := bg) (bd := bd) (sd := sd) (se_ := se_) (stk := stk) (mst := mst) (q0 := vR q) (vr := vr) (ro := ro) (cn := cn) (ct := ct) (sc := sc) (sta := sta) (arv := arv) (stp := stp) (CU := CU) (c := (zFC i_)) ha hcu (by omega) (by omega) jcu jfc.1 (by omega)) (fun oc G2 h => by rcases h with ⟨_, _, h, _⟩ <;> exact ⟨_, h⟩) (by omega) m_ST_addCut ml_ST_90 im_ST_addCut se_ST_addCut c_ST ha.2.2 (Nat.le_of_ble_eq_true rfl) d_ST_findCuts_21 rfl ?_
      intro v G3 hq
      rcases hq with ⟨cn24, CU25, hv, hfk, hlk, hsk, hNa, hNcu, hq6, hq7, hq8⟩
      cases hv
      have h17 := hfk.get h17 (by decide)
      have hfr := hfr.tr hfk (by decide)
      have hlen := hlk.trans hlen
      have hsl := hsk.trans hsl
      have ha := hNa
      have hcu := hNcu
      change ab_W _ _ _ G3 24 [some (vR a), some (vz i_), none, none, none] [] _
      refine zz_iinc d_ST_findCuts_24 rfl (Nat.le_of_ble_eq_true rfl) (Nat.le_of_ble_eq_true rfl) rfl ?_
      change ab_W _ _ _ G3 27 [some (vR a), some (vz (i_ + 1)), none, none, none] [] _
      refine ab_goto (tgt := 7) d_ST_findCuts_27 (by decide) ?_
      exact ih (cn := cn24) (CU := CU25) (i_ := (i_ + 1)) ha hcu h17 (by omega) hq7 (by omega) (fcA_s jfc hq8) hfr hlen hsl (by omega) hk0
set_option maxRecDepth 100000 in
set_option maxHeartbeats 4000000 in
theorem y_ST_findCuts_32 {X : ab_X} {d : Nat} {Q : Outcome → ab_G → Prop} {o : Nat → Nat} {G0 : ab_G} {a : Nat} {cu : Nat} {eg : Nat} {po : Nat} {bg : Nat} {bd : Nat} {sd : Nat} {se_ : Nat} {stk : Nat} {mst : Int} {vr : Int} {ro : Int} {ct : Int} {sc : Int} {sta : Int} {arv : Int} {stp : Int} {q : Nat} {lq : Nat} {ki : Nat} {ne : Nat} {ot : Nat} {cnt : Int} {fi : Int} {la : Int} {ra : Nat} {ru : Int} {gr : Int} {wi : Int} {sz : Int} {fl : Int} {ve : Int} {mi : Int} {na : Nat} {nl : Nat} {K : Int → Int} {N : Int → Int} {O : Int → Int} {RR : Int → Int} {nr : Nat} (cq : 100 ≤ lq ∧ 0 ≤ cnt ∧ cnt ≤ 808 ∧ ↑nr ≤ (100000 : Int)) (hp : prok K N O RR cnt ↑nr wi) (hd : 3 ≤ d) : ∀ (mz : Nat) {G : ab_G} {cn : Int} {CU : Int → Int} {i_ : Int}, (cc o G a 60 (ab_ob 8 [vz mst, vR q, vz vr, vz ro, vR cu, vz cn, vR eg, vR po, vR bg, vR bd, vz ct, vR sd, vz sc, vR se_, vz sta, vR stk, vz arv, vj stp])) → (cc o G cu 61 (za 120 CU)) → (cc o G q lq (ab_ob 5 [vR ki, vR ne, vR ot, vz cnt, vz fi, vz la, vR ra, vz ru, vz gr, vz wi, vz sz, vz fl, vz ve, vz mi, vR na, vR nl])) → (cc o G ki (lq + 1) (za 808 K)) → (cc o G ot (lq + 3) (za 808 O)) → (0 ≤ cn ∧ cn ≤ 121) → (rgs CU 120 0 1114112) → (0 ≤ i_ ∧ i_ ≤ cnt) → (fcB K O CU cn i_) → (fx o o [60, 61] G0 G) → (G.length = G0.length) → (ab_slots G = ab_slots G0) → (Int.toNat (cnt - i_) < mz) → (∀ (G2 : ab_G) (cn2 : Int) (CU2 : Int → Int), (cc o G2 a 60 (ab_ob 8 [vz mst, vR q, vz vr, vz ro, vR cu, vz cn2, vR eg, vR po, vR bg, vR bd, vz ct, vR sd, vz sc, vR se_, vz sta, vR stk, vz arv, vj stp])) → (cc o G2 cu 61 (za 120 CU2)) → (0 ≤ cn2 ∧ cn2 ≤ 121) → (rgs CU2 120 0 1114112) → (fcB K O CU2 cn2 cnt) → (fx o o [60, 61] G0 G2) → (G2.length = G0.length) → (ab_slots G2 = ab_slots G0) → ab_W X (ab_pl y_ST_findCuts b_ST_findCuts 5 none) d G2 89 [some (vR a), none, none, none, none] [] Q) → ab_W X (ab_pl y_ST_findCuts b_ST_findCuts 5 none) d G 32 [some (vR a), some (vz i_), none, none, none] [] Q := by
  intro mz
  induction mz with
  | zero => intro G cn CU i_ ha hcu hq hki hot ccn jcu ci jfc hfr hlen hsl hm hk0; exact absurd hm (Nat.not_lt_zero _)
  | succ mz ih =>
    intro G cn CU i_ ha hcu hq hki hot ccn jcu ci jfc hfr hlen hsl hm hk0
    refine ab_iload_n d_ST_findCuts_32 rfl ?_
    refine ab_aload_n d_ST_findCuts_33 rfl ?_
    refine ab_getf (fs := [vz mst, vR q, vz vr, vz ro, vR cu, vz cn, vR eg, vR po, vR bg, vR bd, vz ct, vR sd, vz sc, vR se_, vz sta, vR stk, vz arv, vj stp]) f_ST_74 d_ST_findCuts_34 ha.2.2 rfl ?_
    refine ab_getf (fs := [vR ki, vR ne, vR ot, vz cnt, vz fi, vz la, vR ra, vz ru, vz gr, vz wi, vz sz, vz fl, vz ve, vz mi, vR na, vR nl]) f_ST_94 d_ST_findCuts_37 hq.2.2 rfl ?_
    refine zz_icmp_ge (tgt := 89) d_ST_findCuts_40 (by decide) (by omega) (by omega) (fun c1 => ?_) (fun c1 => ?_)
    · refine ab_less (L' := [some (vR a), none, none, none, none]) (fun i v h => by rcases i with _ | _ | _ | _ | _ | i <;> first | exact h | (simp at h)) ?_
      exact hk0 _ _ _ ha hcu (by omega) (by exact jcu) (by exact (show i_ = cnt by omega) ▸ jfc) hfr hlen hsl
    · refine ab_aload_n d_ST_findCuts_43 rfl ?_
      refine ab_getf (fs := [vz mst, vR q, vz vr, vz ro, vR cu, vz cn, vR eg, vR po, vR bg, vR bd, vz ct, vR sd, vz sc, vR se_, vz sta, vR stk, vz arv, vj stp]) f_ST_74 d_ST_findCuts_44 ha.2.2 rfl ?_
      refine ab_getf (fs := [vR ki, vR ne, vR ot, vz cnt, vz fi, vz la, vR ra, vz ru, vz gr, vz wi, vz sz, vz fl, vz ve, vz mi, vR na, vR nl]) f_ST_95 d_ST_findCuts_47 hq.2.2 rfl ?_
      refine ab_iload_n d_ST_findCuts_50 rfl ?_
      refine zz_iald d_ST_findCuts_51 hki (by omega) ?_
      have hq2 := hp.k i_ (by omega) (by omega)
      refine zz_if_ne (tgt := 83) d_ST_findCuts_52 (by decide) (by omega) (fun c3 => ?_) (fun c3 => ?_)
      · refine zz_iinc d_ST_findCuts_83 rfl (Nat.le_of_ble_eq_true rfl) (Nat.le_of_ble_eq_true rfl) rfl ?_
        change ab_W _ _ _ G 86 [some (vR a), some (vz (i_ + 1)), none, none, none] [] _
        refine ab_goto (tgt := 32) d_ST_findCuts_86 (by decide) ?_
        exact ih (cn := cn) (CU := CU) (i_ := (i_ + 1)) ha hcu hq hki hot (by omega) jcu (by omega) (fcB_k jfc (by omega)) hfr hlen hsl (by omega) hk0
      · have jo := hp.o0 i_ (by omega) (by omega) (by omega)
        refine ab_aload_n d_ST_findCuts_55 rfl ?_
        refine ab_aload_n d_ST_findCuts_56 rfl ?_
        refine ab_getf (fs := [vz mst, vR q, vz vr, vz ro, vR cu, vz cn, vR eg, vR po, vR bg, vR bd, vz ct, vR sd, vz sc, vR se_, vz sta, vR stk, vz arv, vj stp]) f_ST_74 d_ST_findCuts_57 ha.2.2 rfl ?_
        refine ab_getf (fs := [vR ki, vR ne, vR ot, vz cnt, vz fi, vz la, vR ra, vz ru, vz gr, vz wi, vz sz, vz fl, vz ve, vz mi, vR na, vR nl]) f_ST_98 d_ST_findCuts_60 hq.2.2 rfl ?_
        refine ab_iload_n d_ST_findCuts_63 rfl ?_
        refine zz_iald d_ST_findCuts_64 hot (by omega) ?_
        refine ab_callV (d' := d - 1) (as := [vz (O i_)]) (st := []) (r := _) (z_ST_addCut (o := o) (a := a) (cu := cu) (eg := eg) (po := po) (bg := bg) (bd := bd) (sd := sd) (se_ := se_) (stk := stk) (mst := mst) (q0 := vR q) (vr := vr) (ro := ro) (cn := cn) (ct := ct) (sc := sc) (sta := sta) (arv := arv) (stp := stp) (CU := CU) (c := (O i_)) ha hcu (by omega) (by omega) jcu jfc.1.1 (by omega)) (fun oc G2 h => by rcases h with ⟨_, _, h, _⟩ <;> exact ⟨_, h⟩) (by omega) m_ST_addCut ml_ST_90 im_ST_addCut se_ST_addCut c_ST ha.2.2 (Nat.le_of_ble_eq_true rfl) d_ST_findCuts_65 rfl ?_
        intro v G4 hq
        rcases hq with ⟨cn25, CU26, hv, hfk, hlk, hsk, hNa, hNcu, hq7, hq8, hq9⟩
        cases hv
        have hq := hfk.get hq (by simp only [List.mem_cons, List.not_mem_nil, or_false]; omega)
        have hki := hfk.get hki (by simp only [List.mem_cons, List.not_mem_nil, or_false]; omega)
        have hot := hfk.get hot (by simp only [List.mem_cons, List.not_mem_nil, or_false]; omega)
        have hfr := hfr.tr hfk (by decide)
        have hlen := hlk.trans hlen
        have hsl := hsk.trans hsl
        have ha := hNa
        have hcu := hNcu
        change ab_W _ _ _ G4 68 [some (vR a), some (vz i_), none, none, none] [] _
        refine ab_aload_n d_ST_findCuts_68 rfl ?_
        refine ab_aload_n d_ST_findCuts_69 rfl ?_
        refine ab_getf (fs := [vz mst, vR q, vz vr, vz ro, vR cu, vz cn25, vR eg, vR po, vR bg, vR bd, vz ct, vR sd, vz sc, vR se_, vz sta, vR stk, vz arv, vj stp]) f_ST_74 d_ST_findCuts_70 ha.2.2 rfl ?_
        refine ab_getf (fs := [vR ki, vR ne, vR ot, vz cnt, vz fi, vz la, vR ra, vz ru, vz gr, vz wi, vz sz, vz fl, vz ve, vz mi, vR na, vR nl]) f_ST_98 d_ST_findCuts_73 hq.2.2 rfl ?_
        refine ab_iload_n d_ST_findCuts_76 rfl ?_
        refine zz_iald d_ST_findCuts_77 hot (by omega) ?_
        refine zz_iconst d_ST_findCuts_78 ?_
        refine zz_iadd d_ST_findCuts_79 ?_
        refine ab_callV (d' := d - 1) (as := [vz ((O i_) + 1)]) (st := []) (r := _) (z_ST_addCut (o := o) (a := a) (cu := cu) (eg := eg) (po := po) (bg := bg) (bd := bd) (sd := sd) (se_ := se_) (stk := stk) (mst := mst) (q0 := vR q) (vr := vr) (ro := ro) (cn := cn25) (ct := ct) (sc := sc) (sta := sta) (arv := arv) (stp := stp) (CU := CU26) (c := ((O i_) + 1)) ha hcu (by omega) (by omega) hq8 hq9.1 (by omega)) (fun oc G2 h => by rcases h with ⟨_, _, h, _⟩ <;> exact ⟨_, h⟩) (by omega) m_ST_addCut ml_ST_90 im_ST_addCut se_ST_addCut c_ST ha.2.2 (Nat.le_of_ble_eq_true rfl) d_ST_findCuts_80 rfl ?_
        intro v G10 hq
        rcases hq with ⟨cn211, CU212, hv, hfk, hlk, hsk, hNa, hNcu, hq13, hq14, hq15⟩
        cases hv
        have hq := hfk.get hq (by simp only [List.mem_cons, List.not_mem_nil, or_false]; omega)
        have hki := hfk.get hki (by simp only [List.mem_cons, List.not_mem_nil, or_false]; omega)
        have hot := hfk.get hot (by simp only [List.mem_cons, List.not_mem_nil, or_false]; omega)
        have hfr := hfr.tr hfk (by decide)
        have hlen := hlk.trans hlen
        have hsl := hsk.trans hsl
        have ha := hNa
        have hcu := hNcu
        change ab_W _ _ _ G10 83 [some (vR a), some (vz i_), none, none, none] [] _
        refine zz_iinc d_ST_findCuts_83 rfl (Nat.le_of_ble_eq_true rfl) (Nat.le_of_ble_eq_true rfl) rfl ?_
        change ab_W _ _ _ G10 86 [some (vR a), some (vz (i_ + 1)), none, none, none] [] _
        refine ab_goto (tgt := 32) d_ST_findCuts_86 (by decide) ?_
        exact ih (cn := cn211) (CU := CU212) (i_ := (i_ + 1)) ha hcu hq hki hot (by omega) hq14 (by omega) (fcB_s jfc hq9 hq15) hfr hlen hsl (by omega) hk0
set_option maxRecDepth 100000 in
set_option maxHeartbeats 4000000 in
theorem y_ST_findCuts_136 {X : ab_X} {d : Nat} {Q : Outcome → ab_G → Prop} {o : Nat → Nat} {G0 : ab_G} {a : Nat} {cu : Nat} {eg : Nat} {po : Nat} {bg : Nat} {bd : Nat} {sd : Nat} {se_ : Nat} {stk : Nat} {mst : Int} {vr : Int} {ro : Int} {ct : Int} {sc : Int} {sta : Int} {arv : Int} {stp : Int} {q : Nat} {lq : Nat} {ki : Nat} {ne : Nat} {ot : Nat} {cnt : Int} {fi : Int} {la : Int} {ra : Nat} {ru : Int} {gr : Int} {wi : Int} {sz : Int} {fl : Int} {ve : Int} {mi : Int} {na : Nat} {nl : Nat} {K : Int → Int} {O : Int → Int} {RR : Int → Int} {nr : Nat} {r_ : Int} {tu : Int} {bh : Int} (cq : 100 ≤ lq ∧ 0 ≤ cnt ∧ cnt ≤ 808 ∧ ↑nr ≤ (100000 : Int)) (hr : ∀ k : Int, 0 ≤ k → k < ↑nr → 0 ≤ RR k ∧ RR k ≤ 1114111) (hru : 0 ≤ ru ∧ ru ≤ ↑nr) (cb : 0 ≤ bh ∧ bh ≤ ru ∧ 0 ≤ tu ∧ tu ≤ 200000) (cbr : 0 ≤ r_ ∧ 0 ≤ RR r_ ∧ bh = r_ + 1 + 2 * RR r_) (hd : 3 ≤ d) : ∀ (mz : Nat) {G : ab_G} {cn : Int} {CU : Int → Int} {i_ : Int}, (cc o G a 60 (ab_ob 8 [vz mst, vR q, vz vr, vz ro, vR cu, vz cn, vR eg, vR po, vR bg, vR bd, vz ct, vR sd, vz sc, vR se_, vz sta, vR stk, vz arv, vj stp])) → (cc o G cu 61 (za 120 CU)) → (cc o G q lq (ab_ob 5 [vR ki, vR ne, vR ot, vz cnt, vz fi, vz la, vR ra, vz ru, vz gr, vz wi, vz sz, vz fl, vz ve, vz mi, vR na, vR nl])) → (cc o G ra (lq + 4) (za nr RR)) → (0 ≤ cn ∧ cn ≤ 121) → (rgs CU 120 0 1114112) → (1 ≤ i_ ∧ i_ ≤ bh) → (fcD K O RR cnt CU cn r_ i_) → (fx o o [60, 61] G0 G) → (G.length = G0.length) → (ab_slots G = ab_slots G0) → (Int.toNat (bh - i_) < mz) → (∀ (G2 : ab_G) (cn2 : Int) (CU2 : Int → Int), (cc o G2 a 60 (ab_ob 8 [vz mst, vR q, vz vr, vz ro, vR cu, vz cn2, vR eg, vR po, vR bg, vR bd, vz ct, vR sd, vz sc, vR se_, vz sta, vR stk, vz arv, vj stp])) → (cc o G2 cu 61 (za 120 CU2)) → (0 ≤ cn2 ∧ cn2 ≤ 121) → (rgs CU2 120 0 1114112) → (fcC K O RR cnt CU2 cn2 bh) → (fx o o [60, 61] G0 G2) → (G2.length = G0.length) → (ab_slots G2 = ab_slots G0) → ab_W X (ab_pl y_ST_findCuts b_ST_findCuts 5 none) d G2 182 [some (vR a), none, some (vz tu), some (vz bh), none] [] Q) → ab_W X (ab_pl y_ST_findCuts b_ST_findCuts 5 none) d G 136 [some (vR a), none, some (vz tu), some (vz bh), some (vz i_)] [] Q := by
  intro mz
  induction mz with
  | zero => intro G cn CU i_ ha hcu hq hra ccn jcu ci jfc hfr hlen hsl hm hk0; exact absurd hm (Nat.not_lt_zero _)
  | succ mz ih =>
    intro G cn CU i_ ha hcu hq hra ccn jcu ci jfc hfr hlen hsl hm hk0
    refine ab_iload d_ST_findCuts_136 rfl ?_
    refine zz_iconst d_ST_findCuts_138 ?_
    refine zz_iadd d_ST_findCuts_139 ?_
    refine ab_iload_n d_ST_findCuts_140 rfl ?_
    refine zz_icmp_ge (tgt := 182) d_ST_findCuts_141 (by decide) (by omega) (by omega) (fun c1 => ?_) (fun c1 => ?_)
    · refine ab_less (L' := [some (vR a), none, some (vz tu), some (vz bh), none]) (fun i v h => by rcases i with _ | _ | _ | _ | _ | i <;> first | exact h | (simp at h)) ?_
      exact hk0 _ _ _ ha hcu (by omega) (by exact jcu) (by exact fcD_e jfc (by omega) (by omega) (by omega)) hfr hlen hsl
    · refine ab_aload_n d_ST_findCuts_144 rfl ?_
      refine ab_aload_n d_ST_findCuts_145 rfl ?_
      refine ab_getf (fs := [vz mst, vR q, vz vr, vz ro, vR cu, vz cn, vR eg, vR po, vR bg, vR bd, vz ct, vR sd, vz sc, vR se_, vz sta, vR stk, vz arv, vj stp]) f_ST_74 d_ST_findCuts_146 ha.2.2 rfl ?_
      refine ab_getf (fs := [vR ki, vR ne, vR ot, vz cnt, vz fi, vz la, vR ra, vz ru, vz gr, vz wi, vz sz, vz fl, vz ve, vz mi, vR na, vR nl]) f_ST_104 d_ST_findCuts_149 hq.2.2 rfl ?_
      refine ab_iload d_ST_findCuts_152 rfl ?_
      refine zz_iald d_ST_findCuts_154 hra (by omega) ?_
      have hq2 := hr i_ (by omega) (by omega)
      refine ab_callV (d' := d - 1) (as := [vz (RR i_)]) (st := []) (r := _) (z_ST_addCut (o := o) (a := a) (cu := cu) (eg := eg) (po := po) (bg := bg) (bd := bd) (sd := sd) (se_ := se_) (stk := stk) (mst := mst) (q0 := vR q) (vr := vr) (ro := ro) (cn := cn) (ct := ct) (sc := sc) (sta := sta) (arv := arv) (stp := stp) (CU := CU) (c := (RR i_)) ha hcu (by omega) (by omega) jcu jfc.1.1.1.1 (by omega)) (fun oc G2 h => by rcases h with ⟨_, _, h, _⟩ <;> exact ⟨_, h⟩) (by omega) m_ST_addCut ml_ST_90 im_ST_addCut se_ST_addCut c_ST ha.2.2 (Nat.le_of_ble_eq_true rfl) d_ST_findCuts_155 rfl ?_
      intro v G3 hq
      rcases hq with ⟨cn24, CU25, hv, hfk, hlk, hsk, hNa, hNcu, hq6, hq7, hq8⟩
      cases hv
      have hq := hfk.get hq (by simp only [List.mem_cons, List.not_mem_nil, or_false]; omega)
      have hra := hfk.get hra (by simp only [List.mem_cons, List.not_mem_nil, or_false]; omega)
      have hfr := hfr.tr hfk (by decide)
      have hlen := hlk.trans hlen
      have hsl := hsk.trans hsl
      have ha := hNa
      have hcu := hNcu
      change ab_W _ _ _ G3 158 [some (vR a), none, some (vz tu), some (vz bh), some (vz i_)] [] _
      refine ab_aload_n d_ST_findCuts_158 rfl ?_
      refine ab_aload_n d_ST_findCuts_159 rfl ?_
      refine ab_getf (fs := [vz mst, vR q, vz vr, vz ro, vR cu, vz cn24, vR eg, vR po, vR bg, vR bd, vz ct, vR sd, vz sc, vR se_, vz sta, vR stk, vz arv, vj stp]) f_ST_74 d_ST_findCuts_160 ha.2.2 rfl ?_
      refine ab_getf (fs := [vR ki, vR ne, vR ot, vz cnt, vz fi, vz la, vR ra, vz ru, vz gr, vz wi, vz sz, vz fl, vz ve, vz mi, vR na, vR nl]) f_ST_104 d_ST_findCuts_163 hq.2.2 rfl ?_
      refine ab_iload d_ST_findCuts_166 rfl ?_
      refine zz_iconst d_ST_findCuts_168 ?_
      refine zz_iadd d_ST_findCuts_169 ?_
      refine zz_iald d_ST_findCuts_170 hra (by omega) ?_
      have hq9 := hr (i_ + 1) (by omega) (by omega)
      refine zz_iconst d_ST_findCuts_171 ?_
      refine zz_iadd d_ST_findCuts_172 ?_
      refine ab_callV (d' := d - 1) (as := [vz ((RR (i_ + 1)) + 1)]) (st := []) (r := _) (z_ST_addCut (o := o) (a := a) (cu := cu) (eg := eg) (po := po) (bg := bg) (bd := bd) (sd := sd) (se_ := se_) (stk := stk) (mst := mst) (q0 := vR q) (vr := vr) (ro := ro) (cn := cn24) (ct := ct) (sc := sc) (sta := sta) (arv := arv) (stp := stp) (CU := CU25) (c := ((RR (i_ + 1)) + 1)) ha hcu (by omega) (by omega) hq7 hq8.1 (by omega)) (fun oc G2 h => by rcases h with ⟨_, _, h, _⟩ <;> exact ⟨_, h⟩) (by omega) m_ST_addCut ml_ST_90 im_ST_addCut se_ST_addCut c_ST ha.2.2 (Nat.le_of_ble_eq_true rfl) d_ST_findCuts_173 rfl ?_
      intro v G10 hq
      rcases hq with ⟨cn211, CU212, hv, hfk, hlk, hsk, hNa, hNcu, hq13, hq14, hq15⟩
      cases hv
      have hq := hfk.get hq (by simp only [List.mem_cons, List.not_mem_nil, or_false]; omega)
      have hra := hfk.get hra (by simp only [List.mem_cons, List.not_mem_nil, or_false]; omega)
      have hfr := hfr.tr hfk (by decide)
      have hlen := hlk.trans hlen
      have hsl := hsk.trans hsl
      have ha := hNa
      have hcu := hNcu
      change ab_W _ _ _ G10 176 [some (vR a), none, some (vz tu), some (vz bh), some (vz i_)] [] _
      refine zz_iinc d_ST_findCuts_176 rfl (Nat.le_of_ble_eq_true rfl) (Nat.le_of_ble_eq_true rfl) rfl ?_
      change ab_W _ _ _ G10 179 [some (vR a), none, some (vz tu), some (vz bh), some (vz (i_ + 2))] [] _
      refine ab_goto (tgt := 136) d_ST_findCuts_179 (by decide) ?_
      exact ih (cn := cn211) (CU := CU212) (i_ := (i_ + 2)) ha hcu hq hra (by omega) hq14 (by omega) (fcD_s jfc hq8 hq15) hfr hlen hsl (by omega) hk0
set_option maxRecDepth 100000 in
set_option maxHeartbeats 4000000 in
theorem y_ST_findCuts_93 {X : ab_X} {d : Nat} {Q : Outcome → ab_G → Prop} {o : Nat → Nat} {G0 : ab_G} {a : Nat} {cu : Nat} {eg : Nat} {po : Nat} {bg : Nat} {bd : Nat} {sd : Nat} {se_ : Nat} {stk : Nat} {mst : Int} {vr : Int} {ro : Int} {ct : Int} {sc : Int} {sta : Int} {arv : Int} {stp : Int} {q : Nat} {lq : Nat} {ki : Nat} {ne : Nat} {ot : Nat} {cnt : Int} {fi : Int} {la : Int} {ra : Nat} {ru : Int} {gr : Int} {wi : Int} {sz : Int} {fl : Int} {ve : Int} {mi : Int} {na : Nat} {nl : Nat} {K : Int → Int} {O : Int → Int} {RR : Int → Int} {nr : Nat} (cq : 100 ≤ lq ∧ 0 ≤ cnt ∧ cnt ≤ 808 ∧ ↑nr ≤ (100000 : Int)) (hr : ∀ k : Int, 0 ≤ k → k < ↑nr → 0 ≤ RR k ∧ RR k ≤ 1114111) (hru : 0 ≤ ru ∧ ru ≤ ↑nr) (hd : 4 ≤ d) : ∀ (mz : Nat) {G : ab_G} {cn : Int} {CU : Int → Int} {r_ : Int} {tu : Int} {kk : Nat}, (cc o G a 60 (ab_ob 8 [vz mst, vR q, vz vr, vz ro, vR cu, vz cn, vR eg, vR po, vR bg, vR bd, vz ct, vR sd, vz sc, vR se_, vz sta, vR stk, vz arv, vj stp])) → (cc o G cu 61 (za 120 CU)) → (cc o G q lq (ab_ob 5 [vR ki, vR ne, vR ot, vz cnt, vz fi, vz la, vR ra, vz ru, vz gr, vz wi, vz sz, vz fl, vz ve, vz mi, vR na, vR nl])) → (cc o G ra (lq + 4) (za nr RR)) → (0 ≤ cn ∧ cn ≤ 121) → (rgs CU 120 0 1114112) → (0 ≤ r_ ∧ r_ ≤ ru ∧ 0 ≤ tu ∧ tu ≤ r_) → (rchf RR ru kk r_) → (fcC K O RR cnt CU cn r_) → (fx o o [60, 61] G0 G) → (G.length = G0.length) → (ab_slots G = ab_slots G0) → (Int.toNat (ru - tu) < mz) → (∀ (G2 : ab_G) (cn2 : Int) (CU2 : Int → Int), (cc o G2 a 60 (ab_ob 8 [vz mst, vR q, vz vr, vz ro, vR cu, vz cn2, vR eg, vR po, vR bg, vR bd, vz ct, vR sd, vz sc, vR se_, vz sta, vR stk, vz arv, vj stp])) → (cc o G2 cu 61 (za 120 CU2)) → (0 ≤ cn2 ∧ cn2 ≤ 121) → (rgs CU2 120 0 1114112) → (fcC K O RR cnt CU2 cn2 ru) → (fx o o [60, 61] G0 G2) → (G2.length = G0.length) → (ab_slots G2 = ab_slots G0) → ab_W X (ab_pl y_ST_findCuts b_ST_findCuts 5 none) d G2 190 [some (vR a), none, none, none, none] [] Q) → ab_W X (ab_pl y_ST_findCuts b_ST_findCuts 5 none) d G 93 [some (vR a), some (vz r_), some (vz tu), none, none] [] Q := by
  intro mz
  induction mz with
  | zero => intro G cn CU r_ tu kk ha hcu hq hra ccn jcu ci hch jfc hfr hlen hsl hm hk0; exact absurd hm (Nat.not_lt_zero _)
  | succ mz ih =>
    intro G cn CU r_ tu kk ha hcu hq hra ccn jcu ci hch jfc hfr hlen hsl hm hk0
    refine ab_iload_n d_ST_findCuts_93 rfl ?_
    refine ab_aload_n d_ST_findCuts_94 rfl ?_
    refine ab_getf (fs := [vz mst, vR q, vz vr, vz ro, vR cu, vz cn, vR eg, vR po, vR bg, vR bd, vz ct, vR sd, vz sc, vR se_, vz sta, vR stk, vz arv, vj stp]) f_ST_74 d_ST_findCuts_95 ha.2.2 rfl ?_
    refine ab_getf (fs := [vR ki, vR ne, vR ot, vz cnt, vz fi, vz la, vR ra, vz ru, vz gr, vz wi, vz sz, vz fl, vz ve, vz mi, vR na, vR nl]) f_ST_101 d_ST_findCuts_98 hq.2.2 rfl ?_
    refine zz_icmp_ge (tgt := 190) d_ST_findCuts_101 (by decide) (by omega) (by omega) (fun c1 => ?_) (fun c1 => ?_)
    · refine ab_less (L' := [some (vR a), none, none, none, none]) (fun i v h => by rcases i with _ | _ | _ | _ | _ | i <;> first | exact h | (simp at h)) ?_
      exact hk0 _ _ _ ha hcu (by omega) (by exact jcu) (by exact (show r_ = ru by omega) ▸ jfc) hfr hlen hsl
    · refine ab_iload_n d_ST_findCuts_104 rfl ?_
      refine ab_aload_n d_ST_findCuts_105 rfl ?_
      refine ab_getf (fs := [vz mst, vR q, vz vr, vz ro, vR cu, vz cn, vR eg, vR po, vR bg, vR bd, vz ct, vR sd, vz sc, vR se_, vz sta, vR stk, vz arv, vj stp]) f_ST_74 d_ST_findCuts_106 ha.2.2 rfl ?_
      refine ab_getf (fs := [vR ki, vR ne, vR ot, vz cnt, vz fi, vz la, vR ra, vz ru, vz gr, vz wi, vz sz, vz fl, vz ve, vz mi, vR na, vR nl]) f_ST_101 d_ST_findCuts_109 hq.2.2 rfl ?_
      refine zz_icmp_ge (tgt := 190) d_ST_findCuts_112 (by decide) (by omega) (by omega) (fun c2 => ?_) (fun c2 => ?_)
      · refine ab_less (L' := [some (vR a), none, none, none, none]) (fun i v h => by rcases i with _ | _ | _ | _ | _ | i <;> first | exact h | (simp at h)) ?_
        exact hk0 _ _ _ ha hcu (by omega) (by exact jcu) (by exact (show r_ = ru by omega) ▸ jfc) hfr hlen hsl
      · obtain ⟨jk, hjk⟩ : ∃ j, kk = j + 1 := by rcases kk with _ | j; (exact absurd (show r_ = ru from hch) (by omega)); (exact ⟨j, rfl⟩)
        rw [hjk] at hch
        obtain ⟨hc1, hc2, hc3⟩ := hch
        refine ab_iload_n d_ST_findCuts_115 rfl ?_
        refine zz_iconst d_ST_findCuts_116 ?_
        refine zz_iadd d_ST_findCuts_117 ?_
        refine zz_iconst d_ST_findCuts_118 ?_
        refine ab_aload_n d_ST_findCuts_119 rfl ?_
        refine ab_getf (fs := [vz mst, vR q, vz vr, vz ro, vR cu, vz cn, vR eg, vR po, vR bg, vR bd, vz ct, vR sd, vz sc, vR se_, vz sta, vR stk, vz arv, vj stp]) f_ST_74 d_ST_findCuts_120 ha.2.2 rfl ?_
        refine ab_getf (fs := [vR ki, vR ne, vR ot, vz cnt, vz fi, vz la, vR ra, vz ru, vz gr, vz wi, vz sz, vz fl, vz ve, vz mi, vR na, vR nl]) f_ST_104 d_ST_findCuts_123 hq.2.2 rfl ?_
        refine ab_iload_n d_ST_findCuts_126 rfl ?_
        refine zz_iald d_ST_findCuts_127 hra (by omega) ?_
        have hq3 := hr r_ (by omega) (by omega)
        refine zz_imul d_ST_findCuts_128 ?_
        refine zz_iadd d_ST_findCuts_129 ?_
        refine ab_istore_n d_ST_findCuts_130 (Nat.le_of_ble_eq_true rfl) (Nat.le_of_ble_eq_true rfl) rfl ?_
        change ab_W _ _ _ G 131 [some (vR a), some (vz r_), some (vz tu), some (vz ((r_ + 1) + (2 * (RR r_)))), none] [] _
        refine ab_iload_n d_ST_findCuts_131 rfl ?_
        refine zz_iconst d_ST_findCuts_132 ?_
        refine zz_iadd d_ST_findCuts_133 ?_
        refine ab_istore d_ST_findCuts_134 (Nat.le_of_ble_eq_true rfl) (Nat.le_of_ble_eq_true rfl) rfl ?_
        change ab_W _ _ _ G 136 [some (vR a), some (vz r_), some (vz tu), some (vz ((r_ + 1) + (2 * (RR r_)))), some (vz (r_ + 1))] [] _
        refine ab_less (L' := [some (vR a), none, some (vz tu), some (vz ((r_ + 1) + (2 * (RR r_)))), some (vz (r_ + 1))]) (fun i v h => by rcases i with _ | _ | _ | _ | _ | i <;> first | exact h | (simp at h)) ?_
        refine y_ST_findCuts_136 (a := a) (cu := cu) (eg := eg) (po := po) (bg := bg) (bd := bd) (sd := sd) (se_ := se_) (stk := stk) (mst := mst) (vr := vr) (ro := ro) (ct := ct) (sc := sc) (sta := sta) (arv := arv) (stp := stp) (q := q) (lq := lq) (ki := ki) (ne := ne) (ot := ot) (cnt := cnt) (fi := fi) (la := la) (ra := ra) (ru := ru) (gr := gr) (wi := wi) (sz := sz) (fl := fl) (ve := ve) (mi := mi) (na := na) (nl := nl) (K := K) (O := O) (RR := RR) (nr := nr) (r_ := r_) (tu := tu) (bh := ((r_ + 1) + (2 * (RR r_)))) (G0 := G) (cn := cn) (CU := CU) (i_ := (r_ + 1)) (by omega) hr (by omega) (by omega) (by omega) (by omega) (Int.toNat (((r_ + 1) + (2 * (RR r_))) - (r_ + 1)) + 1) ha hcu hq hra (by omega) jcu (by omega) (fcD_0 jfc) fx.rf rfl rfl (by omega) (fun G4 cn25 CU26 hNa hNcu hq7 hq8 hq9 hfk hlk hsk => ?_)
        · have hq := hfk.get hq (by simp only [List.mem_cons, List.not_mem_nil, or_false]; omega)
          have hra := hfk.get hra (by simp only [List.mem_cons, List.not_mem_nil, or_false]; omega)
          have hfr := hfr.tr hfk (by decide)
          have hlen := hlk.trans hlen
          have hsl := hsk.trans hsl
          have ha := hNa
          have hcu := hNcu
          change ab_W _ _ _ G4 182 [some (vR a), none, some (vz tu), some (vz ((r_ + 1) + (2 * (RR r_)))), none] [] _
          refine ab_iload_n d_ST_findCuts_182 rfl ?_
          refine ab_istore_n d_ST_findCuts_183 (Nat.le_of_ble_eq_true rfl) (Nat.le_of_ble_eq_true rfl) rfl ?_
          change ab_W _ _ _ G4 184 [some (vR a), some (vz ((r_ + 1) + (2 * (RR r_)))), some (vz tu), some (vz ((r_ + 1) + (2 * (RR r_)))), none] [] _
          refine zz_iinc d_ST_findCuts_184 rfl (Nat.le_of_ble_eq_true rfl) (Nat.le_of_ble_eq_true rfl) rfl ?_
          change ab_W _ _ _ G4 187 [some (vR a), some (vz ((r_ + 1) + (2 * (RR r_)))), some (vz (tu + 1)), some (vz ((r_ + 1) + (2 * (RR r_)))), none] [] _
          refine ab_goto (tgt := 93) d_ST_findCuts_187 (by decide) ?_
          refine ab_less (L' := [some (vR a), some (vz ((r_ + 1) + (2 * (RR r_)))), some (vz (tu + 1)), none, none]) (fun i v h => by rcases i with _ | _ | _ | _ | _ | i <;> first | exact h | (simp at h)) ?_
          exact ih (cn := cn25) (CU := CU26) (r_ := ((r_ + 1) + (2 * (RR r_)))) (tu := (tu + 1)) (kk := jk) ha hcu hq hra (by omega) hq8 (by omega) hc3 hq9 hfr hlen hsl (by omega) hk0
set_option maxRecDepth 100000 in
set_option maxHeartbeats 4000000 in
theorem z_ST_findCuts {X : ab_X} {d : Nat} {o : Nat → Nat} {G : ab_G} {a : Nat} {cu : Nat} {eg : Nat} {po : Nat} {bg : Nat} {bd : Nat} {sd : Nat} {se_ : Nat} {stk : Nat} {mst : Int} {vr : Int} {ro : Int} {cn : Int} {ct : Int} {sc : Int} {sta : Int} {arv : Int} {stp : Int} {CU : Int → Int} {q : Nat} {lq : Nat} {ki : Nat} {ne : Nat} {ot : Nat} {cnt : Int} {fi : Int} {la : Int} {ra : Nat} {ru : Int} {gr : Int} {wi : Int} {sz : Int} {fl : Int} {ve : Int} {mi : Int} {na : Nat} {nl : Nat} {K : Int → Int} {N : Int → Int} {O : Int → Int} {RR : Int → Int} {nr : Nat} (ha : cc o G a 60 (ab_ob 8 [vz mst, vR q, vz vr, vz ro, vR cu, vz cn, vR eg, vR po, vR bg, vR bd, vz ct, vR sd, vz sc, vR se_, vz sta, vR stk, vz arv, vj stp])) (hcu : cc o G cu 61 (za 120 CU)) (h17 : cc o G 17 17 (za 12 zFC)) (hq : cc o G q lq (ab_ob 5 [vR ki, vR ne, vR ot, vz cnt, vz fi, vz la, vR ra, vz ru, vz gr, vz wi, vz sz, vz fl, vz ve, vz mi, vR na, vR nl])) (hki : cc o G ki (lq + 1) (za 808 K)) (hot : cc o G ot (lq + 3) (za 808 O)) (hra : cc o G ra (lq + 4) (za nr RR)) (cq : 100 ≤ lq ∧ 0 ≤ cnt ∧ cnt ≤ 808 ∧ ↑nr ≤ (100000 : Int)) (hp : prok K N O RR cnt ↑nr wi) (hr : ∀ k : Int, 0 ≤ k → k < ↑nr → 0 ≤ RR k ∧ RR k ≤ 1114111) (hru : 0 ≤ ru ∧ ru ≤ ↑nr) (hch : rch RR ru) (jcu : rgs CU 120 0 1114112) (hd : 5 ≤ d) : ab_F X d y_ST_findCuts (.code y_ST_findCuts b_ST_findCuts 5 none) [vR a] G (fun oc G2 => ∃ cn2 : Int, ∃ CU2 : Int → Int, oc = .returned none ∧ fx o o [60, 61] G G2 ∧ G2.length = G.length ∧ ab_slots G2 = ab_slots G ∧ cc o G2 a 60 (ab_ob 8 [vz mst, vR q, vz vr, vz ro, vR cu, vz cn2, vR eg, vR po, vR bg, vR bd, vz ct, vR sd, vz sc, vR se_, vz sta, vR stk, vz arv, vj stp]) ∧ cc o G2 cu 61 (za 120 CU2) ∧ (0 ≤ cn2 ∧ cn2 ≤ 121) ∧ (rgs CU2 120 0 1114112) ∧ (fcC K O RR cnt CU2 cn2 ru)) := by
  refine ab_F_of (by decide +kernel) (Nat.le_of_ble_eq_true rfl) ?_
  obtain ⟨Q, hQ⟩ : ∃ z : Outcome → ab_G → Prop, z = (fun oc G2 => ∃ cn2 : Int, ∃ CU2 : Int → Int, oc = .returned none ∧ fx o o [60, 61] G G2 ∧ G2.length = G.length ∧ ab_slots G2 = ab_slots G ∧ cc o G2 a 60 (ab_ob 8 [vz mst, vR q, vz vr, vz ro, vR cu, vz cn2, vR eg, vR po, vR bg, vR bd, vz ct, vR sd, vz sc, vR se_, vz sta, vR stk, vz arv, vj stp]) ∧ cc o G2 cu 61 (za 120 CU2) ∧ (0 ≤ cn2 ∧ cn2 ≤ 121) ∧ (rgs CU2 120 0 1114112) ∧ (fcC K O RR cnt CU2 cn2 ru)) := ⟨_, rfl⟩
  rw [← hQ]
  change ab_W X (ab_pl y_ST_findCuts b_ST_findCuts 5 none) d G 0 [some (vR a), none, none, none, none] [] Q
  have hfr : fx o o [60, 61] G G := fx.rf
  have hlen : G.length = G.length := rfl
  have hsl : ab_slots G = ab_slots G := rfl
  refine ab_aload_n d_ST_findCuts_0 rfl ?_
  refine zz_iconst d_ST_findCuts_1 ?_
  refine ab_putf (fs := [vz mst, vR q, vz vr, vz ro, vR cu, vz cn, vR eg, vR po, vR bg, vR bd, vz ct, vR sd, vz sc, vR se_, vz sta, vR stk, vz arv, vj stp]) f_ST_63 (Or.inl rfl) d_ST_findCuts_2 ha.2.2 (Nat.le_of_ble_eq_true rfl) (fun _ => ⟨rfl, rfl⟩) (ha.2.1 (by decide)) ?_
  obtain ⟨G1, eG1⟩ : ∃ z : ab_G, z = List.set G a (ab_ob 8 [vz mst, vR q, vz vr, vz ro, vR cu, vz 0, vR eg, vR po, vR bg, vR bd, vz ct, vR sd, vz sc, vR se_, vz sta, vR stk, vz arv, vj stp]) := ⟨_, rfl⟩
  have hcu := hcu.keep ha eG1 (by decide)
  have h17 := h17.keep ha eG1 (by decide)
  have hq := hq.keep ha eG1 (by omega)
  have hki := hki.keep ha eG1 (by omega)
  have hot := hot.keep ha eG1 (by omega)
  have hra := hra.keep ha eG1 (by omega)
  have hlen := (z_len eG1).trans hlen
  have hsl := (z_sl ha eG1 rfl).trans hsl
  have hfr := hfr.wr ha eG1 (by decide)
  have ha := ha.kept eG1
  change ab_W _ _ _ (List.set G a (ab_ob 8 [vz mst, vR q, vz vr, vz ro, vR cu, vz 0, vR eg, vR po, vR bg, vR bd, vz ct, vR sd, vz sc, vR se_, vz sta, vR stk, vz arv, vj stp])) 5 [some (vR a), none, none, none, none] [] _
  rw [← eG1]
  refine zz_iconst d_ST_findCuts_5 ?_
  refine ab_istore_n d_ST_findCuts_6 (Nat.le_of_ble_eq_true rfl) (Nat.le_of_ble_eq_true rfl) rfl ?_
  change ab_W _ _ _ G1 7 [some (vR a), some (vz 0), none, none, none] [] _
  refine y_ST_findCuts_7 (a := a) (cu := cu) (eg := eg) (po := po) (bg := bg) (bd := bd) (sd := sd) (se_ := se_) (stk := stk) (mst := mst) (vr := vr) (ro := ro) (ct := ct) (sc := sc) (sta := sta) (arv := arv) (stp := stp) (q := q) (G0 := G1) (cn := 0) (CU := CU) (i_ := 0) (by omega) (Int.toNat (12 - 0) + 1) ha hcu h17 (by omega) jcu (by omega) (fcA_0 (fun _ i j a b c => by omega)) fx.rf rfl rfl (by omega) (fun G2 cn23 CU24 hNa hNcu hq5 hq6 hq7 hfk hlk hsk => ?_)
  · have h17 := hfk.get h17 (by decide)
    have hq := hfk.get hq (by simp only [List.mem_cons, List.not_mem_nil, or_false]; omega)
    have hki := hfk.get hki (by simp only [List.mem_cons, List.not_mem_nil, or_false]; omega)
    have hot := hfk.get hot (by simp only [List.mem_cons, List.not_mem_nil, or_false]; omega)
    have hra := hfk.get hra (by simp only [List.mem_cons, List.not_mem_nil, or_false]; omega)
    have hfr := hfr.tr hfk (by decide)
    have hlen := hlk.trans hlen
    have hsl := hsk.trans hsl
    have ha := hNa
    have hcu := hNcu
    change ab_W _ _ _ G2 30 [some (vR a), none, none, none, none] [] _
    refine zz_iconst d_ST_findCuts_30 ?_
    refine ab_istore_n d_ST_findCuts_31 (Nat.le_of_ble_eq_true rfl) (Nat.le_of_ble_eq_true rfl) rfl ?_
    change ab_W _ _ _ G2 32 [some (vR a), some (vz 0), none, none, none] [] _
    refine y_ST_findCuts_32 (a := a) (cu := cu) (eg := eg) (po := po) (bg := bg) (bd := bd) (sd := sd) (se_ := se_) (stk := stk) (mst := mst) (vr := vr) (ro := ro) (ct := ct) (sc := sc) (sta := sta) (arv := arv) (stp := stp) (q := q) (lq := lq) (ki := ki) (ne := ne) (ot := ot) (cnt := cnt) (fi := fi) (la := la) (ra := ra) (ru := ru) (gr := gr) (wi := wi) (sz := sz) (fl := fl) (ve := ve) (mi := mi) (na := na) (nl := nl) (K := K) (O := O) (G0 := G2) (cn := cn23) (CU := CU24) (i_ := 0) (by omega) hp (by omega) (Int.toNat (cnt - 0) + 1) ha hcu hq hki hot (by omega) hq6 (by omega) (fcB_0 hq7 rfl) fx.rf rfl rfl (by omega) (fun G8 cn29 CU210 hNa hNcu hq11 hq12 hq13 hfk hlk hsk => ?_)
    · have h17 := hfk.get h17 (by decide)
      have hq := hfk.get hq (by simp only [List.mem_cons, List.not_mem_nil, or_false]; omega)
      have hki := hfk.get hki (by simp only [List.mem_cons, List.not_mem_nil, or_false]; omega)
      have hot := hfk.get hot (by simp only [List.mem_cons, List.not_mem_nil, or_false]; omega)
      have hra := hfk.get hra (by simp only [List.mem_cons, List.not_mem_nil, or_false]; omega)
      have hfr := hfr.tr hfk (by decide)
      have hlen := hlk.trans hlen
      have hsl := hsk.trans hsl
      have ha := hNa
      have hcu := hNcu
      change ab_W _ _ _ G8 89 [some (vR a), none, none, none, none] [] _
      obtain ⟨k0, hchk⟩ := hch
      refine zz_iconst d_ST_findCuts_89 ?_
      refine ab_istore_n d_ST_findCuts_90 (Nat.le_of_ble_eq_true rfl) (Nat.le_of_ble_eq_true rfl) rfl ?_
      change ab_W _ _ _ G8 91 [some (vR a), some (vz 0), none, none, none] [] _
      refine zz_iconst d_ST_findCuts_91 ?_
      refine ab_istore_n d_ST_findCuts_92 (Nat.le_of_ble_eq_true rfl) (Nat.le_of_ble_eq_true rfl) rfl ?_
      change ab_W _ _ _ G8 93 [some (vR a), some (vz 0), some (vz 0), none, none] [] _
      refine y_ST_findCuts_93 (a := a) (cu := cu) (eg := eg) (po := po) (bg := bg) (bd := bd) (sd := sd) (se_ := se_) (stk := stk) (mst := mst) (vr := vr) (ro := ro) (ct := ct) (sc := sc) (sta := sta) (arv := arv) (stp := stp) (q := q) (lq := lq) (ki := ki) (ne := ne) (ot := ot) (cnt := cnt) (fi := fi) (la := la) (ra := ra) (ru := ru) (gr := gr) (wi := wi) (sz := sz) (fl := fl) (ve := ve) (mi := mi) (na := na) (nl := nl) (K := K) (O := O) (RR := RR) (nr := nr) (G0 := G8) (cn := cn29) (CU := CU210) (r_ := 0) (tu := 0) (kk := k0) (by omega) hr (by omega) (by omega) (Int.toNat (ru - 0) + 1) ha hcu hq hra (by omega) hq12 (by omega) hchk (fcC_0 hq13) fx.rf rfl rfl (by omega) (fun G14 cn215 CU216 hNa hNcu hq17 hq18 hq19 hfk hlk hsk => ?_)
      · have h17 := hfk.get h17 (by decide)
        have hq := hfk.get hq (by simp only [List.mem_cons, List.not_mem_nil, or_false]; omega)
        have hki := hfk.get hki (by simp only [List.mem_cons, List.not_mem_nil, or_false]; omega)
        have hot := hfk.get hot (by simp only [List.mem_cons, List.not_mem_nil, or_false]; omega)
        have hra := hfk.get hra (by simp only [List.mem_cons, List.not_mem_nil, or_false]; omega)
        have hfr := hfr.tr hfk (by decide)
        have hlen := hlk.trans hlen
        have hsl := hsk.trans hsl
        have ha := hNa
        have hcu := hNcu
        change ab_W _ _ _ G14 190 [some (vR a), none, none, none, none] [] _
        refine ab_vret rfl d_ST_findCuts_190 ?_
        rw [hQ]; exact ⟨_, _, rfl, hfr, hlen, hsl, ha, hcu, (by omega), (by first | exact hq18 | exact rgs_w hq18 (by omega)), (by exact hq19)⟩
set_option maxRecDepth 100000 in
set_option maxHeartbeats 4000000 in
theorem z_ST_addSeed {X : ab_X} {d : Nat} {o : Nat → Nat} {G : ab_G} {a : Nat} {cu : Nat} {eg : Nat} {po : Nat} {bg : Nat} {bd : Nat} {sd : Nat} {se_ : Nat} {stk : Nat} {mst : Int} {q0 : Value} {vr : Int} {ro : Int} {cn : Int} {ct : Int} {sc : Int} {sta : Int} {arv : Int} {stp : Int} {SD : Int → Int} {SE : Int → Int} {e_ : Int} {cnt : Int} (ha : cc o G a 60 (ab_ob 8 [vz mst, q0, vz vr, vz ro, vR cu, vz cn, vR eg, vR po, vR bg, vR bd, vz ct, vR sd, vz sc, vR se_, vz sta, vR stk, vz arv, vj stp])) (hsd : cc o G sd 66 (za 2048 SD)) (hse_ : cc o G se_ 67 (za 3072 SE)) (cen : 0 ≤ e_ ∧ e_ < 2048 ∧ e_ % 1024 < cnt) (csc : 0 ≤ sc ∧ sc ≤ 2048) (jsd : ents SD sc cnt) (csta : 0 ≤ sta ∧ sta ≤ 2000000000) (jse : rgs SE 3072 0 sta) (jsq : sdQ SE sta SD sc) : ab_F X d y_ST_addSeed (.code y_ST_addSeed b_ST_addSeed 2 none) [vR a, vz e_] G (fun oc G2 => ∃ sc2 : Int, ∃ SD2 : Int → Int, ∃ SE2 : Int → Int, oc = .returned none ∧ fx o o [60, 66, 67] G G2 ∧ G2.length = G.length ∧ ab_slots G2 = ab_slots G ∧ cc o G2 a 60 (ab_ob 8 [vz mst, q0, vz vr, vz ro, vR cu, vz cn, vR eg, vR po, vR bg, vR bd, vz ct, vR sd, vz sc2, vR se_, vz sta, vR stk, vz arv, vj stp]) ∧ cc o G2 sd 66 (za 2048 SD2) ∧ cc o G2 se_ 67 (za 3072 SE2) ∧ (0 ≤ sc2 ∧ sc2 ≤ 2048) ∧ (ents SD2 sc2 cnt) ∧ (rgs SE2 3072 0 sta) ∧ (sdQ SE2 sta SD2 sc2) ∧ (sdA SE SD sc SE2 SD2 sc2 e_) ∧ (scw SE sta ≤ scw SE2 sta)) := by
  refine ab_F_of (by decide +kernel) (Nat.le_of_ble_eq_true rfl) ?_
  obtain ⟨Q, hQ⟩ : ∃ z : Outcome → ab_G → Prop, z = (fun oc G2 => ∃ sc2 : Int, ∃ SD2 : Int → Int, ∃ SE2 : Int → Int, oc = .returned none ∧ fx o o [60, 66, 67] G G2 ∧ G2.length = G.length ∧ ab_slots G2 = ab_slots G ∧ cc o G2 a 60 (ab_ob 8 [vz mst, q0, vz vr, vz ro, vR cu, vz cn, vR eg, vR po, vR bg, vR bd, vz ct, vR sd, vz sc2, vR se_, vz sta, vR stk, vz arv, vj stp]) ∧ cc o G2 sd 66 (za 2048 SD2) ∧ cc o G2 se_ 67 (za 3072 SE2) ∧ (0 ≤ sc2 ∧ sc2 ≤ 2048) ∧ (ents SD2 sc2 cnt) ∧ (rgs SE2 3072 0 sta) ∧ (sdQ SE2 sta SD2 sc2) ∧ (sdA SE SD sc SE2 SD2 sc2 e_) ∧ (scw SE sta ≤ scw SE2 sta)) := ⟨_, rfl⟩
  rw [← hQ]
  change ab_W X (ab_pl y_ST_addSeed b_ST_addSeed 2 none) d G 0 [some (vR a), some (vz e_)] [] Q
  have hfr : fx o o [60, 66, 67] G G := fx.rf
  have hlen : G.length = G.length := rfl
  have hsl : ab_slots G = ab_slots G := rfl
  refine ab_aload_n d_ST_addSeed_0 rfl ?_
  refine ab_getf (fs := [vz mst, q0, vz vr, vz ro, vR cu, vz cn, vR eg, vR po, vR bg, vR bd, vz ct, vR sd, vz sc, vR se_, vz sta, vR stk, vz arv, vj stp]) f_ST_34 d_ST_addSeed_1 ha.2.2 rfl ?_
  refine zz_sipush d_ST_addSeed_4 (by decide) ?_
  refine ab_iload_n d_ST_addSeed_7 rfl ?_
  refine zz_iadd d_ST_addSeed_8 ?_
  refine zz_iald d_ST_addSeed_9 hse_ (by omega) ?_
  have hq1 := jse (1024 + e_) (by omega) (by omega)
  refine ab_aload_n d_ST_addSeed_10 rfl ?_
  refine ab_getf (fs := [vz mst, q0, vz vr, vz ro, vR cu, vz cn, vR eg, vR po, vR bg, vR bd, vz ct, vR sd, vz sc, vR se_, vz sta, vR stk, vz arv, vj stp]) f_ST_123 d_ST_addSeed_11 ha.2.2 rfl ?_
  refine zz_icmp_eq (tgt := 63) d_ST_addSeed_14 (by decide) (by omega) (by omega) (fun c2 => ?_) (fun c2 => ?_)
  · refine ab_vret rfl d_ST_addSeed_63 ?_
    rw [hQ]; exact ⟨_, _, _, rfl, hfr, hlen, hsl, ha, hsd, hse_, (by omega), (by exact jsd), (by first | exact jse | exact rgs_w jse (by omega)), (by exact jsq), (by exact (sdQ_s jsq (by omega) (by omega)).2), (by exact Int.le_refl _)⟩
  · have hsl_ := sdQ_lt jsq (e := e_) (by omega) (by omega)
    refine ab_aload_n d_ST_addSeed_17 rfl ?_
    refine ab_getf (fs := [vz mst, q0, vz vr, vz ro, vR cu, vz cn, vR eg, vR po, vR bg, vR bd, vz ct, vR sd, vz sc, vR se_, vz sta, vR stk, vz arv, vj stp]) f_ST_126 d_ST_addSeed_18 ha.2.2 rfl ?_
    refine ab_aload_n d_ST_addSeed_21 rfl ?_
    refine ab_getf (fs := [vz mst, q0, vz vr, vz ro, vR cu, vz cn, vR eg, vR po, vR bg, vR bd, vz ct, vR sd, vz sc, vR se_, vz sta, vR stk, vz arv, vj stp]) f_ST_31 d_ST_addSeed_22 ha.2.2 rfl ?_
    refine zz_alen d_ST_addSeed_25 hsd ?_
    change ab_W _ _ _ G 26 [some (vR a), some (vz e_)] [vz 2048, vz sc] _
    refine zz_icmp_ge (tgt := 63) d_ST_addSeed_26 (by decide) (by omega) (by decide) (fun c3 => absurd c3 (by omega)) (fun c3 => ?_)
    refine ab_aload_n d_ST_addSeed_29 rfl ?_
    refine ab_getf (fs := [vz mst, q0, vz vr, vz ro, vR cu, vz cn, vR eg, vR po, vR bg, vR bd, vz ct, vR sd, vz sc, vR se_, vz sta, vR stk, vz arv, vj stp]) f_ST_34 d_ST_addSeed_30 ha.2.2 rfl ?_
    refine zz_sipush d_ST_addSeed_33 (by decide) ?_
    refine ab_iload_n d_ST_addSeed_36 rfl ?_
    refine zz_iadd d_ST_addSeed_37 ?_
    refine ab_aload_n d_ST_addSeed_38 rfl ?_
    refine ab_getf (fs := [vz mst, q0, vz vr, vz ro, vR cu, vz cn, vR eg, vR po, vR bg, vR bd, vz ct, vR sd, vz sc, vR se_, vz sta, vR stk, vz arv, vj stp]) f_ST_123 d_ST_addSeed_39 ha.2.2 rfl ?_
    refine zz_iast d_ST_addSeed_42 hse_ (by omega) (hse_.2.1 (by decide)) ?_
    obtain ⟨G4, eG4⟩ : ∃ z : ab_G, z = List.set G se_ (za 3072 (zu SE (1024 + e_) sta)) := ⟨_, rfl⟩
    have ha := ha.keep hse_ eG4 (by decide)
    have hsd := hsd.keep hse_ eG4 (by decide)
    have hlen := (z_len eG4).trans hlen
    have hsl := (z_sl hse_ eG4 rfl).trans hsl
    have hfr := hfr.wr hse_ eG4 (by decide)
    have hse_ := hse_.kept eG4
    change ab_W _ _ _ (List.set G se_ (za 3072 (zu SE (1024 + e_) sta))) 43 [some (vR a), some (vz e_)] [] _
    rw [← eG4]
    refine ab_aload_n d_ST_addSeed_43 rfl ?_
    refine ab_getf (fs := [vz mst, q0, vz vr, vz ro, vR cu, vz cn, vR eg, vR po, vR bg, vR bd, vz ct, vR sd, vz sc, vR se_, vz sta, vR stk, vz arv, vj stp]) f_ST_31 d_ST_addSeed_44 ha.2.2 rfl ?_
    refine ab_aload_n d_ST_addSeed_47 rfl ?_
    refine ab_getf (fs := [vz mst, q0, vz vr, vz ro, vR cu, vz cn, vR eg, vR po, vR bg, vR bd, vz ct, vR sd, vz sc, vR se_, vz sta, vR stk, vz arv, vj stp]) f_ST_126 d_ST_addSeed_48 ha.2.2 rfl ?_
    refine ab_iload_n d_ST_addSeed_51 rfl ?_
    refine zz_iast d_ST_addSeed_52 hsd (by omega) (hsd.2.1 (by decide)) ?_
    obtain ⟨G5, eG5⟩ : ∃ z : ab_G, z = List.set G4 sd (za 2048 (zu SD sc e_)) := ⟨_, rfl⟩
    have ha := ha.keep hsd eG5 (by decide)
    have hse_ := hse_.keep hsd eG5 (by decide)
    have hlen := (z_len eG5).trans hlen
    have hsl := (z_sl hsd eG5 rfl).trans hsl
    have hfr := hfr.wr hsd eG5 (by decide)
    have hsd := hsd.kept eG5
    change ab_W _ _ _ (List.set G4 sd (za 2048 (zu SD sc e_))) 53 [some (vR a), some (vz e_)] [] _
    rw [← eG5]
    refine ab_aload_n d_ST_addSeed_53 rfl ?_
    refine ab_dup d_ST_addSeed_54 rfl ?_
    refine ab_getf (fs := [vz mst, q0, vz vr, vz ro, vR cu, vz cn, vR eg, vR po, vR bg, vR bd, vz ct, vR sd, vz sc, vR se_, vz sta, vR stk, vz arv, vj stp]) f_ST_126 d_ST_addSeed_55 ha.2.2 rfl ?_
    refine zz_iconst d_ST_addSeed_58 ?_
    refine zz_iadd d_ST_addSeed_59 ?_
    refine ab_putf (fs := [vz mst, q0, vz vr, vz ro, vR cu, vz cn, vR eg, vR po, vR bg, vR bd, vz ct, vR sd, vz sc, vR se_, vz sta, vR stk, vz arv, vj stp]) f_ST_126 (Or.inl rfl) d_ST_addSeed_60 ha.2.2 (Nat.le_of_ble_eq_true rfl) (fun _ => ⟨rfl, rfl⟩) (ha.2.1 (by decide)) ?_
    obtain ⟨G6, eG6⟩ : ∃ z : ab_G, z = List.set G5 a (ab_ob 8 [vz mst, q0, vz vr, vz ro, vR cu, vz cn, vR eg, vR po, vR bg, vR bd, vz ct, vR sd, vz (sc + 1), vR se_, vz sta, vR stk, vz arv, vj stp]) := ⟨_, rfl⟩
    have hsd := hsd.keep ha eG6 (by decide)
    have hse_ := hse_.keep ha eG6 (by decide)
    have hlen := (z_len eG6).trans hlen
    have hsl := (z_sl ha eG6 rfl).trans hsl
    have hfr := hfr.wr ha eG6 (by decide)
    have ha := ha.kept eG6
    change ab_W _ _ _ (List.set G5 a (ab_ob 8 [vz mst, q0, vz vr, vz ro, vR cu, vz cn, vR eg, vR po, vR bg, vR bd, vz ct, vR sd, vz (sc + 1), vR se_, vz sta, vR stk, vz arv, vj stp])) 63 [some (vR a), some (vz e_)] [] _
    rw [← eG6]
    refine ab_vret rfl d_ST_addSeed_63 ?_
    rw [hQ]; exact ⟨_, _, _, rfl, hfr, hlen, hsl, ha, hsd, hse_, (by omega), (by exact ents_zu jsd (by omega)), (by first | exact (rgs_zu jse (by omega)) | exact rgs_w (rgs_zu jse (by omega)) (by omega)), (by exact (sdQ_n jsq (by omega) (by omega) (by omega)).1), (by exact (sdQ_n jsq (by omega) (by omega) (by omega)).2), (by exact scw_le (by omega))⟩
set_option maxRecDepth 100000 in
set_option maxHeartbeats 4000000 in
theorem y_ST_hasSeeds_30 {X : ab_X} {d : Nat} {Q : Outcome → ab_G → Prop} {o : Nat → Nat} {G0 : ab_G} {a : Nat} {cu : Nat} {eg : Nat} {po : Nat} {bg : Nat} {bd : Nat} {sd : Nat} {se_ : Nat} {stk : Nat} {mst : Int} {q0 : Value} {vr : Int} {ro : Int} {cn : Int} {ct : Int} {sc : Int} {sta : Int} {arv : Int} {stp : Int} {PO : Int → Int} {BG : Int → Int} {SD : Int → Int} {s_ : Int} {cnt : Int} (cs1 : 0 ≤ s_ ∧ s_ < ct) (cct : 0 ≤ ct ∧ ct ≤ 64) (jbg : bgo BG ct) (jpo : ents PO (BG ct) cnt) (jsd : ents SD sc cnt) (csc : 0 ≤ sc ∧ sc ≤ 2048) : ∀ (mz : Nat) {G : ab_G} {sm : Int} {i_ : Int}, (cc o G a 60 (ab_ob 8 [vz mst, q0, vz vr, vz ro, vR cu, vz cn, vR eg, vR po, vR bg, vR bd, vz ct, vR sd, vz sc, vR se_, vz sta, vR stk, vz arv, vj stp])) → (cc o G bg 64 (za 65 BG)) → (cc o G po 63 (za 8192 PO)) → (cc o G sd 66 (za 2048 SD)) → (0 ≤ i_ ∧ i_ ≤ sc ∧ 0 ≤ sm ∧ sm ≤ 1) → (sm = 1 → BG (s_ + 1) - BG s_ = sc) → (hsI sm PO BG s_ SD i_) → (fx o o [] G0 G) → (G.length = G0.length) → (ab_slots G = ab_slots G0) → (Int.toNat (sc - i_) < mz) → (∀ (G2 : ab_G) (v : Int), (0 ≤ v ∧ v ≤ 1) → (hsV v PO BG s_ SD sc) → (fx o o [] G0 G2) → (G2.length = G0.length) → (ab_slots G2 = ab_slots G0) → Q (.returned (some (vz v))) G2) → ab_W X (ab_pl y_ST_hasSeeds b_ST_hasSeeds 4 (some (.boolean))) d G 30 [some (vR a), some (vz s_), some (vz sm), some (vz i_)] [] Q := by
  intro mz
  induction mz with
  | zero => intro G sm i_ ha hbg hpo hsd ci cm hsi hfr hlen hsl hm hk0; exact absurd hm (Nat.not_lt_zero _)
  | succ mz ih =>
    intro G sm i_ ha hbg hpo hsd ci cm hsi hfr hlen hsl hm hk0
    refine ab_iload_n d_ST_hasSeeds_30 rfl ?_
    refine ab_aload_n d_ST_hasSeeds_31 rfl ?_
    refine ab_getf (fs := [vz mst, q0, vz vr, vz ro, vR cu, vz cn, vR eg, vR po, vR bg, vR bd, vz ct, vR sd, vz sc, vR se_, vz sta, vR stk, vz arv, vj stp]) f_ST_126 d_ST_hasSeeds_32 ha.2.2 rfl ?_
    refine zz_icmp_ge (tgt := 76) d_ST_hasSeeds_35 (by decide) (by omega) (by omega) (fun c1 => ?_) (fun c1 => ?_)
    · refine ab_iload_n d_ST_hasSeeds_76 rfl ?_
      refine zz_bret rfl (by omega) d_ST_hasSeeds_77 ?_
      exact hk0 _ _ (by omega) (by exact fun h => ⟨cm h, fun j a b => hsi h j a (by omega)⟩) hfr hlen hsl
    · refine ab_iload_n d_ST_hasSeeds_38 rfl ?_
      refine zz_if_eq (tgt := 76) d_ST_hasSeeds_39 (by decide) (by omega) (fun c2 => ?_) (fun c2 => ?_)
      · refine ab_iload_n d_ST_hasSeeds_76 rfl ?_
        refine zz_bret rfl (by omega) d_ST_hasSeeds_77 ?_
        exact hk0 _ _ (by omega) (by exact fun h => ⟨cm h, fun j a b => hsi h j a (by omega)⟩) hfr hlen hsl
      · have jb := jbg.st s_ (by omega) (by omega)
        refine ab_aload_n d_ST_hasSeeds_42 rfl ?_
        refine ab_getf (fs := [vz mst, q0, vz vr, vz ro, vR cu, vz cn, vR eg, vR po, vR bg, vR bd, vz ct, vR sd, vz sc, vR se_, vz sta, vR stk, vz arv, vj stp]) f_ST_22 d_ST_hasSeeds_43 ha.2.2 rfl ?_
        refine ab_aload_n d_ST_hasSeeds_46 rfl ?_
        refine ab_getf (fs := [vz mst, q0, vz vr, vz ro, vR cu, vz cn, vR eg, vR po, vR bg, vR bd, vz ct, vR sd, vz sc, vR se_, vz sta, vR stk, vz arv, vj stp]) f_ST_25 d_ST_hasSeeds_47 ha.2.2 rfl ?_
        refine ab_iload_n d_ST_hasSeeds_50 rfl ?_
        refine zz_iald d_ST_hasSeeds_51 hbg (by omega) ?_
        refine ab_iload_n d_ST_hasSeeds_52 rfl ?_
        refine zz_iadd d_ST_hasSeeds_53 ?_
        refine zz_iald d_ST_hasSeeds_54 hpo (by omega) ?_
        have hq3 := jpo ((BG s_) + i_) (by omega) (by omega)
        refine ab_aload_n d_ST_hasSeeds_55 rfl ?_
        refine ab_getf (fs := [vz mst, q0, vz vr, vz ro, vR cu, vz cn, vR eg, vR po, vR bg, vR bd, vz ct, vR sd, vz sc, vR se_, vz sta, vR stk, vz arv, vj stp]) f_ST_31 d_ST_hasSeeds_56 ha.2.2 rfl ?_
        refine ab_iload_n d_ST_hasSeeds_59 rfl ?_
        refine zz_iald d_ST_hasSeeds_60 hsd (by omega) ?_
        have hq4 := jsd i_ (by omega) (by omega)
        refine zz_icmp_ne (tgt := 68) d_ST_hasSeeds_61 (by decide) (by omega) (by omega) (fun c5 => ?_) (fun c5 => ?_)
        · refine zz_iconst d_ST_hasSeeds_68 ?_
          refine ab_istore_n d_ST_hasSeeds_69 (Nat.le_of_ble_eq_true rfl) (Nat.le_of_ble_eq_true rfl) rfl ?_
          change ab_W _ _ _ G 70 [some (vR a), some (vz s_), some (vz 0), some (vz i_)] [] _
          refine zz_iinc d_ST_hasSeeds_70 rfl (Nat.le_of_ble_eq_true rfl) (Nat.le_of_ble_eq_true rfl) rfl ?_
          change ab_W _ _ _ G 73 [some (vR a), some (vz s_), some (vz 0), some (vz (i_ + 1))] [] _
          refine ab_goto (tgt := 30) d_ST_hasSeeds_73 (by decide) ?_
          exact ih (sm := 0) (i_ := (i_ + 1)) ha hbg hpo hsd (by omega) (fun h => by omega) (fun h => absurd h (by decide)) hfr hlen hsl (by omega) hk0
        · refine zz_iconst d_ST_hasSeeds_64 ?_
          refine ab_goto (tgt := 69) d_ST_hasSeeds_65 (by decide) ?_
          refine ab_istore_n d_ST_hasSeeds_69 (Nat.le_of_ble_eq_true rfl) (Nat.le_of_ble_eq_true rfl) rfl ?_
          change ab_W _ _ _ G 70 [some (vR a), some (vz s_), some (vz 1), some (vz i_)] [] _
          refine zz_iinc d_ST_hasSeeds_70 rfl (Nat.le_of_ble_eq_true rfl) (Nat.le_of_ble_eq_true rfl) rfl ?_
          change ab_W _ _ _ G 73 [some (vR a), some (vz s_), some (vz 1), some (vz (i_ + 1))] [] _
          refine ab_goto (tgt := 30) d_ST_hasSeeds_73 (by decide) ?_
          exact ih (sm := 1) (i_ := (i_ + 1)) ha hbg hpo hsd (by omega) (fun h => by omega) (hsI_s hsi (by omega) (by omega)) hfr hlen hsl (by omega) hk0
set_option maxRecDepth 100000 in
set_option maxHeartbeats 4000000 in
theorem z_ST_hasSeeds {X : ab_X} {d : Nat} {o : Nat → Nat} {G : ab_G} {a : Nat} {cu : Nat} {eg : Nat} {po : Nat} {bg : Nat} {bd : Nat} {sd : Nat} {se_ : Nat} {stk : Nat} {mst : Int} {q0 : Value} {vr : Int} {ro : Int} {cn : Int} {ct : Int} {sc : Int} {sta : Int} {arv : Int} {stp : Int} {PO : Int → Int} {BG : Int → Int} {SD : Int → Int} {s_ : Int} {cnt : Int} (ha : cc o G a 60 (ab_ob 8 [vz mst, q0, vz vr, vz ro, vR cu, vz cn, vR eg, vR po, vR bg, vR bd, vz ct, vR sd, vz sc, vR se_, vz sta, vR stk, vz arv, vj stp])) (hbg : cc o G bg 64 (za 65 BG)) (hpo : cc o G po 63 (za 8192 PO)) (hsd : cc o G sd 66 (za 2048 SD)) (cs1 : 0 ≤ s_ ∧ s_ < ct) (cct : 0 ≤ ct ∧ ct ≤ 64) (jbg : bgo BG ct) (jpo : ents PO (BG ct) cnt) (jsd : ents SD sc cnt) (csc : 0 ≤ sc ∧ sc ≤ 2048) : ab_F X d y_ST_hasSeeds (.code y_ST_hasSeeds b_ST_hasSeeds 4 (some (.boolean))) [vR a, vz s_] G (fun oc G2 => ∃ v : Int, oc = .returned (some (vz v)) ∧ fx o o [] G G2 ∧ G2.length = G.length ∧ ab_slots G2 = ab_slots G ∧ (0 ≤ v ∧ v ≤ 1) ∧ (hsV v PO BG s_ SD sc)) := by
  refine ab_F_of (by decide +kernel) (Nat.le_of_ble_eq_true rfl) ?_
  obtain ⟨Q, hQ⟩ : ∃ z : Outcome → ab_G → Prop, z = (fun oc G2 => ∃ v : Int, oc = .returned (some (vz v)) ∧ fx o o [] G G2 ∧ G2.length = G.length ∧ ab_slots G2 = ab_slots G ∧ (0 ≤ v ∧ v ≤ 1) ∧ (hsV v PO BG s_ SD sc)) := ⟨_, rfl⟩
  rw [← hQ]
  change ab_W X (ab_pl y_ST_hasSeeds b_ST_hasSeeds 4 (some (.boolean))) d G 0 [some (vR a), some (vz s_), none, none] [] Q
  have hfr : fx o o [] G G := fx.rf
  have hlen : G.length = G.length := rfl
  have hsl : ab_slots G = ab_slots G := rfl
  have jb := jbg.st s_ (by omega) (by omega)
  refine ab_aload_n d_ST_hasSeeds_0 rfl ?_
  refine ab_getf (fs := [vz mst, q0, vz vr, vz ro, vR cu, vz cn, vR eg, vR po, vR bg, vR bd, vz ct, vR sd, vz sc, vR se_, vz sta, vR stk, vz arv, vj stp]) f_ST_25 d_ST_hasSeeds_1 ha.2.2 rfl ?_
  refine ab_iload_n d_ST_hasSeeds_4 rfl ?_
  refine zz_iconst d_ST_hasSeeds_5 ?_
  refine zz_iadd d_ST_hasSeeds_6 ?_
  refine zz_iald d_ST_hasSeeds_7 hbg (by omega) ?_
  refine ab_aload_n d_ST_hasSeeds_8 rfl ?_
  refine ab_getf (fs := [vz mst, q0, vz vr, vz ro, vR cu, vz cn, vR eg, vR po, vR bg, vR bd, vz ct, vR sd, vz sc, vR se_, vz sta, vR stk, vz arv, vj stp]) f_ST_25 d_ST_hasSeeds_9 ha.2.2 rfl ?_
  refine ab_iload_n d_ST_hasSeeds_12 rfl ?_
  refine zz_iald d_ST_hasSeeds_13 hbg (by omega) ?_
  refine zz_isub d_ST_hasSeeds_14 ?_
  refine ab_aload_n d_ST_hasSeeds_15 rfl ?_
  refine ab_getf (fs := [vz mst, q0, vz vr, vz ro, vR cu, vz cn, vR eg, vR po, vR bg, vR bd, vz ct, vR sd, vz sc, vR se_, vz sta, vR stk, vz arv, vj stp]) f_ST_126 d_ST_hasSeeds_16 ha.2.2 rfl ?_
  refine zz_icmp_ne (tgt := 26) d_ST_hasSeeds_19 (by decide) (by omega) (by omega) (fun c1 => ?_) (fun c1 => ?_)
  · refine zz_iconst d_ST_hasSeeds_26 ?_
    refine ab_istore_n d_ST_hasSeeds_27 (Nat.le_of_ble_eq_true rfl) (Nat.le_of_ble_eq_true rfl) rfl ?_
    change ab_W _ _ _ G 28 [some (vR a), some (vz s_), some (vz 0), none] [] _
    refine zz_iconst d_ST_hasSeeds_28 ?_
    refine ab_istore_n d_ST_hasSeeds_29 (Nat.le_of_ble_eq_true rfl) (Nat.le_of_ble_eq_true rfl) rfl ?_
    change ab_W _ _ _ G 30 [some (vR a), some (vz s_), some (vz 0), some (vz 0)] [] _
    refine y_ST_hasSeeds_30 (a := a) (cu := cu) (eg := eg) (po := po) (bg := bg) (bd := bd) (sd := sd) (se_ := se_) (stk := stk) (mst := mst) (q0 := q0) (vr := vr) (ro := ro) (cn := cn) (ct := ct) (sc := sc) (sta := sta) (arv := arv) (stp := stp) (PO := PO) (BG := BG) (SD := SD) (s_ := s_) (G0 := G) (sm := 0) (i_ := 0) (by omega) (by omega) jbg jpo jsd (by omega) (Int.toNat (sc - 0) + 1) ha hbg hpo hsd (by omega) (fun h => by omega) hsI_0 fx.rf rfl rfl (by omega) (fun G2 v3 hq4 hq5 hfk hlk hsk => ?_)
    · have ha := hfk.get ha (by decide)
      have hbg := hfk.get hbg (by decide)
      have hpo := hfk.get hpo (by decide)
      have hsd := hfk.get hsd (by decide)
      have hfr := hfr.tr hfk (by decide)
      have hlen := hlk.trans hlen
      have hsl := hsk.trans hsl
      rw [hQ]; exact ⟨_, rfl, hfr, hlen, hsl, (by omega), (by exact hq5)⟩
  · refine zz_iconst d_ST_hasSeeds_22 ?_
    refine ab_goto (tgt := 27) d_ST_hasSeeds_23 (by decide) ?_
    refine ab_istore_n d_ST_hasSeeds_27 (Nat.le_of_ble_eq_true rfl) (Nat.le_of_ble_eq_true rfl) rfl ?_
    change ab_W _ _ _ G 28 [some (vR a), some (vz s_), some (vz 1), none] [] _
    refine zz_iconst d_ST_hasSeeds_28 ?_
    refine ab_istore_n d_ST_hasSeeds_29 (Nat.le_of_ble_eq_true rfl) (Nat.le_of_ble_eq_true rfl) rfl ?_
    change ab_W _ _ _ G 30 [some (vR a), some (vz s_), some (vz 1), some (vz 0)] [] _
    refine y_ST_hasSeeds_30 (a := a) (cu := cu) (eg := eg) (po := po) (bg := bg) (bd := bd) (sd := sd) (se_ := se_) (stk := stk) (mst := mst) (q0 := q0) (vr := vr) (ro := ro) (cn := cn) (ct := ct) (sc := sc) (sta := sta) (arv := arv) (stp := stp) (PO := PO) (BG := BG) (SD := SD) (s_ := s_) (G0 := G) (sm := 1) (i_ := 0) (by omega) (by omega) jbg jpo jsd (by omega) (Int.toNat (sc - 0) + 1) ha hbg hpo hsd (by omega) (fun h => by omega) hsI_0 fx.rf rfl rfl (by omega) (fun G6 v7 hq8 hq9 hfk hlk hsk => ?_)
    · have ha := hfk.get ha (by decide)
      have hbg := hfk.get hbg (by decide)
      have hpo := hfk.get hpo (by decide)
      have hsd := hfk.get hsd (by decide)
      have hfr := hfr.tr hfk (by decide)
      have hlen := hlk.trans hlen
      have hsl := hsk.trans hsl
      rw [hQ]; exact ⟨_, rfl, hfr, hlen, hsl, (by omega), (by exact hq9)⟩
set_option maxRecDepth 100000 in
set_option maxHeartbeats 4000000 in
theorem z_ST_aheadOf {X : ab_X} {d : Nat} {o : Nat → Nat} {G : ab_G} {a : Nat} {cu : Nat} {eg : Nat} {po : Nat} {bg : Nat} {bd : Nat} {sd : Nat} {se_ : Nat} {stk : Nat} {mst : Int} {vr : Int} {ro : Int} {cn : Int} {ct : Int} {sc : Int} {sta : Int} {arv : Int} {stp : Int} {CU : Int → Int} {q : Nat} {lq : Nat} {ki : Nat} {ne : Nat} {ot : Nat} {cnt : Int} {fi : Int} {la : Int} {ra : Nat} {ru : Int} {gr : Int} {wi : Int} {sz : Int} {fl : Int} {ve : Int} {mi : Int} {na : Nat} {nl : Nat} {sg : Int} (ha : cc o G a 60 (ab_ob 8 [vz mst, vR q, vz vr, vz ro, vR cu, vz cn, vR eg, vR po, vR bg, vR bd, vz ct, vR sd, vz sc, vR se_, vz sta, vR stk, vz arv, vj stp])) (hcu : cc o G cu 61 (za 120 CU)) (hq : cc o G q lq (ab_ob 5 [vR ki, vR ne, vR ot, vz cnt, vz fi, vz la, vR ra, vz ru, vz gr, vz wi, vz sz, vz fl, vz ve, vz mi, vR na, vR nl])) (cc0 : 0 ≤ cn ∧ cn ≤ 120) (jcu : rgs CU 120 0 1114112) (csg : 0 ≤ sg ∧ sg ≤ cn + 4) (cla : 0 ≤ la ∧ la ≤ 1) (hd : 1 ≤ d) : ab_F X d y_ST_aheadOf (.code y_ST_aheadOf b_ST_aheadOf 3 (some (.int))) [vR a, vz sg] G (fun oc G2 => ∃ v : Int, oc = .returned (some (vz v)) ∧ G2 = G ∧ (0 ≤ v ∧ v ≤ 7) ∧ (ahN la (cdG CU sg) v)) := by
  refine ab_F_of (by decide +kernel) (Nat.le_of_ble_eq_true rfl) ?_
  obtain ⟨Q, hQ⟩ : ∃ z : Outcome → ab_G → Prop, z = (fun oc G2 => ∃ v : Int, oc = .returned (some (vz v)) ∧ G2 = G ∧ (0 ≤ v ∧ v ≤ 7) ∧ (ahN la (cdG CU sg) v)) := ⟨_, rfl⟩
  rw [← hQ]
  change ab_W X (ab_pl y_ST_aheadOf b_ST_aheadOf 3 (some (.int))) d G 0 [some (vR a), some (vz sg), none] [] Q
  have hfr : fx o o [] G G := fx.rf
  have hlen : G.length = G.length := rfl
  have hsl : ab_slots G = ab_slots G := rfl
  refine ab_aload_n d_ST_aheadOf_0 rfl ?_
  refine ab_getf (fs := [vz mst, vR q, vz vr, vz ro, vR cu, vz cn, vR eg, vR po, vR bg, vR bd, vz ct, vR sd, vz sc, vR se_, vz sta, vR stk, vz arv, vj stp]) f_ST_74 d_ST_aheadOf_1 ha.2.2 rfl ?_
  refine ab_getf (fs := [vR ki, vR ne, vR ot, vz cnt, vz fi, vz la, vR ra, vz ru, vz gr, vz wi, vz sz, vz fl, vz ve, vz mi, vR na, vR nl]) f_ST_142 d_ST_aheadOf_4 hq.2.2 rfl ?_
  refine zz_if_eq (tgt := 15) d_ST_aheadOf_7 (by decide) (by omega) (fun c1 => ?_) (fun c1 => ?_)
  · refine zz_iconst d_ST_aheadOf_15 ?_
    refine zz_iret rfl d_ST_aheadOf_16 ?_
    rw [hQ]; exact ⟨_, rfl, rfl, (by omega), (by first | exact ahN_0 (by omega) | exact ahN_lo (by omega) (by omega) | exact ahN_t (by omega) (by omega) (by omega) | exact ahN_w (by omega) (by omega) (by omega) (by assumption) | exact ahN_n (by omega) (by omega) (by omega) (by assumption))⟩
  · refine ab_iload_n d_ST_aheadOf_10 rfl ?_
    refine zz_iconst d_ST_aheadOf_11 ?_
    refine zz_icmp_ge (tgt := 17) d_ST_aheadOf_12 (by decide) (by omega) (by decide) (fun c2 => ?_) (fun c2 => ?_)
    · refine ab_aload_n d_ST_aheadOf_17 rfl ?_
      refine ab_getf (fs := [vz mst, vR q, vz vr, vz ro, vR cu, vz cn, vR eg, vR po, vR bg, vR bd, vz ct, vR sd, vz sc, vR se_, vz sta, vR stk, vz arv, vj stp]) f_ST_15 d_ST_aheadOf_18 ha.2.2 rfl ?_
      refine ab_iload_n d_ST_aheadOf_21 rfl ?_
      refine zz_iconst d_ST_aheadOf_22 ?_
      refine zz_isub d_ST_aheadOf_23 ?_
      refine zz_iald d_ST_aheadOf_24 hcu (by omega) ?_
      have hq3 := jcu (sg - 5) (by omega) (by omega)
      refine ab_istore_n d_ST_aheadOf_25 (Nat.le_of_ble_eq_true rfl) (Nat.le_of_ble_eq_true rfl) rfl ?_
      change ab_W _ _ _ G 26 [some (vR a), some (vz sg), some (vz (CU (sg - 5)))] [] _
      refine ab_iload_n d_ST_aheadOf_26 rfl ?_
      refine zz_bipush d_ST_aheadOf_27 (by decide) ?_
      refine zz_icmp_ne (tgt := 34) d_ST_aheadOf_29 (by decide) (by omega) (by decide) (fun c4 => ?_) (fun c4 => ?_)
      · refine ab_iload_n d_ST_aheadOf_34 rfl ?_
        refine ab_callS (d' := d - 1) (as := [vz (CU (sg - 5))]) (st := []) (z_PW_isWord (o := o) (x := (CU (sg - 5))) (by omega)) (fun oc G2 h => by rcases h with ⟨h, _⟩ | ⟨h, _⟩ <;> exact ⟨_, h⟩) (by omega) m_PW_isWord ml_ST_161 st_PW_isWord (Nat.le_of_ble_eq_true rfl) d_ST_aheadOf_35 rfl ?_
        intro v G5 hq
        rcases hq with ⟨hv, hGe, hq6⟩ | ⟨hv, hGe, hq7⟩
        · cases hv
          rw [hGe]
          change ab_W _ _ _ G 38 [some (vR a), some (vz sg), some (vz (CU (sg - 5)))] [vz 1] _
          refine zz_if_eq (tgt := 45) d_ST_aheadOf_38 (by decide) (by decide) (fun c8 => absurd c8 (by decide)) (fun c8 => ?_)
          refine zz_iconst d_ST_aheadOf_41 ?_
          refine ab_goto (tgt := 46) d_ST_aheadOf_42 (by decide) ?_
          refine zz_iret rfl d_ST_aheadOf_46 ?_
          rw [hQ]; exact ⟨_, rfl, rfl, (by omega), (by first | exact ahN_0 (by omega) | exact ahN_lo (by omega) (by omega) | exact ahN_t (by omega) (by omega) (by omega) | exact ahN_w (by omega) (by omega) (by omega) (by assumption) | exact ahN_n (by omega) (by omega) (by omega) (by assumption))⟩
        · cases hv
          rw [hGe]
          change ab_W _ _ _ G 38 [some (vR a), some (vz sg), some (vz (CU (sg - 5)))] [vz 0] _
          refine zz_if_eq (tgt := 45) d_ST_aheadOf_38 (by decide) (by decide) (fun c9 => ?_) (fun c9 => absurd c9 (by decide))
          refine zz_iconst d_ST_aheadOf_45 ?_
          refine zz_iret rfl d_ST_aheadOf_46 ?_
          rw [hQ]; exact ⟨_, rfl, rfl, (by omega), (by first | exact ahN_0 (by omega) | exact ahN_lo (by omega) (by omega) | exact ahN_t (by omega) (by omega) (by omega) | exact ahN_w (by omega) (by omega) (by omega) (by assumption) | exact ahN_n (by omega) (by omega) (by omega) (by assumption))⟩
      · refine zz_iconst d_ST_aheadOf_32 ?_
        refine zz_iret rfl d_ST_aheadOf_33 ?_
        rw [hQ]; exact ⟨_, rfl, rfl, (by omega), (by first | exact ahN_0 (by omega) | exact ahN_lo (by omega) (by omega) | exact ahN_t (by omega) (by omega) (by omega) | exact ahN_w (by omega) (by omega) (by omega) (by assumption) | exact ahN_n (by omega) (by omega) (by omega) (by assumption))⟩
    · refine zz_iconst d_ST_aheadOf_15 ?_
      refine zz_iret rfl d_ST_aheadOf_16 ?_
      rw [hQ]; exact ⟨_, rfl, rfl, (by omega), (by first | exact ahN_0 (by omega) | exact ahN_lo (by omega) (by omega) | exact ahN_t (by omega) (by omega) (by omega) | exact ahN_w (by omega) (by omega) (by omega) (by assumption) | exact ahN_n (by omega) (by omega) (by omega) (by assumption))⟩
set_option maxRecDepth 100000 in
set_option maxHeartbeats 4000000 in
theorem z_ST_holds {X : ab_X} {d : Nat} {o : Nat → Nat} {G : ab_G} {a : Nat} {cu : Nat} {eg : Nat} {po : Nat} {bg : Nat} {bd : Nat} {sd : Nat} {se_ : Nat} {stk : Nat} {mst : Int} {q0 : Value} {vr : Int} {ro : Int} {cn : Int} {ct : Int} {sc : Int} {sta : Int} {arv : Int} {stp : Int} {CU : Int → Int} {sg : Int} {ah : Int} {as_ : Int} (ha : cc o G a 60 (ab_ob 8 [vz mst, q0, vz vr, vz ro, vR cu, vz cn, vR eg, vR po, vR bg, vR bd, vz ct, vR sd, vz sc, vR se_, vz sta, vR stk, vz arv, vj stp])) (hcu : cc o G cu 61 (za 120 CU)) (cc0 : 0 ≤ cn ∧ cn ≤ 120) (jcu : rgs CU 120 0 1114112) (csg : 0 ≤ sg ∧ sg ≤ cn + 4) (cah : 0 ≤ ah ∧ ah ≤ 7 ∧ 0 ≤ as_ ∧ as_ ≤ 5) (hd : 1 ≤ d) : ab_F X d y_ST_holds (.code y_ST_holds b_ST_holds 7 (some (.boolean))) [vR a, vz as_, vz ah, vz sg] G (fun oc G2 => (oc = .returned (some (vz 1)) ∧ G2 = G ∧ (HSc (cdG CU sg) sg ah as_)) ∨ (oc = .returned (some (vz 0)) ∧ G2 = G ∧ (¬ HSc (cdG CU sg) sg ah as_))) := by
  refine ab_F_of (by decide +kernel) (Nat.le_of_ble_eq_true rfl) ?_
  obtain ⟨Q, hQ⟩ : ∃ z : Outcome → ab_G → Prop, z = (fun oc G2 => (oc = .returned (some (vz 1)) ∧ G2 = G ∧ (HSc (cdG CU sg) sg ah as_)) ∨ (oc = .returned (some (vz 0)) ∧ G2 = G ∧ (¬ HSc (cdG CU sg) sg ah as_))) := ⟨_, rfl⟩
  rw [← hQ]
  change ab_W X (ab_pl y_ST_holds b_ST_holds 7 (some (.boolean))) d G 0 [some (vR a), some (vz as_), some (vz ah), some (vz sg), none, none, none] [] Q
  have hfr : fx o o [] G G := fx.rf
  have hlen : G.length = G.length := rfl
  have hsl : ab_slots G = ab_slots G := rfl
  refine ab_iload_n d_ST_holds_0 rfl ?_
  refine zz_iconst d_ST_holds_1 ?_
  refine zz_icmp_lt (tgt := 22) d_ST_holds_2 (by decide) (by omega) (by decide) (fun c1 => ?_) (fun c1 => ?_)
  · refine zz_iconst d_ST_holds_22 ?_
    refine ab_istore d_ST_holds_23 (Nat.le_of_ble_eq_true rfl) (Nat.le_of_ble_eq_true rfl) rfl ?_
    change ab_W _ _ _ G 25 [some (vR a), some (vz as_), some (vz ah), some (vz sg), some (vz 0), none, none] [] _
    refine ab_iload_n d_ST_holds_25 rfl ?_
    refine zz_iconst d_ST_holds_26 ?_
    refine zz_icmp_lt (tgt := 48) d_ST_holds_27 (by decide) (by omega) (by decide) (fun c2 => ?_) (fun c2 => absurd c2 (by omega))
    refine zz_iconst d_ST_holds_48 ?_
    refine ab_istore d_ST_holds_49 (Nat.le_of_ble_eq_true rfl) (Nat.le_of_ble_eq_true rfl) rfl ?_
    change ab_W _ _ _ G 51 [some (vR a), some (vz as_), some (vz ah), some (vz sg), some (vz 0), some (vz 0), none] [] _
    refine ab_iload_n d_ST_holds_51 rfl ?_
    refine zz_iconst d_ST_holds_52 ?_
    refine zz_iand5 (c := 4) 2 d_ST_holds_53 (by decide) (by decide) (by decide) (by omega) ?_
    refine zz_if_eq (tgt := 61) d_ST_holds_54 (by decide) (by omega) (fun c3 => ?_) (fun c3 => ?_)
    · refine zz_iconst d_ST_holds_61 ?_
      refine ab_istore d_ST_holds_62 (Nat.le_of_ble_eq_true rfl) (Nat.le_of_ble_eq_true rfl) rfl ?_
      change ab_W _ _ _ G 64 [some (vR a), some (vz as_), some (vz ah), some (vz sg), some (vz 0), some (vz 0), some (vz 0)] [] _
      have hcd_ : cdG CU sg = -1 := cdG_lo (by omega)
      have hlf_ : ¬ cdG CU sg = 10 := by omega
      have hwo_ : ¬ isW (cdG CU sg) := by rw [hcd_]; exact isW_m1
      have hbw_ : ¬ ah / 4 % 2 = 1 := by omega
      refine ab_iload_n d_ST_holds_64 rfl ?_
      by_cases c4 : as_ = 0
      · refine zz_tableIn (off := 35) (tgt := 100) d_ST_holds_65 (by omega) (by omega) (by omega) (by rw [c4]; decide) (by decide) ?_
        refine ab_iload_n d_ST_holds_100 rfl ?_
        refine zz_iconst d_ST_holds_101 ?_
        refine zz_iand 1 2 d_ST_holds_102 (by decide) (by decide) (by decide) (by decide) ?_
        refine zz_if_eq (tgt := 110) d_ST_holds_103 (by decide) (by omega) (fun c5 => ?_) (fun c5 => ?_)
        · refine zz_iconst d_ST_holds_110 ?_
          refine zz_bret rfl (by decide) d_ST_holds_111 ?_
          rw [hQ]; exact (Or.inr ⟨rfl, rfl, (by exact fun q => absurd ((HSc_0 (by omega)).mp q) (by omega))⟩)
        · refine zz_iconst d_ST_holds_106 ?_
          refine ab_goto (tgt := 111) d_ST_holds_107 (by decide) ?_
          refine zz_bret rfl (by decide) d_ST_holds_111 ?_
          rw [hQ]; exact (Or.inl ⟨rfl, rfl, (by exact (HSc_0 (by omega)).mpr (by omega))⟩)
      replace c4 : nzq as_ 0 := c4
      by_cases c6 : as_ = 1
      · refine zz_tableIn (off := 47) (tgt := 112) d_ST_holds_65 (by omega) (by omega) (by omega) (by rw [c6]; decide) (by decide) ?_
        refine ab_iload_n d_ST_holds_112 rfl ?_
        refine zz_if_ne (tgt := 120) d_ST_holds_113 (by decide) (by omega) (fun c7 => ?_) (fun c7 => ?_)
        · refine zz_iconst d_ST_holds_120 ?_
          refine zz_bret rfl (by decide) d_ST_holds_121 ?_
          rw [hQ]; exact (Or.inr ⟨rfl, rfl, (by exact fun q => absurd ((HSc_1 (by omega)).mp q) (by omega))⟩)
        · refine zz_iconst d_ST_holds_116 ?_
          refine ab_goto (tgt := 121) d_ST_holds_117 (by decide) ?_
          refine zz_bret rfl (by decide) d_ST_holds_121 ?_
          rw [hQ]; exact (Or.inl ⟨rfl, rfl, (by exact (HSc_1 (by omega)).mpr (by omega))⟩)
      replace c6 : nzq as_ 1 := c6
      by_cases c8 : as_ = 2
      · refine zz_tableIn (off := 57) (tgt := 122) d_ST_holds_65 (by omega) (by omega) (by omega) (by rw [c8]; decide) (by decide) ?_
        refine ab_iload_n d_ST_holds_122 rfl ?_
        refine zz_iconst d_ST_holds_123 ?_
        refine zz_iand 2 4 d_ST_holds_124 (by decide) (by decide) (by decide) (by decide) ?_
        refine zz_if_eq (tgt := 132) d_ST_holds_125 (by decide) (by omega) (fun c9 => ?_) (fun c9 => ?_)
        · refine zz_iconst d_ST_holds_132 ?_
          refine zz_bret rfl (by decide) d_ST_holds_133 ?_
          rw [hQ]; exact (Or.inr ⟨rfl, rfl, (by exact fun q => absurd ((HSc_2 (by omega)).mp q) (by omega))⟩)
        · refine zz_iconst d_ST_holds_128 ?_
          refine ab_goto (tgt := 133) d_ST_holds_129 (by decide) ?_
          refine zz_bret rfl (by decide) d_ST_holds_133 ?_
          rw [hQ]; exact (Or.inl ⟨rfl, rfl, (by exact (HSc_2 (by omega)).mpr (by omega))⟩)
      replace c8 : nzq as_ 2 := c8
      by_cases c10 : as_ = 3
      · refine zz_tableIn (off := 69) (tgt := 134) d_ST_holds_65 (by omega) (by omega) (by omega) (by rw [c10]; decide) (by decide) ?_
        refine ab_iload_n d_ST_holds_134 rfl ?_
        refine zz_if_eq (tgt := 143) d_ST_holds_135 (by decide) (by omega) (fun c11 => ?_) (fun c11 => ?_)
        · refine zz_iconst d_ST_holds_143 ?_
          refine ab_goto (tgt := 148) d_ST_holds_144 (by decide) ?_
          refine zz_bret rfl (by decide) d_ST_holds_148 ?_
          rw [hQ]; exact (Or.inl ⟨rfl, rfl, (by exact (HSc_3 (by omega)).mpr (by omega))⟩)
        · refine ab_iload d_ST_holds_138 rfl ?_
          refine zz_if_eq (tgt := 147) d_ST_holds_140 (by decide) (by decide) (fun c12 => ?_) (fun c12 => absurd c12 (by decide))
          refine zz_iconst d_ST_holds_147 ?_
          refine zz_bret rfl (by decide) d_ST_holds_148 ?_
          rw [hQ]; exact (Or.inr ⟨rfl, rfl, (by exact fun q => absurd ((HSc_3 (by omega)).mp q) (by omega))⟩)
      replace c10 : nzq as_ 3 := c10
      by_cases c13 : as_ = 4
      · refine zz_tableIn (off := 84) (tgt := 149) d_ST_holds_65 (by omega) (by omega) (by omega) (by rw [c13]; decide) (by decide) ?_
        refine ab_iload d_ST_holds_149 rfl ?_
        refine ab_iload d_ST_holds_151 rfl ?_
        refine zz_icmp_eq (tgt := 160) d_ST_holds_153 (by decide) (by decide) (by decide) (fun c14 => ?_) (fun c14 => absurd c14 (by decide))
        refine zz_iconst d_ST_holds_160 ?_
        refine zz_bret rfl (by decide) d_ST_holds_161 ?_
        rw [hQ]; exact (Or.inr ⟨rfl, rfl, (by exact fun q => ((HSc_4 (by omega)).mp q) ⟨fun q => absurd q hbw_, fun q => absurd q hwo_⟩)⟩)
      replace c13 : nzq as_ 4 := c13
      by_cases c16 : 0 ≤ as_ ∧ as_ ≤ 4
      · have hsw : ∀ m : Nat, m < 5 → ¬ m ∈ ([0, 1, 2, 3, 4] : List Nat) → (#[35, 47, 57, 69, 84] : Array Int)[m]? = some 97 := by decide
        refine zz_tableIn (off := 97) (tgt := 162) d_ST_holds_65 (by omega) (by omega) (by omega) (hsw _ (by omega) (fun e => by simp only [List.mem_cons, List.not_mem_nil, or_false] at e; rcases e with e | e | e | e | e; (exact c4 (by omega)); (exact c6 (by omega)); (exact c8 (by omega)); (exact c10 (by omega)); (exact c13 (by omega)))) (by decide) ?_
        refine ab_iload d_ST_holds_162 rfl ?_
        refine ab_iload d_ST_holds_164 rfl ?_
        refine zz_icmp_ne (tgt := 173) d_ST_holds_166 (by decide) (by decide) (by decide) (fun c17 => absurd c17 (by decide)) (fun c17 => ?_)
        refine zz_iconst d_ST_holds_169 ?_
        refine ab_goto (tgt := 174) d_ST_holds_170 (by decide) ?_
        refine zz_bret rfl (by decide) d_ST_holds_174 ?_
        rw [hQ]; exact (Or.inl ⟨rfl, rfl, (by exact (HSc_5 (by first | omega | (simp only [nzq] at *; omega))).mpr ⟨fun q => absurd q hbw_, fun q => absurd q hwo_⟩)⟩)
      · refine zz_tableOut (tgt := 162) d_ST_holds_65 (by omega) (by omega) (by decide) ?_
        refine ab_iload d_ST_holds_162 rfl ?_
        refine ab_iload d_ST_holds_164 rfl ?_
        refine zz_icmp_ne (tgt := 173) d_ST_holds_166 (by decide) (by decide) (by decide) (fun c18 => absurd c18 (by decide)) (fun c18 => ?_)
        refine zz_iconst d_ST_holds_169 ?_
        refine ab_goto (tgt := 174) d_ST_holds_170 (by decide) ?_
        refine zz_bret rfl (by decide) d_ST_holds_174 ?_
        rw [hQ]; exact (Or.inl ⟨rfl, rfl, (by exact (HSc_5 (by first | omega | (simp only [nzq] at *; omega))).mpr ⟨fun q => absurd q hbw_, fun q => absurd q hwo_⟩)⟩)
    · refine zz_iconst d_ST_holds_57 ?_
      refine ab_goto (tgt := 62) d_ST_holds_58 (by decide) ?_
      refine ab_istore d_ST_holds_62 (Nat.le_of_ble_eq_true rfl) (Nat.le_of_ble_eq_true rfl) rfl ?_
      change ab_W _ _ _ G 64 [some (vR a), some (vz as_), some (vz ah), some (vz sg), some (vz 0), some (vz 0), some (vz 1)] [] _
      have hcd_ : cdG CU sg = -1 := cdG_lo (by omega)
      have hlf_ : ¬ cdG CU sg = 10 := by omega
      have hwo_ : ¬ isW (cdG CU sg) := by rw [hcd_]; exact isW_m1
      have hbw_ : ah / 4 % 2 = 1 := by omega
      refine ab_iload_n d_ST_holds_64 rfl ?_
      by_cases c19 : as_ = 0
      · refine zz_tableIn (off := 35) (tgt := 100) d_ST_holds_65 (by omega) (by omega) (by omega) (by rw [c19]; decide) (by decide) ?_
        refine ab_iload_n d_ST_holds_100 rfl ?_
        refine zz_iconst d_ST_holds_101 ?_
        refine zz_iand 1 2 d_ST_holds_102 (by decide) (by decide) (by decide) (by decide) ?_
        refine zz_if_eq (tgt := 110) d_ST_holds_103 (by decide) (by omega) (fun c20 => ?_) (fun c20 => ?_)
        · refine zz_iconst d_ST_holds_110 ?_
          refine zz_bret rfl (by decide) d_ST_holds_111 ?_
          rw [hQ]; exact (Or.inr ⟨rfl, rfl, (by exact fun q => absurd ((HSc_0 (by omega)).mp q) (by omega))⟩)
        · refine zz_iconst d_ST_holds_106 ?_
          refine ab_goto (tgt := 111) d_ST_holds_107 (by decide) ?_
          refine zz_bret rfl (by decide) d_ST_holds_111 ?_
          rw [hQ]; exact (Or.inl ⟨rfl, rfl, (by exact (HSc_0 (by omega)).mpr (by omega))⟩)
      replace c19 : nzq as_ 0 := c19
      by_cases c21 : as_ = 1
      · refine zz_tableIn (off := 47) (tgt := 112) d_ST_holds_65 (by omega) (by omega) (by omega) (by rw [c21]; decide) (by decide) ?_
        refine ab_iload_n d_ST_holds_112 rfl ?_
        refine zz_if_ne (tgt := 120) d_ST_holds_113 (by decide) (by omega) (fun c22 => ?_) (fun c22 => ?_)
        · refine zz_iconst d_ST_holds_120 ?_
          refine zz_bret rfl (by decide) d_ST_holds_121 ?_
          rw [hQ]; exact (Or.inr ⟨rfl, rfl, (by exact fun q => absurd ((HSc_1 (by omega)).mp q) (by omega))⟩)
        · refine zz_iconst d_ST_holds_116 ?_
          refine ab_goto (tgt := 121) d_ST_holds_117 (by decide) ?_
          refine zz_bret rfl (by decide) d_ST_holds_121 ?_
          rw [hQ]; exact (Or.inl ⟨rfl, rfl, (by exact (HSc_1 (by omega)).mpr (by omega))⟩)
      replace c21 : nzq as_ 1 := c21
      by_cases c23 : as_ = 2
      · refine zz_tableIn (off := 57) (tgt := 122) d_ST_holds_65 (by omega) (by omega) (by omega) (by rw [c23]; decide) (by decide) ?_
        refine ab_iload_n d_ST_holds_122 rfl ?_
        refine zz_iconst d_ST_holds_123 ?_
        refine zz_iand 2 4 d_ST_holds_124 (by decide) (by decide) (by decide) (by decide) ?_
        refine zz_if_eq (tgt := 132) d_ST_holds_125 (by decide) (by omega) (fun c24 => ?_) (fun c24 => ?_)
        · refine zz_iconst d_ST_holds_132 ?_
          refine zz_bret rfl (by decide) d_ST_holds_133 ?_
          rw [hQ]; exact (Or.inr ⟨rfl, rfl, (by exact fun q => absurd ((HSc_2 (by omega)).mp q) (by omega))⟩)
        · refine zz_iconst d_ST_holds_128 ?_
          refine ab_goto (tgt := 133) d_ST_holds_129 (by decide) ?_
          refine zz_bret rfl (by decide) d_ST_holds_133 ?_
          rw [hQ]; exact (Or.inl ⟨rfl, rfl, (by exact (HSc_2 (by omega)).mpr (by omega))⟩)
      replace c23 : nzq as_ 2 := c23
      by_cases c25 : as_ = 3
      · refine zz_tableIn (off := 69) (tgt := 134) d_ST_holds_65 (by omega) (by omega) (by omega) (by rw [c25]; decide) (by decide) ?_
        refine ab_iload_n d_ST_holds_134 rfl ?_
        refine zz_if_eq (tgt := 143) d_ST_holds_135 (by decide) (by omega) (fun c26 => ?_) (fun c26 => ?_)
        · refine zz_iconst d_ST_holds_143 ?_
          refine ab_goto (tgt := 148) d_ST_holds_144 (by decide) ?_
          refine zz_bret rfl (by decide) d_ST_holds_148 ?_
          rw [hQ]; exact (Or.inl ⟨rfl, rfl, (by exact (HSc_3 (by omega)).mpr (by omega))⟩)
        · refine ab_iload d_ST_holds_138 rfl ?_
          refine zz_if_eq (tgt := 147) d_ST_holds_140 (by decide) (by decide) (fun c27 => ?_) (fun c27 => absurd c27 (by decide))
          refine zz_iconst d_ST_holds_147 ?_
          refine zz_bret rfl (by decide) d_ST_holds_148 ?_
          rw [hQ]; exact (Or.inr ⟨rfl, rfl, (by exact fun q => absurd ((HSc_3 (by omega)).mp q) (by omega))⟩)
      replace c25 : nzq as_ 3 := c25
      by_cases c28 : as_ = 4
      · refine zz_tableIn (off := 84) (tgt := 149) d_ST_holds_65 (by omega) (by omega) (by omega) (by rw [c28]; decide) (by decide) ?_
        refine ab_iload d_ST_holds_149 rfl ?_
        refine ab_iload d_ST_holds_151 rfl ?_
        refine zz_icmp_eq (tgt := 160) d_ST_holds_153 (by decide) (by decide) (by decide) (fun c29 => absurd c29 (by decide)) (fun c29 => ?_)
        refine zz_iconst d_ST_holds_156 ?_
        refine ab_goto (tgt := 161) d_ST_holds_157 (by decide) ?_
        refine zz_bret rfl (by decide) d_ST_holds_161 ?_
        rw [hQ]; exact (Or.inl ⟨rfl, rfl, (by exact (HSc_4 (by omega)).mpr (fun q => hwo_ (q.mp hbw_)))⟩)
      replace c28 : nzq as_ 4 := c28
      by_cases c31 : 0 ≤ as_ ∧ as_ ≤ 4
      · have hsw : ∀ m : Nat, m < 5 → ¬ m ∈ ([0, 1, 2, 3, 4] : List Nat) → (#[35, 47, 57, 69, 84] : Array Int)[m]? = some 97 := by decide
        refine zz_tableIn (off := 97) (tgt := 162) d_ST_holds_65 (by omega) (by omega) (by omega) (hsw _ (by omega) (fun e => by simp only [List.mem_cons, List.not_mem_nil, or_false] at e; rcases e with e | e | e | e | e; (exact c19 (by omega)); (exact c21 (by omega)); (exact c23 (by omega)); (exact c25 (by omega)); (exact c28 (by omega)))) (by decide) ?_
        refine ab_iload d_ST_holds_162 rfl ?_
        refine ab_iload d_ST_holds_164 rfl ?_
        refine zz_icmp_ne (tgt := 173) d_ST_holds_166 (by decide) (by decide) (by decide) (fun c32 => ?_) (fun c32 => absurd c32 (by decide))
        refine zz_iconst d_ST_holds_173 ?_
        refine zz_bret rfl (by decide) d_ST_holds_174 ?_
        rw [hQ]; exact (Or.inr ⟨rfl, rfl, (by exact fun q => (fun q => hwo_ (q.mp hbw_)) ((HSc_5 (by first | omega | (simp only [nzq] at *; omega))).mp q))⟩)
      · refine zz_tableOut (tgt := 162) d_ST_holds_65 (by omega) (by omega) (by decide) ?_
        refine ab_iload d_ST_holds_162 rfl ?_
        refine ab_iload d_ST_holds_164 rfl ?_
        refine zz_icmp_ne (tgt := 173) d_ST_holds_166 (by decide) (by decide) (by decide) (fun c33 => ?_) (fun c33 => absurd c33 (by decide))
        refine zz_iconst d_ST_holds_173 ?_
        refine zz_bret rfl (by decide) d_ST_holds_174 ?_
        rw [hQ]; exact (Or.inr ⟨rfl, rfl, (by exact fun q => (fun q => hwo_ (q.mp hbw_)) ((HSc_5 (by first | omega | (simp only [nzq] at *; omega))).mp q))⟩)
  · refine ab_aload_n d_ST_holds_5 rfl ?_
    refine ab_getf (fs := [vz mst, q0, vz vr, vz ro, vR cu, vz cn, vR eg, vR po, vR bg, vR bd, vz ct, vR sd, vz sc, vR se_, vz sta, vR stk, vz arv, vj stp]) f_ST_15 d_ST_holds_6 ha.2.2 rfl ?_
    refine ab_iload_n d_ST_holds_9 rfl ?_
    refine zz_iconst d_ST_holds_10 ?_
    refine zz_isub d_ST_holds_11 ?_
    refine zz_iald d_ST_holds_12 hcu (by omega) ?_
    have hq34 := jcu (sg - 5) (by omega) (by omega)
    refine zz_bipush d_ST_holds_13 (by decide) ?_
    refine zz_icmp_ne (tgt := 22) d_ST_holds_15 (by decide) (by omega) (by decide) (fun c35 => ?_) (fun c35 => ?_)
    · refine zz_iconst d_ST_holds_22 ?_
      refine ab_istore d_ST_holds_23 (Nat.le_of_ble_eq_true rfl) (Nat.le_of_ble_eq_true rfl) rfl ?_
      change ab_W _ _ _ G 25 [some (vR a), some (vz as_), some (vz ah), some (vz sg), some (vz 0), none, none] [] _
      refine ab_iload_n d_ST_holds_25 rfl ?_
      refine zz_iconst d_ST_holds_26 ?_
      refine zz_icmp_lt (tgt := 48) d_ST_holds_27 (by decide) (by omega) (by decide) (fun c36 => absurd c36 (by omega)) (fun c36 => ?_)
      refine ab_aload_n d_ST_holds_30 rfl ?_
      refine ab_getf (fs := [vz mst, q0, vz vr, vz ro, vR cu, vz cn, vR eg, vR po, vR bg, vR bd, vz ct, vR sd, vz sc, vR se_, vz sta, vR stk, vz arv, vj stp]) f_ST_15 d_ST_holds_31 ha.2.2 rfl ?_
      refine ab_iload_n d_ST_holds_34 rfl ?_
      refine zz_iconst d_ST_holds_35 ?_
      refine zz_isub d_ST_holds_36 ?_
      refine zz_iald d_ST_holds_37 hcu (by omega) ?_
      have hq37 := jcu (sg - 5) (by omega) (by omega)
      refine ab_callS (d' := d - 1) (as := [vz (CU (sg - 5))]) (st := []) (z_PW_isWord (o := o) (x := (CU (sg - 5))) (by omega)) (fun oc G2 h => by rcases h with ⟨h, _⟩ | ⟨h, _⟩ <;> exact ⟨_, h⟩) (by omega) m_PW_isWord ml_ST_161 st_PW_isWord (Nat.le_of_ble_eq_true rfl) d_ST_holds_38 rfl ?_
      intro v G38 hq
      rcases hq with ⟨hv, hGe, hq39⟩ | ⟨hv, hGe, hq40⟩
      · cases hv
        rw [hGe]
        change ab_W _ _ _ G 41 [some (vR a), some (vz as_), some (vz ah), some (vz sg), some (vz 0), none, none] [vz 1] _
        refine zz_if_eq (tgt := 48) d_ST_holds_41 (by decide) (by decide) (fun c41 => absurd c41 (by decide)) (fun c41 => ?_)
        refine zz_iconst d_ST_holds_44 ?_
        refine ab_goto (tgt := 49) d_ST_holds_45 (by decide) ?_
        refine ab_istore d_ST_holds_49 (Nat.le_of_ble_eq_true rfl) (Nat.le_of_ble_eq_true rfl) rfl ?_
        change ab_W _ _ _ G 51 [some (vR a), some (vz as_), some (vz ah), some (vz sg), some (vz 0), some (vz 1), none] [] _
        refine ab_iload_n d_ST_holds_51 rfl ?_
        refine zz_iconst d_ST_holds_52 ?_
        refine zz_iand5 (c := 4) 2 d_ST_holds_53 (by decide) (by decide) (by decide) (by omega) ?_
        refine zz_if_eq (tgt := 61) d_ST_holds_54 (by decide) (by omega) (fun c42 => ?_) (fun c42 => ?_)
        · refine zz_iconst d_ST_holds_61 ?_
          refine ab_istore d_ST_holds_62 (Nat.le_of_ble_eq_true rfl) (Nat.le_of_ble_eq_true rfl) rfl ?_
          change ab_W _ _ _ G 64 [some (vR a), some (vz as_), some (vz ah), some (vz sg), some (vz 0), some (vz 1), some (vz 0)] [] _
          have hcd_ : cdG CU sg = CU (sg - 5) := cdG_hi (by omega)
          have hlf_ : ¬ cdG CU sg = 10 := by omega
          have hwo_ : isW (cdG CU sg) := by rw [hcd_]; assumption
          have hbw_ : ¬ ah / 4 % 2 = 1 := by omega
          refine ab_iload_n d_ST_holds_64 rfl ?_
          by_cases c43 : as_ = 0
          · refine zz_tableIn (off := 35) (tgt := 100) d_ST_holds_65 (by omega) (by omega) (by omega) (by rw [c43]; decide) (by decide) ?_
            refine ab_iload_n d_ST_holds_100 rfl ?_
            refine zz_iconst d_ST_holds_101 ?_
            refine zz_iand 1 2 d_ST_holds_102 (by decide) (by decide) (by decide) (by decide) ?_
            refine zz_if_eq (tgt := 110) d_ST_holds_103 (by decide) (by omega) (fun c44 => ?_) (fun c44 => ?_)
            · refine zz_iconst d_ST_holds_110 ?_
              refine zz_bret rfl (by decide) d_ST_holds_111 ?_
              rw [hQ]; exact (Or.inr ⟨rfl, rfl, (by exact fun q => absurd ((HSc_0 (by omega)).mp q) (by omega))⟩)
            · refine zz_iconst d_ST_holds_106 ?_
              refine ab_goto (tgt := 111) d_ST_holds_107 (by decide) ?_
              refine zz_bret rfl (by decide) d_ST_holds_111 ?_
              rw [hQ]; exact (Or.inl ⟨rfl, rfl, (by exact (HSc_0 (by omega)).mpr (by omega))⟩)
          replace c43 : nzq as_ 0 := c43
          by_cases c45 : as_ = 1
          · refine zz_tableIn (off := 47) (tgt := 112) d_ST_holds_65 (by omega) (by omega) (by omega) (by rw [c45]; decide) (by decide) ?_
            refine ab_iload_n d_ST_holds_112 rfl ?_
            refine zz_if_ne (tgt := 120) d_ST_holds_113 (by decide) (by omega) (fun c46 => ?_) (fun c46 => absurd c46 (by omega))
            refine zz_iconst d_ST_holds_120 ?_
            refine zz_bret rfl (by decide) d_ST_holds_121 ?_
            rw [hQ]; exact (Or.inr ⟨rfl, rfl, (by exact fun q => absurd ((HSc_1 (by omega)).mp q) (by omega))⟩)
          replace c45 : nzq as_ 1 := c45
          by_cases c47 : as_ = 2
          · refine zz_tableIn (off := 57) (tgt := 122) d_ST_holds_65 (by omega) (by omega) (by omega) (by rw [c47]; decide) (by decide) ?_
            refine ab_iload_n d_ST_holds_122 rfl ?_
            refine zz_iconst d_ST_holds_123 ?_
            refine zz_iand 2 4 d_ST_holds_124 (by decide) (by decide) (by decide) (by decide) ?_
            refine zz_if_eq (tgt := 132) d_ST_holds_125 (by decide) (by omega) (fun c48 => ?_) (fun c48 => ?_)
            · refine zz_iconst d_ST_holds_132 ?_
              refine zz_bret rfl (by decide) d_ST_holds_133 ?_
              rw [hQ]; exact (Or.inr ⟨rfl, rfl, (by exact fun q => absurd ((HSc_2 (by omega)).mp q) (by omega))⟩)
            · refine zz_iconst d_ST_holds_128 ?_
              refine ab_goto (tgt := 133) d_ST_holds_129 (by decide) ?_
              refine zz_bret rfl (by decide) d_ST_holds_133 ?_
              rw [hQ]; exact (Or.inl ⟨rfl, rfl, (by exact (HSc_2 (by omega)).mpr (by omega))⟩)
          replace c47 : nzq as_ 2 := c47
          by_cases c49 : as_ = 3
          · refine zz_tableIn (off := 69) (tgt := 134) d_ST_holds_65 (by omega) (by omega) (by omega) (by rw [c49]; decide) (by decide) ?_
            refine ab_iload_n d_ST_holds_134 rfl ?_
            refine zz_if_eq (tgt := 143) d_ST_holds_135 (by decide) (by omega) (fun c50 => absurd c50 (by omega)) (fun c50 => ?_)
            refine ab_iload d_ST_holds_138 rfl ?_
            refine zz_if_eq (tgt := 147) d_ST_holds_140 (by decide) (by decide) (fun c51 => ?_) (fun c51 => absurd c51 (by decide))
            refine zz_iconst d_ST_holds_147 ?_
            refine zz_bret rfl (by decide) d_ST_holds_148 ?_
            rw [hQ]; exact (Or.inr ⟨rfl, rfl, (by exact fun q => absurd ((HSc_3 (by omega)).mp q) (by omega))⟩)
          replace c49 : nzq as_ 3 := c49
          by_cases c52 : as_ = 4
          · refine zz_tableIn (off := 84) (tgt := 149) d_ST_holds_65 (by omega) (by omega) (by omega) (by rw [c52]; decide) (by decide) ?_
            refine ab_iload d_ST_holds_149 rfl ?_
            refine ab_iload d_ST_holds_151 rfl ?_
            refine zz_icmp_eq (tgt := 160) d_ST_holds_153 (by decide) (by decide) (by decide) (fun c53 => absurd c53 (by decide)) (fun c53 => ?_)
            refine zz_iconst d_ST_holds_156 ?_
            refine ab_goto (tgt := 161) d_ST_holds_157 (by decide) ?_
            refine zz_bret rfl (by decide) d_ST_holds_161 ?_
            rw [hQ]; exact (Or.inl ⟨rfl, rfl, (by exact (HSc_4 (by omega)).mpr (fun q => hbw_ (q.mpr hwo_)))⟩)
          replace c52 : nzq as_ 4 := c52
          by_cases c55 : 0 ≤ as_ ∧ as_ ≤ 4
          · have hsw : ∀ m : Nat, m < 5 → ¬ m ∈ ([0, 1, 2, 3, 4] : List Nat) → (#[35, 47, 57, 69, 84] : Array Int)[m]? = some 97 := by decide
            refine zz_tableIn (off := 97) (tgt := 162) d_ST_holds_65 (by omega) (by omega) (by omega) (hsw _ (by omega) (fun e => by simp only [List.mem_cons, List.not_mem_nil, or_false] at e; rcases e with e | e | e | e | e; (exact c43 (by omega)); (exact c45 (by omega)); (exact c47 (by omega)); (exact c49 (by omega)); (exact c52 (by omega)))) (by decide) ?_
            refine ab_iload d_ST_holds_162 rfl ?_
            refine ab_iload d_ST_holds_164 rfl ?_
            refine zz_icmp_ne (tgt := 173) d_ST_holds_166 (by decide) (by decide) (by decide) (fun c56 => ?_) (fun c56 => absurd c56 (by decide))
            refine zz_iconst d_ST_holds_173 ?_
            refine zz_bret rfl (by decide) d_ST_holds_174 ?_
            rw [hQ]; exact (Or.inr ⟨rfl, rfl, (by exact fun q => (fun q => hbw_ (q.mpr hwo_)) ((HSc_5 (by first | omega | (simp only [nzq] at *; omega))).mp q))⟩)
          · refine zz_tableOut (tgt := 162) d_ST_holds_65 (by omega) (by omega) (by decide) ?_
            refine ab_iload d_ST_holds_162 rfl ?_
            refine ab_iload d_ST_holds_164 rfl ?_
            refine zz_icmp_ne (tgt := 173) d_ST_holds_166 (by decide) (by decide) (by decide) (fun c57 => ?_) (fun c57 => absurd c57 (by decide))
            refine zz_iconst d_ST_holds_173 ?_
            refine zz_bret rfl (by decide) d_ST_holds_174 ?_
            rw [hQ]; exact (Or.inr ⟨rfl, rfl, (by exact fun q => (fun q => hbw_ (q.mpr hwo_)) ((HSc_5 (by first | omega | (simp only [nzq] at *; omega))).mp q))⟩)
        · refine zz_iconst d_ST_holds_57 ?_
          refine ab_goto (tgt := 62) d_ST_holds_58 (by decide) ?_
          refine ab_istore d_ST_holds_62 (Nat.le_of_ble_eq_true rfl) (Nat.le_of_ble_eq_true rfl) rfl ?_
          change ab_W _ _ _ G 64 [some (vR a), some (vz as_), some (vz ah), some (vz sg), some (vz 0), some (vz 1), some (vz 1)] [] _
          have hcd_ : cdG CU sg = CU (sg - 5) := cdG_hi (by omega)
          have hlf_ : ¬ cdG CU sg = 10 := by omega
          have hwo_ : isW (cdG CU sg) := by rw [hcd_]; assumption
          have hbw_ : ah / 4 % 2 = 1 := by omega
          refine ab_iload_n d_ST_holds_64 rfl ?_
          by_cases c58 : as_ = 0
          · refine zz_tableIn (off := 35) (tgt := 100) d_ST_holds_65 (by omega) (by omega) (by omega) (by rw [c58]; decide) (by decide) ?_
            refine ab_iload_n d_ST_holds_100 rfl ?_
            refine zz_iconst d_ST_holds_101 ?_
            refine zz_iand 1 2 d_ST_holds_102 (by decide) (by decide) (by decide) (by decide) ?_
            refine zz_if_eq (tgt := 110) d_ST_holds_103 (by decide) (by omega) (fun c59 => ?_) (fun c59 => ?_)
            · refine zz_iconst d_ST_holds_110 ?_
              refine zz_bret rfl (by decide) d_ST_holds_111 ?_
              rw [hQ]; exact (Or.inr ⟨rfl, rfl, (by exact fun q => absurd ((HSc_0 (by omega)).mp q) (by omega))⟩)
            · refine zz_iconst d_ST_holds_106 ?_
              refine ab_goto (tgt := 111) d_ST_holds_107 (by decide) ?_
              refine zz_bret rfl (by decide) d_ST_holds_111 ?_
              rw [hQ]; exact (Or.inl ⟨rfl, rfl, (by exact (HSc_0 (by omega)).mpr (by omega))⟩)
          replace c58 : nzq as_ 0 := c58
          by_cases c60 : as_ = 1
          · refine zz_tableIn (off := 47) (tgt := 112) d_ST_holds_65 (by omega) (by omega) (by omega) (by rw [c60]; decide) (by decide) ?_
            refine ab_iload_n d_ST_holds_112 rfl ?_
            refine zz_if_ne (tgt := 120) d_ST_holds_113 (by decide) (by omega) (fun c61 => ?_) (fun c61 => absurd c61 (by omega))
            refine zz_iconst d_ST_holds_120 ?_
            refine zz_bret rfl (by decide) d_ST_holds_121 ?_
            rw [hQ]; exact (Or.inr ⟨rfl, rfl, (by exact fun q => absurd ((HSc_1 (by omega)).mp q) (by omega))⟩)
          replace c60 : nzq as_ 1 := c60
          by_cases c62 : as_ = 2
          · refine zz_tableIn (off := 57) (tgt := 122) d_ST_holds_65 (by omega) (by omega) (by omega) (by rw [c62]; decide) (by decide) ?_
            refine ab_iload_n d_ST_holds_122 rfl ?_
            refine zz_iconst d_ST_holds_123 ?_
            refine zz_iand 2 4 d_ST_holds_124 (by decide) (by decide) (by decide) (by decide) ?_
            refine zz_if_eq (tgt := 132) d_ST_holds_125 (by decide) (by omega) (fun c63 => ?_) (fun c63 => ?_)
            · refine zz_iconst d_ST_holds_132 ?_
              refine zz_bret rfl (by decide) d_ST_holds_133 ?_
              rw [hQ]; exact (Or.inr ⟨rfl, rfl, (by exact fun q => absurd ((HSc_2 (by omega)).mp q) (by omega))⟩)
            · refine zz_iconst d_ST_holds_128 ?_
              refine ab_goto (tgt := 133) d_ST_holds_129 (by decide) ?_
              refine zz_bret rfl (by decide) d_ST_holds_133 ?_
              rw [hQ]; exact (Or.inl ⟨rfl, rfl, (by exact (HSc_2 (by omega)).mpr (by omega))⟩)
          replace c62 : nzq as_ 2 := c62
          by_cases c64 : as_ = 3
          · refine zz_tableIn (off := 69) (tgt := 134) d_ST_holds_65 (by omega) (by omega) (by omega) (by rw [c64]; decide) (by decide) ?_
            refine ab_iload_n d_ST_holds_134 rfl ?_
            refine zz_if_eq (tgt := 143) d_ST_holds_135 (by decide) (by omega) (fun c65 => absurd c65 (by omega)) (fun c65 => ?_)
            refine ab_iload d_ST_holds_138 rfl ?_
            refine zz_if_eq (tgt := 147) d_ST_holds_140 (by decide) (by decide) (fun c66 => ?_) (fun c66 => absurd c66 (by decide))
            refine zz_iconst d_ST_holds_147 ?_
            refine zz_bret rfl (by decide) d_ST_holds_148 ?_
            rw [hQ]; exact (Or.inr ⟨rfl, rfl, (by exact fun q => absurd ((HSc_3 (by omega)).mp q) (by omega))⟩)
          replace c64 : nzq as_ 3 := c64
          by_cases c67 : as_ = 4
          · refine zz_tableIn (off := 84) (tgt := 149) d_ST_holds_65 (by omega) (by omega) (by omega) (by rw [c67]; decide) (by decide) ?_
            refine ab_iload d_ST_holds_149 rfl ?_
            refine ab_iload d_ST_holds_151 rfl ?_
            refine zz_icmp_eq (tgt := 160) d_ST_holds_153 (by decide) (by decide) (by decide) (fun c68 => ?_) (fun c68 => absurd c68 (by decide))
            refine zz_iconst d_ST_holds_160 ?_
            refine zz_bret rfl (by decide) d_ST_holds_161 ?_
            rw [hQ]; exact (Or.inr ⟨rfl, rfl, (by exact fun q => ((HSc_4 (by omega)).mp q) ⟨fun _ => hwo_, fun _ => hbw_⟩)⟩)
          replace c67 : nzq as_ 4 := c67
          by_cases c70 : 0 ≤ as_ ∧ as_ ≤ 4
          · have hsw : ∀ m : Nat, m < 5 → ¬ m ∈ ([0, 1, 2, 3, 4] : List Nat) → (#[35, 47, 57, 69, 84] : Array Int)[m]? = some 97 := by decide
            refine zz_tableIn (off := 97) (tgt := 162) d_ST_holds_65 (by omega) (by omega) (by omega) (hsw _ (by omega) (fun e => by simp only [List.mem_cons, List.not_mem_nil, or_false] at e; rcases e with e | e | e | e | e; (exact c58 (by omega)); (exact c60 (by omega)); (exact c62 (by omega)); (exact c64 (by omega)); (exact c67 (by omega)))) (by decide) ?_
            refine ab_iload d_ST_holds_162 rfl ?_
            refine ab_iload d_ST_holds_164 rfl ?_
            refine zz_icmp_ne (tgt := 173) d_ST_holds_166 (by decide) (by decide) (by decide) (fun c71 => absurd c71 (by decide)) (fun c71 => ?_)
            refine zz_iconst d_ST_holds_169 ?_
            refine ab_goto (tgt := 174) d_ST_holds_170 (by decide) ?_
            refine zz_bret rfl (by decide) d_ST_holds_174 ?_
            rw [hQ]; exact (Or.inl ⟨rfl, rfl, (by exact (HSc_5 (by first | omega | (simp only [nzq] at *; omega))).mpr ⟨fun _ => hwo_, fun _ => hbw_⟩)⟩)
          · refine zz_tableOut (tgt := 162) d_ST_holds_65 (by omega) (by omega) (by decide) ?_
            refine ab_iload d_ST_holds_162 rfl ?_
            refine ab_iload d_ST_holds_164 rfl ?_
            refine zz_icmp_ne (tgt := 173) d_ST_holds_166 (by decide) (by decide) (by decide) (fun c72 => absurd c72 (by decide)) (fun c72 => ?_)
            refine zz_iconst d_ST_holds_169 ?_
            refine ab_goto (tgt := 174) d_ST_holds_170 (by decide) ?_
            refine zz_bret rfl (by decide) d_ST_holds_174 ?_
            rw [hQ]; exact (Or.inl ⟨rfl, rfl, (by exact (HSc_5 (by first | omega | (simp only [nzq] at *; omega))).mpr ⟨fun _ => hwo_, fun _ => hbw_⟩)⟩)
      · cases hv
        rw [hGe]
        change ab_W _ _ _ G 41 [some (vR a), some (vz as_), some (vz ah), some (vz sg), some (vz 0), none, none] [vz 0] _
        refine zz_if_eq (tgt := 48) d_ST_holds_41 (by decide) (by decide) (fun c73 => ?_) (fun c73 => absurd c73 (by decide))
        refine zz_iconst d_ST_holds_48 ?_
        refine ab_istore d_ST_holds_49 (Nat.le_of_ble_eq_true rfl) (Nat.le_of_ble_eq_true rfl) rfl ?_
        change ab_W _ _ _ G 51 [some (vR a), some (vz as_), some (vz ah), some (vz sg), some (vz 0), some (vz 0), none] [] _
        refine ab_iload_n d_ST_holds_51 rfl ?_
        refine zz_iconst d_ST_holds_52 ?_
        refine zz_iand5 (c := 4) 2 d_ST_holds_53 (by decide) (by decide) (by decide) (by omega) ?_
        refine zz_if_eq (tgt := 61) d_ST_holds_54 (by decide) (by omega) (fun c74 => ?_) (fun c74 => ?_)
        · refine zz_iconst d_ST_holds_61 ?_
          refine ab_istore d_ST_holds_62 (Nat.le_of_ble_eq_true rfl) (Nat.le_of_ble_eq_true rfl) rfl ?_
          change ab_W _ _ _ G 64 [some (vR a), some (vz as_), some (vz ah), some (vz sg), some (vz 0), some (vz 0), some (vz 0)] [] _
          have hcd_ : cdG CU sg = CU (sg - 5) := cdG_hi (by omega)
          have hlf_ : ¬ cdG CU sg = 10 := by omega
          have hwo_ : ¬ isW (cdG CU sg) := by rw [hcd_]; assumption
          have hbw_ : ¬ ah / 4 % 2 = 1 := by omega
          refine ab_iload_n d_ST_holds_64 rfl ?_
          by_cases c75 : as_ = 0
          · refine zz_tableIn (off := 35) (tgt := 100) d_ST_holds_65 (by omega) (by omega) (by omega) (by rw [c75]; decide) (by decide) ?_
            refine ab_iload_n d_ST_holds_100 rfl ?_
            refine zz_iconst d_ST_holds_101 ?_
            refine zz_iand 1 2 d_ST_holds_102 (by decide) (by decide) (by decide) (by decide) ?_
            refine zz_if_eq (tgt := 110) d_ST_holds_103 (by decide) (by omega) (fun c76 => ?_) (fun c76 => ?_)
            · refine zz_iconst d_ST_holds_110 ?_
              refine zz_bret rfl (by decide) d_ST_holds_111 ?_
              rw [hQ]; exact (Or.inr ⟨rfl, rfl, (by exact fun q => absurd ((HSc_0 (by omega)).mp q) (by omega))⟩)
            · refine zz_iconst d_ST_holds_106 ?_
              refine ab_goto (tgt := 111) d_ST_holds_107 (by decide) ?_
              refine zz_bret rfl (by decide) d_ST_holds_111 ?_
              rw [hQ]; exact (Or.inl ⟨rfl, rfl, (by exact (HSc_0 (by omega)).mpr (by omega))⟩)
          replace c75 : nzq as_ 0 := c75
          by_cases c77 : as_ = 1
          · refine zz_tableIn (off := 47) (tgt := 112) d_ST_holds_65 (by omega) (by omega) (by omega) (by rw [c77]; decide) (by decide) ?_
            refine ab_iload_n d_ST_holds_112 rfl ?_
            refine zz_if_ne (tgt := 120) d_ST_holds_113 (by decide) (by omega) (fun c78 => ?_) (fun c78 => absurd c78 (by omega))
            refine zz_iconst d_ST_holds_120 ?_
            refine zz_bret rfl (by decide) d_ST_holds_121 ?_
            rw [hQ]; exact (Or.inr ⟨rfl, rfl, (by exact fun q => absurd ((HSc_1 (by omega)).mp q) (by omega))⟩)
          replace c77 : nzq as_ 1 := c77
          by_cases c79 : as_ = 2
          · refine zz_tableIn (off := 57) (tgt := 122) d_ST_holds_65 (by omega) (by omega) (by omega) (by rw [c79]; decide) (by decide) ?_
            refine ab_iload_n d_ST_holds_122 rfl ?_
            refine zz_iconst d_ST_holds_123 ?_
            refine zz_iand 2 4 d_ST_holds_124 (by decide) (by decide) (by decide) (by decide) ?_
            refine zz_if_eq (tgt := 132) d_ST_holds_125 (by decide) (by omega) (fun c80 => ?_) (fun c80 => ?_)
            · refine zz_iconst d_ST_holds_132 ?_
              refine zz_bret rfl (by decide) d_ST_holds_133 ?_
              rw [hQ]; exact (Or.inr ⟨rfl, rfl, (by exact fun q => absurd ((HSc_2 (by omega)).mp q) (by omega))⟩)
            · refine zz_iconst d_ST_holds_128 ?_
              refine ab_goto (tgt := 133) d_ST_holds_129 (by decide) ?_
              refine zz_bret rfl (by decide) d_ST_holds_133 ?_
              rw [hQ]; exact (Or.inl ⟨rfl, rfl, (by exact (HSc_2 (by omega)).mpr (by omega))⟩)
          replace c79 : nzq as_ 2 := c79
          by_cases c81 : as_ = 3
          · refine zz_tableIn (off := 69) (tgt := 134) d_ST_holds_65 (by omega) (by omega) (by omega) (by rw [c81]; decide) (by decide) ?_
            refine ab_iload_n d_ST_holds_134 rfl ?_
            refine zz_if_eq (tgt := 143) d_ST_holds_135 (by decide) (by omega) (fun c82 => absurd c82 (by omega)) (fun c82 => ?_)
            refine ab_iload d_ST_holds_138 rfl ?_
            refine zz_if_eq (tgt := 147) d_ST_holds_140 (by decide) (by decide) (fun c83 => ?_) (fun c83 => absurd c83 (by decide))
            refine zz_iconst d_ST_holds_147 ?_
            refine zz_bret rfl (by decide) d_ST_holds_148 ?_
            rw [hQ]; exact (Or.inr ⟨rfl, rfl, (by exact fun q => absurd ((HSc_3 (by omega)).mp q) (by omega))⟩)
          replace c81 : nzq as_ 3 := c81
          by_cases c84 : as_ = 4
          · refine zz_tableIn (off := 84) (tgt := 149) d_ST_holds_65 (by omega) (by omega) (by omega) (by rw [c84]; decide) (by decide) ?_
            refine ab_iload d_ST_holds_149 rfl ?_
            refine ab_iload d_ST_holds_151 rfl ?_
            refine zz_icmp_eq (tgt := 160) d_ST_holds_153 (by decide) (by decide) (by decide) (fun c85 => ?_) (fun c85 => absurd c85 (by decide))
            refine zz_iconst d_ST_holds_160 ?_
            refine zz_bret rfl (by decide) d_ST_holds_161 ?_
            rw [hQ]; exact (Or.inr ⟨rfl, rfl, (by exact fun q => ((HSc_4 (by omega)).mp q) ⟨fun q => absurd q hbw_, fun q => absurd q hwo_⟩)⟩)
          replace c84 : nzq as_ 4 := c84
          by_cases c87 : 0 ≤ as_ ∧ as_ ≤ 4
          · have hsw : ∀ m : Nat, m < 5 → ¬ m ∈ ([0, 1, 2, 3, 4] : List Nat) → (#[35, 47, 57, 69, 84] : Array Int)[m]? = some 97 := by decide
            refine zz_tableIn (off := 97) (tgt := 162) d_ST_holds_65 (by omega) (by omega) (by omega) (hsw _ (by omega) (fun e => by simp only [List.mem_cons, List.not_mem_nil, or_false] at e; rcases e with e | e | e | e | e; (exact c75 (by omega)); (exact c77 (by omega)); (exact c79 (by omega)); (exact c81 (by omega)); (exact c84 (by omega)))) (by decide) ?_
            refine ab_iload d_ST_holds_162 rfl ?_
            refine ab_iload d_ST_holds_164 rfl ?_
            refine zz_icmp_ne (tgt := 173) d_ST_holds_166 (by decide) (by decide) (by decide) (fun c88 => absurd c88 (by decide)) (fun c88 => ?_)
            refine zz_iconst d_ST_holds_169 ?_
            refine ab_goto (tgt := 174) d_ST_holds_170 (by decide) ?_
            refine zz_bret rfl (by decide) d_ST_holds_174 ?_
            rw [hQ]; exact (Or.inl ⟨rfl, rfl, (by exact (HSc_5 (by first | omega | (simp only [nzq] at *; omega))).mpr ⟨fun q => absurd q hbw_, fun q => absurd q hwo_⟩)⟩)
          · refine zz_tableOut (tgt := 162) d_ST_holds_65 (by omega) (by omega) (by decide) ?_
            refine ab_iload d_ST_holds_162 rfl ?_
            refine ab_iload d_ST_holds_164 rfl ?_
            refine zz_icmp_ne (tgt := 173) d_ST_holds_166 (by decide) (by decide) (by decide) (fun c89 => absurd c89 (by decide)) (fun c89 => ?_)
            refine zz_iconst d_ST_holds_169 ?_
            refine ab_goto (tgt := 174) d_ST_holds_170 (by decide) ?_
            refine zz_bret rfl (by decide) d_ST_holds_174 ?_
            rw [hQ]; exact (Or.inl ⟨rfl, rfl, (by exact (HSc_5 (by first | omega | (simp only [nzq] at *; omega))).mpr ⟨fun q => absurd q hbw_, fun q => absurd q hwo_⟩)⟩)
        · refine zz_iconst d_ST_holds_57 ?_
          refine ab_goto (tgt := 62) d_ST_holds_58 (by decide) ?_
          refine ab_istore d_ST_holds_62 (Nat.le_of_ble_eq_true rfl) (Nat.le_of_ble_eq_true rfl) rfl ?_
          change ab_W _ _ _ G 64 [some (vR a), some (vz as_), some (vz ah), some (vz sg), some (vz 0), some (vz 0), some (vz 1)] [] _
          have hcd_ : cdG CU sg = CU (sg - 5) := cdG_hi (by omega)
          have hlf_ : ¬ cdG CU sg = 10 := by omega
          have hwo_ : ¬ isW (cdG CU sg) := by rw [hcd_]; assumption
          have hbw_ : ah / 4 % 2 = 1 := by omega
          refine ab_iload_n d_ST_holds_64 rfl ?_
          by_cases c90 : as_ = 0
          · refine zz_tableIn (off := 35) (tgt := 100) d_ST_holds_65 (by omega) (by omega) (by omega) (by rw [c90]; decide) (by decide) ?_
            refine ab_iload_n d_ST_holds_100 rfl ?_
            refine zz_iconst d_ST_holds_101 ?_
            refine zz_iand 1 2 d_ST_holds_102 (by decide) (by decide) (by decide) (by decide) ?_
            refine zz_if_eq (tgt := 110) d_ST_holds_103 (by decide) (by omega) (fun c91 => ?_) (fun c91 => ?_)
            · refine zz_iconst d_ST_holds_110 ?_
              refine zz_bret rfl (by decide) d_ST_holds_111 ?_
              rw [hQ]; exact (Or.inr ⟨rfl, rfl, (by exact fun q => absurd ((HSc_0 (by omega)).mp q) (by omega))⟩)
            · refine zz_iconst d_ST_holds_106 ?_
              refine ab_goto (tgt := 111) d_ST_holds_107 (by decide) ?_
              refine zz_bret rfl (by decide) d_ST_holds_111 ?_
              rw [hQ]; exact (Or.inl ⟨rfl, rfl, (by exact (HSc_0 (by omega)).mpr (by omega))⟩)
          replace c90 : nzq as_ 0 := c90
          by_cases c92 : as_ = 1
          · refine zz_tableIn (off := 47) (tgt := 112) d_ST_holds_65 (by omega) (by omega) (by omega) (by rw [c92]; decide) (by decide) ?_
            refine ab_iload_n d_ST_holds_112 rfl ?_
            refine zz_if_ne (tgt := 120) d_ST_holds_113 (by decide) (by omega) (fun c93 => ?_) (fun c93 => absurd c93 (by omega))
            refine zz_iconst d_ST_holds_120 ?_
            refine zz_bret rfl (by decide) d_ST_holds_121 ?_
            rw [hQ]; exact (Or.inr ⟨rfl, rfl, (by exact fun q => absurd ((HSc_1 (by omega)).mp q) (by omega))⟩)
          replace c92 : nzq as_ 1 := c92
          by_cases c94 : as_ = 2
          · refine zz_tableIn (off := 57) (tgt := 122) d_ST_holds_65 (by omega) (by omega) (by omega) (by rw [c94]; decide) (by decide) ?_
            refine ab_iload_n d_ST_holds_122 rfl ?_
            refine zz_iconst d_ST_holds_123 ?_
            refine zz_iand 2 4 d_ST_holds_124 (by decide) (by decide) (by decide) (by decide) ?_
            refine zz_if_eq (tgt := 132) d_ST_holds_125 (by decide) (by omega) (fun c95 => ?_) (fun c95 => ?_)
            · refine zz_iconst d_ST_holds_132 ?_
              refine zz_bret rfl (by decide) d_ST_holds_133 ?_
              rw [hQ]; exact (Or.inr ⟨rfl, rfl, (by exact fun q => absurd ((HSc_2 (by omega)).mp q) (by omega))⟩)
            · refine zz_iconst d_ST_holds_128 ?_
              refine ab_goto (tgt := 133) d_ST_holds_129 (by decide) ?_
              refine zz_bret rfl (by decide) d_ST_holds_133 ?_
              rw [hQ]; exact (Or.inl ⟨rfl, rfl, (by exact (HSc_2 (by omega)).mpr (by omega))⟩)
          replace c94 : nzq as_ 2 := c94
          by_cases c96 : as_ = 3
          · refine zz_tableIn (off := 69) (tgt := 134) d_ST_holds_65 (by omega) (by omega) (by omega) (by rw [c96]; decide) (by decide) ?_
            refine ab_iload_n d_ST_holds_134 rfl ?_
            refine zz_if_eq (tgt := 143) d_ST_holds_135 (by decide) (by omega) (fun c97 => absurd c97 (by omega)) (fun c97 => ?_)
            refine ab_iload d_ST_holds_138 rfl ?_
            refine zz_if_eq (tgt := 147) d_ST_holds_140 (by decide) (by decide) (fun c98 => ?_) (fun c98 => absurd c98 (by decide))
            refine zz_iconst d_ST_holds_147 ?_
            refine zz_bret rfl (by decide) d_ST_holds_148 ?_
            rw [hQ]; exact (Or.inr ⟨rfl, rfl, (by exact fun q => absurd ((HSc_3 (by omega)).mp q) (by omega))⟩)
          replace c96 : nzq as_ 3 := c96
          by_cases c99 : as_ = 4
          · refine zz_tableIn (off := 84) (tgt := 149) d_ST_holds_65 (by omega) (by omega) (by omega) (by rw [c99]; decide) (by decide) ?_
            refine ab_iload d_ST_holds_149 rfl ?_
            refine ab_iload d_ST_holds_151 rfl ?_
            refine zz_icmp_eq (tgt := 160) d_ST_holds_153 (by decide) (by decide) (by decide) (fun c100 => absurd c100 (by decide)) (fun c100 => ?_)
            refine zz_iconst d_ST_holds_156 ?_
            refine ab_goto (tgt := 161) d_ST_holds_157 (by decide) ?_
            refine zz_bret rfl (by decide) d_ST_holds_161 ?_
            rw [hQ]; exact (Or.inl ⟨rfl, rfl, (by exact (HSc_4 (by omega)).mpr (fun q => hwo_ (q.mp hbw_)))⟩)
          replace c99 : nzq as_ 4 := c99
          by_cases c102 : 0 ≤ as_ ∧ as_ ≤ 4
          · have hsw : ∀ m : Nat, m < 5 → ¬ m ∈ ([0, 1, 2, 3, 4] : List Nat) → (#[35, 47, 57, 69, 84] : Array Int)[m]? = some 97 := by decide
            refine zz_tableIn (off := 97) (tgt := 162) d_ST_holds_65 (by omega) (by omega) (by omega) (hsw _ (by omega) (fun e => by simp only [List.mem_cons, List.not_mem_nil, or_false] at e; rcases e with e | e | e | e | e; (exact c90 (by omega)); (exact c92 (by omega)); (exact c94 (by omega)); (exact c96 (by omega)); (exact c99 (by omega)))) (by decide) ?_
            refine ab_iload d_ST_holds_162 rfl ?_
            refine ab_iload d_ST_holds_164 rfl ?_
            refine zz_icmp_ne (tgt := 173) d_ST_holds_166 (by decide) (by decide) (by decide) (fun c103 => ?_) (fun c103 => absurd c103 (by decide))
            refine zz_iconst d_ST_holds_173 ?_
            refine zz_bret rfl (by decide) d_ST_holds_174 ?_
            rw [hQ]; exact (Or.inr ⟨rfl, rfl, (by exact fun q => (fun q => hwo_ (q.mp hbw_)) ((HSc_5 (by first | omega | (simp only [nzq] at *; omega))).mp q))⟩)
          · refine zz_tableOut (tgt := 162) d_ST_holds_65 (by omega) (by omega) (by decide) ?_
            refine ab_iload d_ST_holds_162 rfl ?_
            refine ab_iload d_ST_holds_164 rfl ?_
            refine zz_icmp_ne (tgt := 173) d_ST_holds_166 (by decide) (by decide) (by decide) (fun c104 => ?_) (fun c104 => absurd c104 (by decide))
            refine zz_iconst d_ST_holds_173 ?_
            refine zz_bret rfl (by decide) d_ST_holds_174 ?_
            rw [hQ]; exact (Or.inr ⟨rfl, rfl, (by exact fun q => (fun q => hwo_ (q.mp hbw_)) ((HSc_5 (by first | omega | (simp only [nzq] at *; omega))).mp q))⟩)
    · refine zz_iconst d_ST_holds_18 ?_
      refine ab_goto (tgt := 23) d_ST_holds_19 (by decide) ?_
      refine ab_istore d_ST_holds_23 (Nat.le_of_ble_eq_true rfl) (Nat.le_of_ble_eq_true rfl) rfl ?_
      change ab_W _ _ _ G 25 [some (vR a), some (vz as_), some (vz ah), some (vz sg), some (vz 1), none, none] [] _
      refine ab_iload_n d_ST_holds_25 rfl ?_
      refine zz_iconst d_ST_holds_26 ?_
      refine zz_icmp_lt (tgt := 48) d_ST_holds_27 (by decide) (by omega) (by decide) (fun c105 => absurd c105 (by omega)) (fun c105 => ?_)
      refine ab_aload_n d_ST_holds_30 rfl ?_
      refine ab_getf (fs := [vz mst, q0, vz vr, vz ro, vR cu, vz cn, vR eg, vR po, vR bg, vR bd, vz ct, vR sd, vz sc, vR se_, vz sta, vR stk, vz arv, vj stp]) f_ST_15 d_ST_holds_31 ha.2.2 rfl ?_
      refine ab_iload_n d_ST_holds_34 rfl ?_
      refine zz_iconst d_ST_holds_35 ?_
      refine zz_isub d_ST_holds_36 ?_
      refine zz_iald d_ST_holds_37 hcu (by omega) ?_
      have hq106 := jcu (sg - 5) (by omega) (by omega)
      refine ab_callS (d' := d - 1) (as := [vz (CU (sg - 5))]) (st := []) (z_PW_isWord (o := o) (x := (CU (sg - 5))) (by omega)) (fun oc G2 h => by rcases h with ⟨h, _⟩ | ⟨h, _⟩ <;> exact ⟨_, h⟩) (by omega) m_PW_isWord ml_ST_161 st_PW_isWord (Nat.le_of_ble_eq_true rfl) d_ST_holds_38 rfl ?_
      intro v G107 hq
      rcases hq with ⟨hv, hGe, hq108⟩ | ⟨hv, hGe, hq109⟩
      · cases hv
        rw [hGe]
        change ab_W _ _ _ G 41 [some (vR a), some (vz as_), some (vz ah), some (vz sg), some (vz 1), none, none] [vz 1] _
        refine zz_if_eq (tgt := 48) d_ST_holds_41 (by decide) (by decide) (fun c110 => absurd c110 (by decide)) (fun c110 => ?_)
        refine zz_iconst d_ST_holds_44 ?_
        refine ab_goto (tgt := 49) d_ST_holds_45 (by decide) ?_
        refine ab_istore d_ST_holds_49 (Nat.le_of_ble_eq_true rfl) (Nat.le_of_ble_eq_true rfl) rfl ?_
        change ab_W _ _ _ G 51 [some (vR a), some (vz as_), some (vz ah), some (vz sg), some (vz 1), some (vz 1), none] [] _
        refine ab_iload_n d_ST_holds_51 rfl ?_
        refine zz_iconst d_ST_holds_52 ?_
        refine zz_iand5 (c := 4) 2 d_ST_holds_53 (by decide) (by decide) (by decide) (by omega) ?_
        refine zz_if_eq (tgt := 61) d_ST_holds_54 (by decide) (by omega) (fun c111 => ?_) (fun c111 => ?_)
        · refine zz_iconst d_ST_holds_61 ?_
          refine ab_istore d_ST_holds_62 (Nat.le_of_ble_eq_true rfl) (Nat.le_of_ble_eq_true rfl) rfl ?_
          change ab_W _ _ _ G 64 [some (vR a), some (vz as_), some (vz ah), some (vz sg), some (vz 1), some (vz 1), some (vz 0)] [] _
          have hcd_ : cdG CU sg = CU (sg - 5) := cdG_hi (by omega)
          have hlf_ : cdG CU sg = 10 := by omega
          have hwo_ : isW (cdG CU sg) := by rw [hcd_]; assumption
          have hbw_ : ¬ ah / 4 % 2 = 1 := by omega
          refine ab_iload_n d_ST_holds_64 rfl ?_
          by_cases c112 : as_ = 0
          · refine zz_tableIn (off := 35) (tgt := 100) d_ST_holds_65 (by omega) (by omega) (by omega) (by rw [c112]; decide) (by decide) ?_
            refine ab_iload_n d_ST_holds_100 rfl ?_
            refine zz_iconst d_ST_holds_101 ?_
            refine zz_iand 1 2 d_ST_holds_102 (by decide) (by decide) (by decide) (by decide) ?_
            refine zz_if_eq (tgt := 110) d_ST_holds_103 (by decide) (by omega) (fun c113 => ?_) (fun c113 => ?_)
            · refine zz_iconst d_ST_holds_110 ?_
              refine zz_bret rfl (by decide) d_ST_holds_111 ?_
              rw [hQ]; exact (Or.inr ⟨rfl, rfl, (by exact fun q => absurd ((HSc_0 (by omega)).mp q) (by omega))⟩)
            · refine zz_iconst d_ST_holds_106 ?_
              refine ab_goto (tgt := 111) d_ST_holds_107 (by decide) ?_
              refine zz_bret rfl (by decide) d_ST_holds_111 ?_
              rw [hQ]; exact (Or.inl ⟨rfl, rfl, (by exact (HSc_0 (by omega)).mpr (by omega))⟩)
          replace c112 : nzq as_ 0 := c112
          by_cases c114 : as_ = 1
          · refine zz_tableIn (off := 47) (tgt := 112) d_ST_holds_65 (by omega) (by omega) (by omega) (by rw [c114]; decide) (by decide) ?_
            refine ab_iload_n d_ST_holds_112 rfl ?_
            refine zz_if_ne (tgt := 120) d_ST_holds_113 (by decide) (by omega) (fun c115 => ?_) (fun c115 => absurd c115 (by omega))
            refine zz_iconst d_ST_holds_120 ?_
            refine zz_bret rfl (by decide) d_ST_holds_121 ?_
            rw [hQ]; exact (Or.inr ⟨rfl, rfl, (by exact fun q => absurd ((HSc_1 (by omega)).mp q) (by omega))⟩)
          replace c114 : nzq as_ 1 := c114
          by_cases c116 : as_ = 2
          · refine zz_tableIn (off := 57) (tgt := 122) d_ST_holds_65 (by omega) (by omega) (by omega) (by rw [c116]; decide) (by decide) ?_
            refine ab_iload_n d_ST_holds_122 rfl ?_
            refine zz_iconst d_ST_holds_123 ?_
            refine zz_iand 2 4 d_ST_holds_124 (by decide) (by decide) (by decide) (by decide) ?_
            refine zz_if_eq (tgt := 132) d_ST_holds_125 (by decide) (by omega) (fun c117 => ?_) (fun c117 => ?_)
            · refine zz_iconst d_ST_holds_132 ?_
              refine zz_bret rfl (by decide) d_ST_holds_133 ?_
              rw [hQ]; exact (Or.inr ⟨rfl, rfl, (by exact fun q => absurd ((HSc_2 (by omega)).mp q) (by omega))⟩)
            · refine zz_iconst d_ST_holds_128 ?_
              refine ab_goto (tgt := 133) d_ST_holds_129 (by decide) ?_
              refine zz_bret rfl (by decide) d_ST_holds_133 ?_
              rw [hQ]; exact (Or.inl ⟨rfl, rfl, (by exact (HSc_2 (by omega)).mpr (by omega))⟩)
          replace c116 : nzq as_ 2 := c116
          by_cases c118 : as_ = 3
          · refine zz_tableIn (off := 69) (tgt := 134) d_ST_holds_65 (by omega) (by omega) (by omega) (by rw [c118]; decide) (by decide) ?_
            refine ab_iload_n d_ST_holds_134 rfl ?_
            refine zz_if_eq (tgt := 143) d_ST_holds_135 (by decide) (by omega) (fun c119 => absurd c119 (by omega)) (fun c119 => ?_)
            refine ab_iload d_ST_holds_138 rfl ?_
            refine zz_if_eq (tgt := 147) d_ST_holds_140 (by decide) (by decide) (fun c120 => absurd c120 (by decide)) (fun c120 => ?_)
            refine zz_iconst d_ST_holds_143 ?_
            refine ab_goto (tgt := 148) d_ST_holds_144 (by decide) ?_
            refine zz_bret rfl (by decide) d_ST_holds_148 ?_
            rw [hQ]; exact (Or.inl ⟨rfl, rfl, (by exact (HSc_3 (by omega)).mpr (by omega))⟩)
          replace c118 : nzq as_ 3 := c118
          by_cases c121 : as_ = 4
          · refine zz_tableIn (off := 84) (tgt := 149) d_ST_holds_65 (by omega) (by omega) (by omega) (by rw [c121]; decide) (by decide) ?_
            refine ab_iload d_ST_holds_149 rfl ?_
            refine ab_iload d_ST_holds_151 rfl ?_
            refine zz_icmp_eq (tgt := 160) d_ST_holds_153 (by decide) (by decide) (by decide) (fun c122 => absurd c122 (by decide)) (fun c122 => ?_)
            refine zz_iconst d_ST_holds_156 ?_
            refine ab_goto (tgt := 161) d_ST_holds_157 (by decide) ?_
            refine zz_bret rfl (by decide) d_ST_holds_161 ?_
            rw [hQ]; exact (Or.inl ⟨rfl, rfl, (by exact (HSc_4 (by omega)).mpr (fun q => hbw_ (q.mpr hwo_)))⟩)
          replace c121 : nzq as_ 4 := c121
          by_cases c124 : 0 ≤ as_ ∧ as_ ≤ 4
          · have hsw : ∀ m : Nat, m < 5 → ¬ m ∈ ([0, 1, 2, 3, 4] : List Nat) → (#[35, 47, 57, 69, 84] : Array Int)[m]? = some 97 := by decide
            refine zz_tableIn (off := 97) (tgt := 162) d_ST_holds_65 (by omega) (by omega) (by omega) (hsw _ (by omega) (fun e => by simp only [List.mem_cons, List.not_mem_nil, or_false] at e; rcases e with e | e | e | e | e; (exact c112 (by omega)); (exact c114 (by omega)); (exact c116 (by omega)); (exact c118 (by omega)); (exact c121 (by omega)))) (by decide) ?_
            refine ab_iload d_ST_holds_162 rfl ?_
            refine ab_iload d_ST_holds_164 rfl ?_
            refine zz_icmp_ne (tgt := 173) d_ST_holds_166 (by decide) (by decide) (by decide) (fun c125 => ?_) (fun c125 => absurd c125 (by decide))
            refine zz_iconst d_ST_holds_173 ?_
            refine zz_bret rfl (by decide) d_ST_holds_174 ?_
            rw [hQ]; exact (Or.inr ⟨rfl, rfl, (by exact fun q => (fun q => hbw_ (q.mpr hwo_)) ((HSc_5 (by first | omega | (simp only [nzq] at *; omega))).mp q))⟩)
          · refine zz_tableOut (tgt := 162) d_ST_holds_65 (by omega) (by omega) (by decide) ?_
            refine ab_iload d_ST_holds_162 rfl ?_
            refine ab_iload d_ST_holds_164 rfl ?_
            refine zz_icmp_ne (tgt := 173) d_ST_holds_166 (by decide) (by decide) (by decide) (fun c126 => ?_) (fun c126 => absurd c126 (by decide))
            refine zz_iconst d_ST_holds_173 ?_
            refine zz_bret rfl (by decide) d_ST_holds_174 ?_
            rw [hQ]; exact (Or.inr ⟨rfl, rfl, (by exact fun q => (fun q => hbw_ (q.mpr hwo_)) ((HSc_5 (by first | omega | (simp only [nzq] at *; omega))).mp q))⟩)
        · refine zz_iconst d_ST_holds_57 ?_
          refine ab_goto (tgt := 62) d_ST_holds_58 (by decide) ?_
          refine ab_istore d_ST_holds_62 (Nat.le_of_ble_eq_true rfl) (Nat.le_of_ble_eq_true rfl) rfl ?_
          change ab_W _ _ _ G 64 [some (vR a), some (vz as_), some (vz ah), some (vz sg), some (vz 1), some (vz 1), some (vz 1)] [] _
          have hcd_ : cdG CU sg = CU (sg - 5) := cdG_hi (by omega)
          have hlf_ : cdG CU sg = 10 := by omega
          have hwo_ : isW (cdG CU sg) := by rw [hcd_]; assumption
          have hbw_ : ah / 4 % 2 = 1 := by omega
          refine ab_iload_n d_ST_holds_64 rfl ?_
          by_cases c127 : as_ = 0
          · refine zz_tableIn (off := 35) (tgt := 100) d_ST_holds_65 (by omega) (by omega) (by omega) (by rw [c127]; decide) (by decide) ?_
            refine ab_iload_n d_ST_holds_100 rfl ?_
            refine zz_iconst d_ST_holds_101 ?_
            refine zz_iand 1 2 d_ST_holds_102 (by decide) (by decide) (by decide) (by decide) ?_
            refine zz_if_eq (tgt := 110) d_ST_holds_103 (by decide) (by omega) (fun c128 => ?_) (fun c128 => ?_)
            · refine zz_iconst d_ST_holds_110 ?_
              refine zz_bret rfl (by decide) d_ST_holds_111 ?_
              rw [hQ]; exact (Or.inr ⟨rfl, rfl, (by exact fun q => absurd ((HSc_0 (by omega)).mp q) (by omega))⟩)
            · refine zz_iconst d_ST_holds_106 ?_
              refine ab_goto (tgt := 111) d_ST_holds_107 (by decide) ?_
              refine zz_bret rfl (by decide) d_ST_holds_111 ?_
              rw [hQ]; exact (Or.inl ⟨rfl, rfl, (by exact (HSc_0 (by omega)).mpr (by omega))⟩)
          replace c127 : nzq as_ 0 := c127
          by_cases c129 : as_ = 1
          · refine zz_tableIn (off := 47) (tgt := 112) d_ST_holds_65 (by omega) (by omega) (by omega) (by rw [c129]; decide) (by decide) ?_
            refine ab_iload_n d_ST_holds_112 rfl ?_
            refine zz_if_ne (tgt := 120) d_ST_holds_113 (by decide) (by omega) (fun c130 => ?_) (fun c130 => absurd c130 (by omega))
            refine zz_iconst d_ST_holds_120 ?_
            refine zz_bret rfl (by decide) d_ST_holds_121 ?_
            rw [hQ]; exact (Or.inr ⟨rfl, rfl, (by exact fun q => absurd ((HSc_1 (by omega)).mp q) (by omega))⟩)
          replace c129 : nzq as_ 1 := c129
          by_cases c131 : as_ = 2
          · refine zz_tableIn (off := 57) (tgt := 122) d_ST_holds_65 (by omega) (by omega) (by omega) (by rw [c131]; decide) (by decide) ?_
            refine ab_iload_n d_ST_holds_122 rfl ?_
            refine zz_iconst d_ST_holds_123 ?_
            refine zz_iand 2 4 d_ST_holds_124 (by decide) (by decide) (by decide) (by decide) ?_
            refine zz_if_eq (tgt := 132) d_ST_holds_125 (by decide) (by omega) (fun c132 => ?_) (fun c132 => ?_)
            · refine zz_iconst d_ST_holds_132 ?_
              refine zz_bret rfl (by decide) d_ST_holds_133 ?_
              rw [hQ]; exact (Or.inr ⟨rfl, rfl, (by exact fun q => absurd ((HSc_2 (by omega)).mp q) (by omega))⟩)
            · refine zz_iconst d_ST_holds_128 ?_
              refine ab_goto (tgt := 133) d_ST_holds_129 (by decide) ?_
              refine zz_bret rfl (by decide) d_ST_holds_133 ?_
              rw [hQ]; exact (Or.inl ⟨rfl, rfl, (by exact (HSc_2 (by omega)).mpr (by omega))⟩)
          replace c131 : nzq as_ 2 := c131
          by_cases c133 : as_ = 3
          · refine zz_tableIn (off := 69) (tgt := 134) d_ST_holds_65 (by omega) (by omega) (by omega) (by rw [c133]; decide) (by decide) ?_
            refine ab_iload_n d_ST_holds_134 rfl ?_
            refine zz_if_eq (tgt := 143) d_ST_holds_135 (by decide) (by omega) (fun c134 => absurd c134 (by omega)) (fun c134 => ?_)
            refine ab_iload d_ST_holds_138 rfl ?_
            refine zz_if_eq (tgt := 147) d_ST_holds_140 (by decide) (by decide) (fun c135 => absurd c135 (by decide)) (fun c135 => ?_)
            refine zz_iconst d_ST_holds_143 ?_
            refine ab_goto (tgt := 148) d_ST_holds_144 (by decide) ?_
            refine zz_bret rfl (by decide) d_ST_holds_148 ?_
            rw [hQ]; exact (Or.inl ⟨rfl, rfl, (by exact (HSc_3 (by omega)).mpr (by omega))⟩)
          replace c133 : nzq as_ 3 := c133
          by_cases c136 : as_ = 4
          · refine zz_tableIn (off := 84) (tgt := 149) d_ST_holds_65 (by omega) (by omega) (by omega) (by rw [c136]; decide) (by decide) ?_
            refine ab_iload d_ST_holds_149 rfl ?_
            refine ab_iload d_ST_holds_151 rfl ?_
            refine zz_icmp_eq (tgt := 160) d_ST_holds_153 (by decide) (by decide) (by decide) (fun c137 => ?_) (fun c137 => absurd c137 (by decide))
            refine zz_iconst d_ST_holds_160 ?_
            refine zz_bret rfl (by decide) d_ST_holds_161 ?_
            rw [hQ]; exact (Or.inr ⟨rfl, rfl, (by exact fun q => ((HSc_4 (by omega)).mp q) ⟨fun _ => hwo_, fun _ => hbw_⟩)⟩)
          replace c136 : nzq as_ 4 := c136
          by_cases c139 : 0 ≤ as_ ∧ as_ ≤ 4
          · have hsw : ∀ m : Nat, m < 5 → ¬ m ∈ ([0, 1, 2, 3, 4] : List Nat) → (#[35, 47, 57, 69, 84] : Array Int)[m]? = some 97 := by decide
            refine zz_tableIn (off := 97) (tgt := 162) d_ST_holds_65 (by omega) (by omega) (by omega) (hsw _ (by omega) (fun e => by simp only [List.mem_cons, List.not_mem_nil, or_false] at e; rcases e with e | e | e | e | e; (exact c127 (by omega)); (exact c129 (by omega)); (exact c131 (by omega)); (exact c133 (by omega)); (exact c136 (by omega)))) (by decide) ?_
            refine ab_iload d_ST_holds_162 rfl ?_
            refine ab_iload d_ST_holds_164 rfl ?_
            refine zz_icmp_ne (tgt := 173) d_ST_holds_166 (by decide) (by decide) (by decide) (fun c140 => absurd c140 (by decide)) (fun c140 => ?_)
            refine zz_iconst d_ST_holds_169 ?_
            refine ab_goto (tgt := 174) d_ST_holds_170 (by decide) ?_
            refine zz_bret rfl (by decide) d_ST_holds_174 ?_
            rw [hQ]; exact (Or.inl ⟨rfl, rfl, (by exact (HSc_5 (by first | omega | (simp only [nzq] at *; omega))).mpr ⟨fun _ => hwo_, fun _ => hbw_⟩)⟩)
          · refine zz_tableOut (tgt := 162) d_ST_holds_65 (by omega) (by omega) (by decide) ?_
            refine ab_iload d_ST_holds_162 rfl ?_
            refine ab_iload d_ST_holds_164 rfl ?_
            refine zz_icmp_ne (tgt := 173) d_ST_holds_166 (by decide) (by decide) (by decide) (fun c141 => absurd c141 (by decide)) (fun c141 => ?_)
            refine zz_iconst d_ST_holds_169 ?_
            refine ab_goto (tgt := 174) d_ST_holds_170 (by decide) ?_
            refine zz_bret rfl (by decide) d_ST_holds_174 ?_
            rw [hQ]; exact (Or.inl ⟨rfl, rfl, (by exact (HSc_5 (by first | omega | (simp only [nzq] at *; omega))).mpr ⟨fun _ => hwo_, fun _ => hbw_⟩)⟩)
      · cases hv
        rw [hGe]
        change ab_W _ _ _ G 41 [some (vR a), some (vz as_), some (vz ah), some (vz sg), some (vz 1), none, none] [vz 0] _
        refine zz_if_eq (tgt := 48) d_ST_holds_41 (by decide) (by decide) (fun c142 => ?_) (fun c142 => absurd c142 (by decide))
        refine zz_iconst d_ST_holds_48 ?_
        refine ab_istore d_ST_holds_49 (Nat.le_of_ble_eq_true rfl) (Nat.le_of_ble_eq_true rfl) rfl ?_
        change ab_W _ _ _ G 51 [some (vR a), some (vz as_), some (vz ah), some (vz sg), some (vz 1), some (vz 0), none] [] _
        refine ab_iload_n d_ST_holds_51 rfl ?_
        refine zz_iconst d_ST_holds_52 ?_
        refine zz_iand5 (c := 4) 2 d_ST_holds_53 (by decide) (by decide) (by decide) (by omega) ?_
        refine zz_if_eq (tgt := 61) d_ST_holds_54 (by decide) (by omega) (fun c143 => ?_) (fun c143 => ?_)
        · refine zz_iconst d_ST_holds_61 ?_
          refine ab_istore d_ST_holds_62 (Nat.le_of_ble_eq_true rfl) (Nat.le_of_ble_eq_true rfl) rfl ?_
          change ab_W _ _ _ G 64 [some (vR a), some (vz as_), some (vz ah), some (vz sg), some (vz 1), some (vz 0), some (vz 0)] [] _
          have hcd_ : cdG CU sg = CU (sg - 5) := cdG_hi (by omega)
          have hlf_ : cdG CU sg = 10 := by omega
          have hwo_ : ¬ isW (cdG CU sg) := by rw [hcd_]; assumption
          have hbw_ : ¬ ah / 4 % 2 = 1 := by omega
          refine ab_iload_n d_ST_holds_64 rfl ?_
          by_cases c144 : as_ = 0
          · refine zz_tableIn (off := 35) (tgt := 100) d_ST_holds_65 (by omega) (by omega) (by omega) (by rw [c144]; decide) (by decide) ?_
            refine ab_iload_n d_ST_holds_100 rfl ?_
            refine zz_iconst d_ST_holds_101 ?_
            refine zz_iand 1 2 d_ST_holds_102 (by decide) (by decide) (by decide) (by decide) ?_
            refine zz_if_eq (tgt := 110) d_ST_holds_103 (by decide) (by omega) (fun c145 => ?_) (fun c145 => ?_)
            · refine zz_iconst d_ST_holds_110 ?_
              refine zz_bret rfl (by decide) d_ST_holds_111 ?_
              rw [hQ]; exact (Or.inr ⟨rfl, rfl, (by exact fun q => absurd ((HSc_0 (by omega)).mp q) (by omega))⟩)
            · refine zz_iconst d_ST_holds_106 ?_
              refine ab_goto (tgt := 111) d_ST_holds_107 (by decide) ?_
              refine zz_bret rfl (by decide) d_ST_holds_111 ?_
              rw [hQ]; exact (Or.inl ⟨rfl, rfl, (by exact (HSc_0 (by omega)).mpr (by omega))⟩)
          replace c144 : nzq as_ 0 := c144
          by_cases c146 : as_ = 1
          · refine zz_tableIn (off := 47) (tgt := 112) d_ST_holds_65 (by omega) (by omega) (by omega) (by rw [c146]; decide) (by decide) ?_
            refine ab_iload_n d_ST_holds_112 rfl ?_
            refine zz_if_ne (tgt := 120) d_ST_holds_113 (by decide) (by omega) (fun c147 => ?_) (fun c147 => absurd c147 (by omega))
            refine zz_iconst d_ST_holds_120 ?_
            refine zz_bret rfl (by decide) d_ST_holds_121 ?_
            rw [hQ]; exact (Or.inr ⟨rfl, rfl, (by exact fun q => absurd ((HSc_1 (by omega)).mp q) (by omega))⟩)
          replace c146 : nzq as_ 1 := c146
          by_cases c148 : as_ = 2
          · refine zz_tableIn (off := 57) (tgt := 122) d_ST_holds_65 (by omega) (by omega) (by omega) (by rw [c148]; decide) (by decide) ?_
            refine ab_iload_n d_ST_holds_122 rfl ?_
            refine zz_iconst d_ST_holds_123 ?_
            refine zz_iand 2 4 d_ST_holds_124 (by decide) (by decide) (by decide) (by decide) ?_
            refine zz_if_eq (tgt := 132) d_ST_holds_125 (by decide) (by omega) (fun c149 => ?_) (fun c149 => ?_)
            · refine zz_iconst d_ST_holds_132 ?_
              refine zz_bret rfl (by decide) d_ST_holds_133 ?_
              rw [hQ]; exact (Or.inr ⟨rfl, rfl, (by exact fun q => absurd ((HSc_2 (by omega)).mp q) (by omega))⟩)
            · refine zz_iconst d_ST_holds_128 ?_
              refine ab_goto (tgt := 133) d_ST_holds_129 (by decide) ?_
              refine zz_bret rfl (by decide) d_ST_holds_133 ?_
              rw [hQ]; exact (Or.inl ⟨rfl, rfl, (by exact (HSc_2 (by omega)).mpr (by omega))⟩)
          replace c148 : nzq as_ 2 := c148
          by_cases c150 : as_ = 3
          · refine zz_tableIn (off := 69) (tgt := 134) d_ST_holds_65 (by omega) (by omega) (by omega) (by rw [c150]; decide) (by decide) ?_
            refine ab_iload_n d_ST_holds_134 rfl ?_
            refine zz_if_eq (tgt := 143) d_ST_holds_135 (by decide) (by omega) (fun c151 => absurd c151 (by omega)) (fun c151 => ?_)
            refine ab_iload d_ST_holds_138 rfl ?_
            refine zz_if_eq (tgt := 147) d_ST_holds_140 (by decide) (by decide) (fun c152 => absurd c152 (by decide)) (fun c152 => ?_)
            refine zz_iconst d_ST_holds_143 ?_
            refine ab_goto (tgt := 148) d_ST_holds_144 (by decide) ?_
            refine zz_bret rfl (by decide) d_ST_holds_148 ?_
            rw [hQ]; exact (Or.inl ⟨rfl, rfl, (by exact (HSc_3 (by omega)).mpr (by omega))⟩)
          replace c150 : nzq as_ 3 := c150
          by_cases c153 : as_ = 4
          · refine zz_tableIn (off := 84) (tgt := 149) d_ST_holds_65 (by omega) (by omega) (by omega) (by rw [c153]; decide) (by decide) ?_
            refine ab_iload d_ST_holds_149 rfl ?_
            refine ab_iload d_ST_holds_151 rfl ?_
            refine zz_icmp_eq (tgt := 160) d_ST_holds_153 (by decide) (by decide) (by decide) (fun c154 => ?_) (fun c154 => absurd c154 (by decide))
            refine zz_iconst d_ST_holds_160 ?_
            refine zz_bret rfl (by decide) d_ST_holds_161 ?_
            rw [hQ]; exact (Or.inr ⟨rfl, rfl, (by exact fun q => ((HSc_4 (by omega)).mp q) ⟨fun q => absurd q hbw_, fun q => absurd q hwo_⟩)⟩)
          replace c153 : nzq as_ 4 := c153
          by_cases c156 : 0 ≤ as_ ∧ as_ ≤ 4
          · have hsw : ∀ m : Nat, m < 5 → ¬ m ∈ ([0, 1, 2, 3, 4] : List Nat) → (#[35, 47, 57, 69, 84] : Array Int)[m]? = some 97 := by decide
            refine zz_tableIn (off := 97) (tgt := 162) d_ST_holds_65 (by omega) (by omega) (by omega) (hsw _ (by omega) (fun e => by simp only [List.mem_cons, List.not_mem_nil, or_false] at e; rcases e with e | e | e | e | e; (exact c144 (by omega)); (exact c146 (by omega)); (exact c148 (by omega)); (exact c150 (by omega)); (exact c153 (by omega)))) (by decide) ?_
            refine ab_iload d_ST_holds_162 rfl ?_
            refine ab_iload d_ST_holds_164 rfl ?_
            refine zz_icmp_ne (tgt := 173) d_ST_holds_166 (by decide) (by decide) (by decide) (fun c157 => absurd c157 (by decide)) (fun c157 => ?_)
            refine zz_iconst d_ST_holds_169 ?_
            refine ab_goto (tgt := 174) d_ST_holds_170 (by decide) ?_
            refine zz_bret rfl (by decide) d_ST_holds_174 ?_
            rw [hQ]; exact (Or.inl ⟨rfl, rfl, (by exact (HSc_5 (by first | omega | (simp only [nzq] at *; omega))).mpr ⟨fun q => absurd q hbw_, fun q => absurd q hwo_⟩)⟩)
          · refine zz_tableOut (tgt := 162) d_ST_holds_65 (by omega) (by omega) (by decide) ?_
            refine ab_iload d_ST_holds_162 rfl ?_
            refine ab_iload d_ST_holds_164 rfl ?_
            refine zz_icmp_ne (tgt := 173) d_ST_holds_166 (by decide) (by decide) (by decide) (fun c158 => absurd c158 (by decide)) (fun c158 => ?_)
            refine zz_iconst d_ST_holds_169 ?_
            refine ab_goto (tgt := 174) d_ST_holds_170 (by decide) ?_
            refine zz_bret rfl (by decide) d_ST_holds_174 ?_
            rw [hQ]; exact (Or.inl ⟨rfl, rfl, (by exact (HSc_5 (by first | omega | (simp only [nzq] at *; omega))).mpr ⟨fun q => absurd q hbw_, fun q => absurd q hwo_⟩)⟩)
        · refine zz_iconst d_ST_holds_57 ?_
          refine ab_goto (tgt := 62) d_ST_holds_58 (by decide) ?_
          refine ab_istore d_ST_holds_62 (Nat.le_of_ble_eq_true rfl) (Nat.le_of_ble_eq_true rfl) rfl ?_
          change ab_W _ _ _ G 64 [some (vR a), some (vz as_), some (vz ah), some (vz sg), some (vz 1), some (vz 0), some (vz 1)] [] _
          have hcd_ : cdG CU sg = CU (sg - 5) := cdG_hi (by omega)
          have hlf_ : cdG CU sg = 10 := by omega
          have hwo_ : ¬ isW (cdG CU sg) := by rw [hcd_]; assumption
          have hbw_ : ah / 4 % 2 = 1 := by omega
          refine ab_iload_n d_ST_holds_64 rfl ?_
          by_cases c159 : as_ = 0
          · refine zz_tableIn (off := 35) (tgt := 100) d_ST_holds_65 (by omega) (by omega) (by omega) (by rw [c159]; decide) (by decide) ?_
            refine ab_iload_n d_ST_holds_100 rfl ?_
            refine zz_iconst d_ST_holds_101 ?_
            refine zz_iand 1 2 d_ST_holds_102 (by decide) (by decide) (by decide) (by decide) ?_
            refine zz_if_eq (tgt := 110) d_ST_holds_103 (by decide) (by omega) (fun c160 => ?_) (fun c160 => ?_)
            · refine zz_iconst d_ST_holds_110 ?_
              refine zz_bret rfl (by decide) d_ST_holds_111 ?_
              rw [hQ]; exact (Or.inr ⟨rfl, rfl, (by exact fun q => absurd ((HSc_0 (by omega)).mp q) (by omega))⟩)
            · refine zz_iconst d_ST_holds_106 ?_
              refine ab_goto (tgt := 111) d_ST_holds_107 (by decide) ?_
              refine zz_bret rfl (by decide) d_ST_holds_111 ?_
              rw [hQ]; exact (Or.inl ⟨rfl, rfl, (by exact (HSc_0 (by omega)).mpr (by omega))⟩)
          replace c159 : nzq as_ 0 := c159
          by_cases c161 : as_ = 1
          · refine zz_tableIn (off := 47) (tgt := 112) d_ST_holds_65 (by omega) (by omega) (by omega) (by rw [c161]; decide) (by decide) ?_
            refine ab_iload_n d_ST_holds_112 rfl ?_
            refine zz_if_ne (tgt := 120) d_ST_holds_113 (by decide) (by omega) (fun c162 => ?_) (fun c162 => absurd c162 (by omega))
            refine zz_iconst d_ST_holds_120 ?_
            refine zz_bret rfl (by decide) d_ST_holds_121 ?_
            rw [hQ]; exact (Or.inr ⟨rfl, rfl, (by exact fun q => absurd ((HSc_1 (by omega)).mp q) (by omega))⟩)
          replace c161 : nzq as_ 1 := c161
          by_cases c163 : as_ = 2
          · refine zz_tableIn (off := 57) (tgt := 122) d_ST_holds_65 (by omega) (by omega) (by omega) (by rw [c163]; decide) (by decide) ?_
            refine ab_iload_n d_ST_holds_122 rfl ?_
            refine zz_iconst d_ST_holds_123 ?_
            refine zz_iand 2 4 d_ST_holds_124 (by decide) (by decide) (by decide) (by decide) ?_
            refine zz_if_eq (tgt := 132) d_ST_holds_125 (by decide) (by omega) (fun c164 => ?_) (fun c164 => ?_)
            · refine zz_iconst d_ST_holds_132 ?_
              refine zz_bret rfl (by decide) d_ST_holds_133 ?_
              rw [hQ]; exact (Or.inr ⟨rfl, rfl, (by exact fun q => absurd ((HSc_2 (by omega)).mp q) (by omega))⟩)
            · refine zz_iconst d_ST_holds_128 ?_
              refine ab_goto (tgt := 133) d_ST_holds_129 (by decide) ?_
              refine zz_bret rfl (by decide) d_ST_holds_133 ?_
              rw [hQ]; exact (Or.inl ⟨rfl, rfl, (by exact (HSc_2 (by omega)).mpr (by omega))⟩)
          replace c163 : nzq as_ 2 := c163
          by_cases c165 : as_ = 3
          · refine zz_tableIn (off := 69) (tgt := 134) d_ST_holds_65 (by omega) (by omega) (by omega) (by rw [c165]; decide) (by decide) ?_
            refine ab_iload_n d_ST_holds_134 rfl ?_
            refine zz_if_eq (tgt := 143) d_ST_holds_135 (by decide) (by omega) (fun c166 => absurd c166 (by omega)) (fun c166 => ?_)
            refine ab_iload d_ST_holds_138 rfl ?_
            refine zz_if_eq (tgt := 147) d_ST_holds_140 (by decide) (by decide) (fun c167 => absurd c167 (by decide)) (fun c167 => ?_)
            refine zz_iconst d_ST_holds_143 ?_
            refine ab_goto (tgt := 148) d_ST_holds_144 (by decide) ?_
            refine zz_bret rfl (by decide) d_ST_holds_148 ?_
            rw [hQ]; exact (Or.inl ⟨rfl, rfl, (by exact (HSc_3 (by omega)).mpr (by omega))⟩)
          replace c165 : nzq as_ 3 := c165
          by_cases c168 : as_ = 4
          · refine zz_tableIn (off := 84) (tgt := 149) d_ST_holds_65 (by omega) (by omega) (by omega) (by rw [c168]; decide) (by decide) ?_
            refine ab_iload d_ST_holds_149 rfl ?_
            refine ab_iload d_ST_holds_151 rfl ?_
            refine zz_icmp_eq (tgt := 160) d_ST_holds_153 (by decide) (by decide) (by decide) (fun c169 => absurd c169 (by decide)) (fun c169 => ?_)
            refine zz_iconst d_ST_holds_156 ?_
            refine ab_goto (tgt := 161) d_ST_holds_157 (by decide) ?_
            refine zz_bret rfl (by decide) d_ST_holds_161 ?_
            rw [hQ]; exact (Or.inl ⟨rfl, rfl, (by exact (HSc_4 (by omega)).mpr (fun q => hwo_ (q.mp hbw_)))⟩)
          replace c168 : nzq as_ 4 := c168
          by_cases c171 : 0 ≤ as_ ∧ as_ ≤ 4
          · have hsw : ∀ m : Nat, m < 5 → ¬ m ∈ ([0, 1, 2, 3, 4] : List Nat) → (#[35, 47, 57, 69, 84] : Array Int)[m]? = some 97 := by decide
            refine zz_tableIn (off := 97) (tgt := 162) d_ST_holds_65 (by omega) (by omega) (by omega) (hsw _ (by omega) (fun e => by simp only [List.mem_cons, List.not_mem_nil, or_false] at e; rcases e with e | e | e | e | e; (exact c159 (by omega)); (exact c161 (by omega)); (exact c163 (by omega)); (exact c165 (by omega)); (exact c168 (by omega)))) (by decide) ?_
            refine ab_iload d_ST_holds_162 rfl ?_
            refine ab_iload d_ST_holds_164 rfl ?_
            refine zz_icmp_ne (tgt := 173) d_ST_holds_166 (by decide) (by decide) (by decide) (fun c172 => ?_) (fun c172 => absurd c172 (by decide))
            refine zz_iconst d_ST_holds_173 ?_
            refine zz_bret rfl (by decide) d_ST_holds_174 ?_
            rw [hQ]; exact (Or.inr ⟨rfl, rfl, (by exact fun q => (fun q => hwo_ (q.mp hbw_)) ((HSc_5 (by first | omega | (simp only [nzq] at *; omega))).mp q))⟩)
          · refine zz_tableOut (tgt := 162) d_ST_holds_65 (by omega) (by omega) (by decide) ?_
            refine ab_iload d_ST_holds_162 rfl ?_
            refine ab_iload d_ST_holds_164 rfl ?_
            refine zz_icmp_ne (tgt := 173) d_ST_holds_166 (by decide) (by decide) (by decide) (fun c173 => ?_) (fun c173 => absurd c173 (by decide))
            refine zz_iconst d_ST_holds_173 ?_
            refine zz_bret rfl (by decide) d_ST_holds_174 ?_
            rw [hQ]; exact (Or.inr ⟨rfl, rfl, (by exact fun q => (fun q => hwo_ (q.mp hbw_)) ((HSc_5 (by first | omega | (simp only [nzq] at *; omega))).mp q))⟩)
set_option maxRecDepth 100000 in
set_option maxHeartbeats 4000000 in
theorem z_ST_takeSign {X : ab_X} {d : Nat} {o : Nat → Nat} {G : ab_G} {a : Nat} {cu : Nat} {eg : Nat} {po : Nat} {bg : Nat} {bd : Nat} {sd : Nat} {se_ : Nat} {stk : Nat} {mst : Int} {vr : Int} {ro : Int} {cn : Int} {ct : Int} {sc : Int} {sta : Int} {arv : Int} {stp : Int} {CU : Int → Int} {SD : Int → Int} {SE : Int → Int} {q : Nat} {lq : Nat} {ki : Nat} {ne : Nat} {ot : Nat} {cnt : Int} {fi : Int} {la : Int} {ra : Nat} {ru : Int} {gr : Int} {wi : Int} {sz : Int} {fl : Int} {ve : Int} {mi : Int} {na : Nat} {nl : Nat} {K : Int → Int} {N : Int → Int} {O : Int → Int} {RR : Int → Int} {nr : Nat} {KT : Int → Int} {NT : Int → Int} {OT : Int → Int} {RT : Int → Int} {sg : Int} {x : Int} (ha : cc o G a 60 (ab_ob 8 [vz mst, vR q, vz vr, vz ro, vR cu, vz cn, vR eg, vR po, vR bg, vR bd, vz ct, vR sd, vz sc, vR se_, vz sta, vR stk, vz arv, vj stp])) (hcu : cc o G cu 61 (za 120 CU)) (hsd : cc o G sd 66 (za 2048 SD)) (hse_ : cc o G se_ 67 (za 3072 SE)) (hq : cc o G q lq (ab_ob 5 [vR ki, vR ne, vR ot, vz cnt, vz fi, vz la, vR ra, vz ru, vz gr, vz wi, vz sz, vz fl, vz ve, vz mi, vR na, vR nl])) (hki : cc o G ki (lq + 1) (za 808 K)) (hne : cc o G ne (lq + 2) (za 808 N)) (hot : cc o G ot (lq + 3) (za 808 O)) (hra : cc o G ra (lq + 4) (za nr RR)) (cc0 : 0 ≤ cn ∧ cn ≤ 120) (jcu : rgs CU 120 0 1114112) (csg : 0 ≤ sg ∧ sg ≤ cn + 4) (cq : 100 ≤ lq ∧ 0 ≤ cnt ∧ cnt ≤ 808 ∧ ↑nr ≤ (100000 : Int)) (hp : prok K N O RR cnt ↑nr wi) (hr : ∀ k : Int, 0 ≤ k → k < ↑nr → 0 ≤ RR k ∧ RR k ≤ 1114111) (cx : 0 ≤ x ∧ x < cnt ∧ K x ≤ 2) (csc : 0 ≤ sc ∧ sc ≤ 2048) (jsd : ents SD sc cnt) (csta : 0 ≤ sta ∧ sta ≤ 2000000000) (jse : rgs SE 3072 0 sta) (jsq : sdQ SE sta SD sc) (hT : trQ K N O RR cnt ru KT NT OT RT) (hpu : prok K N O RR cnt ru wi) (hd : 2 ≤ d) : ab_F X d y_ST_takeSign (.code y_ST_takeSign b_ST_takeSign 4 none) [vR a, vz x, vz sg] G (fun oc G2 => ∃ sc2 : Int, ∃ SD2 : Int → Int, ∃ SE2 : Int → Int, oc = .returned none ∧ fx o o [60, 66, 67] G G2 ∧ G2.length = G.length ∧ ab_slots G2 = ab_slots G ∧ cc o G2 a 60 (ab_ob 8 [vz mst, vR q, vz vr, vz ro, vR cu, vz cn, vR eg, vR po, vR bg, vR bd, vz ct, vR sd, vz sc2, vR se_, vz sta, vR stk, vz arv, vj stp]) ∧ cc o G2 sd 66 (za 2048 SD2) ∧ cc o G2 se_ 67 (za 3072 SE2) ∧ (0 ≤ sc2 ∧ sc2 ≤ 2048) ∧ (ents SD2 sc2 cnt) ∧ (rgs SE2 3072 0 sta) ∧ (sdQ SE2 sta SD2 sc2) ∧ (TSR KT NT OT RT CU sg x SE SD sc SE2 SD2 sc2) ∧ (scw SE sta ≤ scw SE2 sta)) := by
  refine ab_F_of (by decide +kernel) (Nat.le_of_ble_eq_true rfl) ?_
  obtain ⟨Q, hQ⟩ : ∃ z : Outcome → ab_G → Prop, z = (fun oc G2 => ∃ sc2 : Int, ∃ SD2 : Int → Int, ∃ SE2 : Int → Int, oc = .returned none ∧ fx o o [60, 66, 67] G G2 ∧ G2.length = G.length ∧ ab_slots G2 = ab_slots G ∧ cc o G2 a 60 (ab_ob 8 [vz mst, vR q, vz vr, vz ro, vR cu, vz cn, vR eg, vR po, vR bg, vR bd, vz ct, vR sd, vz sc2, vR se_, vz sta, vR stk, vz arv, vj stp]) ∧ cc o G2 sd 66 (za 2048 SD2) ∧ cc o G2 se_ 67 (za 3072 SE2) ∧ (0 ≤ sc2 ∧ sc2 ≤ 2048) ∧ (ents SD2 sc2 cnt) ∧ (rgs SE2 3072 0 sta) ∧ (sdQ SE2 sta SD2 sc2) ∧ (TSR KT NT OT RT CU sg x SE SD sc SE2 SD2 sc2) ∧ (scw SE sta ≤ scw SE2 sta)) := ⟨_, rfl⟩
  rw [← hQ]
  change ab_W X (ab_pl y_ST_takeSign b_ST_takeSign 4 none) d G 0 [some (vR a), some (vz x), some (vz sg), none] [] Q
  have hfr : fx o o [60, 66, 67] G G := fx.rf
  have hlen : G.length = G.length := rfl
  have hsl : ab_slots G = ab_slots G := rfl
  refine ab_aload_n d_ST_takeSign_0 rfl ?_
  refine ab_getf (fs := [vz mst, vR q, vz vr, vz ro, vR cu, vz cn, vR eg, vR po, vR bg, vR bd, vz ct, vR sd, vz sc, vR se_, vz sta, vR stk, vz arv, vj stp]) f_ST_74 d_ST_takeSign_1 ha.2.2 rfl ?_
  refine ab_getf (fs := [vR ki, vR ne, vR ot, vz cnt, vz fi, vz la, vR ra, vz ru, vz gr, vz wi, vz sz, vz fl, vz ve, vz mi, vR na, vR nl]) f_ST_95 d_ST_takeSign_4 hq.2.2 rfl ?_
  refine ab_iload_n d_ST_takeSign_7 rfl ?_
  refine zz_iald d_ST_takeSign_8 hki (by omega) ?_
  have hq1 := hp.k x (by omega) (by omega)
  refine zz_iconst d_ST_takeSign_9 ?_
  refine zz_icmp_ne (tgt := 31) d_ST_takeSign_10 (by decide) (by omega) (by decide) (fun c2 => ?_) (fun c2 => ?_)
  · refine ab_iload_n d_ST_takeSign_31 rfl ?_
    refine zz_iconst d_ST_takeSign_32 ?_
    refine zz_icmp_ge (tgt := 40) d_ST_takeSign_33 (by decide) (by omega) (by decide) (fun c3 => ?_) (fun c3 => ?_)
    · refine ab_aload_n d_ST_takeSign_40 rfl ?_
      refine ab_getf (fs := [vz mst, vR q, vz vr, vz ro, vR cu, vz cn, vR eg, vR po, vR bg, vR bd, vz ct, vR sd, vz sc, vR se_, vz sta, vR stk, vz arv, vj stp]) f_ST_15 d_ST_takeSign_41 ha.2.2 rfl ?_
      refine ab_iload_n d_ST_takeSign_44 rfl ?_
      refine zz_iconst d_ST_takeSign_45 ?_
      refine zz_isub d_ST_takeSign_46 ?_
      refine zz_iald d_ST_takeSign_47 hcu (by omega) ?_
      have hq4 := jcu (sg - 5) (by omega) (by omega)
      refine ab_istore_n d_ST_takeSign_48 (Nat.le_of_ble_eq_true rfl) (Nat.le_of_ble_eq_true rfl) rfl ?_
      change ab_W _ _ _ G 49 [some (vR a), some (vz x), some (vz sg), some (vz (CU (sg - 5)))] [] _
      refine ab_iload_n d_ST_takeSign_49 rfl ?_
      refine zz_iconst d_ST_takeSign_50 ?_
      refine zz_icmp_eq (tgt := 94) d_ST_takeSign_51 (by decide) (by omega) (by decide) (fun c5 => absurd c5 (by omega)) (fun c5 => ?_)
      refine ab_aload_n d_ST_takeSign_54 rfl ?_
      refine ab_getf (fs := [vz mst, vR q, vz vr, vz ro, vR cu, vz cn, vR eg, vR po, vR bg, vR bd, vz ct, vR sd, vz sc, vR se_, vz sta, vR stk, vz arv, vj stp]) f_ST_74 d_ST_takeSign_55 ha.2.2 rfl ?_
      refine ab_iload_n d_ST_takeSign_58 rfl ?_
      refine ab_iload_n d_ST_takeSign_59 rfl ?_
      refine ab_callV (d' := d - 1) (as := [vz x, vz (CU (sg - 5))]) (st := []) (r := _) (z_PR_has (o := o) (q := q) (lq := lq) (ki := ki) (ne := ne) (ot := ot) (cnt := cnt) (fi := fi) (la := la) (ra := ra) (ru := ru) (gr := gr) (wi := wi) (sz := sz) (fl := fl) (ve := ve) (mi := mi) (na := na) (nl := nl) (K := K) (O := O) (RR := RR) (nr := nr) (x := x) (c := (CU (sg - 5))) hq hki hot hra (by omega) (by omega) hp hr) (fun oc G2 h => by rcases h with ⟨h, _⟩ | ⟨h, _⟩ <;> exact ⟨_, h⟩) (by omega) m_PR_has ml_ST_172 im_PR_has se_PR_has c_PR hq.2.2 (Nat.le_of_ble_eq_true rfl) d_ST_takeSign_60 rfl ?_
      intro v G6 hq
      rcases hq with ⟨hv, hfk, hlk, hsk, hq7⟩ | ⟨hv, hfk, hlk, hsk, hq8⟩
      · cases hv
        have ha := hfk.get ha (by decide)
        have hcu := hfk.get hcu (by decide)
        have hsd := hfk.get hsd (by decide)
        have hse_ := hfk.get hse_ (by decide)
        have hq := hfk.get hq (by simp)
        have hki := hfk.get hki (by simp)
        have hne := hfk.get hne (by simp)
        have hot := hfk.get hot (by simp)
        have hra := hfk.get hra (by simp)
        have hfr := hfr.tr hfk (by decide)
        have hlen := hlk.trans hlen
        have hsl := hsk.trans hsl
        change ab_W _ _ _ G6 63 [some (vR a), some (vz x), some (vz sg), some (vz (CU (sg - 5)))] [vz 1] _
        refine zz_if_eq (tgt := 94) d_ST_takeSign_63 (by decide) (by decide) (fun c9 => absurd c9 (by decide)) (fun c9 => ?_)
        refine ab_aload_n d_ST_takeSign_66 rfl ?_
        refine ab_iload_n d_ST_takeSign_67 rfl ?_
        refine zz_sipush d_ST_takeSign_68 (by decide) ?_
        refine zz_icmp_ge (tgt := 86) d_ST_takeSign_71 (by decide) (by omega) (by decide) (fun c10 => ?_) (fun c10 => ?_)
        · refine ab_iload_n d_ST_takeSign_86 rfl ?_
          refine zz_sipush d_ST_takeSign_87 (by decide) ?_
          refine zz_iadd d_ST_takeSign_90 ?_
          refine ab_callV (d' := d - 1) (as := [vz (x + 1024)]) (st := []) (r := _) (z_ST_addSeed (o := o) (a := a) (cu := cu) (eg := eg) (po := po) (bg := bg) (bd := bd) (sd := sd) (se_ := se_) (stk := stk) (mst := mst) (q0 := vR q) (vr := vr) (ro := ro) (cn := cn) (ct := ct) (sc := sc) (sta := sta) (arv := arv) (stp := stp) (SD := SD) (SE := SE) (e_ := (x + 1024)) ha hsd hse_ (by omega) (by omega) jsd (by omega) jse jsq) (fun oc G2 h => by rcases h with ⟨_, _, _, h, _⟩ <;> exact ⟨_, h⟩) (by omega) m_ST_addSeed ml_ST_132 im_ST_addSeed se_ST_addSeed c_ST ha.2.2 (Nat.le_of_ble_eq_true rfl) d_ST_takeSign_91 rfl ?_
          intro v G11 hq
          rcases hq with ⟨sc212, SD213, SE214, hv, hfk, hlk, hsk, hNa, hNsd, hNse_, hq15, hq16, hq17, hq18, hq19, hq20⟩
          cases hv
          have hcu := hfk.get hcu (by decide)
          have hq := hfk.get hq (by simp only [List.mem_cons, List.not_mem_nil, or_false]; omega)
          have hki := hfk.get hki (by simp only [List.mem_cons, List.not_mem_nil, or_false]; omega)
          have hne := hfk.get hne (by simp only [List.mem_cons, List.not_mem_nil, or_false]; omega)
          have hot := hfk.get hot (by simp only [List.mem_cons, List.not_mem_nil, or_false]; omega)
          have hra := hfk.get hra (by simp only [List.mem_cons, List.not_mem_nil, or_false]; omega)
          have hfr := hfr.tr hfk (by decide)
          have hlen := hlk.trans hlen
          have hsl := hsk.trans hsl
          have ha := hNa
          have hsd := hNsd
          have hse_ := hNse_
          change ab_W _ _ _ G11 94 [some (vR a), some (vz x), some (vz sg), some (vz (CU (sg - 5)))] [] _
          refine ab_vret rfl d_ST_takeSign_94 ?_
          rw [hQ]; exact ⟨_, _, _, rfl, hfr, hlen, hsl, ha, hsd, hse_, (by omega), (by exact hq16), (by exact hq17), (by exact hq18), (by first | exact tS_a hT hpu (by omega) (by omega) (by omega) (by omega) hq7 (by omega) hq19 | exact tS_b hT hpu (by omega) (by omega) (by omega) (by omega) hq7 (by omega) hq19), (by omega)⟩
        · refine ab_aload_n d_ST_takeSign_74 rfl ?_
          refine ab_getf (fs := [vz mst, vR q, vz vr, vz ro, vR cu, vz cn, vR eg, vR po, vR bg, vR bd, vz ct, vR sd, vz sc, vR se_, vz sta, vR stk, vz arv, vj stp]) f_ST_74 d_ST_takeSign_75 ha.2.2 rfl ?_
          refine ab_getf (fs := [vR ki, vR ne, vR ot, vz cnt, vz fi, vz la, vR ra, vz ru, vz gr, vz wi, vz sz, vz fl, vz ve, vz mi, vR na, vR nl]) f_ST_155 d_ST_takeSign_78 hq.2.2 rfl ?_
          refine ab_iload_n d_ST_takeSign_81 rfl ?_
          refine zz_iald d_ST_takeSign_82 hne (by omega) ?_
          have hq21 := hp.n x (by omega) (by omega)
          refine ab_goto (tgt := 91) d_ST_takeSign_83 (by decide) ?_
          refine ab_callV (d' := d - 1) (as := [vz (N x)]) (st := []) (r := _) (z_ST_addSeed (o := o) (a := a) (cu := cu) (eg := eg) (po := po) (bg := bg) (bd := bd) (sd := sd) (se_ := se_) (stk := stk) (mst := mst) (q0 := vR q) (vr := vr) (ro := ro) (cn := cn) (ct := ct) (sc := sc) (sta := sta) (arv := arv) (stp := stp) (SD := SD) (SE := SE) (e_ := (N x)) ha hsd hse_ (by omega) (by omega) jsd (by omega) jse jsq) (fun oc G2 h => by rcases h with ⟨_, _, _, h, _⟩ <;> exact ⟨_, h⟩) (by omega) m_ST_addSeed ml_ST_132 im_ST_addSeed se_ST_addSeed c_ST ha.2.2 (Nat.le_of_ble_eq_true rfl) d_ST_takeSign_91 rfl ?_
          intro v G22 hq
          rcases hq with ⟨sc223, SD224, SE225, hv, hfk, hlk, hsk, hNa, hNsd, hNse_, hq26, hq27, hq28, hq29, hq30, hq31⟩
          cases hv
          have hcu := hfk.get hcu (by decide)
          have hq := hfk.get hq (by simp only [List.mem_cons, List.not_mem_nil, or_false]; omega)
          have hki := hfk.get hki (by simp only [List.mem_cons, List.not_mem_nil, or_false]; omega)
          have hne := hfk.get hne (by simp only [List.mem_cons, List.not_mem_nil, or_false]; omega)
          have hot := hfk.get hot (by simp only [List.mem_cons, List.not_mem_nil, or_false]; omega)
          have hra := hfk.get hra (by simp only [List.mem_cons, List.not_mem_nil, or_false]; omega)
          have hfr := hfr.tr hfk (by decide)
          have hlen := hlk.trans hlen
          have hsl := hsk.trans hsl
          have ha := hNa
          have hsd := hNsd
          have hse_ := hNse_
          change ab_W _ _ _ G22 94 [some (vR a), some (vz x), some (vz sg), some (vz (CU (sg - 5)))] [] _
          refine ab_vret rfl d_ST_takeSign_94 ?_
          rw [hQ]; exact ⟨_, _, _, rfl, hfr, hlen, hsl, ha, hsd, hse_, (by omega), (by exact hq27), (by exact hq28), (by exact hq29), (by first | exact tS_a hT hpu (by omega) (by omega) (by omega) (by omega) hq7 (by omega) hq30 | exact tS_b hT hpu (by omega) (by omega) (by omega) (by omega) hq7 (by omega) hq30), (by omega)⟩
      · cases hv
        have ha := hfk.get ha (by decide)
        have hcu := hfk.get hcu (by decide)
        have hsd := hfk.get hsd (by decide)
        have hse_ := hfk.get hse_ (by decide)
        have hq := hfk.get hq (by simp)
        have hki := hfk.get hki (by simp)
        have hne := hfk.get hne (by simp)
        have hot := hfk.get hot (by simp)
        have hra := hfk.get hra (by simp)
        have hfr := hfr.tr hfk (by decide)
        have hlen := hlk.trans hlen
        have hsl := hsk.trans hsl
        change ab_W _ _ _ G6 63 [some (vR a), some (vz x), some (vz sg), some (vz (CU (sg - 5)))] [vz 0] _
        refine zz_if_eq (tgt := 94) d_ST_takeSign_63 (by decide) (by decide) (fun c32 => ?_) (fun c32 => absurd c32 (by decide))
        refine ab_vret rfl d_ST_takeSign_94 ?_
        rw [hQ]; exact ⟨_, _, _, rfl, hfr, hlen, hsl, ha, hsd, hse_, (by omega), (by exact jsd), (by exact jse), (by exact jsq), (by exact tS_h hT hpu (by omega) (by omega) (by omega) hq8), (by omega)⟩
    · refine zz_iconst d_ST_takeSign_36 ?_
      refine ab_goto (tgt := 48) d_ST_takeSign_37 (by decide) ?_
      refine ab_istore_n d_ST_takeSign_48 (Nat.le_of_ble_eq_true rfl) (Nat.le_of_ble_eq_true rfl) rfl ?_
      change ab_W _ _ _ G 49 [some (vR a), some (vz x), some (vz sg), some (vz (-1))] [] _
      refine ab_iload_n d_ST_takeSign_49 rfl ?_
      refine zz_iconst d_ST_takeSign_50 ?_
      refine zz_icmp_eq (tgt := 94) d_ST_takeSign_51 (by decide) (by decide) (by decide) (fun c33 => ?_) (fun c33 => absurd c33 (by decide))
      refine ab_vret rfl d_ST_takeSign_94 ?_
      rw [hQ]; exact ⟨_, _, _, rfl, hfr, hlen, hsl, ha, hsd, hse_, (by omega), (by exact jsd), (by exact jse), (by exact jsq), (by first | exact tS_1n hT (by omega) (by omega) (by omega) | exact tS_c hT (by omega) (by omega) (by omega)), (by omega)⟩
  · refine ab_iload_n d_ST_takeSign_13 rfl ?_
    refine zz_if_eq (tgt := 30) d_ST_takeSign_14 (by decide) (by omega) (fun c34 => ?_) (fun c34 => ?_)
    · refine ab_vret rfl d_ST_takeSign_30 ?_
      rw [hQ]; exact ⟨_, _, _, rfl, hfr, hlen, hsl, ha, hsd, hse_, (by omega), (by exact jsd), (by exact jse), (by exact jsq), (by first | exact tS_1n hT (by omega) (by omega) (by omega) | exact tS_c hT (by omega) (by omega) (by omega)), (by omega)⟩
    · refine ab_aload_n d_ST_takeSign_17 rfl ?_
      refine ab_aload_n d_ST_takeSign_18 rfl ?_
      refine ab_getf (fs := [vz mst, vR q, vz vr, vz ro, vR cu, vz cn, vR eg, vR po, vR bg, vR bd, vz ct, vR sd, vz sc, vR se_, vz sta, vR stk, vz arv, vj stp]) f_ST_74 d_ST_takeSign_19 ha.2.2 rfl ?_
      refine ab_getf (fs := [vR ki, vR ne, vR ot, vz cnt, vz fi, vz la, vR ra, vz ru, vz gr, vz wi, vz sz, vz fl, vz ve, vz mi, vR na, vR nl]) f_ST_155 d_ST_takeSign_22 hq.2.2 rfl ?_
      refine ab_iload_n d_ST_takeSign_25 rfl ?_
      refine zz_iald d_ST_takeSign_26 hne (by omega) ?_
      have hq35 := hp.n x (by omega) (by omega)
      refine ab_callV (d' := d - 1) (as := [vz (N x)]) (st := []) (r := _) (z_ST_addSeed (o := o) (a := a) (cu := cu) (eg := eg) (po := po) (bg := bg) (bd := bd) (sd := sd) (se_ := se_) (stk := stk) (mst := mst) (q0 := vR q) (vr := vr) (ro := ro) (cn := cn) (ct := ct) (sc := sc) (sta := sta) (arv := arv) (stp := stp) (SD := SD) (SE := SE) (e_ := (N x)) ha hsd hse_ (by omega) (by omega) jsd (by omega) jse jsq) (fun oc G2 h => by rcases h with ⟨_, _, _, h, _⟩ <;> exact ⟨_, h⟩) (by omega) m_ST_addSeed ml_ST_132 im_ST_addSeed se_ST_addSeed c_ST ha.2.2 (Nat.le_of_ble_eq_true rfl) d_ST_takeSign_27 rfl ?_
      intro v G36 hq
      rcases hq with ⟨sc237, SD238, SE239, hv, hfk, hlk, hsk, hNa, hNsd, hNse_, hq40, hq41, hq42, hq43, hq44, hq45⟩
      cases hv
      have hcu := hfk.get hcu (by decide)
      have hq := hfk.get hq (by simp only [List.mem_cons, List.not_mem_nil, or_false]; omega)
      have hki := hfk.get hki (by simp only [List.mem_cons, List.not_mem_nil, or_false]; omega)
      have hne := hfk.get hne (by simp only [List.mem_cons, List.not_mem_nil, or_false]; omega)
      have hot := hfk.get hot (by simp only [List.mem_cons, List.not_mem_nil, or_false]; omega)
      have hra := hfk.get hra (by simp only [List.mem_cons, List.not_mem_nil, or_false]; omega)
      have hfr := hfr.tr hfk (by decide)
      have hlen := hlk.trans hlen
      have hsl := hsk.trans hsl
      have ha := hNa
      have hsd := hNsd
      have hse_ := hNse_
      change ab_W _ _ _ G36 30 [some (vR a), some (vz x), some (vz sg), none] [] _
      refine ab_vret rfl d_ST_takeSign_30 ?_
      rw [hQ]; exact ⟨_, _, _, rfl, hfr, hlen, hsl, ha, hsd, hse_, (by omega), (by exact hq41), (by exact hq42), (by exact hq43), (by exact tS_1 hT (by omega) (by omega) (by omega) hq44), (by omega)⟩
set_option maxRecDepth 100000 in
set_option maxHeartbeats 4000000 in
theorem y_ST_follow_13 {X : ab_X} {d : Nat} {Q : Outcome → ab_G → Prop} {o : Nat → Nat} {G0 : ab_G} {a : Nat} {cu : Nat} {eg : Nat} {po : Nat} {bg : Nat} {bd : Nat} {sd : Nat} {se_ : Nat} {stk : Nat} {mst : Int} {vr : Int} {ro : Int} {cn : Int} {ct : Int} {sta : Int} {CU : Int → Int} {q : Nat} {lq : Nat} {ki : Nat} {ne : Nat} {ot : Nat} {cnt : Int} {fi : Int} {la : Int} {ra : Nat} {ru : Int} {gr : Int} {wi : Int} {sz : Int} {fl : Int} {ve : Int} {mi : Int} {na : Nat} {nl : Nat} {K : Int → Int} {N : Int → Int} {O : Int → Int} {RR : Int → Int} {nr : Nat} {KT : Int → Int} {NT : Int → Int} {OT : Int → Int} {RT : Int → Int} {sg : Int} {ah : Int} {v0 : Int} {P9 : Int → Prop} {Z0 : Int → Prop} {st0 : Int} {SE0 : Int → Int} (cc0 : 0 ≤ cn ∧ cn ≤ 120) (jcu : rgs CU 120 0 1114112) (csg : 0 ≤ sg ∧ sg ≤ cn + 4) (cq : 100 ≤ lq ∧ 0 ≤ cnt ∧ cnt ≤ 808 ∧ ↑nr ≤ (100000 : Int)) (hp : prok K N O RR cnt ↑nr wi) (hr : ∀ k : Int, 0 ≤ k → k < ↑nr → 0 ≤ RR k ∧ RR k ≤ 1114111) (cah : 0 ≤ ah ∧ ah ≤ 7) (hT : trQ K N O RR cnt ru KT NT OT RT) (hpu : prok K N O RR cnt ru wi) (ck9 : K 0 = 9) (csta : 0 ≤ sta ∧ sta ≤ 2000000000) (cv0 : 0 ≤ v0) (hd : 3 ≤ d) : ∀ (mz : Nat) {G : ab_G} {sc : Int} {arv : Int} {stp : Int} {SD : Int → Int} {SE : Int → Int} {SK : Int → Int} {dp : Int} {tu : Int}, (cc o G a 60 (ab_ob 8 [vz mst, vR q, vz vr, vz ro, vR cu, vz cn, vR eg, vR po, vR bg, vR bd, vz ct, vR sd, vz sc, vR se_, vz sta, vR stk, vz arv, vj stp])) → (cc o G cu 61 (za 120 CU)) → (cc o G sd 66 (za 2048 SD)) → (cc o G se_ 67 (za 3072 SE)) → (cc o G stk 68 (za 809 SK)) → (cc o G q lq (ab_ob 5 [vR ki, vR ne, vR ot, vz cnt, vz fi, vz la, vR ra, vz ru, vz gr, vz wi, vz sz, vz fl, vz ve, vz mi, vR na, vR nl])) → (cc o G ki (lq + 1) (za 808 K)) → (cc o G ne (lq + 2) (za 808 N)) → (cc o G ot (lq + 3) (za 808 O)) → (cc o G ra (lq + 4) (za nr RR)) → (0 ≤ dp ∧ dp ≤ 809 ∧ 0 ≤ tu ∧ tu ≤ 1616) → (sks SK dp cnt) → (0 ≤ sc ∧ sc ≤ 2048) → (ents SD sc cnt) → (0 ≤ arv ∧ arv ≤ 1) → (rgs SE 3072 0 sta) → (sdQ SE sta SD sc) → (FLJ KT NT OT RT CU sg ah P9 Z0 SE SK SD sta dp sc arv) → (tu + dp + 2 * v0 ≤ 1 + 2 * viN SE sta 807 ∧ dp + v0 ≤ 1 + viN SE sta 807) → (st0 ≤ stp ∧ stp + scw SE0 sta ≤ st0 + scw SE sta) → (fx o o [60, 66, 67, 68] G0 G) → (G.length = G0.length) → (ab_slots G = ab_slots G0) → (Int.toNat (1616 - tu) < mz) → (∀ (G2 : ab_G) (sc2 : Int) (st2 : Int) (ar2 : Int) (SD2 : Int → Int) (SE2 : Int → Int) (SK2 : Int → Int), (cc o G2 a 60 (ab_ob 8 [vz mst, vR q, vz vr, vz ro, vR cu, vz cn, vR eg, vR po, vR bg, vR bd, vz ct, vR sd, vz sc2, vR se_, vz sta, vR stk, vz ar2, vj st2])) → (cc o G2 sd 66 (za 2048 SD2)) → (cc o G2 se_ 67 (za 3072 SE2)) → (cc o G2 stk 68 (za 809 SK2)) → (0 ≤ sc2 ∧ sc2 ≤ 2048 ∧ 0 ≤ ar2 ∧ ar2 ≤ 1) → (ents SD2 sc2 cnt) → (rgs SE2 3072 0 sta) → (sdQ SE2 sta SD2 sc2) → (FLJ KT NT OT RT CU sg ah P9 Z0 SE2 SK2 SD2 sta 0 sc2 ar2) → (st0 ≤ st2 ∧ st2 + scw SE0 sta ≤ st0 + scw SE2 sta) → (fx o o [60, 66, 67, 68] G0 G2) → (G2.length = G0.length) → (ab_slots G2 = ab_slots G0) → Q (.returned none) G2) → ab_W X (ab_pl y_ST_follow b_ST_follow 8 none) d G 13 [some (vR a), none, some (vz ah), some (vz sg), some (vz dp), some (vz tu), none, none] [] Q := by
  intro mz
  induction mz with
  | zero => intro G sc arv stp SD SE SK dp tu ha hcu hsd hse_ hstk hq hki hne hot hra ci jsk csc jsd car jse jsq jfl jvn hst9 hfr hlen hsl hm hk0; exact absurd hm (Nat.not_lt_zero _)
  | succ mz ih =>
    intro G sc arv stp SD SE SK dp tu ha hcu hsd hse_ hstk hq hki hne hot hra ci jsk csc jsd car jse jsq jfl jvn hst9 hfr hlen hsl hm hk0
    have hvb_ := viN_b (SE := SE) (sta := sta) 807
    refine ab_iload d_ST_follow_13 rfl ?_
    refine zz_sipush d_ST_follow_15 (by decide) ?_
    refine zz_icmp_ge (tgt := 214) d_ST_follow_18 (by decide) (by omega) (by decide) (fun c1 => absurd c1 (by omega)) (fun c1 => ?_)
    refine ab_iload d_ST_follow_21 rfl ?_
    refine zz_if_le (tgt := 214) d_ST_follow_23 (by decide) (by omega) (fun c2 => ?_) (fun c2 => ?_)
    · refine ab_vret rfl d_ST_follow_214 ?_
      exact hk0 _ _ _ _ _ _ _ ha hsd hse_ hstk (by omega) (by exact jsd) (by exact jse) (by exact jsq) (by exact (show dp = 0 by omega) ▸ jfl) (by omega) hfr hlen hsl
    · refine zz_iinc d_ST_follow_26 rfl (Nat.le_of_ble_eq_true rfl) (Nat.le_of_ble_eq_true rfl) rfl ?_
      change ab_W _ _ _ G 29 [some (vR a), none, some (vz ah), some (vz sg), some (vz (dp + (-1))), some (vz tu), none, none] [] _
      refine ab_aload_n d_ST_follow_29 rfl ?_
      refine ab_getf (fs := [vz mst, vR q, vz vr, vz ro, vR cu, vz cn, vR eg, vR po, vR bg, vR bd, vz ct, vR sd, vz sc, vR se_, vz sta, vR stk, vz arv, vj stp]) f_ST_37 d_ST_follow_30 ha.2.2 rfl ?_
      refine ab_iload d_ST_follow_33 rfl ?_
      refine zz_iald d_ST_follow_35 hstk (by omega) ?_
      have hs0 := jsk (dp + (-1)) (by omega) (by omega)
      obtain ⟨x_, hx_⟩ : ∃ z : Int, z = SK (dp + (-1)) := ⟨_, rfl⟩
      rw [← hx_]
      rw [← hx_] at hs0
      change ab_W _ _ _ G 36 [some (vR a), none, some (vz ah), some (vz sg), some (vz (dp + (-1))), some (vz tu), none, none] [vz x_] _
      refine ab_istore d_ST_follow_36 (Nat.le_of_ble_eq_true rfl) (Nat.le_of_ble_eq_true rfl) rfl ?_
      change ab_W _ _ _ G 38 [some (vR a), none, some (vz ah), some (vz sg), some (vz (dp + (-1))), some (vz tu), some (vz x_), none] [] _
      refine ab_aload_n d_ST_follow_38 rfl ?_
      refine ab_getf (fs := [vz mst, vR q, vz vr, vz ro, vR cu, vz cn, vR eg, vR po, vR bg, vR bd, vz ct, vR sd, vz sc, vR se_, vz sta, vR stk, vz arv, vj stp]) f_ST_34 d_ST_follow_39 ha.2.2 rfl ?_
      refine ab_iload d_ST_follow_42 rfl ?_
      refine zz_iald d_ST_follow_44 hse_ (by omega) ?_
      have hq3 := jse x_ (by omega) (by omega)
      refine ab_aload_n d_ST_follow_45 rfl ?_
      refine ab_getf (fs := [vz mst, vR q, vz vr, vz ro, vR cu, vz cn, vR eg, vR po, vR bg, vR bd, vz ct, vR sd, vz sc, vR se_, vz sta, vR stk, vz arv, vj stp]) f_ST_123 d_ST_follow_46 ha.2.2 rfl ?_
      refine zz_icmp_ne (tgt := 55) d_ST_follow_49 (by decide) (by omega) (by omega) (fun c4 => ?_) (fun c4 => ?_)
      · refine ab_aload_n d_ST_follow_55 rfl ?_
        refine ab_dup d_ST_follow_56 rfl ?_
        refine ab_getf (fs := [vz mst, vR q, vz vr, vz ro, vR cu, vz cn, vR eg, vR po, vR bg, vR bd, vz ct, vR sd, vz sc, vR se_, vz sta, vR stk, vz arv, vj stp]) f_ST_56 d_ST_follow_57 ha.2.2 rfl ?_
        refine zz_lconst d_ST_follow_60 ?_
        change ab_W _ _ _ G 61 [some (vR a), none, some (vz ah), some (vz sg), some (vz (dp + (-1))), some (vz tu), some (vz x_), none] [vj 1, vj stp, vR a] _
        refine zz_ladd d_ST_follow_61 ?_
        refine ab_putf (fs := [vz mst, vR q, vz vr, vz ro, vR cu, vz cn, vR eg, vR po, vR bg, vR bd, vz ct, vR sd, vz sc, vR se_, vz sta, vR stk, vz arv, vj stp]) f_ST_56 (Or.inl rfl) d_ST_follow_62 ha.2.2 (Nat.le_of_ble_eq_true rfl) (fun _ => ⟨rfl, rfl⟩) (ha.2.1 (by decide)) ?_
        obtain ⟨G5, eG5⟩ : ∃ z : ab_G, z = List.set G a (ab_ob 8 [vz mst, vR q, vz vr, vz ro, vR cu, vz cn, vR eg, vR po, vR bg, vR bd, vz ct, vR sd, vz sc, vR se_, vz sta, vR stk, vz arv, vj (stp + 1)]) := ⟨_, rfl⟩
        have hcu := hcu.keep ha eG5 (by decide)
        have hsd := hsd.keep ha eG5 (by decide)
        have hse_ := hse_.keep ha eG5 (by decide)
        have hstk := hstk.keep ha eG5 (by decide)
        have hq := hq.keep ha eG5 (by omega)
        have hki := hki.keep ha eG5 (by omega)
        have hne := hne.keep ha eG5 (by omega)
        have hot := hot.keep ha eG5 (by omega)
        have hra := hra.keep ha eG5 (by omega)
        have hlen := (z_len eG5).trans hlen
        have hsl := (z_sl ha eG5 rfl).trans hsl
        have hfr := hfr.wr ha eG5 (by decide)
        have ha := ha.kept eG5
        change ab_W _ _ _ (List.set G a (ab_ob 8 [vz mst, vR q, vz vr, vz ro, vR cu, vz cn, vR eg, vR po, vR bg, vR bd, vz ct, vR sd, vz sc, vR se_, vz sta, vR stk, vz arv, vj (stp + 1)])) 65 [some (vR a), none, some (vz ah), some (vz sg), some (vz (dp + (-1))), some (vz tu), some (vz x_), none] [] _
        rw [← eG5]
        refine ab_aload_n d_ST_follow_65 rfl ?_
        refine ab_getf (fs := [vz mst, vR q, vz vr, vz ro, vR cu, vz cn, vR eg, vR po, vR bg, vR bd, vz ct, vR sd, vz sc, vR se_, vz sta, vR stk, vz arv, vj (stp + 1)]) f_ST_34 d_ST_follow_66 ha.2.2 rfl ?_
        refine ab_iload d_ST_follow_69 rfl ?_
        refine ab_aload_n d_ST_follow_71 rfl ?_
        refine ab_getf (fs := [vz mst, vR q, vz vr, vz ro, vR cu, vz cn, vR eg, vR po, vR bg, vR bd, vz ct, vR sd, vz sc, vR se_, vz sta, vR stk, vz arv, vj (stp + 1)]) f_ST_123 d_ST_follow_72 ha.2.2 rfl ?_
        refine zz_iast d_ST_follow_75 hse_ (by omega) (hse_.2.1 (by decide)) ?_
        obtain ⟨G6, eG6⟩ : ∃ z : ab_G, z = List.set G5 se_ (za 3072 (zu SE x_ sta)) := ⟨_, rfl⟩
        have ha := ha.keep hse_ eG6 (by decide)
        have hcu := hcu.keep hse_ eG6 (by decide)
        have hsd := hsd.keep hse_ eG6 (by decide)
        have hstk := hstk.keep hse_ eG6 (by decide)
        have hq := hq.keep hse_ eG6 (by omega)
        have hki := hki.keep hse_ eG6 (by omega)
        have hne := hne.keep hse_ eG6 (by omega)
        have hot := hot.keep hse_ eG6 (by omega)
        have hra := hra.keep hse_ eG6 (by omega)
        have hlen := (z_len eG6).trans hlen
        have hsl := (z_sl hse_ eG6 rfl).trans hsl
        have hfr := hfr.wr hse_ eG6 (by decide)
        have hse_ := hse_.kept eG6
        change ab_W _ _ _ (List.set G5 se_ (za 3072 (zu SE x_ sta))) 76 [some (vR a), none, some (vz ah), some (vz sg), some (vz (dp + (-1))), some (vz tu), some (vz x_), none] [] _
        rw [← eG6]
        have hsc_ := scw_zu (F := SE) (i := x_) (v := sta) (by omega) (fun z_ => absurd ((z_eq (by omega) (by omega)).mp z_) (by omega))
        have hvm_ := viN_m (SE := SE) (sta := sta) (x := x_) (by omega)
        refine ab_aload_n d_ST_follow_76 rfl ?_
        refine ab_getf (fs := [vz mst, vR q, vz vr, vz ro, vR cu, vz cn, vR eg, vR po, vR bg, vR bd, vz ct, vR sd, vz sc, vR se_, vz sta, vR stk, vz arv, vj (stp + 1)]) f_ST_74 d_ST_follow_77 ha.2.2 rfl ?_
        refine ab_getf (fs := [vR ki, vR ne, vR ot, vz cnt, vz fi, vz la, vR ra, vz ru, vz gr, vz wi, vz sz, vz fl, vz ve, vz mi, vR na, vR nl]) f_ST_95 d_ST_follow_80 hq.2.2 rfl ?_
        refine ab_iload d_ST_follow_83 rfl ?_
        refine zz_iald d_ST_follow_85 hki (by omega) ?_
        have hq7 := hp.k x_ (by omega) (by omega)
        refine ab_istore d_ST_follow_86 (Nat.le_of_ble_eq_true rfl) (Nat.le_of_ble_eq_true rfl) rfl ?_
        change ab_W _ _ _ G6 88 [some (vR a), none, some (vz ah), some (vz sg), some (vz (dp + (-1))), some (vz tu), some (vz x_), some (vz (K x_))] [] _
        refine ab_iload d_ST_follow_88 rfl ?_
        refine zz_iconst d_ST_follow_90 ?_
        refine zz_icmp_gt (tgt := 104) d_ST_follow_91 (by decide) (by omega) (by decide) (fun c8 => ?_) (fun c8 => ?_)
        · refine ab_iload d_ST_follow_104 rfl ?_
          refine zz_bipush d_ST_follow_106 (by decide) ?_
          refine zz_icmp_ne (tgt := 119) d_ST_follow_108 (by decide) (by omega) (by decide) (fun c9 => ?_) (fun c9 => ?_)
          · refine ab_iload d_ST_follow_119 rfl ?_
            refine zz_bipush d_ST_follow_121 (by decide) ?_
            refine zz_icmp_eq (tgt := 208) d_ST_follow_123 (by decide) (by omega) (by decide) (fun c10 => ?_) (fun c10 => ?_)
            · refine zz_iinc d_ST_follow_208 rfl (Nat.le_of_ble_eq_true rfl) (Nat.le_of_ble_eq_true rfl) rfl ?_
              change ab_W _ _ _ G6 211 [some (vR a), none, some (vz ah), some (vz sg), some (vz (dp + (-1))), some (vz (tu + 1)), some (vz x_), some (vz (K x_))] [] _
              refine ab_goto (tgt := 13) d_ST_follow_211 (by decide) ?_
              refine ab_less (L' := [some (vR a), none, some (vz ah), some (vz sg), some (vz (dp + (-1))), some (vz (tu + 1)), none, none]) (fun i v h => by rcases i with _ | _ | _ | _ | _ | _ | _ | _ | i <;> first | exact h | (simp at h)) ?_
              exact ih (sc := sc) (arv := arv) (stp := (stp + 1)) (SD := SD) (SE := (zu SE x_ sta)) (SK := SK) (dp := (dp + (-1))) (tu := (tu + 1)) ha hcu hsd hse_ hstk hq hki hne hot hra (by omega) (sks_p jsk (by omega)) (by omega) jsd (by omega) (rgs_zu jse (by omega)) (sdQ_v jsq (by omega)) (flK_n jfl (by omega) hx_.symm (by omega) hT (by omega) (Or.inl (by omega))) (by omega) (by omega) hfr hlen hsl (by omega) hk0
            · refine ab_iload d_ST_follow_126 rfl ?_
              refine zz_iconst d_ST_follow_128 ?_
              refine zz_icmp_ne (tgt := 151) d_ST_follow_129 (by decide) (by omega) (by decide) (fun c11 => ?_) (fun c11 => ?_)
              · have hk45_ := (hp x_ (by omega) (by omega)).1
                have hx1_ : 1 ≤ x_ := kx0 ck9 (by omega) (by omega)
                have hvy_ := viN_y (SE := SE) (sta := sta) (x := x_) (by omega) (by omega)
                refine ab_aload_n d_ST_follow_151 rfl ?_
                refine ab_getf (fs := [vz mst, vR q, vz vr, vz ro, vR cu, vz cn, vR eg, vR po, vR bg, vR bd, vz ct, vR sd, vz sc, vR se_, vz sta, vR stk, vz arv, vj (stp + 1)]) f_ST_37 d_ST_follow_152 ha.2.2 rfl ?_
                refine ab_iload d_ST_follow_155 rfl ?_
                refine ab_aload_n d_ST_follow_157 rfl ?_
                refine ab_getf (fs := [vz mst, vR q, vz vr, vz ro, vR cu, vz cn, vR eg, vR po, vR bg, vR bd, vz ct, vR sd, vz sc, vR se_, vz sta, vR stk, vz arv, vj (stp + 1)]) f_ST_74 d_ST_follow_158 ha.2.2 rfl ?_
                refine ab_getf (fs := [vR ki, vR ne, vR ot, vz cnt, vz fi, vz la, vR ra, vz ru, vz gr, vz wi, vz sz, vz fl, vz ve, vz mi, vR na, vR nl]) f_ST_155 d_ST_follow_161 hq.2.2 rfl ?_
                refine ab_iload d_ST_follow_164 rfl ?_
                refine zz_iald d_ST_follow_166 hne (by omega) ?_
                have hq12 := hp.n x_ (by omega) (by omega)
                refine zz_iast d_ST_follow_167 hstk (by omega) (hstk.2.1 (by decide)) ?_
                obtain ⟨G13, eG13⟩ : ∃ z : ab_G, z = List.set G6 stk (za 809 (zu SK (dp + (-1)) (N x_))) := ⟨_, rfl⟩
                have ha := ha.keep hstk eG13 (by decide)
                have hcu := hcu.keep hstk eG13 (by decide)
                have hsd := hsd.keep hstk eG13 (by decide)
                have hse_ := hse_.keep hstk eG13 (by decide)
                have hq := hq.keep hstk eG13 (by omega)
                have hki := hki.keep hstk eG13 (by omega)
                have hne := hne.keep hstk eG13 (by omega)
                have hot := hot.keep hstk eG13 (by omega)
                have hra := hra.keep hstk eG13 (by omega)
                have hlen := (z_len eG13).trans hlen
                have hsl := (z_sl hstk eG13 rfl).trans hsl
                have hfr := hfr.wr hstk eG13 (by decide)
                have hstk := hstk.kept eG13
                change ab_W _ _ _ (List.set G6 stk (za 809 (zu SK (dp + (-1)) (N x_)))) 168 [some (vR a), none, some (vz ah), some (vz sg), some (vz (dp + (-1))), some (vz tu), some (vz x_), some (vz (K x_))] [] _
                rw [← eG13]
                refine zz_iinc d_ST_follow_168 rfl (Nat.le_of_ble_eq_true rfl) (Nat.le_of_ble_eq_true rfl) rfl ?_
                change ab_W _ _ _ G13 171 [some (vR a), none, some (vz ah), some (vz sg), some (vz ((dp + (-1)) + 1)), some (vz tu), some (vz x_), some (vz (K x_))] [] _
                refine ab_iload d_ST_follow_171 rfl ?_
                refine zz_bipush d_ST_follow_173 (by decide) ?_
                refine zz_icmp_ne (tgt := 208) d_ST_follow_175 (by decide) (by omega) (by decide) (fun c14 => ?_) (fun c14 => ?_)
                · refine zz_iinc d_ST_follow_208 rfl (Nat.le_of_ble_eq_true rfl) (Nat.le_of_ble_eq_true rfl) rfl ?_
                  change ab_W _ _ _ G13 211 [some (vR a), none, some (vz ah), some (vz sg), some (vz ((dp + (-1)) + 1)), some (vz (tu + 1)), some (vz x_), some (vz (K x_))] [] _
                  refine ab_goto (tgt := 13) d_ST_follow_211 (by decide) ?_
                  refine ab_less (L' := [some (vR a), none, some (vz ah), some (vz sg), some (vz ((dp + (-1)) + 1)), some (vz (tu + 1)), none, none]) (fun i v h => by rcases i with _ | _ | _ | _ | _ | _ | _ | _ | i <;> first | exact h | (simp at h)) ?_
                  exact ih (sc := sc) (arv := arv) (stp := (stp + 1)) (SD := SD) (SE := (zu SE x_ sta)) (SK := (zu SK (dp + (-1)) (N x_))) (dp := ((dp + (-1)) + 1)) (tu := (tu + 1)) ha hcu hsd hse_ hstk hq hki hne hot hra (by omega) (sks_zu (sks_p jsk (by omega)) (by omega)) (by omega) jsd (by omega) (rgs_zu jse (by omega)) (sdQ_v jsq (by omega)) (flK_1 jfl (by omega) hx_.symm (by omega) hT (by omega) (Or.inl (by omega))) (by omega) (by omega) hfr hlen hsl (by omega) hk0
                · refine ab_iload d_ST_follow_178 rfl ?_
                  refine ab_aload_n d_ST_follow_180 rfl ?_
                  refine ab_getf (fs := [vz mst, vR q, vz vr, vz ro, vR cu, vz cn, vR eg, vR po, vR bg, vR bd, vz ct, vR sd, vz sc, vR se_, vz sta, vR stk, vz arv, vj (stp + 1)]) f_ST_37 d_ST_follow_181 ha.2.2 rfl ?_
                  refine zz_alen d_ST_follow_184 hstk ?_
                  change ab_W _ _ _ G13 185 [some (vR a), none, some (vz ah), some (vz sg), some (vz ((dp + (-1)) + 1)), some (vz tu), some (vz x_), some (vz (K x_))] [vz 809, vz ((dp + (-1)) + 1)] _
                  refine zz_icmp_ge (tgt := 208) d_ST_follow_185 (by decide) (by omega) (by decide) (fun c15 => absurd c15 (by omega)) (fun c15 => ?_)
                  have jo := hp.o6 x_ (by omega) (by omega) (by omega)
                  refine ab_aload_n d_ST_follow_188 rfl ?_
                  refine ab_getf (fs := [vz mst, vR q, vz vr, vz ro, vR cu, vz cn, vR eg, vR po, vR bg, vR bd, vz ct, vR sd, vz sc, vR se_, vz sta, vR stk, vz arv, vj (stp + 1)]) f_ST_37 d_ST_follow_189 ha.2.2 rfl ?_
                  refine ab_iload d_ST_follow_192 rfl ?_
                  refine ab_aload_n d_ST_follow_194 rfl ?_
                  refine ab_getf (fs := [vz mst, vR q, vz vr, vz ro, vR cu, vz cn, vR eg, vR po, vR bg, vR bd, vz ct, vR sd, vz sc, vR se_, vz sta, vR stk, vz arv, vj (stp + 1)]) f_ST_74 d_ST_follow_195 ha.2.2 rfl ?_
                  refine ab_getf (fs := [vR ki, vR ne, vR ot, vz cnt, vz fi, vz la, vR ra, vz ru, vz gr, vz wi, vz sz, vz fl, vz ve, vz mi, vR na, vR nl]) f_ST_98 d_ST_follow_198 hq.2.2 rfl ?_
                  refine ab_iload d_ST_follow_201 rfl ?_
                  refine zz_iald d_ST_follow_203 hot (by omega) ?_
                  refine zz_iast d_ST_follow_204 hstk (by omega) (hstk.2.1 (by decide)) ?_
                  obtain ⟨G16, eG16⟩ : ∃ z : ab_G, z = List.set G13 stk (za 809 (zu (zu SK (dp + (-1)) (N x_)) ((dp + (-1)) + 1) (O x_))) := ⟨_, rfl⟩
                  have ha := ha.keep hstk eG16 (by decide)
                  have hcu := hcu.keep hstk eG16 (by decide)
                  have hsd := hsd.keep hstk eG16 (by decide)
                  have hse_ := hse_.keep hstk eG16 (by decide)
                  have hq := hq.keep hstk eG16 (by omega)
                  have hki := hki.keep hstk eG16 (by omega)
                  have hne := hne.keep hstk eG16 (by omega)
                  have hot := hot.keep hstk eG16 (by omega)
                  have hra := hra.keep hstk eG16 (by omega)
                  have hlen := (z_len eG16).trans hlen
                  have hsl := (z_sl hstk eG16 rfl).trans hsl
                  have hfr := hfr.wr hstk eG16 (by decide)
                  have hstk := hstk.kept eG16
                  change ab_W _ _ _ (List.set G13 stk (za 809 (zu (zu SK (dp + (-1)) (N x_)) ((dp + (-1)) + 1) (O x_)))) 205 [some (vR a), none, some (vz ah), some (vz sg), some (vz ((dp + (-1)) + 1)), some (vz tu), some (vz x_), some (vz (K x_))] [] _
                  rw [← eG16]
                  refine zz_iinc d_ST_follow_205 rfl (Nat.le_of_ble_eq_true rfl) (Nat.le_of_ble_eq_true rfl) rfl ?_
                  change ab_W _ _ _ G16 208 [some (vR a), none, some (vz ah), some (vz sg), some (vz (((dp + (-1)) + 1) + 1)), some (vz tu), some (vz x_), some (vz (K x_))] [] _
                  refine zz_iinc d_ST_follow_208 rfl (Nat.le_of_ble_eq_true rfl) (Nat.le_of_ble_eq_true rfl) rfl ?_
                  change ab_W _ _ _ G16 211 [some (vR a), none, some (vz ah), some (vz sg), some (vz (((dp + (-1)) + 1) + 1)), some (vz (tu + 1)), some (vz x_), some (vz (K x_))] [] _
                  refine ab_goto (tgt := 13) d_ST_follow_211 (by decide) ?_
                  refine ab_less (L' := [some (vR a), none, some (vz ah), some (vz sg), some (vz (((dp + (-1)) + 1) + 1)), some (vz (tu + 1)), none, none]) (fun i v h => by rcases i with _ | _ | _ | _ | _ | _ | _ | _ | i <;> first | exact h | (simp at h)) ?_
                  exact ih (sc := sc) (arv := arv) (stp := (stp + 1)) (SD := SD) (SE := (zu SE x_ sta)) (SK := (zu (zu SK (dp + (-1)) (N x_)) ((dp + (-1)) + 1) (O x_))) (dp := (((dp + (-1)) + 1) + 1)) (tu := (tu + 1)) ha hcu hsd hse_ hstk hq hki hne hot hra (by omega) (sks_zu (sks_zu (sks_p jsk (by omega)) (by omega)) (by omega)) (by omega) jsd (by omega) (rgs_zu jse (by omega)) (sdQ_v jsq (by omega)) (flK_2 jfl (by omega) hx_.symm (by omega) hT (by omega) (by omega)) (by omega) (by omega) hfr hlen hsl (by omega) hk0
              · have jo := hp.o3 x_ (by omega) (by omega) (by omega)
                refine ab_aload_n d_ST_follow_132 rfl ?_
                refine ab_aload_n d_ST_follow_133 rfl ?_
                refine ab_getf (fs := [vz mst, vR q, vz vr, vz ro, vR cu, vz cn, vR eg, vR po, vR bg, vR bd, vz ct, vR sd, vz sc, vR se_, vz sta, vR stk, vz arv, vj (stp + 1)]) f_ST_74 d_ST_follow_134 ha.2.2 rfl ?_
                refine ab_getf (fs := [vR ki, vR ne, vR ot, vz cnt, vz fi, vz la, vR ra, vz ru, vz gr, vz wi, vz sz, vz fl, vz ve, vz mi, vR na, vR nl]) f_ST_98 d_ST_follow_137 hq.2.2 rfl ?_
                refine ab_iload d_ST_follow_140 rfl ?_
                refine zz_iald d_ST_follow_142 hot (by omega) ?_
                refine ab_iload_n d_ST_follow_143 rfl ?_
                refine ab_iload_n d_ST_follow_144 rfl ?_
                refine ab_callV (d' := d - 1) (as := [vz (O x_), vz ah, vz sg]) (st := []) (r := _) (z_ST_holds (o := o) (a := a) (cu := cu) (eg := eg) (po := po) (bg := bg) (bd := bd) (sd := sd) (se_ := se_) (stk := stk) (mst := mst) (q0 := vR q) (vr := vr) (ro := ro) (cn := cn) (ct := ct) (sc := sc) (sta := sta) (arv := arv) (stp := (stp + 1)) (CU := CU) (sg := sg) (ah := ah) (as_ := (O x_)) ha hcu (by omega) jcu (by omega) (by omega) (by omega)) (fun oc G2 h => by rcases h with ⟨h, _⟩ | ⟨h, _⟩ <;> exact ⟨_, h⟩) (by omega) m_ST_holds ml_ST_168 im_ST_holds se_ST_holds c_ST ha.2.2 (Nat.le_of_ble_eq_true rfl) d_ST_follow_145 rfl ?_
                intro v G17 hq
                rcases hq with ⟨hv, hGe, hq18⟩ | ⟨hv, hGe, hq19⟩
                · cases hv
                  rw [hGe]
                  change ab_W _ _ _ G6 148 [some (vR a), none, some (vz ah), some (vz sg), some (vz (dp + (-1))), some (vz tu), some (vz x_), some (vz (K x_))] [vz 1] _
                  refine zz_if_eq (tgt := 208) d_ST_follow_148 (by decide) (by decide) (fun c20 => absurd c20 (by decide)) (fun c20 => ?_)
                  have hk45_ := (hp x_ (by omega) (by omega)).1
                  have hx1_ : 1 ≤ x_ := kx0 ck9 (by omega) (by omega)
                  have hvy_ := viN_y (SE := SE) (sta := sta) (x := x_) (by omega) (by omega)
                  refine ab_aload_n d_ST_follow_151 rfl ?_
                  refine ab_getf (fs := [vz mst, vR q, vz vr, vz ro, vR cu, vz cn, vR eg, vR po, vR bg, vR bd, vz ct, vR sd, vz sc, vR se_, vz sta, vR stk, vz arv, vj (stp + 1)]) f_ST_37 d_ST_follow_152 ha.2.2 rfl ?_
                  refine ab_iload d_ST_follow_155 rfl ?_
                  refine ab_aload_n d_ST_follow_157 rfl ?_
                  refine ab_getf (fs := [vz mst, vR q, vz vr, vz ro, vR cu, vz cn, vR eg, vR po, vR bg, vR bd, vz ct, vR sd, vz sc, vR se_, vz sta, vR stk, vz arv, vj (stp + 1)]) f_ST_74 d_ST_follow_158 ha.2.2 rfl ?_
                  refine ab_getf (fs := [vR ki, vR ne, vR ot, vz cnt, vz fi, vz la, vR ra, vz ru, vz gr, vz wi, vz sz, vz fl, vz ve, vz mi, vR na, vR nl]) f_ST_155 d_ST_follow_161 hq.2.2 rfl ?_
                  refine ab_iload d_ST_follow_164 rfl ?_
                  refine zz_iald d_ST_follow_166 hne (by omega) ?_
                  have hq21 := hp.n x_ (by omega) (by omega)
                  refine zz_iast d_ST_follow_167 hstk (by omega) (hstk.2.1 (by decide)) ?_
                  obtain ⟨G22, eG22⟩ : ∃ z : ab_G, z = List.set G6 stk (za 809 (zu SK (dp + (-1)) (N x_))) := ⟨_, rfl⟩
                  have ha := ha.keep hstk eG22 (by decide)
                  have hcu := hcu.keep hstk eG22 (by decide)
                  have hsd := hsd.keep hstk eG22 (by decide)
                  have hse_ := hse_.keep hstk eG22 (by decide)
                  have hq := hq.keep hstk eG22 (by omega)
                  have hki := hki.keep hstk eG22 (by omega)
                  have hne := hne.keep hstk eG22 (by omega)
                  have hot := hot.keep hstk eG22 (by omega)
                  have hra := hra.keep hstk eG22 (by omega)
                  have hlen := (z_len eG22).trans hlen
                  have hsl := (z_sl hstk eG22 rfl).trans hsl
                  have hfr := hfr.wr hstk eG22 (by decide)
                  have hstk := hstk.kept eG22
                  change ab_W _ _ _ (List.set G6 stk (za 809 (zu SK (dp + (-1)) (N x_)))) 168 [some (vR a), none, some (vz ah), some (vz sg), some (vz (dp + (-1))), some (vz tu), some (vz x_), some (vz (K x_))] [] _
                  rw [← eG22]
                  refine zz_iinc d_ST_follow_168 rfl (Nat.le_of_ble_eq_true rfl) (Nat.le_of_ble_eq_true rfl) rfl ?_
                  change ab_W _ _ _ G22 171 [some (vR a), none, some (vz ah), some (vz sg), some (vz ((dp + (-1)) + 1)), some (vz tu), some (vz x_), some (vz (K x_))] [] _
                  refine ab_iload d_ST_follow_171 rfl ?_
                  refine zz_bipush d_ST_follow_173 (by decide) ?_
                  refine zz_icmp_ne (tgt := 208) d_ST_follow_175 (by decide) (by omega) (by decide) (fun c23 => ?_) (fun c23 => absurd c23 (by omega))
                  refine zz_iinc d_ST_follow_208 rfl (Nat.le_of_ble_eq_true rfl) (Nat.le_of_ble_eq_true rfl) rfl ?_
                  change ab_W _ _ _ G22 211 [some (vR a), none, some (vz ah), some (vz sg), some (vz ((dp + (-1)) + 1)), some (vz (tu + 1)), some (vz x_), some (vz (K x_))] [] _
                  refine ab_goto (tgt := 13) d_ST_follow_211 (by decide) ?_
                  refine ab_less (L' := [some (vR a), none, some (vz ah), some (vz sg), some (vz ((dp + (-1)) + 1)), some (vz (tu + 1)), none, none]) (fun i v h => by rcases i with _ | _ | _ | _ | _ | _ | _ | _ | i <;> first | exact h | (simp at h)) ?_
                  exact ih (sc := sc) (arv := arv) (stp := (stp + 1)) (SD := SD) (SE := (zu SE x_ sta)) (SK := (zu SK (dp + (-1)) (N x_))) (dp := ((dp + (-1)) + 1)) (tu := (tu + 1)) ha hcu hsd hse_ hstk hq hki hne hot hra (by omega) (sks_zu (sks_p jsk (by omega)) (by omega)) (by omega) jsd (by omega) (rgs_zu jse (by omega)) (sdQ_v jsq (by omega)) (flK_1 jfl (by omega) hx_.symm (by omega) hT (by omega) (Or.inr ⟨by omega, hq18⟩)) (by omega) (by omega) hfr hlen hsl (by omega) hk0
                · cases hv
                  rw [hGe]
                  change ab_W _ _ _ G6 148 [some (vR a), none, some (vz ah), some (vz sg), some (vz (dp + (-1))), some (vz tu), some (vz x_), some (vz (K x_))] [vz 0] _
                  refine zz_if_eq (tgt := 208) d_ST_follow_148 (by decide) (by decide) (fun c24 => ?_) (fun c24 => absurd c24 (by decide))
                  refine zz_iinc d_ST_follow_208 rfl (Nat.le_of_ble_eq_true rfl) (Nat.le_of_ble_eq_true rfl) rfl ?_
                  change ab_W _ _ _ G6 211 [some (vR a), none, some (vz ah), some (vz sg), some (vz (dp + (-1))), some (vz (tu + 1)), some (vz x_), some (vz (K x_))] [] _
                  refine ab_goto (tgt := 13) d_ST_follow_211 (by decide) ?_
                  refine ab_less (L' := [some (vR a), none, some (vz ah), some (vz sg), some (vz (dp + (-1))), some (vz (tu + 1)), none, none]) (fun i v h => by rcases i with _ | _ | _ | _ | _ | _ | _ | _ | i <;> first | exact h | (simp at h)) ?_
                  exact ih (sc := sc) (arv := arv) (stp := (stp + 1)) (SD := SD) (SE := (zu SE x_ sta)) (SK := SK) (dp := (dp + (-1))) (tu := (tu + 1)) ha hcu hsd hse_ hstk hq hki hne hot hra (by omega) (sks_p jsk (by omega)) (by omega) jsd (by omega) (rgs_zu jse (by omega)) (sdQ_v jsq (by omega)) (flK_n jfl (by omega) hx_.symm (by omega) hT (by omega) (Or.inr ⟨by omega, hq19⟩)) (by omega) (by omega) hfr hlen hsl (by omega) hk0
          · refine ab_aload_n d_ST_follow_111 rfl ?_
            refine zz_iconst d_ST_follow_112 ?_
            refine ab_putf (fs := [vz mst, vR q, vz vr, vz ro, vR cu, vz cn, vR eg, vR po, vR bg, vR bd, vz ct, vR sd, vz sc, vR se_, vz sta, vR stk, vz arv, vj (stp + 1)]) f_ST_148 (Or.inl rfl) d_ST_follow_113 ha.2.2 (Nat.le_of_ble_eq_true rfl) (ab_fbz (by decide)) (ha.2.1 (by decide)) ?_
            obtain ⟨G25, eG25⟩ : ∃ z : ab_G, z = List.set G6 a (ab_ob 8 [vz mst, vR q, vz vr, vz ro, vR cu, vz cn, vR eg, vR po, vR bg, vR bd, vz ct, vR sd, vz sc, vR se_, vz sta, vR stk, vz 1, vj (stp + 1)]) := ⟨_, rfl⟩
            have hcu := hcu.keep ha eG25 (by decide)
            have hsd := hsd.keep ha eG25 (by decide)
            have hse_ := hse_.keep ha eG25 (by decide)
            have hstk := hstk.keep ha eG25 (by decide)
            have hq := hq.keep ha eG25 (by omega)
            have hki := hki.keep ha eG25 (by omega)
            have hne := hne.keep ha eG25 (by omega)
            have hot := hot.keep ha eG25 (by omega)
            have hra := hra.keep ha eG25 (by omega)
            have hlen := (z_len eG25).trans hlen
            have hsl := (z_sl ha eG25 rfl).trans hsl
            have hfr := hfr.wr ha eG25 (by decide)
            have ha := ha.kept eG25
            change ab_W _ _ _ (List.set G6 a (ab_ob 8 [vz mst, vR q, vz vr, vz ro, vR cu, vz cn, vR eg, vR po, vR bg, vR bd, vz ct, vR sd, vz sc, vR se_, vz sta, vR stk, vz 1, vj (stp + 1)])) 116 [some (vR a), none, some (vz ah), some (vz sg), some (vz (dp + (-1))), some (vz tu), some (vz x_), some (vz (K x_))] [] _
            rw [← eG25]
            refine ab_goto (tgt := 208) d_ST_follow_116 (by decide) ?_
            refine zz_iinc d_ST_follow_208 rfl (Nat.le_of_ble_eq_true rfl) (Nat.le_of_ble_eq_true rfl) rfl ?_
            change ab_W _ _ _ G25 211 [some (vR a), none, some (vz ah), some (vz sg), some (vz (dp + (-1))), some (vz (tu + 1)), some (vz x_), some (vz (K x_))] [] _
            refine ab_goto (tgt := 13) d_ST_follow_211 (by decide) ?_
            refine ab_less (L' := [some (vR a), none, some (vz ah), some (vz sg), some (vz (dp + (-1))), some (vz (tu + 1)), none, none]) (fun i v h => by rcases i with _ | _ | _ | _ | _ | _ | _ | _ | i <;> first | exact h | (simp at h)) ?_
            exact ih (sc := sc) (arv := 1) (stp := (stp + 1)) (SD := SD) (SE := (zu SE x_ sta)) (SK := SK) (dp := (dp + (-1))) (tu := (tu + 1)) ha hcu hsd hse_ hstk hq hki hne hot hra (by omega) (sks_p jsk (by omega)) (by omega) jsd (by omega) (rgs_zu jse (by omega)) (sdQ_v jsq (by omega)) (flK_a jfl (by omega) hx_.symm (by omega) hT (by omega) (by omega)) (by omega) (by omega) hfr hlen hsl (by omega) hk0
        · refine ab_aload_n d_ST_follow_94 rfl ?_
          refine ab_iload d_ST_follow_95 rfl ?_
          refine ab_iload_n d_ST_follow_97 rfl ?_
          refine ab_callV (d' := d - 1) (as := [vz x_, vz sg]) (st := []) (r := _) (z_ST_takeSign (o := o) (a := a) (cu := cu) (eg := eg) (po := po) (bg := bg) (bd := bd) (sd := sd) (se_ := se_) (stk := stk) (mst := mst) (vr := vr) (ro := ro) (cn := cn) (ct := ct) (sc := sc) (sta := sta) (arv := arv) (stp := (stp + 1)) (CU := CU) (SD := SD) (SE := (zu SE x_ sta)) (q := q) (lq := lq) (ki := ki) (ne := ne) (ot := ot) (cnt := cnt) (fi := fi) (la := la) (ra := ra) (ru := ru) (gr := gr) (wi := wi) (sz := sz) (fl := fl) (ve := ve) (mi := mi) (na := na) (nl := nl) (K := K) (N := N) (O := O) (RR := RR) (nr := nr) (KT := KT) (NT := NT) (OT := OT) (RT := RT) (sg := sg) (x := x_) ha hcu hsd hse_ hq hki hne hot hra (by omega) jcu (by omega) (by omega) hp hr (by omega) (by omega) jsd (by omega) (rgs_zu jse (by omega)) (sdQ_v jsq (by omega)) hT hpu (by omega)) (fun oc G2 h => by rcases h with ⟨_, _, _, h, _⟩ <;> exact ⟨_, h⟩) (by omega) m_ST_takeSign ml_ST_164 im_ST_takeSign se_ST_takeSign c_ST ha.2.2 (Nat.le_of_ble_eq_true rfl) d_ST_follow_98 rfl ?_
          intro v G26 hq
          rcases hq with ⟨sc227, SD228, SE229, hv, hfk, hlk, hsk, hNa, hNsd, hNse_, hq30, hq31, hq32, hq33, hq34, hq35⟩
          cases hv
          have hcu := hfk.get hcu (by decide)
          have hstk := hfk.get hstk (by decide)
          have hq := hfk.get hq (by simp only [List.mem_cons, List.not_mem_nil, or_false]; omega)
          have hki := hfk.get hki (by simp only [List.mem_cons, List.not_mem_nil, or_false]; omega)
          have hne := hfk.get hne (by simp only [List.mem_cons, List.not_mem_nil, or_false]; omega)
          have hot := hfk.get hot (by simp only [List.mem_cons, List.not_mem_nil, or_false]; omega)
          have hra := hfk.get hra (by simp only [List.mem_cons, List.not_mem_nil, or_false]; omega)
          have hfr := hfr.tr hfk (by decide)
          have hlen := hlk.trans hlen
          have hsl := hsk.trans hsl
          have ha := hNa
          have hsd := hNsd
          have hse_ := hNse_
          change ab_W _ _ _ G26 101 [some (vR a), none, some (vz ah), some (vz sg), some (vz (dp + (-1))), some (vz tu), some (vz x_), some (vz (K x_))] [] _
          have hvx_ := viN_x (sta := sta) hq34.2
          refine ab_goto (tgt := 208) d_ST_follow_101 (by decide) ?_
          refine zz_iinc d_ST_follow_208 rfl (Nat.le_of_ble_eq_true rfl) (Nat.le_of_ble_eq_true rfl) rfl ?_
          change ab_W _ _ _ G26 211 [some (vR a), none, some (vz ah), some (vz sg), some (vz (dp + (-1))), some (vz (tu + 1)), some (vz x_), some (vz (K x_))] [] _
          refine ab_goto (tgt := 13) d_ST_follow_211 (by decide) ?_
          refine ab_less (L' := [some (vR a), none, some (vz ah), some (vz sg), some (vz (dp + (-1))), some (vz (tu + 1)), none, none]) (fun i v h => by rcases i with _ | _ | _ | _ | _ | _ | _ | _ | i <;> first | exact h | (simp at h)) ?_
          exact ih (sc := sc227) (arv := arv) (stp := (stp + 1)) (SD := SD228) (SE := SE229) (SK := SK) (dp := (dp + (-1))) (tu := (tu + 1)) ha hcu hsd hse_ hstk hq hki hne hot hra (by omega) (sks_p jsk (by omega)) (by omega) hq31 (by omega) hq32 hq33 (flK_t jfl (by omega) hx_.symm (by omega) hT (by omega) (by omega) hq34) (by omega) (by omega) hfr hlen hsl (by omega) hk0
      · refine ab_goto (tgt := 208) d_ST_follow_52 (by decide) ?_
        refine zz_iinc d_ST_follow_208 rfl (Nat.le_of_ble_eq_true rfl) (Nat.le_of_ble_eq_true rfl) rfl ?_
        change ab_W _ _ _ G 211 [some (vR a), none, some (vz ah), some (vz sg), some (vz (dp + (-1))), some (vz (tu + 1)), some (vz x_), none] [] _
        refine ab_goto (tgt := 13) d_ST_follow_211 (by decide) ?_
        refine ab_less (L' := [some (vR a), none, some (vz ah), some (vz sg), some (vz (dp + (-1))), some (vz (tu + 1)), none, none]) (fun i v h => by rcases i with _ | _ | _ | _ | _ | _ | _ | _ | i <;> first | exact h | (simp at h)) ?_
        exact ih (sc := sc) (arv := arv) (stp := stp) (SD := SD) (SE := SE) (SK := SK) (dp := (dp + (-1))) (tu := (tu + 1)) ha hcu hsd hse_ hstk hq hki hne hot hra (by omega) (sks_p jsk (by omega)) (by omega) jsd (by omega) jse jsq (flK_s jfl (by omega) hx_.symm (by omega) (by omega) (by omega)) (by omega) (by omega) hfr hlen hsl (by omega) hk0
set_option maxRecDepth 100000 in
set_option maxHeartbeats 4000000 in
theorem z_ST_follow {X : ab_X} {d : Nat} {o : Nat → Nat} {G : ab_G} {a : Nat} {cu : Nat} {eg : Nat} {po : Nat} {bg : Nat} {bd : Nat} {sd : Nat} {se_ : Nat} {stk : Nat} {mst : Int} {vr : Int} {ro : Int} {cn : Int} {ct : Int} {sc : Int} {sta : Int} {arv : Int} {stp : Int} {CU : Int → Int} {SD : Int → Int} {SE : Int → Int} {SK : Int → Int} {q : Nat} {lq : Nat} {ki : Nat} {ne : Nat} {ot : Nat} {cnt : Int} {fi : Int} {la : Int} {ra : Nat} {ru : Int} {gr : Int} {wi : Int} {sz : Int} {fl : Int} {ve : Int} {mi : Int} {na : Nat} {nl : Nat} {K : Int → Int} {N : Int → Int} {O : Int → Int} {RR : Int → Int} {nr : Nat} {KT : Int → Int} {NT : Int → Int} {OT : Int → Int} {RT : Int → Int} {sg : Int} {ah : Int} {b_ : Int} {Pr : Int → Prop} {Z0 : Int → Prop} (ha : cc o G a 60 (ab_ob 8 [vz mst, vR q, vz vr, vz ro, vR cu, vz cn, vR eg, vR po, vR bg, vR bd, vz ct, vR sd, vz sc, vR se_, vz sta, vR stk, vz arv, vj stp])) (hcu : cc o G cu 61 (za 120 CU)) (hsd : cc o G sd 66 (za 2048 SD)) (hse_ : cc o G se_ 67 (za 3072 SE)) (hstk : cc o G stk 68 (za 809 SK)) (hq : cc o G q lq (ab_ob 5 [vR ki, vR ne, vR ot, vz cnt, vz fi, vz la, vR ra, vz ru, vz gr, vz wi, vz sz, vz fl, vz ve, vz mi, vR na, vR nl])) (hki : cc o G ki (lq + 1) (za 808 K)) (hne : cc o G ne (lq + 2) (za 808 N)) (hot : cc o G ot (lq + 3) (za 808 O)) (hra : cc o G ra (lq + 4) (za nr RR)) (cc0 : 0 ≤ cn ∧ cn ≤ 120) (jcu : rgs CU 120 0 1114112) (csg : 0 ≤ sg ∧ sg ≤ cn + 4) (cq : 100 ≤ lq ∧ 0 ≤ cnt ∧ cnt ≤ 808 ∧ ↑nr ≤ (100000 : Int)) (hp : prok K N O RR cnt ↑nr wi) (hr : ∀ k : Int, 0 ≤ k → k < ↑nr → 0 ≤ RR k ∧ RR k ≤ 1114111) (cah : 0 ≤ ah ∧ ah ≤ 7) (hT : trQ K N O RR cnt ru KT NT OT RT) (hpu : prok K N O RR cnt ru wi) (ck9 : K 0 = 9) (csta : 0 ≤ sta ∧ sta ≤ 2000000000) (cb : 0 ≤ b_ ∧ b_ < cnt) (csc : 0 ≤ sc ∧ sc ≤ 2048) (jsd : ents SD sc cnt) (car : 0 ≤ arv ∧ arv ≤ 1) (jse : rgs SE 3072 0 sta) (jsq : sdQ SE sta SD sc) (jfl : FLJ KT NT OT RT CU sg ah Pr Z0 SE SK SD sta 0 sc arv) (hd : 4 ≤ d) : ab_F X d y_ST_follow (.code y_ST_follow b_ST_follow 8 none) [vR a, vz b_, vz ah, vz sg] G (fun oc G2 => ∃ sc2 : Int, ∃ st2 : Int, ∃ ar2 : Int, ∃ SD2 : Int → Int, ∃ SE2 : Int → Int, ∃ SK2 : Int → Int, oc = .returned none ∧ fx o o [60, 66, 67, 68] G G2 ∧ G2.length = G.length ∧ ab_slots G2 = ab_slots G ∧ cc o G2 a 60 (ab_ob 8 [vz mst, vR q, vz vr, vz ro, vR cu, vz cn, vR eg, vR po, vR bg, vR bd, vz ct, vR sd, vz sc2, vR se_, vz sta, vR stk, vz ar2, vj st2]) ∧ cc o G2 sd 66 (za 2048 SD2) ∧ cc o G2 se_ 67 (za 3072 SE2) ∧ cc o G2 stk 68 (za 809 SK2) ∧ (0 ≤ sc2 ∧ sc2 ≤ 2048 ∧ 0 ≤ ar2 ∧ ar2 ≤ 1) ∧ (ents SD2 sc2 cnt) ∧ (rgs SE2 3072 0 sta) ∧ (sdQ SE2 sta SD2 sc2) ∧ (FLJ KT NT OT RT CU sg ah (fun y9 => Pr y9 ∨ y9 = b_) Z0 SE2 SK2 SD2 sta 0 sc2 ar2) ∧ (stp ≤ st2 ∧ st2 + scw SE sta ≤ stp + scw SE2 sta)) := by
  refine ab_F_of (by decide +kernel) (Nat.le_of_ble_eq_true rfl) ?_
  obtain ⟨Q, hQ⟩ : ∃ z : Outcome → ab_G → Prop, z = (fun oc G2 => ∃ sc2 : Int, ∃ st2 : Int, ∃ ar2 : Int, ∃ SD2 : Int → Int, ∃ SE2 : Int → Int, ∃ SK2 : Int → Int, oc = .returned none ∧ fx o o [60, 66, 67, 68] G G2 ∧ G2.length = G.length ∧ ab_slots G2 = ab_slots G ∧ cc o G2 a 60 (ab_ob 8 [vz mst, vR q, vz vr, vz ro, vR cu, vz cn, vR eg, vR po, vR bg, vR bd, vz ct, vR sd, vz sc2, vR se_, vz sta, vR stk, vz ar2, vj st2]) ∧ cc o G2 sd 66 (za 2048 SD2) ∧ cc o G2 se_ 67 (za 3072 SE2) ∧ cc o G2 stk 68 (za 809 SK2) ∧ (0 ≤ sc2 ∧ sc2 ≤ 2048 ∧ 0 ≤ ar2 ∧ ar2 ≤ 1) ∧ (ents SD2 sc2 cnt) ∧ (rgs SE2 3072 0 sta) ∧ (sdQ SE2 sta SD2 sc2) ∧ (FLJ KT NT OT RT CU sg ah (fun y9 => Pr y9 ∨ y9 = b_) Z0 SE2 SK2 SD2 sta 0 sc2 ar2) ∧ (stp ≤ st2 ∧ st2 + scw SE sta ≤ stp + scw SE2 sta)) := ⟨_, rfl⟩
  rw [← hQ]
  change ab_W X (ab_pl y_ST_follow b_ST_follow 8 none) d G 0 [some (vR a), some (vz b_), some (vz ah), some (vz sg), none, none, none, none] [] Q
  have hfr : fx o o [60, 66, 67, 68] G G := fx.rf
  have hlen : G.length = G.length := rfl
  have hsl : ab_slots G = ab_slots G := rfl
  have hvb_ := viN_b (SE := SE) (sta := sta) 807
  refine ab_aload_n d_ST_follow_0 rfl ?_
  refine ab_getf (fs := [vz mst, vR q, vz vr, vz ro, vR cu, vz cn, vR eg, vR po, vR bg, vR bd, vz ct, vR sd, vz sc, vR se_, vz sta, vR stk, vz arv, vj stp]) f_ST_37 d_ST_follow_1 ha.2.2 rfl ?_
  refine zz_iconst d_ST_follow_4 ?_
  refine ab_iload_n d_ST_follow_5 rfl ?_
  refine zz_iast d_ST_follow_6 hstk (by omega) (hstk.2.1 (by decide)) ?_
  obtain ⟨G1, eG1⟩ : ∃ z : ab_G, z = List.set G stk (za 809 (zu SK 0 b_)) := ⟨_, rfl⟩
  have ha := ha.keep hstk eG1 (by decide)
  have hcu := hcu.keep hstk eG1 (by decide)
  have hsd := hsd.keep hstk eG1 (by decide)
  have hse_ := hse_.keep hstk eG1 (by decide)
  have hq := hq.keep hstk eG1 (by omega)
  have hki := hki.keep hstk eG1 (by omega)
  have hne := hne.keep hstk eG1 (by omega)
  have hot := hot.keep hstk eG1 (by omega)
  have hra := hra.keep hstk eG1 (by omega)
  have hlen := (z_len eG1).trans hlen
  have hsl := (z_sl hstk eG1 rfl).trans hsl
  have hfr := hfr.wr hstk eG1 (by decide)
  have hstk := hstk.kept eG1
  change ab_W _ _ _ (List.set G stk (za 809 (zu SK 0 b_))) 7 [some (vR a), some (vz b_), some (vz ah), some (vz sg), none, none, none, none] [] _
  rw [← eG1]
  refine zz_iconst d_ST_follow_7 ?_
  refine ab_istore d_ST_follow_8 (Nat.le_of_ble_eq_true rfl) (Nat.le_of_ble_eq_true rfl) rfl ?_
  change ab_W _ _ _ G1 10 [some (vR a), some (vz b_), some (vz ah), some (vz sg), some (vz 1), none, none, none] [] _
  refine zz_iconst d_ST_follow_10 ?_
  refine ab_istore d_ST_follow_11 (Nat.le_of_ble_eq_true rfl) (Nat.le_of_ble_eq_true rfl) rfl ?_
  change ab_W _ _ _ G1 13 [some (vR a), some (vz b_), some (vz ah), some (vz sg), some (vz 1), some (vz 0), none, none] [] _
  refine ab_less (L' := [some (vR a), none, some (vz ah), some (vz sg), some (vz 1), some (vz 0), none, none]) (fun i v h => by rcases i with _ | _ | _ | _ | _ | _ | _ | _ | i <;> first | exact h | (simp at h)) ?_
  refine y_ST_follow_13 (a := a) (cu := cu) (eg := eg) (po := po) (bg := bg) (bd := bd) (sd := sd) (se_ := se_) (stk := stk) (mst := mst) (vr := vr) (ro := ro) (cn := cn) (ct := ct) (sta := sta) (CU := CU) (q := q) (lq := lq) (ki := ki) (ne := ne) (ot := ot) (cnt := cnt) (fi := fi) (la := la) (ra := ra) (ru := ru) (gr := gr) (wi := wi) (sz := sz) (fl := fl) (ve := ve) (mi := mi) (na := na) (nl := nl) (K := K) (N := N) (O := O) (RR := RR) (nr := nr) (KT := KT) (NT := NT) (OT := OT) (RT := RT) (sg := sg) (ah := ah) (v0 := (viN SE sta 807)) (P9 := (fun y9 => Pr y9 ∨ y9 = b_)) (Z0 := Z0) (st0 := stp) (SE0 := SE) (G0 := G1) (sc := sc) (arv := arv) (stp := stp) (SD := SD) (SE := SE) (SK := (zu SK 0 b_)) (dp := 1) (tu := 0) (by omega) jcu (by omega) (by omega) hp hr (by omega) hT hpu (by omega) (by omega) (by omega) (by omega) (Int.toNat (1616 - 0) + 1) ha hcu hsd hse_ hstk hq hki hne hot hra (by omega) (sks_zu sks_0 (by omega)) (by omega) jsd (by omega) jse jsq (flJ_r jfl (zu_self _ _ _)) (by omega) (by omega) fx.rf rfl rfl (by omega) (fun G2 sc23 st24 ar25 SD26 SE27 SK28 hNa hNsd hNse_ hNstk hq9 hq10 hq11 hq12 hq13 hq14 hfk hlk hsk => ?_)
  · have hcu := hfk.get hcu (by decide)
    have hq := hfk.get hq (by simp only [List.mem_cons, List.not_mem_nil, or_false]; omega)
    have hki := hfk.get hki (by simp only [List.mem_cons, List.not_mem_nil, or_false]; omega)
    have hne := hfk.get hne (by simp only [List.mem_cons, List.not_mem_nil, or_false]; omega)
    have hot := hfk.get hot (by simp only [List.mem_cons, List.not_mem_nil, or_false]; omega)
    have hra := hfk.get hra (by simp only [List.mem_cons, List.not_mem_nil, or_false]; omega)
    have hfr := hfr.tr hfk (by decide)
    have hlen := hlk.trans hlen
    have hsl := hsk.trans hsl
    have ha := hNa
    have hsd := hNsd
    have hse_ := hNse_
    have hstk := hNstk
    rw [hQ]; exact ⟨_, _, _, _, _, _, rfl, hfr, hlen, hsl, ha, hsd, hse_, hstk, (by omega), (by exact hq10), (by exact hq11), (by exact hq12), (by exact hq13), (by omega)⟩
set_option maxRecDepth 100000 in
set_option maxHeartbeats 4000000 in
theorem y_ST_keptState_2 {X : ab_X} {d : Nat} {Q : Outcome → ab_G → Prop} {o : Nat → Nat} {G0 : ab_G} {a : Nat} {cu : Nat} {eg : Nat} {po : Nat} {bg : Nat} {bd : Nat} {sd : Nat} {se_ : Nat} {stk : Nat} {mst : Int} {q0 : Value} {vr : Int} {ro : Int} {cn : Int} {ct : Int} {sc : Int} {sta : Int} {arv : Int} {stp : Int} {EG : Int → Int} {PO : Int → Int} {BG : Int → Int} {BD : Int → Int} {SD : Int → Int} {cnt : Int} {ah : Int} (cc0 : 0 ≤ cn ∧ cn ≤ 120) (cms : 4 ≤ mst ∧ mst ≤ 64 ∧ 0 ≤ ct ∧ ct ≤ mst) (cah : 0 ≤ ah ∧ ah ≤ 7) (jbg : bgo BG ct) (jpo : ents PO (BG ct) cnt) (jsd : ents SD sc cnt) (csc : 0 ≤ sc ∧ sc ≤ 2048) (jbd : rgs BD 64 0 7) (hd : 1 ≤ d) : ∀ (mz : Nat) {G : ab_G} {s_ : Int}, (cc o G a 60 (ab_ob 8 [vz mst, q0, vz vr, vz ro, vR cu, vz cn, vR eg, vR po, vR bg, vR bd, vz ct, vR sd, vz sc, vR se_, vz sta, vR stk, vz arv, vj stp])) → (cc o G eg 62 (za 8000 EG)) → (cc o G po 63 (za 8192 PO)) → (cc o G bg 64 (za 65 BG)) → (cc o G bd 65 (za 64 BD)) → (cc o G sd 66 (za 2048 SD)) → (0 ≤ s_ ∧ s_ ≤ ct) → (fx o o [] G0 G) → (G.length = G0.length) → (ab_slots G = ab_slots G0) → (Int.toNat (ct - s_) < mz) → (∀ (G2 : ab_G) (v : Int), (cc o G2 a 60 (ab_ob 8 [vz mst, q0, vz vr, vz ro, vR cu, vz cn, vR eg, vR po, vR bg, vR bd, vz ct, vR sd, vz sc, vR se_, vz sta, vR stk, vz arv, vj stp])) → (cc o G2 eg 62 (za 8000 EG)) → (cc o G2 po 63 (za 8192 PO)) → (cc o G2 bg 64 (za 65 BG)) → (cc o G2 bd 65 (za 64 BD)) → (cc o G2 sd 66 (za 2048 SD)) → (0 ≤ v ∧ v < ct) → (BD v = ah) → (hsS PO BG v SD sc) → (fx o o [] G0 G2) → (G2.length = G0.length) → (ab_slots G2 = ab_slots G0) → Q (.returned (some (vz v))) G2) → (∀ (G2 : ab_G), (cc o G2 a 60 (ab_ob 8 [vz mst, q0, vz vr, vz ro, vR cu, vz cn, vR eg, vR po, vR bg, vR bd, vz ct, vR sd, vz sc, vR se_, vz sta, vR stk, vz arv, vj stp])) → (cc o G2 eg 62 (za 8000 EG)) → (cc o G2 po 63 (za 8192 PO)) → (cc o G2 bg 64 (za 65 BG)) → (cc o G2 bd 65 (za 64 BD)) → (cc o G2 sd 66 (za 2048 SD)) → (fx o o [] G0 G2) → (G2.length = G0.length) → (ab_slots G2 = ab_slots G0) → ab_W X (ab_pl y_ST_keptState b_ST_keptState 3 (some (.int))) d G2 36 [some (vR a), some (vz ah), none] [] Q) → ab_W X (ab_pl y_ST_keptState b_ST_keptState 3 (some (.int))) d G 2 [some (vR a), some (vz ah), some (vz s_)] [] Q := by
  intro mz
  induction mz with
  | zero => intro G s_ ha heg hpo hbg hbd hsd ci hfr hlen hsl hm hk0 hk1; exact absurd hm (Nat.not_lt_zero _)
  | succ mz ih =>
    intro G s_ ha heg hpo hbg hbd hsd ci hfr hlen hsl hm hk0 hk1
    refine ab_iload_n d_ST_keptState_2 rfl ?_
    refine ab_aload_n d_ST_keptState_3 rfl ?_
    refine ab_getf (fs := [vz mst, q0, vz vr, vz ro, vR cu, vz cn, vR eg, vR po, vR bg, vR bd, vz ct, vR sd, vz sc, vR se_, vz sta, vR stk, vz arv, vj stp]) f_ST_40 d_ST_keptState_4 ha.2.2 rfl ?_
    refine zz_icmp_ge (tgt := 36) d_ST_keptState_7 (by decide) (by omega) (by omega) (fun c1 => ?_) (fun c1 => ?_)
    · refine ab_less (L' := [some (vR a), some (vz ah), none]) (fun i v h => by rcases i with _ | _ | _ | i <;> first | exact h | (simp at h)) ?_
      exact hk1 _ ha heg hpo hbg hbd hsd hfr hlen hsl
    · refine ab_aload_n d_ST_keptState_10 rfl ?_
      refine ab_getf (fs := [vz mst, q0, vz vr, vz ro, vR cu, vz cn, vR eg, vR po, vR bg, vR bd, vz ct, vR sd, vz sc, vR se_, vz sta, vR stk, vz arv, vj stp]) f_ST_28 d_ST_keptState_11 ha.2.2 rfl ?_
      refine ab_iload_n d_ST_keptState_14 rfl ?_
      refine zz_iald d_ST_keptState_15 hbd (by omega) ?_
      have hq2 := jbd s_ (by omega) (by omega)
      refine ab_iload_n d_ST_keptState_16 rfl ?_
      refine zz_icmp_ne (tgt := 30) d_ST_keptState_17 (by decide) (by omega) (by omega) (fun c3 => ?_) (fun c3 => ?_)
      · refine zz_iinc d_ST_keptState_30 rfl (Nat.le_of_ble_eq_true rfl) (Nat.le_of_ble_eq_true rfl) rfl ?_
        change ab_W _ _ _ G 33 [some (vR a), some (vz ah), some (vz (s_ + 1))] [] _
        refine ab_goto (tgt := 2) d_ST_keptState_33 (by decide) ?_
        exact ih (s_ := (s_ + 1)) ha heg hpo hbg hbd hsd (by omega) hfr hlen hsl (by omega) hk0 hk1
      · refine ab_aload_n d_ST_keptState_20 rfl ?_
        refine ab_iload_n d_ST_keptState_21 rfl ?_
        refine ab_callV (d' := d - 1) (as := [vz s_]) (st := []) (r := _) (z_ST_hasSeeds (o := o) (a := a) (cu := cu) (eg := eg) (po := po) (bg := bg) (bd := bd) (sd := sd) (se_ := se_) (stk := stk) (mst := mst) (q0 := q0) (vr := vr) (ro := ro) (cn := cn) (ct := ct) (sc := sc) (sta := sta) (arv := arv) (stp := stp) (PO := PO) (BG := BG) (SD := SD) (s_ := s_) ha hbg hpo hsd (by omega) (by omega) jbg jpo jsd (by omega)) (fun oc G2 h => by rcases h with ⟨_, h, _⟩ <;> exact ⟨_, h⟩) (by omega) m_ST_hasSeeds ml_ST_176 im_ST_hasSeeds se_ST_hasSeeds c_ST ha.2.2 (Nat.le_of_ble_eq_true rfl) d_ST_keptState_22 rfl ?_
        intro v G4 hq
        rcases hq with ⟨v5, hv, hfk, hlk, hsk, hq6, hq7⟩
        cases hv
        have ha := hfk.get ha (by decide)
        have heg := hfk.get heg (by decide)
        have hpo := hfk.get hpo (by decide)
        have hbg := hfk.get hbg (by decide)
        have hbd := hfk.get hbd (by decide)
        have hsd := hfk.get hsd (by decide)
        have hfr := hfr.tr hfk (by decide)
        have hlen := hlk.trans hlen
        have hsl := hsk.trans hsl
        change ab_W _ _ _ G4 25 [some (vR a), some (vz ah), some (vz s_)] [vz v5] _
        refine zz_if_eq (tgt := 30) d_ST_keptState_25 (by decide) (by omega) (fun c8 => ?_) (fun c8 => ?_)
        · refine zz_iinc d_ST_keptState_30 rfl (Nat.le_of_ble_eq_true rfl) (Nat.le_of_ble_eq_true rfl) rfl ?_
          change ab_W _ _ _ G4 33 [some (vR a), some (vz ah), some (vz (s_ + 1))] [] _
          refine ab_goto (tgt := 2) d_ST_keptState_33 (by decide) ?_
          exact ih (s_ := (s_ + 1)) ha heg hpo hbg hbd hsd (by omega) hfr hlen hsl (by omega) hk0 hk1
        · refine ab_iload_n d_ST_keptState_28 rfl ?_
          refine zz_iret rfl d_ST_keptState_29 ?_
          exact hk0 _ _ ha heg hpo hbg hbd hsd (by omega) (by omega) (by exact hq7 (by omega)) hfr hlen hsl
set_option maxRecDepth 100000 in
set_option maxHeartbeats 4000000 in
theorem z_ST_keptState {X : ab_X} {d : Nat} {o : Nat → Nat} {G : ab_G} {a : Nat} {cu : Nat} {eg : Nat} {po : Nat} {bg : Nat} {bd : Nat} {sd : Nat} {se_ : Nat} {stk : Nat} {mst : Int} {q0 : Value} {vr : Int} {ro : Int} {cn : Int} {ct : Int} {sc : Int} {sta : Int} {arv : Int} {stp : Int} {EG : Int → Int} {PO : Int → Int} {BG : Int → Int} {BD : Int → Int} {SD : Int → Int} {cnt : Int} {ah : Int} (ha : cc o G a 60 (ab_ob 8 [vz mst, q0, vz vr, vz ro, vR cu, vz cn, vR eg, vR po, vR bg, vR bd, vz ct, vR sd, vz sc, vR se_, vz sta, vR stk, vz arv, vj stp])) (heg : cc o G eg 62 (za 8000 EG)) (hpo : cc o G po 63 (za 8192 PO)) (hbg : cc o G bg 64 (za 65 BG)) (hbd : cc o G bd 65 (za 64 BD)) (hsd : cc o G sd 66 (za 2048 SD)) (cc0 : 0 ≤ cn ∧ cn ≤ 120) (cms : 4 ≤ mst ∧ mst ≤ 64 ∧ 0 ≤ ct ∧ ct ≤ mst) (cah : 0 ≤ ah ∧ ah ≤ 7) (jbg : bgo BG ct) (jpo : ents PO (BG ct) cnt) (jsd : ents SD sc cnt) (csc : 0 ≤ sc ∧ sc ≤ 2048) (jbd : rgs BD 64 0 7) (jeg : ego EG ct (cn + 5)) (hd : 2 ≤ d) : ab_F X d y_ST_keptState (.code y_ST_keptState b_ST_keptState 3 (some (.int))) [vR a, vz ah] G (fun oc G2 => (∃ v : Int, ∃ ct2 : Int, ∃ EG2 : Int → Int, ∃ PO2 : Int → Int, ∃ BG2 : Int → Int, ∃ BD2 : Int → Int, oc = .returned (some (vz v)) ∧ fx o o [60, 62, 63, 64, 65] G G2 ∧ G2.length = G.length ∧ ab_slots G2 = ab_slots G ∧ cc o G2 a 60 (ab_ob 8 [vz mst, q0, vz vr, vz ro, vR cu, vz cn, vR eg, vR po, vR bg, vR bd, vz ct2, vR sd, vz sc, vR se_, vz sta, vR stk, vz arv, vj stp]) ∧ cc o G2 eg 62 (za 8000 EG2) ∧ cc o G2 po 63 (za 8192 PO2) ∧ cc o G2 bg 64 (za 65 BG2) ∧ cc o G2 bd 65 (za 64 BD2) ∧ (0 ≤ v ∧ v < ct2 ∧ ct2 ≤ mst) ∧ (bgo BG2 ct2) ∧ (ents PO2 (BG2 ct2) cnt) ∧ (ego EG2 ct2 (cn + 5)) ∧ (rgs BD2 64 0 7) ∧ (ksR EG PO BG BD ct (cn + 5) EG2 PO2 BG2 BD2 ct2 v ah SD sc) ∧ (ct ≤ ct2)) ∨ (∃ v : Int, ∃ ct2 : Int, ∃ EG2 : Int → Int, ∃ PO2 : Int → Int, ∃ BG2 : Int → Int, ∃ BD2 : Int → Int, oc = .returned (some (vz v)) ∧ fx o o [60, 62, 63, 64, 65] G G2 ∧ G2.length = G.length ∧ ab_slots G2 = ab_slots G ∧ cc o G2 a 60 (ab_ob 8 [vz mst, q0, vz vr, vz ro, vR cu, vz cn, vR eg, vR po, vR bg, vR bd, vz ct2, vR sd, vz sc, vR se_, vz sta, vR stk, vz arv, vj stp]) ∧ cc o G2 eg 62 (za 8000 EG2) ∧ cc o G2 po 63 (za 8192 PO2) ∧ cc o G2 bg 64 (za 65 BG2) ∧ cc o G2 bd 65 (za 64 BD2) ∧ (0 ≤ v ∧ v < ct2 ∧ ct2 ≤ mst) ∧ (bgo BG2 ct2) ∧ (ents PO2 (BG2 ct2) cnt) ∧ (ego EG2 ct2 (cn + 5)) ∧ (rgs BD2 64 0 7) ∧ (ksR EG PO BG BD ct (cn + 5) EG2 PO2 BG2 BD2 ct2 v ah SD sc) ∧ (ct2 = 1 ∧ 4 ≤ ct))) := by
  refine ab_F_of (by decide +kernel) (Nat.le_of_ble_eq_true rfl) ?_
  obtain ⟨Q, hQ⟩ : ∃ z : Outcome → ab_G → Prop, z = (fun oc G2 => (∃ v : Int, ∃ ct2 : Int, ∃ EG2 : Int → Int, ∃ PO2 : Int → Int, ∃ BG2 : Int → Int, ∃ BD2 : Int → Int, oc = .returned (some (vz v)) ∧ fx o o [60, 62, 63, 64, 65] G G2 ∧ G2.length = G.length ∧ ab_slots G2 = ab_slots G ∧ cc o G2 a 60 (ab_ob 8 [vz mst, q0, vz vr, vz ro, vR cu, vz cn, vR eg, vR po, vR bg, vR bd, vz ct2, vR sd, vz sc, vR se_, vz sta, vR stk, vz arv, vj stp]) ∧ cc o G2 eg 62 (za 8000 EG2) ∧ cc o G2 po 63 (za 8192 PO2) ∧ cc o G2 bg 64 (za 65 BG2) ∧ cc o G2 bd 65 (za 64 BD2) ∧ (0 ≤ v ∧ v < ct2 ∧ ct2 ≤ mst) ∧ (bgo BG2 ct2) ∧ (ents PO2 (BG2 ct2) cnt) ∧ (ego EG2 ct2 (cn + 5)) ∧ (rgs BD2 64 0 7) ∧ (ksR EG PO BG BD ct (cn + 5) EG2 PO2 BG2 BD2 ct2 v ah SD sc) ∧ (ct ≤ ct2)) ∨ (∃ v : Int, ∃ ct2 : Int, ∃ EG2 : Int → Int, ∃ PO2 : Int → Int, ∃ BG2 : Int → Int, ∃ BD2 : Int → Int, oc = .returned (some (vz v)) ∧ fx o o [60, 62, 63, 64, 65] G G2 ∧ G2.length = G.length ∧ ab_slots G2 = ab_slots G ∧ cc o G2 a 60 (ab_ob 8 [vz mst, q0, vz vr, vz ro, vR cu, vz cn, vR eg, vR po, vR bg, vR bd, vz ct2, vR sd, vz sc, vR se_, vz sta, vR stk, vz arv, vj stp]) ∧ cc o G2 eg 62 (za 8000 EG2) ∧ cc o G2 po 63 (za 8192 PO2) ∧ cc o G2 bg 64 (za 65 BG2) ∧ cc o G2 bd 65 (za 64 BD2) ∧ (0 ≤ v ∧ v < ct2 ∧ ct2 ≤ mst) ∧ (bgo BG2 ct2) ∧ (ents PO2 (BG2 ct2) cnt) ∧ (ego EG2 ct2 (cn + 5)) ∧ (rgs BD2 64 0 7) ∧ (ksR EG PO BG BD ct (cn + 5) EG2 PO2 BG2 BD2 ct2 v ah SD sc) ∧ (ct2 = 1 ∧ 4 ≤ ct))) := ⟨_, rfl⟩
  rw [← hQ]
  change ab_W X (ab_pl y_ST_keptState b_ST_keptState 3 (some (.int))) d G 0 [some (vR a), some (vz ah), none] [] Q
  have hfr : fx o o [60, 62, 63, 64, 65] G G := fx.rf
  have hlen : G.length = G.length := rfl
  have hsl : ab_slots G = ab_slots G := rfl
  refine zz_iconst d_ST_keptState_0 ?_
  refine ab_istore_n d_ST_keptState_1 (Nat.le_of_ble_eq_true rfl) (Nat.le_of_ble_eq_true rfl) rfl ?_
  change ab_W _ _ _ G 2 [some (vR a), some (vz ah), some (vz 0)] [] _
  refine y_ST_keptState_2 (a := a) (cu := cu) (eg := eg) (po := po) (bg := bg) (bd := bd) (sd := sd) (se_ := se_) (stk := stk) (mst := mst) (q0 := q0) (vr := vr) (ro := ro) (cn := cn) (ct := ct) (sc := sc) (sta := sta) (arv := arv) (stp := stp) (EG := EG) (PO := PO) (BG := BG) (BD := BD) (SD := SD) (ah := ah) (G0 := G) (s_ := 0) (by omega) (by omega) (by omega) jbg jpo jsd (by omega) jbd (by omega) (Int.toNat (ct - 0) + 1) ha heg hpo hbg hbd hsd (by omega) fx.rf rfl rfl (by omega) (fun G1 v2 hNa hNeg hNpo hNbg hNbd hNsd hq3 hq4 hq5 hfk hlk hsk => ?_) (fun G6 hNa hNeg hNpo hNbg hNbd hNsd hfk hlk hsk => ?_)
  · have hfr := hfr.tr hfk (by decide)
    have hlen := hlk.trans hlen
    have hsl := hsk.trans hsl
    have ha := hNa
    have heg := hNeg
    have hpo := hNpo
    have hbg := hNbg
    have hbd := hNbd
    have hsd := hNsd
    rw [hQ]; exact (Or.inl ⟨_, _, _, _, _, _, rfl, hfr, hlen, hsl, ha, heg, hpo, hbg, hbd, (by omega), (by exact jbg), (by exact jpo), (by exact jeg), (by first | exact jbd | exact rgs_w jbd (by omega)), (by exact ksR_f (by omega) hq5 rfl), (by omega)⟩)
  · have hfr := hfr.tr hfk (by decide)
    have hlen := hlk.trans hlen
    have hsl := hsk.trans hsl
    have ha := hNa
    have heg := hNeg
    have hpo := hNpo
    have hbg := hNbg
    have hbd := hNbd
    have hsd := hNsd
    change ab_W _ _ _ G6 36 [some (vR a), some (vz ah), none] [] _
    have jb := jbg.at ct (by omega) (Int.le_refl _)
    have jb0 := jbg.1
    refine ab_aload_n d_ST_keptState_36 rfl ?_
    refine ab_getf (fs := [vz mst, q0, vz vr, vz ro, vR cu, vz cn, vR eg, vR po, vR bg, vR bd, vz ct, vR sd, vz sc, vR se_, vz sta, vR stk, vz arv, vj stp]) f_ST_40 d_ST_keptState_37 ha.2.2 rfl ?_
    refine ab_aload_n d_ST_keptState_40 rfl ?_
    refine ab_getf (fs := [vz mst, q0, vz vr, vz ro, vR cu, vz cn, vR eg, vR po, vR bg, vR bd, vz ct, vR sd, vz sc, vR se_, vz sta, vR stk, vz arv, vj stp]) f_ST_9 d_ST_keptState_41 ha.2.2 rfl ?_
    refine zz_icmp_ge (tgt := 67) d_ST_keptState_44 (by decide) (by omega) (by omega) (fun c7 => ?_) (fun c7 => ?_)
    · refine ab_aload_n d_ST_keptState_67 rfl ?_
      refine zz_iconst d_ST_keptState_68 ?_
      refine ab_putf (fs := [vz mst, q0, vz vr, vz ro, vR cu, vz cn, vR eg, vR po, vR bg, vR bd, vz ct, vR sd, vz sc, vR se_, vz sta, vR stk, vz arv, vj stp]) f_ST_40 (Or.inl rfl) d_ST_keptState_69 ha.2.2 (Nat.le_of_ble_eq_true rfl) (fun _ => ⟨rfl, rfl⟩) (ha.2.1 (by decide)) ?_
      obtain ⟨G8, eG8⟩ : ∃ z : ab_G, z = List.set G6 a (ab_ob 8 [vz mst, q0, vz vr, vz ro, vR cu, vz cn, vR eg, vR po, vR bg, vR bd, vz 0, vR sd, vz sc, vR se_, vz sta, vR stk, vz arv, vj stp]) := ⟨_, rfl⟩
      have heg := heg.keep ha eG8 (by decide)
      have hpo := hpo.keep ha eG8 (by decide)
      have hbg := hbg.keep ha eG8 (by decide)
      have hbd := hbd.keep ha eG8 (by decide)
      have hsd := hsd.keep ha eG8 (by decide)
      have hlen := (z_len eG8).trans hlen
      have hsl := (z_sl ha eG8 rfl).trans hsl
      have hfr := hfr.wr ha eG8 (by decide)
      have ha := ha.kept eG8
      change ab_W _ _ _ (List.set G6 a (ab_ob 8 [vz mst, q0, vz vr, vz ro, vR cu, vz cn, vR eg, vR po, vR bg, vR bd, vz 0, vR sd, vz sc, vR se_, vz sta, vR stk, vz arv, vj stp])) 72 [some (vR a), some (vz ah), none] [] _
      rw [← eG8]
      refine ab_aload_n d_ST_keptState_72 rfl ?_
      refine ab_getf (fs := [vz mst, q0, vz vr, vz ro, vR cu, vz cn, vR eg, vR po, vR bg, vR bd, vz 0, vR sd, vz sc, vR se_, vz sta, vR stk, vz arv, vj stp]) f_ST_31 d_ST_keptState_73 ha.2.2 rfl ?_
      refine zz_iconst d_ST_keptState_76 ?_
      refine ab_aload_n d_ST_keptState_77 rfl ?_
      refine ab_getf (fs := [vz mst, q0, vz vr, vz ro, vR cu, vz cn, vR eg, vR po, vR bg, vR bd, vz 0, vR sd, vz sc, vR se_, vz sta, vR stk, vz arv, vj stp]) f_ST_22 d_ST_keptState_78 ha.2.2 rfl ?_
      refine ab_aload_n d_ST_keptState_81 rfl ?_
      refine ab_getf (fs := [vz mst, q0, vz vr, vz ro, vR cu, vz cn, vR eg, vR po, vR bg, vR bd, vz 0, vR sd, vz sc, vR se_, vz sta, vR stk, vz arv, vj stp]) f_ST_25 d_ST_keptState_82 ha.2.2 rfl ?_
      refine ab_aload_n d_ST_keptState_85 rfl ?_
      refine ab_getf (fs := [vz mst, q0, vz vr, vz ro, vR cu, vz cn, vR eg, vR po, vR bg, vR bd, vz 0, vR sd, vz sc, vR se_, vz sta, vR stk, vz arv, vj stp]) f_ST_40 d_ST_keptState_86 ha.2.2 rfl ?_
      refine zz_iald d_ST_keptState_89 hbg (by omega) ?_
      refine ab_aload_n d_ST_keptState_90 rfl ?_
      refine ab_getf (fs := [vz mst, q0, vz vr, vz ro, vR cu, vz cn, vR eg, vR po, vR bg, vR bd, vz 0, vR sd, vz sc, vR se_, vz sta, vR stk, vz arv, vj stp]) f_ST_126 d_ST_keptState_91 ha.2.2 rfl ?_
      refine zz_copy mj_ST_111 d_ST_keptState_94 hsd hpo (hpo.2.1 (by decide)) (by omega) (Nat.le_of_ble_eq_true rfl) (by omega) ?_
      obtain ⟨G9, eG9⟩ : ∃ z : ab_G, z = List.set G8 po (za 8192 (zcpy SD PO 0 (BG 0) sc)) := ⟨_, rfl⟩
      have ha := ha.keep hpo eG9 (by decide)
      have heg := heg.keep hpo eG9 (by decide)
      have hbg := hbg.keep hpo eG9 (by decide)
      have hbd := hbd.keep hpo eG9 (by decide)
      have hsd := hsd.keep hpo eG9 (by decide)
      have hlen := (z_len eG9).trans hlen
      have hsl := (z_sl hpo eG9 rfl).trans hsl
      have hfr := hfr.wr hpo eG9 (by decide)
      have hpo := hpo.kept eG9
      change ab_W _ _ _ (List.set G8 po (za 8192 (zcpy SD PO 0 (BG 0) sc))) 97 [some (vR a), some (vz ah), none] [] _
      rw [← eG9]
      refine ab_aload_n d_ST_keptState_97 rfl ?_
      refine ab_getf (fs := [vz mst, q0, vz vr, vz ro, vR cu, vz cn, vR eg, vR po, vR bg, vR bd, vz 0, vR sd, vz sc, vR se_, vz sta, vR stk, vz arv, vj stp]) f_ST_25 d_ST_keptState_98 ha.2.2 rfl ?_
      refine ab_aload_n d_ST_keptState_101 rfl ?_
      refine ab_getf (fs := [vz mst, q0, vz vr, vz ro, vR cu, vz cn, vR eg, vR po, vR bg, vR bd, vz 0, vR sd, vz sc, vR se_, vz sta, vR stk, vz arv, vj stp]) f_ST_40 d_ST_keptState_102 ha.2.2 rfl ?_
      refine zz_iconst d_ST_keptState_105 ?_
      refine zz_iadd d_ST_keptState_106 ?_
      refine zz_top (y := 1) (by decide) ?_
      refine ab_aload_n d_ST_keptState_107 rfl ?_
      refine ab_getf (fs := [vz mst, q0, vz vr, vz ro, vR cu, vz cn, vR eg, vR po, vR bg, vR bd, vz 0, vR sd, vz sc, vR se_, vz sta, vR stk, vz arv, vj stp]) f_ST_25 d_ST_keptState_108 ha.2.2 rfl ?_
      refine ab_aload_n d_ST_keptState_111 rfl ?_
      refine ab_getf (fs := [vz mst, q0, vz vr, vz ro, vR cu, vz cn, vR eg, vR po, vR bg, vR bd, vz 0, vR sd, vz sc, vR se_, vz sta, vR stk, vz arv, vj stp]) f_ST_40 d_ST_keptState_112 ha.2.2 rfl ?_
      refine zz_iald d_ST_keptState_115 hbg (by omega) ?_
      refine ab_aload_n d_ST_keptState_116 rfl ?_
      refine ab_getf (fs := [vz mst, q0, vz vr, vz ro, vR cu, vz cn, vR eg, vR po, vR bg, vR bd, vz 0, vR sd, vz sc, vR se_, vz sta, vR stk, vz arv, vj stp]) f_ST_126 d_ST_keptState_117 ha.2.2 rfl ?_
      refine zz_iadd d_ST_keptState_120 ?_
      refine zz_iast d_ST_keptState_121 hbg (by omega) (hbg.2.1 (by decide)) ?_
      obtain ⟨G10, eG10⟩ : ∃ z : ab_G, z = List.set G9 bg (za 65 (zu BG 1 ((BG 0) + sc))) := ⟨_, rfl⟩
      have ha := ha.keep hbg eG10 (by decide)
      have heg := heg.keep hbg eG10 (by decide)
      have hpo := hpo.keep hbg eG10 (by decide)
      have hbd := hbd.keep hbg eG10 (by decide)
      have hsd := hsd.keep hbg eG10 (by decide)
      have hlen := (z_len eG10).trans hlen
      have hsl := (z_sl hbg eG10 rfl).trans hsl
      have hfr := hfr.wr hbg eG10 (by decide)
      have hbg := hbg.kept eG10
      change ab_W _ _ _ (List.set G9 bg (za 65 (zu BG 1 ((BG 0) + sc)))) 122 [some (vR a), some (vz ah), none] [] _
      rw [← eG10]
      refine ab_aload_n d_ST_keptState_122 rfl ?_
      refine ab_getf (fs := [vz mst, q0, vz vr, vz ro, vR cu, vz cn, vR eg, vR po, vR bg, vR bd, vz 0, vR sd, vz sc, vR se_, vz sta, vR stk, vz arv, vj stp]) f_ST_28 d_ST_keptState_123 ha.2.2 rfl ?_
      refine ab_aload_n d_ST_keptState_126 rfl ?_
      refine ab_getf (fs := [vz mst, q0, vz vr, vz ro, vR cu, vz cn, vR eg, vR po, vR bg, vR bd, vz 0, vR sd, vz sc, vR se_, vz sta, vR stk, vz arv, vj stp]) f_ST_40 d_ST_keptState_127 ha.2.2 rfl ?_
      refine ab_iload_n d_ST_keptState_130 rfl ?_
      refine zz_iast d_ST_keptState_131 hbd (by omega) (hbd.2.1 (by decide)) ?_
      obtain ⟨G11, eG11⟩ : ∃ z : ab_G, z = List.set G10 bd (za 64 (zu BD 0 ah)) := ⟨_, rfl⟩
      have ha := ha.keep hbd eG11 (by decide)
      have heg := heg.keep hbd eG11 (by decide)
      have hpo := hpo.keep hbd eG11 (by decide)
      have hbg := hbg.keep hbd eG11 (by decide)
      have hsd := hsd.keep hbd eG11 (by decide)
      have hlen := (z_len eG11).trans hlen
      have hsl := (z_sl hbd eG11 rfl).trans hsl
      have hfr := hfr.wr hbd eG11 (by decide)
      have hbd := hbd.kept eG11
      change ab_W _ _ _ (List.set G10 bd (za 64 (zu BD 0 ah))) 132 [some (vR a), some (vz ah), none] [] _
      rw [← eG11]
      refine ab_aload_n d_ST_keptState_132 rfl ?_
      refine ab_getf (fs := [vz mst, q0, vz vr, vz ro, vR cu, vz cn, vR eg, vR po, vR bg, vR bd, vz 0, vR sd, vz sc, vR se_, vz sta, vR stk, vz arv, vj stp]) f_ST_63 d_ST_keptState_133 ha.2.2 rfl ?_
      refine zz_iconst d_ST_keptState_136 ?_
      refine zz_iadd d_ST_keptState_137 ?_
      refine ab_istore_n d_ST_keptState_138 (Nat.le_of_ble_eq_true rfl) (Nat.le_of_ble_eq_true rfl) rfl ?_
      change ab_W _ _ _ G11 139 [some (vR a), some (vz ah), some (vz (cn + 5))] [] _
      refine ab_aload_n d_ST_keptState_139 rfl ?_
      refine ab_getf (fs := [vz mst, q0, vz vr, vz ro, vR cu, vz cn, vR eg, vR po, vR bg, vR bd, vz 0, vR sd, vz sc, vR se_, vz sta, vR stk, vz arv, vj stp]) f_ST_19 d_ST_keptState_140 ha.2.2 rfl ?_
      refine ab_aload_n d_ST_keptState_143 rfl ?_
      refine ab_getf (fs := [vz mst, q0, vz vr, vz ro, vR cu, vz cn, vR eg, vR po, vR bg, vR bd, vz 0, vR sd, vz sc, vR se_, vz sta, vR stk, vz arv, vj stp]) f_ST_40 d_ST_keptState_144 ha.2.2 rfl ?_
      refine ab_iload_n d_ST_keptState_147 rfl ?_
      refine zz_imul d_ST_keptState_148 ?_
      obtain ⟨v12, hv12⟩ : ∃ z : Int, z = 0 * (cn + 5) := ⟨_, rfl⟩
      rw [← hv12]
      have hv12b := z_mulb (a := 0) (b := (cn + 5)) (A := 64) (B := 125) (by omega) (by omega)
      rw [← hv12] at hv12b
      change ab_W _ _ _ G11 149 [some (vR a), some (vz ah), some (vz (cn + 5))] [vz v12, vR eg] _
      refine ab_aload_n d_ST_keptState_149 rfl ?_
      refine ab_getf (fs := [vz mst, q0, vz vr, vz ro, vR cu, vz cn, vR eg, vR po, vR bg, vR bd, vz 0, vR sd, vz sc, vR se_, vz sta, vR stk, vz arv, vj stp]) f_ST_40 d_ST_keptState_150 ha.2.2 rfl ?_
      refine zz_iconst d_ST_keptState_153 ?_
      refine zz_iadd d_ST_keptState_154 ?_
      refine zz_top (y := 1) (by decide) ?_
      refine ab_iload_n d_ST_keptState_155 rfl ?_
      refine zz_imul d_ST_keptState_156 ?_
      obtain ⟨v13, hv13⟩ : ∃ z : Int, z = 1 * (cn + 5) := ⟨_, rfl⟩
      rw [← hv13]
      have hv13b := z_mulb (a := 1) (b := (cn + 5)) (A := 64) (B := 125) (by omega) (by omega)
      rw [← hv13] at hv13b
      change ab_W _ _ _ G11 157 [some (vR a), some (vz ah), some (vz (cn + 5))] [vz v13, vz v12, vR eg] _
      refine zz_iconst d_ST_keptState_157 ?_
      refine ab_callS (d' := d - 1) (as := [vR eg, vz v12, vz v13, vz 0]) (st := []) (z_AR_fillr (o := o) (a := eg) (l := 62) (n := 8000) (f := EG) (v := 0) (x := v12) (y := v13) heg (by have h18 : ab_n0 = 18 := rfl; omega) (by omega)) (fun oc G2 h => by rcases h with ⟨h, _⟩ <;> exact ⟨_, h⟩) (by omega) m_AR_fillr ml_ST_179 st_AR_fillr (Nat.le_of_ble_eq_true rfl) d_ST_keptState_158 rfl ?_
      intro v G14 hq
      rcases hq with ⟨hv, hfk, hlk, hsk, hNeg⟩
      cases hv
      have ha := hfk.get ha (by decide)
      have hpo := hfk.get hpo (by decide)
      have hbg := hfk.get hbg (by decide)
      have hbd := hfk.get hbd (by decide)
      have hsd := hfk.get hsd (by decide)
      have hfr := hfr.tr hfk (by decide)
      have hlen := hlk.trans hlen
      have hsl := hsk.trans hsl
      have heg := hNeg
      change ab_W _ _ _ G14 161 [some (vR a), some (vz ah), some (vz (cn + 5))] [] _
      refine ab_aload_n d_ST_keptState_161 rfl ?_
      refine ab_dup d_ST_keptState_162 rfl ?_
      refine ab_getf (fs := [vz mst, q0, vz vr, vz ro, vR cu, vz cn, vR eg, vR po, vR bg, vR bd, vz 0, vR sd, vz sc, vR se_, vz sta, vR stk, vz arv, vj stp]) f_ST_40 d_ST_keptState_163 ha.2.2 rfl ?_
      refine zz_iconst d_ST_keptState_166 ?_
      refine zz_iadd d_ST_keptState_167 ?_
      refine zz_top (y := 1) (by decide) ?_
      refine ab_putf (fs := [vz mst, q0, vz vr, vz ro, vR cu, vz cn, vR eg, vR po, vR bg, vR bd, vz 0, vR sd, vz sc, vR se_, vz sta, vR stk, vz arv, vj stp]) f_ST_40 (Or.inl rfl) d_ST_keptState_168 ha.2.2 (Nat.le_of_ble_eq_true rfl) (fun _ => ⟨rfl, rfl⟩) (ha.2.1 (by decide)) ?_
      obtain ⟨G15, eG15⟩ : ∃ z : ab_G, z = List.set G14 a (ab_ob 8 [vz mst, q0, vz vr, vz ro, vR cu, vz cn, vR eg, vR po, vR bg, vR bd, vz 1, vR sd, vz sc, vR se_, vz sta, vR stk, vz arv, vj stp]) := ⟨_, rfl⟩
      have heg := heg.keep ha eG15 (by decide)
      have hpo := hpo.keep ha eG15 (by decide)
      have hbg := hbg.keep ha eG15 (by decide)
      have hbd := hbd.keep ha eG15 (by decide)
      have hsd := hsd.keep ha eG15 (by decide)
      have hlen := (z_len eG15).trans hlen
      have hsl := (z_sl ha eG15 rfl).trans hsl
      have hfr := hfr.wr ha eG15 (by decide)
      have ha := ha.kept eG15
      change ab_W _ _ _ (List.set G14 a (ab_ob 8 [vz mst, q0, vz vr, vz ro, vR cu, vz cn, vR eg, vR po, vR bg, vR bd, vz 1, vR sd, vz sc, vR se_, vz sta, vR stk, vz arv, vj stp])) 171 [some (vR a), some (vz ah), some (vz (cn + 5))] [] _
      rw [← eG15]
      refine ab_aload_n d_ST_keptState_171 rfl ?_
      refine ab_getf (fs := [vz mst, q0, vz vr, vz ro, vR cu, vz cn, vR eg, vR po, vR bg, vR bd, vz 1, vR sd, vz sc, vR se_, vz sta, vR stk, vz arv, vj stp]) f_ST_40 d_ST_keptState_172 ha.2.2 rfl ?_
      refine zz_iconst d_ST_keptState_175 ?_
      refine zz_isub d_ST_keptState_176 ?_
      refine zz_top (y := 0) (by decide) ?_
      refine zz_iret rfl d_ST_keptState_177 ?_
      rw [hQ]; exact (Or.inr ⟨_, _, _, _, _, _, rfl, hfr, hlen, hsl, ha, heg, hpo, hbg, hbd, (by omega), (by exact bgo_s (ct := 0) (bgo_0 jbg) (by omega) (by omega)), (by rw [zu_self]; exact ents_cpy jsd (by rw [jb0]; exact ents_0) (by omega)), (by rw [hv12, hv13]; exact ego_new (ct := 0) ego_0 (by omega)), (by first | exact (rgs_zu jbd (by omega)) | exact rgs_w (rgs_zu jbd (by omega)) (by omega)), (by exact ksR_r (by omega) (by omega) (by omega) jbg (by omega) (by rw [hv12, hv13] <;> rfl)), (by omega)⟩)
    · refine ab_aload_n d_ST_keptState_47 rfl ?_
      refine ab_getf (fs := [vz mst, q0, vz vr, vz ro, vR cu, vz cn, vR eg, vR po, vR bg, vR bd, vz ct, vR sd, vz sc, vR se_, vz sta, vR stk, vz arv, vj stp]) f_ST_25 d_ST_keptState_48 ha.2.2 rfl ?_
      refine ab_aload_n d_ST_keptState_51 rfl ?_
      refine ab_getf (fs := [vz mst, q0, vz vr, vz ro, vR cu, vz cn, vR eg, vR po, vR bg, vR bd, vz ct, vR sd, vz sc, vR se_, vz sta, vR stk, vz arv, vj stp]) f_ST_40 d_ST_keptState_52 ha.2.2 rfl ?_
      refine zz_iald d_ST_keptState_55 hbg (by omega) ?_
      refine ab_aload_n d_ST_keptState_56 rfl ?_
      refine ab_getf (fs := [vz mst, q0, vz vr, vz ro, vR cu, vz cn, vR eg, vR po, vR bg, vR bd, vz ct, vR sd, vz sc, vR se_, vz sta, vR stk, vz arv, vj stp]) f_ST_126 d_ST_keptState_57 ha.2.2 rfl ?_
      refine zz_iadd d_ST_keptState_60 ?_
      refine zz_sipush d_ST_keptState_61 (by decide) ?_
      refine zz_icmp_le (tgt := 72) d_ST_keptState_64 (by decide) (by omega) (by decide) (fun c16 => ?_) (fun c16 => ?_)
      · refine ab_aload_n d_ST_keptState_72 rfl ?_
        refine ab_getf (fs := [vz mst, q0, vz vr, vz ro, vR cu, vz cn, vR eg, vR po, vR bg, vR bd, vz ct, vR sd, vz sc, vR se_, vz sta, vR stk, vz arv, vj stp]) f_ST_31 d_ST_keptState_73 ha.2.2 rfl ?_
        refine zz_iconst d_ST_keptState_76 ?_
        refine ab_aload_n d_ST_keptState_77 rfl ?_
        refine ab_getf (fs := [vz mst, q0, vz vr, vz ro, vR cu, vz cn, vR eg, vR po, vR bg, vR bd, vz ct, vR sd, vz sc, vR se_, vz sta, vR stk, vz arv, vj stp]) f_ST_22 d_ST_keptState_78 ha.2.2 rfl ?_
        refine ab_aload_n d_ST_keptState_81 rfl ?_
        refine ab_getf (fs := [vz mst, q0, vz vr, vz ro, vR cu, vz cn, vR eg, vR po, vR bg, vR bd, vz ct, vR sd, vz sc, vR se_, vz sta, vR stk, vz arv, vj stp]) f_ST_25 d_ST_keptState_82 ha.2.2 rfl ?_
        refine ab_aload_n d_ST_keptState_85 rfl ?_
        refine ab_getf (fs := [vz mst, q0, vz vr, vz ro, vR cu, vz cn, vR eg, vR po, vR bg, vR bd, vz ct, vR sd, vz sc, vR se_, vz sta, vR stk, vz arv, vj stp]) f_ST_40 d_ST_keptState_86 ha.2.2 rfl ?_
        refine zz_iald d_ST_keptState_89 hbg (by omega) ?_
        refine ab_aload_n d_ST_keptState_90 rfl ?_
        refine ab_getf (fs := [vz mst, q0, vz vr, vz ro, vR cu, vz cn, vR eg, vR po, vR bg, vR bd, vz ct, vR sd, vz sc, vR se_, vz sta, vR stk, vz arv, vj stp]) f_ST_126 d_ST_keptState_91 ha.2.2 rfl ?_
        refine zz_copy mj_ST_111 d_ST_keptState_94 hsd hpo (hpo.2.1 (by decide)) (by omega) (Nat.le_of_ble_eq_true rfl) (by omega) ?_
        obtain ⟨G17, eG17⟩ : ∃ z : ab_G, z = List.set G6 po (za 8192 (zcpy SD PO 0 (BG ct) sc)) := ⟨_, rfl⟩
        have ha := ha.keep hpo eG17 (by decide)
        have heg := heg.keep hpo eG17 (by decide)
        have hbg := hbg.keep hpo eG17 (by decide)
        have hbd := hbd.keep hpo eG17 (by decide)
        have hsd := hsd.keep hpo eG17 (by decide)
        have hlen := (z_len eG17).trans hlen
        have hsl := (z_sl hpo eG17 rfl).trans hsl
        have hfr := hfr.wr hpo eG17 (by decide)
        have hpo := hpo.kept eG17
        change ab_W _ _ _ (List.set G6 po (za 8192 (zcpy SD PO 0 (BG ct) sc))) 97 [some (vR a), some (vz ah), none] [] _
        rw [← eG17]
        refine ab_aload_n d_ST_keptState_97 rfl ?_
        refine ab_getf (fs := [vz mst, q0, vz vr, vz ro, vR cu, vz cn, vR eg, vR po, vR bg, vR bd, vz ct, vR sd, vz sc, vR se_, vz sta, vR stk, vz arv, vj stp]) f_ST_25 d_ST_keptState_98 ha.2.2 rfl ?_
        refine ab_aload_n d_ST_keptState_101 rfl ?_
        refine ab_getf (fs := [vz mst, q0, vz vr, vz ro, vR cu, vz cn, vR eg, vR po, vR bg, vR bd, vz ct, vR sd, vz sc, vR se_, vz sta, vR stk, vz arv, vj stp]) f_ST_40 d_ST_keptState_102 ha.2.2 rfl ?_
        refine zz_iconst d_ST_keptState_105 ?_
        refine zz_iadd d_ST_keptState_106 ?_
        refine ab_aload_n d_ST_keptState_107 rfl ?_
        refine ab_getf (fs := [vz mst, q0, vz vr, vz ro, vR cu, vz cn, vR eg, vR po, vR bg, vR bd, vz ct, vR sd, vz sc, vR se_, vz sta, vR stk, vz arv, vj stp]) f_ST_25 d_ST_keptState_108 ha.2.2 rfl ?_
        refine ab_aload_n d_ST_keptState_111 rfl ?_
        refine ab_getf (fs := [vz mst, q0, vz vr, vz ro, vR cu, vz cn, vR eg, vR po, vR bg, vR bd, vz ct, vR sd, vz sc, vR se_, vz sta, vR stk, vz arv, vj stp]) f_ST_40 d_ST_keptState_112 ha.2.2 rfl ?_
        refine zz_iald d_ST_keptState_115 hbg (by omega) ?_
        refine ab_aload_n d_ST_keptState_116 rfl ?_
        refine ab_getf (fs := [vz mst, q0, vz vr, vz ro, vR cu, vz cn, vR eg, vR po, vR bg, vR bd, vz ct, vR sd, vz sc, vR se_, vz sta, vR stk, vz arv, vj stp]) f_ST_126 d_ST_keptState_117 ha.2.2 rfl ?_
        refine zz_iadd d_ST_keptState_120 ?_
        refine zz_iast d_ST_keptState_121 hbg (by omega) (hbg.2.1 (by decide)) ?_
        obtain ⟨G18, eG18⟩ : ∃ z : ab_G, z = List.set G17 bg (za 65 (zu BG (ct + 1) ((BG ct) + sc))) := ⟨_, rfl⟩
        have ha := ha.keep hbg eG18 (by decide)
        have heg := heg.keep hbg eG18 (by decide)
        have hpo := hpo.keep hbg eG18 (by decide)
        have hbd := hbd.keep hbg eG18 (by decide)
        have hsd := hsd.keep hbg eG18 (by decide)
        have hlen := (z_len eG18).trans hlen
        have hsl := (z_sl hbg eG18 rfl).trans hsl
        have hfr := hfr.wr hbg eG18 (by decide)
        have hbg := hbg.kept eG18
        change ab_W _ _ _ (List.set G17 bg (za 65 (zu BG (ct + 1) ((BG ct) + sc)))) 122 [some (vR a), some (vz ah), none] [] _
        rw [← eG18]
        refine ab_aload_n d_ST_keptState_122 rfl ?_
        refine ab_getf (fs := [vz mst, q0, vz vr, vz ro, vR cu, vz cn, vR eg, vR po, vR bg, vR bd, vz ct, vR sd, vz sc, vR se_, vz sta, vR stk, vz arv, vj stp]) f_ST_28 d_ST_keptState_123 ha.2.2 rfl ?_
        refine ab_aload_n d_ST_keptState_126 rfl ?_
        refine ab_getf (fs := [vz mst, q0, vz vr, vz ro, vR cu, vz cn, vR eg, vR po, vR bg, vR bd, vz ct, vR sd, vz sc, vR se_, vz sta, vR stk, vz arv, vj stp]) f_ST_40 d_ST_keptState_127 ha.2.2 rfl ?_
        refine ab_iload_n d_ST_keptState_130 rfl ?_
        refine zz_iast d_ST_keptState_131 hbd (by omega) (hbd.2.1 (by decide)) ?_
        obtain ⟨G19, eG19⟩ : ∃ z : ab_G, z = List.set G18 bd (za 64 (zu BD ct ah)) := ⟨_, rfl⟩
        have ha := ha.keep hbd eG19 (by decide)
        have heg := heg.keep hbd eG19 (by decide)
        have hpo := hpo.keep hbd eG19 (by decide)
        have hbg := hbg.keep hbd eG19 (by decide)
        have hsd := hsd.keep hbd eG19 (by decide)
        have hlen := (z_len eG19).trans hlen
        have hsl := (z_sl hbd eG19 rfl).trans hsl
        have hfr := hfr.wr hbd eG19 (by decide)
        have hbd := hbd.kept eG19
        change ab_W _ _ _ (List.set G18 bd (za 64 (zu BD ct ah))) 132 [some (vR a), some (vz ah), none] [] _
        rw [← eG19]
        refine ab_aload_n d_ST_keptState_132 rfl ?_
        refine ab_getf (fs := [vz mst, q0, vz vr, vz ro, vR cu, vz cn, vR eg, vR po, vR bg, vR bd, vz ct, vR sd, vz sc, vR se_, vz sta, vR stk, vz arv, vj stp]) f_ST_63 d_ST_keptState_133 ha.2.2 rfl ?_
        refine zz_iconst d_ST_keptState_136 ?_
        refine zz_iadd d_ST_keptState_137 ?_
        refine ab_istore_n d_ST_keptState_138 (Nat.le_of_ble_eq_true rfl) (Nat.le_of_ble_eq_true rfl) rfl ?_
        change ab_W _ _ _ G19 139 [some (vR a), some (vz ah), some (vz (cn + 5))] [] _
        refine ab_aload_n d_ST_keptState_139 rfl ?_
        refine ab_getf (fs := [vz mst, q0, vz vr, vz ro, vR cu, vz cn, vR eg, vR po, vR bg, vR bd, vz ct, vR sd, vz sc, vR se_, vz sta, vR stk, vz arv, vj stp]) f_ST_19 d_ST_keptState_140 ha.2.2 rfl ?_
        refine ab_aload_n d_ST_keptState_143 rfl ?_
        refine ab_getf (fs := [vz mst, q0, vz vr, vz ro, vR cu, vz cn, vR eg, vR po, vR bg, vR bd, vz ct, vR sd, vz sc, vR se_, vz sta, vR stk, vz arv, vj stp]) f_ST_40 d_ST_keptState_144 ha.2.2 rfl ?_
        refine ab_iload_n d_ST_keptState_147 rfl ?_
        refine zz_imul d_ST_keptState_148 ?_
        obtain ⟨v20, hv20⟩ : ∃ z : Int, z = ct * (cn + 5) := ⟨_, rfl⟩
        rw [← hv20]
        have hv20b := z_mulb (a := ct) (b := (cn + 5)) (A := 64) (B := 125) (by omega) (by omega)
        rw [← hv20] at hv20b
        change ab_W _ _ _ G19 149 [some (vR a), some (vz ah), some (vz (cn + 5))] [vz v20, vR eg] _
        refine ab_aload_n d_ST_keptState_149 rfl ?_
        refine ab_getf (fs := [vz mst, q0, vz vr, vz ro, vR cu, vz cn, vR eg, vR po, vR bg, vR bd, vz ct, vR sd, vz sc, vR se_, vz sta, vR stk, vz arv, vj stp]) f_ST_40 d_ST_keptState_150 ha.2.2 rfl ?_
        refine zz_iconst d_ST_keptState_153 ?_
        refine zz_iadd d_ST_keptState_154 ?_
        refine ab_iload_n d_ST_keptState_155 rfl ?_
        refine zz_imul d_ST_keptState_156 ?_
        obtain ⟨v21, hv21⟩ : ∃ z : Int, z = (ct + 1) * (cn + 5) := ⟨_, rfl⟩
        rw [← hv21]
        have hv21b := z_mulb (a := (ct + 1)) (b := (cn + 5)) (A := 64) (B := 125) (by omega) (by omega)
        rw [← hv21] at hv21b
        change ab_W _ _ _ G19 157 [some (vR a), some (vz ah), some (vz (cn + 5))] [vz v21, vz v20, vR eg] _
        have hm2 : (ct + 1) * (cn + 5) = ct * (cn + 5) + (cn + 5) := by rw [Int.add_mul, Int.one_mul]
        refine zz_iconst d_ST_keptState_157 ?_
        refine ab_callS (d' := d - 1) (as := [vR eg, vz v20, vz v21, vz 0]) (st := []) (z_AR_fillr (o := o) (a := eg) (l := 62) (n := 8000) (f := EG) (v := 0) (x := v20) (y := v21) heg (by have h18 : ab_n0 = 18 := rfl; omega) (by omega)) (fun oc G2 h => by rcases h with ⟨h, _⟩ <;> exact ⟨_, h⟩) (by omega) m_AR_fillr ml_ST_179 st_AR_fillr (Nat.le_of_ble_eq_true rfl) d_ST_keptState_158 rfl ?_
        intro v G22 hq
        rcases hq with ⟨hv, hfk, hlk, hsk, hNeg⟩
        cases hv
        have ha := hfk.get ha (by decide)
        have hpo := hfk.get hpo (by decide)
        have hbg := hfk.get hbg (by decide)
        have hbd := hfk.get hbd (by decide)
        have hsd := hfk.get hsd (by decide)
        have hfr := hfr.tr hfk (by decide)
        have hlen := hlk.trans hlen
        have hsl := hsk.trans hsl
        have heg := hNeg
        change ab_W _ _ _ G22 161 [some (vR a), some (vz ah), some (vz (cn + 5))] [] _
        refine ab_aload_n d_ST_keptState_161 rfl ?_
        refine ab_dup d_ST_keptState_162 rfl ?_
        refine ab_getf (fs := [vz mst, q0, vz vr, vz ro, vR cu, vz cn, vR eg, vR po, vR bg, vR bd, vz ct, vR sd, vz sc, vR se_, vz sta, vR stk, vz arv, vj stp]) f_ST_40 d_ST_keptState_163 ha.2.2 rfl ?_
        refine zz_iconst d_ST_keptState_166 ?_
        refine zz_iadd d_ST_keptState_167 ?_
        refine ab_putf (fs := [vz mst, q0, vz vr, vz ro, vR cu, vz cn, vR eg, vR po, vR bg, vR bd, vz ct, vR sd, vz sc, vR se_, vz sta, vR stk, vz arv, vj stp]) f_ST_40 (Or.inl rfl) d_ST_keptState_168 ha.2.2 (Nat.le_of_ble_eq_true rfl) (fun _ => ⟨rfl, rfl⟩) (ha.2.1 (by decide)) ?_
        obtain ⟨G23, eG23⟩ : ∃ z : ab_G, z = List.set G22 a (ab_ob 8 [vz mst, q0, vz vr, vz ro, vR cu, vz cn, vR eg, vR po, vR bg, vR bd, vz (ct + 1), vR sd, vz sc, vR se_, vz sta, vR stk, vz arv, vj stp]) := ⟨_, rfl⟩
        have heg := heg.keep ha eG23 (by decide)
        have hpo := hpo.keep ha eG23 (by decide)
        have hbg := hbg.keep ha eG23 (by decide)
        have hbd := hbd.keep ha eG23 (by decide)
        have hsd := hsd.keep ha eG23 (by decide)
        have hlen := (z_len eG23).trans hlen
        have hsl := (z_sl ha eG23 rfl).trans hsl
        have hfr := hfr.wr ha eG23 (by decide)
        have ha := ha.kept eG23
        change ab_W _ _ _ (List.set G22 a (ab_ob 8 [vz mst, q0, vz vr, vz ro, vR cu, vz cn, vR eg, vR po, vR bg, vR bd, vz (ct + 1), vR sd, vz sc, vR se_, vz sta, vR stk, vz arv, vj stp])) 171 [some (vR a), some (vz ah), some (vz (cn + 5))] [] _
        rw [← eG23]
        refine ab_aload_n d_ST_keptState_171 rfl ?_
        refine ab_getf (fs := [vz mst, q0, vz vr, vz ro, vR cu, vz cn, vR eg, vR po, vR bg, vR bd, vz (ct + 1), vR sd, vz sc, vR se_, vz sta, vR stk, vz arv, vj stp]) f_ST_40 d_ST_keptState_172 ha.2.2 rfl ?_
        refine zz_iconst d_ST_keptState_175 ?_
        refine zz_isub d_ST_keptState_176 ?_
        refine zz_iret rfl d_ST_keptState_177 ?_
        rw [hQ]; exact (Or.inl ⟨_, _, _, _, _, _, rfl, hfr, hlen, hsl, ha, heg, hpo, hbg, hbd, (by omega), (by exact bgo_s jbg (by omega) (by omega)), (by rw [zu_self]; exact ents_cpy jsd jpo (by omega)), (by rw [hv20, hv21]; exact ego_new (ct := ct) jeg (by omega)), (by first | exact (rgs_zu jbd (by omega)) | exact rgs_w (rgs_zu jbd (by omega)) (by omega)), (by exact ksR_n (by omega) (by omega) (by omega) jbg (by omega) (by rw [hv20, hv21] <;> rfl)), (by omega)⟩)
      · refine ab_aload_n d_ST_keptState_67 rfl ?_
        refine zz_iconst d_ST_keptState_68 ?_
        refine ab_putf (fs := [vz mst, q0, vz vr, vz ro, vR cu, vz cn, vR eg, vR po, vR bg, vR bd, vz ct, vR sd, vz sc, vR se_, vz sta, vR stk, vz arv, vj stp]) f_ST_40 (Or.inl rfl) d_ST_keptState_69 ha.2.2 (Nat.le_of_ble_eq_true rfl) (fun _ => ⟨rfl, rfl⟩) (ha.2.1 (by decide)) ?_
        obtain ⟨G24, eG24⟩ : ∃ z : ab_G, z = List.set G6 a (ab_ob 8 [vz mst, q0, vz vr, vz ro, vR cu, vz cn, vR eg, vR po, vR bg, vR bd, vz 0, vR sd, vz sc, vR se_, vz sta, vR stk, vz arv, vj stp]) := ⟨_, rfl⟩
        have heg := heg.keep ha eG24 (by decide)
        have hpo := hpo.keep ha eG24 (by decide)
        have hbg := hbg.keep ha eG24 (by decide)
        have hbd := hbd.keep ha eG24 (by decide)
        have hsd := hsd.keep ha eG24 (by decide)
        have hlen := (z_len eG24).trans hlen
        have hsl := (z_sl ha eG24 rfl).trans hsl
        have hfr := hfr.wr ha eG24 (by decide)
        have ha := ha.kept eG24
        change ab_W _ _ _ (List.set G6 a (ab_ob 8 [vz mst, q0, vz vr, vz ro, vR cu, vz cn, vR eg, vR po, vR bg, vR bd, vz 0, vR sd, vz sc, vR se_, vz sta, vR stk, vz arv, vj stp])) 72 [some (vR a), some (vz ah), none] [] _
        rw [← eG24]
        refine ab_aload_n d_ST_keptState_72 rfl ?_
        refine ab_getf (fs := [vz mst, q0, vz vr, vz ro, vR cu, vz cn, vR eg, vR po, vR bg, vR bd, vz 0, vR sd, vz sc, vR se_, vz sta, vR stk, vz arv, vj stp]) f_ST_31 d_ST_keptState_73 ha.2.2 rfl ?_
        refine zz_iconst d_ST_keptState_76 ?_
        refine ab_aload_n d_ST_keptState_77 rfl ?_
        refine ab_getf (fs := [vz mst, q0, vz vr, vz ro, vR cu, vz cn, vR eg, vR po, vR bg, vR bd, vz 0, vR sd, vz sc, vR se_, vz sta, vR stk, vz arv, vj stp]) f_ST_22 d_ST_keptState_78 ha.2.2 rfl ?_
        refine ab_aload_n d_ST_keptState_81 rfl ?_
        refine ab_getf (fs := [vz mst, q0, vz vr, vz ro, vR cu, vz cn, vR eg, vR po, vR bg, vR bd, vz 0, vR sd, vz sc, vR se_, vz sta, vR stk, vz arv, vj stp]) f_ST_25 d_ST_keptState_82 ha.2.2 rfl ?_
        refine ab_aload_n d_ST_keptState_85 rfl ?_
        refine ab_getf (fs := [vz mst, q0, vz vr, vz ro, vR cu, vz cn, vR eg, vR po, vR bg, vR bd, vz 0, vR sd, vz sc, vR se_, vz sta, vR stk, vz arv, vj stp]) f_ST_40 d_ST_keptState_86 ha.2.2 rfl ?_
        refine zz_iald d_ST_keptState_89 hbg (by omega) ?_
        refine ab_aload_n d_ST_keptState_90 rfl ?_
        refine ab_getf (fs := [vz mst, q0, vz vr, vz ro, vR cu, vz cn, vR eg, vR po, vR bg, vR bd, vz 0, vR sd, vz sc, vR se_, vz sta, vR stk, vz arv, vj stp]) f_ST_126 d_ST_keptState_91 ha.2.2 rfl ?_
        refine zz_copy mj_ST_111 d_ST_keptState_94 hsd hpo (hpo.2.1 (by decide)) (by omega) (Nat.le_of_ble_eq_true rfl) (by omega) ?_
        obtain ⟨G25, eG25⟩ : ∃ z : ab_G, z = List.set G24 po (za 8192 (zcpy SD PO 0 (BG 0) sc)) := ⟨_, rfl⟩
        have ha := ha.keep hpo eG25 (by decide)
        have heg := heg.keep hpo eG25 (by decide)
        have hbg := hbg.keep hpo eG25 (by decide)
        have hbd := hbd.keep hpo eG25 (by decide)
        have hsd := hsd.keep hpo eG25 (by decide)
        have hlen := (z_len eG25).trans hlen
        have hsl := (z_sl hpo eG25 rfl).trans hsl
        have hfr := hfr.wr hpo eG25 (by decide)
        have hpo := hpo.kept eG25
        change ab_W _ _ _ (List.set G24 po (za 8192 (zcpy SD PO 0 (BG 0) sc))) 97 [some (vR a), some (vz ah), none] [] _
        rw [← eG25]
        refine ab_aload_n d_ST_keptState_97 rfl ?_
        refine ab_getf (fs := [vz mst, q0, vz vr, vz ro, vR cu, vz cn, vR eg, vR po, vR bg, vR bd, vz 0, vR sd, vz sc, vR se_, vz sta, vR stk, vz arv, vj stp]) f_ST_25 d_ST_keptState_98 ha.2.2 rfl ?_
        refine ab_aload_n d_ST_keptState_101 rfl ?_
        refine ab_getf (fs := [vz mst, q0, vz vr, vz ro, vR cu, vz cn, vR eg, vR po, vR bg, vR bd, vz 0, vR sd, vz sc, vR se_, vz sta, vR stk, vz arv, vj stp]) f_ST_40 d_ST_keptState_102 ha.2.2 rfl ?_
        refine zz_iconst d_ST_keptState_105 ?_
        refine zz_iadd d_ST_keptState_106 ?_
        refine zz_top (y := 1) (by decide) ?_
        refine ab_aload_n d_ST_keptState_107 rfl ?_
        refine ab_getf (fs := [vz mst, q0, vz vr, vz ro, vR cu, vz cn, vR eg, vR po, vR bg, vR bd, vz 0, vR sd, vz sc, vR se_, vz sta, vR stk, vz arv, vj stp]) f_ST_25 d_ST_keptState_108 ha.2.2 rfl ?_
        refine ab_aload_n d_ST_keptState_111 rfl ?_
        refine ab_getf (fs := [vz mst, q0, vz vr, vz ro, vR cu, vz cn, vR eg, vR po, vR bg, vR bd, vz 0, vR sd, vz sc, vR se_, vz sta, vR stk, vz arv, vj stp]) f_ST_40 d_ST_keptState_112 ha.2.2 rfl ?_
        refine zz_iald d_ST_keptState_115 hbg (by omega) ?_
        refine ab_aload_n d_ST_keptState_116 rfl ?_
        refine ab_getf (fs := [vz mst, q0, vz vr, vz ro, vR cu, vz cn, vR eg, vR po, vR bg, vR bd, vz 0, vR sd, vz sc, vR se_, vz sta, vR stk, vz arv, vj stp]) f_ST_126 d_ST_keptState_117 ha.2.2 rfl ?_
        refine zz_iadd d_ST_keptState_120 ?_
        refine zz_iast d_ST_keptState_121 hbg (by omega) (hbg.2.1 (by decide)) ?_
        obtain ⟨G26, eG26⟩ : ∃ z : ab_G, z = List.set G25 bg (za 65 (zu BG 1 ((BG 0) + sc))) := ⟨_, rfl⟩
        have ha := ha.keep hbg eG26 (by decide)
        have heg := heg.keep hbg eG26 (by decide)
        have hpo := hpo.keep hbg eG26 (by decide)
        have hbd := hbd.keep hbg eG26 (by decide)
        have hsd := hsd.keep hbg eG26 (by decide)
        have hlen := (z_len eG26).trans hlen
        have hsl := (z_sl hbg eG26 rfl).trans hsl
        have hfr := hfr.wr hbg eG26 (by decide)
        have hbg := hbg.kept eG26
        change ab_W _ _ _ (List.set G25 bg (za 65 (zu BG 1 ((BG 0) + sc)))) 122 [some (vR a), some (vz ah), none] [] _
        rw [← eG26]
        refine ab_aload_n d_ST_keptState_122 rfl ?_
        refine ab_getf (fs := [vz mst, q0, vz vr, vz ro, vR cu, vz cn, vR eg, vR po, vR bg, vR bd, vz 0, vR sd, vz sc, vR se_, vz sta, vR stk, vz arv, vj stp]) f_ST_28 d_ST_keptState_123 ha.2.2 rfl ?_
        refine ab_aload_n d_ST_keptState_126 rfl ?_
        refine ab_getf (fs := [vz mst, q0, vz vr, vz ro, vR cu, vz cn, vR eg, vR po, vR bg, vR bd, vz 0, vR sd, vz sc, vR se_, vz sta, vR stk, vz arv, vj stp]) f_ST_40 d_ST_keptState_127 ha.2.2 rfl ?_
        refine ab_iload_n d_ST_keptState_130 rfl ?_
        refine zz_iast d_ST_keptState_131 hbd (by omega) (hbd.2.1 (by decide)) ?_
        obtain ⟨G27, eG27⟩ : ∃ z : ab_G, z = List.set G26 bd (za 64 (zu BD 0 ah)) := ⟨_, rfl⟩
        have ha := ha.keep hbd eG27 (by decide)
        have heg := heg.keep hbd eG27 (by decide)
        have hpo := hpo.keep hbd eG27 (by decide)
        have hbg := hbg.keep hbd eG27 (by decide)
        have hsd := hsd.keep hbd eG27 (by decide)
        have hlen := (z_len eG27).trans hlen
        have hsl := (z_sl hbd eG27 rfl).trans hsl
        have hfr := hfr.wr hbd eG27 (by decide)
        have hbd := hbd.kept eG27
        change ab_W _ _ _ (List.set G26 bd (za 64 (zu BD 0 ah))) 132 [some (vR a), some (vz ah), none] [] _
        rw [← eG27]
        refine ab_aload_n d_ST_keptState_132 rfl ?_
        refine ab_getf (fs := [vz mst, q0, vz vr, vz ro, vR cu, vz cn, vR eg, vR po, vR bg, vR bd, vz 0, vR sd, vz sc, vR se_, vz sta, vR stk, vz arv, vj stp]) f_ST_63 d_ST_keptState_133 ha.2.2 rfl ?_
        refine zz_iconst d_ST_keptState_136 ?_
        refine zz_iadd d_ST_keptState_137 ?_
        refine ab_istore_n d_ST_keptState_138 (Nat.le_of_ble_eq_true rfl) (Nat.le_of_ble_eq_true rfl) rfl ?_
        change ab_W _ _ _ G27 139 [some (vR a), some (vz ah), some (vz (cn + 5))] [] _
        refine ab_aload_n d_ST_keptState_139 rfl ?_
        refine ab_getf (fs := [vz mst, q0, vz vr, vz ro, vR cu, vz cn, vR eg, vR po, vR bg, vR bd, vz 0, vR sd, vz sc, vR se_, vz sta, vR stk, vz arv, vj stp]) f_ST_19 d_ST_keptState_140 ha.2.2 rfl ?_
        refine ab_aload_n d_ST_keptState_143 rfl ?_
        refine ab_getf (fs := [vz mst, q0, vz vr, vz ro, vR cu, vz cn, vR eg, vR po, vR bg, vR bd, vz 0, vR sd, vz sc, vR se_, vz sta, vR stk, vz arv, vj stp]) f_ST_40 d_ST_keptState_144 ha.2.2 rfl ?_
        refine ab_iload_n d_ST_keptState_147 rfl ?_
        refine zz_imul d_ST_keptState_148 ?_
        obtain ⟨v28, hv28⟩ : ∃ z : Int, z = 0 * (cn + 5) := ⟨_, rfl⟩
        rw [← hv28]
        have hv28b := z_mulb (a := 0) (b := (cn + 5)) (A := 64) (B := 125) (by omega) (by omega)
        rw [← hv28] at hv28b
        change ab_W _ _ _ G27 149 [some (vR a), some (vz ah), some (vz (cn + 5))] [vz v28, vR eg] _
        refine ab_aload_n d_ST_keptState_149 rfl ?_
        refine ab_getf (fs := [vz mst, q0, vz vr, vz ro, vR cu, vz cn, vR eg, vR po, vR bg, vR bd, vz 0, vR sd, vz sc, vR se_, vz sta, vR stk, vz arv, vj stp]) f_ST_40 d_ST_keptState_150 ha.2.2 rfl ?_
        refine zz_iconst d_ST_keptState_153 ?_
        refine zz_iadd d_ST_keptState_154 ?_
        refine zz_top (y := 1) (by decide) ?_
        refine ab_iload_n d_ST_keptState_155 rfl ?_
        refine zz_imul d_ST_keptState_156 ?_
        obtain ⟨v29, hv29⟩ : ∃ z : Int, z = 1 * (cn + 5) := ⟨_, rfl⟩
        rw [← hv29]
        have hv29b := z_mulb (a := 1) (b := (cn + 5)) (A := 64) (B := 125) (by omega) (by omega)
        rw [← hv29] at hv29b
        change ab_W _ _ _ G27 157 [some (vR a), some (vz ah), some (vz (cn + 5))] [vz v29, vz v28, vR eg] _
        refine zz_iconst d_ST_keptState_157 ?_
        refine ab_callS (d' := d - 1) (as := [vR eg, vz v28, vz v29, vz 0]) (st := []) (z_AR_fillr (o := o) (a := eg) (l := 62) (n := 8000) (f := EG) (v := 0) (x := v28) (y := v29) heg (by have h18 : ab_n0 = 18 := rfl; omega) (by omega)) (fun oc G2 h => by rcases h with ⟨h, _⟩ <;> exact ⟨_, h⟩) (by omega) m_AR_fillr ml_ST_179 st_AR_fillr (Nat.le_of_ble_eq_true rfl) d_ST_keptState_158 rfl ?_
        intro v G30 hq
        rcases hq with ⟨hv, hfk, hlk, hsk, hNeg⟩
        cases hv
        have ha := hfk.get ha (by decide)
        have hpo := hfk.get hpo (by decide)
        have hbg := hfk.get hbg (by decide)
        have hbd := hfk.get hbd (by decide)
        have hsd := hfk.get hsd (by decide)
        have hfr := hfr.tr hfk (by decide)
        have hlen := hlk.trans hlen
        have hsl := hsk.trans hsl
        have heg := hNeg
        change ab_W _ _ _ G30 161 [some (vR a), some (vz ah), some (vz (cn + 5))] [] _
        refine ab_aload_n d_ST_keptState_161 rfl ?_
        refine ab_dup d_ST_keptState_162 rfl ?_
        refine ab_getf (fs := [vz mst, q0, vz vr, vz ro, vR cu, vz cn, vR eg, vR po, vR bg, vR bd, vz 0, vR sd, vz sc, vR se_, vz sta, vR stk, vz arv, vj stp]) f_ST_40 d_ST_keptState_163 ha.2.2 rfl ?_
        refine zz_iconst d_ST_keptState_166 ?_
        refine zz_iadd d_ST_keptState_167 ?_
        refine zz_top (y := 1) (by decide) ?_
        refine ab_putf (fs := [vz mst, q0, vz vr, vz ro, vR cu, vz cn, vR eg, vR po, vR bg, vR bd, vz 0, vR sd, vz sc, vR se_, vz sta, vR stk, vz arv, vj stp]) f_ST_40 (Or.inl rfl) d_ST_keptState_168 ha.2.2 (Nat.le_of_ble_eq_true rfl) (fun _ => ⟨rfl, rfl⟩) (ha.2.1 (by decide)) ?_
        obtain ⟨G31, eG31⟩ : ∃ z : ab_G, z = List.set G30 a (ab_ob 8 [vz mst, q0, vz vr, vz ro, vR cu, vz cn, vR eg, vR po, vR bg, vR bd, vz 1, vR sd, vz sc, vR se_, vz sta, vR stk, vz arv, vj stp]) := ⟨_, rfl⟩
        have heg := heg.keep ha eG31 (by decide)
        have hpo := hpo.keep ha eG31 (by decide)
        have hbg := hbg.keep ha eG31 (by decide)
        have hbd := hbd.keep ha eG31 (by decide)
        have hsd := hsd.keep ha eG31 (by decide)
        have hlen := (z_len eG31).trans hlen
        have hsl := (z_sl ha eG31 rfl).trans hsl
        have hfr := hfr.wr ha eG31 (by decide)
        have ha := ha.kept eG31
        change ab_W _ _ _ (List.set G30 a (ab_ob 8 [vz mst, q0, vz vr, vz ro, vR cu, vz cn, vR eg, vR po, vR bg, vR bd, vz 1, vR sd, vz sc, vR se_, vz sta, vR stk, vz arv, vj stp])) 171 [some (vR a), some (vz ah), some (vz (cn + 5))] [] _
        rw [← eG31]
        refine ab_aload_n d_ST_keptState_171 rfl ?_
        refine ab_getf (fs := [vz mst, q0, vz vr, vz ro, vR cu, vz cn, vR eg, vR po, vR bg, vR bd, vz 1, vR sd, vz sc, vR se_, vz sta, vR stk, vz arv, vj stp]) f_ST_40 d_ST_keptState_172 ha.2.2 rfl ?_
        refine zz_iconst d_ST_keptState_175 ?_
        refine zz_isub d_ST_keptState_176 ?_
        refine zz_top (y := 0) (by decide) ?_
        refine zz_iret rfl d_ST_keptState_177 ?_
        rw [hQ]; exact (Or.inr ⟨_, _, _, _, _, _, rfl, hfr, hlen, hsl, ha, heg, hpo, hbg, hbd, (by omega), (by exact bgo_s (ct := 0) (bgo_0 jbg) (by omega) (by omega)), (by rw [zu_self]; exact ents_cpy jsd (by rw [jb0]; exact ents_0) (by omega)), (by rw [hv28, hv29]; exact ego_new (ct := 0) ego_0 (by omega)), (by first | exact (rgs_zu jbd (by omega)) | exact rgs_w (rgs_zu jbd (by omega)) (by omega)), (by exact ksR_r (by omega) (by omega) (by omega) jbg (by omega) (by rw [hv28, hv29] <;> rfl)), (by omega)⟩)
