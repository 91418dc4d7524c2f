set_option maxRecDepth 100000 in
set_option maxHeartbeats 4000000 in
theorem z_ST_signAt {X : ab_X} {d : Nat} {o : Nat → Nat} {G : ab_G} {a : Nat} {cu : Nat} {eg : Nat} {po : Nat} {bg : Nat} {bd : Nat} {sd : Nat} {se_ : Nat} {stk : Nat} {mst : Int} {q0 : Value} {vr : Int} {ro : Int} {cn : Int} {ct : Int} {sc : Int} {sta : Int} {arv : Int} {stp : Int} {CU : Int → Int} {s : Nat} {by_ : Nat} {co : Nat} {re : Nat} {ho : Nat} {n : Int} {f : Int → Int} {C : Int → Int} {Rs : Int → Int} {H : Int → Int} {m : Nat} {mc : Nat} {p : Int} (ha : cc o G a 60 (ab_ob 8 [vz mst, q0, vz vr, vz ro, vR cu, vz cn, vR eg, vR po, vR bg, vR bd, vz ct, vR sd, vz sc, vR se_, vz sta, vR stk, vz arv, vj stp])) (hcu : cc o G cu 61 (za 120 CU)) (hs : cc o G s 26 (ab_ob 9 [vR by_, vR co, vR re, vR ho, vz n])) (hco : cc o G co 28 (za mc C)) (hre : cc o G re 29 (za mc Rs)) (cc0 : 0 ≤ cn ∧ cn ≤ 120) (jcu : rgs CU 120 0 1114112) (csu : 0 ≤ n ∧ n ≤ ↑m ∧ 32 ≤ m ∧ m ≤ 2000 ∧ mc = m + 1) (hsu : suok f C Rs H n) (cp : 0 ≤ p ∧ p ≤ n) (hd : 1 ≤ d) : ab_F X d y_ST_signAt (.code y_ST_signAt b_ST_signAt 4 (some (.int))) [vR a, vR s, vz p] G (fun oc G2 => ∃ v : Int, oc = .returned (some (vz v)) ∧ fx o o [] G G2 ∧ G2.length = G.length ∧ ab_slots G2 = ab_slots G ∧ (0 ≤ v ∧ v ≤ cn + 4)) := by
  refine ab_F_of (by decide +kernel) (Nat.le_of_ble_eq_true rfl) ?_
  obtain ⟨Q, hQ⟩ : ∃ z : Outcome → ab_G → Prop, z = (fun oc G2 => ∃ v : Int, oc = .returned (some (vz v)) ∧ fx o o [] G G2 ∧ G2.length = G.length ∧ ab_slots G2 = ab_slots G ∧ (0 ≤ v ∧ v ≤ cn + 4)) := ⟨_, rfl⟩
  rw [← hQ]
  change ab_W X (ab_pl y_ST_signAt b_ST_signAt 4 (some (.int))) d G 0 [some (vR a), some (vR s), some (vz p), none] [] Q
  have hfr : fx o o [] G G := fx.rf
  have hlen : G.length = G.length := rfl
  have hsl : ab_slots G = ab_slots G := rfl
  refine ab_iload_n d_ST_signAt_0 rfl ?_
  refine ab_aload_n d_ST_signAt_1 rfl ?_
  refine ab_getf (fs := [vR by_, vR co, vR re, vR ho, vz n]) f_ST_51 d_ST_signAt_2 hs.2.2 rfl ?_
  refine zz_icmp_lt (tgt := 10) d_ST_signAt_5 (by decide) (by omega) (by omega) (fun c1 => ?_) (fun c1 => ?_)
  · refine ab_aload_n d_ST_signAt_10 rfl ?_
    refine ab_getf (fs := [vR by_, vR co, vR re, vR ho, vz n]) f_ST_117 d_ST_signAt_11 hs.2.2 rfl ?_
    refine ab_iload_n d_ST_signAt_14 rfl ?_
    refine zz_iald d_ST_signAt_15 hco (by omega) ?_
    have hq2 := hsu.c p (by omega) (by omega)
    refine ab_istore_n d_ST_signAt_16 (Nat.le_of_ble_eq_true rfl) (Nat.le_of_ble_eq_true rfl) rfl ?_
    change ab_W _ _ _ G 17 [some (vR a), some (vR s), some (vz p), some (vz (C p))] [] _
    refine ab_iload_n d_ST_signAt_17 rfl ?_
    refine zz_iconst d_ST_signAt_18 ?_
    refine zz_icmp_eq (tgt := 30) d_ST_signAt_19 (by decide) (by omega) (by decide) (fun c3 => ?_) (fun c3 => ?_)
    · refine ab_aload_n d_ST_signAt_30 rfl ?_
      refine ab_getf (fs := [vR by_, vR co, vR re, vR ho, vz n]) f_ST_120 d_ST_signAt_31 hs.2.2 rfl ?_
      refine ab_iload_n d_ST_signAt_34 rfl ?_
      refine zz_iald d_ST_signAt_35 hre (by omega) ?_
      have hq4 := hsu.r p (by omega) (by omega)
      refine zz_if_le (tgt := 48) d_ST_signAt_36 (by decide) (by omega) (fun c5 => ?_) (fun c5 => ?_)
      · refine zz_iconst d_ST_signAt_48 ?_
        refine zz_iret rfl d_ST_signAt_49 ?_
        rw [hQ]; exact ⟨_, rfl, hfr, hlen, hsl, (by omega)⟩
      · refine ab_aload_n d_ST_signAt_39 rfl ?_
        refine ab_getf (fs := [vR by_, vR co, vR re, vR ho, vz n]) f_ST_120 d_ST_signAt_40 hs.2.2 rfl ?_
        refine ab_iload_n d_ST_signAt_43 rfl ?_
        refine zz_iald d_ST_signAt_44 hre (by omega) ?_
        have hq6 := hsu.r p (by omega) (by omega)
        refine ab_goto (tgt := 49) d_ST_signAt_45 (by decide) ?_
        refine zz_iret rfl d_ST_signAt_49 ?_
        rw [hQ]; exact ⟨_, rfl, hfr, hlen, hsl, (by omega)⟩
    · refine zz_iconst d_ST_signAt_22 ?_
      refine ab_aload_n d_ST_signAt_23 rfl ?_
      refine ab_iload_n d_ST_signAt_24 rfl ?_
      refine ab_callV (d' := d - 1) (as := [vz (C p)]) (st := [vz 5]) (r := _) (z_ST_lastCut (o := o) (a := a) (cu := cu) (eg := eg) (po := po) (bg := bg) (bd := bd) (sd := sd) (se_ := se_) (stk := stk) (mst := mst) (q0 := q0) (vr := vr) (ro := ro) (cn := cn) (ct := ct) (sc := sc) (sta := sta) (arv := arv) (stp := stp) (CU := CU) (c := (C p)) ha hcu (by omega) (by omega) jcu) (fun oc G2 h => by rcases h with ⟨_, h, _⟩ <;> exact ⟨_, h⟩) (by omega) m_ST_lastCut ml_ST_107 im_ST_lastCut se_ST_lastCut c_ST ha.2.2 (Nat.le_of_ble_eq_true rfl) d_ST_signAt_25 rfl ?_
      intro v G7 hq
      rcases hq with ⟨v8, hv, hfk, hlk, hsk, hq9⟩
      cases hv
      have ha := hfk.get ha (by decide)
      have hcu := hfk.get hcu (by decide)
      have hs := hfk.get hs (by decide)
      have hco := hfk.get hco (by decide)
      have hre := hfk.get hre (by decide)
      have hfr := hfr.tr hfk (by decide)
      have hlen := hlk.trans hlen
      have hsl := hsk.trans hsl
      change ab_W _ _ _ G7 28 [some (vR a), some (vR s), some (vz p), some (vz (C p))] [vz v8, vz 5] _
      refine zz_iadd d_ST_signAt_28 ?_
      refine zz_iret rfl d_ST_signAt_29 ?_
      rw [hQ]; exact ⟨_, rfl, hfr, hlen, hsl, (by omega)⟩
  · refine zz_iconst d_ST_signAt_8 ?_
    refine zz_iret rfl d_ST_signAt_9 ?_
    rw [hQ]; exact ⟨_, rfl, hfr, hlen, hsl, (by omega)⟩
set_option maxRecDepth 100000 in
set_option maxHeartbeats 4000000 in
theorem z_ST_firstState {X : ab_X} {d : Nat} {o : Nat → Nat} {G : ab_G} {a : Nat} {cu : Nat} {eg : Nat} {po : Nat} {bg : Nat} {bd : Nat} {sd : Nat} {se_ : Nat} {stk : Nat} {mst : Int} {vr : Int} {ro : Int} {cn : Int} {ct : Int} {sc : Int} {sta : Int} {arv : Int} {stp : Int} {EG : Int → Int} {PO : Int → Int} {BG : Int → Int} {BD : Int → Int} {SD : Int → Int} {SE : Int → Int} {q : Nat} {lq : Nat} {ki : Nat} {ne : Nat} {ot : Nat} {cnt : Int} {fi : Int} {la : Int} {ra : Nat} {ru : Int} {gr : Int} {wi : Int} {sz : Int} {fl : Int} {ve : Int} {mi : Int} {na : Nat} {nl : Nat} {nr : Nat} {s : Nat} {by_ : Nat} {co : Nat} {re : Nat} {ho : Nat} {n : Int} {f : Int → Int} {m : Nat} {mc : Nat} {p : Int} (ha : cc o G a 60 (ab_ob 8 [vz mst, vR q, vz vr, vz ro, vR cu, vz cn, vR eg, vR po, vR bg, vR bd, vz ct, vR sd, vz sc, vR se_, vz sta, vR stk, vz arv, vj stp])) (heg : cc o G eg 62 (za 8000 EG)) (hpo : cc o G po 63 (za 8192 PO)) (hbg : cc o G bg 64 (za 65 BG)) (hbd : cc o G bd 65 (za 64 BD)) (hsd : cc o G sd 66 (za 2048 SD)) (hse_ : cc o G se_ 67 (za 3072 SE)) (hq : cc o G q lq (ab_ob 5 [vR ki, vR ne, vR ot, vz cnt, vz fi, vz la, vR ra, vz ru, vz gr, vz wi, vz sz, vz fl, vz ve, vz mi, vR na, vR nl])) (hs : cc o G s 26 (ab_ob 9 [vR by_, vR co, vR re, vR ho, vz n])) (hby_ : cc o G by_ 27 (za m f)) (cc0 : 0 ≤ cn ∧ cn ≤ 120) (cms : 4 ≤ mst ∧ mst ≤ 64 ∧ 0 ≤ ct ∧ ct ≤ mst) (jbg : bgo BG ct) (jpo : ents PO (BG ct) cnt) (jbd : rgs BD 64 0 7) (jeg : ego EG ct (cn + 5)) (cq : 100 ≤ lq ∧ 0 ≤ cnt ∧ cnt ≤ 808 ∧ ↑nr ≤ (100000 : Int)) (cfi : 0 ≤ fi ∧ fi < cnt ∧ 0 ≤ la ∧ la ≤ 1) (cro : 0 ≤ ro ∧ ro ≤ 1) (csu : 0 ≤ n ∧ n ≤ ↑m ∧ 32 ≤ m ∧ m ≤ 2000 ∧ mc = m + 1) (hb : bytes f n) (cp : 0 ≤ p ∧ p ≤ n) (hd : 3 ≤ d) : ab_F X d y_ST_firstState (.code y_ST_firstState b_ST_firstState 4 (some (.int))) [vR a, vR s, vz p] G (fun oc G2 => ∃ v : Int, ∃ ct2 : Int, ∃ sc2 : Int, ∃ sta2 : Int, ∃ EG2 : Int → Int, ∃ PO2 : Int → Int, ∃ BG2 : Int → Int, ∃ BD2 : Int → Int, ∃ SD2 : Int → Int, ∃ SE2 : Int → Int, oc = .returned (some (vz v)) ∧ fx o o [60, 62, 63, 64, 65, 66, 67] G G2 ∧ G2.length = G.length ∧ ab_slots G2 = ab_slots G ∧ cc o G2 a 60 (ab_ob 8 [vz mst, vR q, vz vr, vz ro, vR cu, vz cn, vR eg, vR po, vR bg, vR bd, vz ct2, vR sd, vz sc2, vR se_, vz sta2, vR stk, vz arv, vj stp]) ∧ cc o G2 eg 62 (za 8000 EG2) ∧ cc o G2 po 63 (za 8192 PO2) ∧ cc o G2 bg 64 (za 65 BG2) ∧ cc o G2 bd 65 (za 64 BD2) ∧ cc o G2 sd 66 (za 2048 SD2) ∧ cc o G2 se_ 67 (za 3072 SE2) ∧ (0 ≤ v ∧ v < ct2 ∧ ct2 ≤ mst) ∧ (bgo BG2 ct2) ∧ (ents PO2 (BG2 ct2) cnt) ∧ (ego EG2 ct2 (cn + 5)) ∧ (rgs BD2 64 0 7) ∧ (1 ≤ ct2 ∧ 0 ≤ sc2 ∧ sc2 ≤ 2048)) := by
  refine ab_F_of (by decide +kernel) (Nat.le_of_ble_eq_true rfl) ?_
  obtain ⟨Q, hQ⟩ : ∃ z : Outcome → ab_G → Prop, z = (fun oc G2 => ∃ v : Int, ∃ ct2 : Int, ∃ sc2 : Int, ∃ sta2 : Int, ∃ EG2 : Int → Int, ∃ PO2 : Int → Int, ∃ BG2 : Int → Int, ∃ BD2 : Int → Int, ∃ SD2 : Int → Int, ∃ SE2 : Int → Int, oc = .returned (some (vz v)) ∧ fx o o [60, 62, 63, 64, 65, 66, 67] G G2 ∧ G2.length = G.length ∧ ab_slots G2 = ab_slots G ∧ cc o G2 a 60 (ab_ob 8 [vz mst, vR q, vz vr, vz ro, vR cu, vz cn, vR eg, vR po, vR bg, vR bd, vz ct2, vR sd, vz sc2, vR se_, vz sta2, vR stk, vz arv, vj stp]) ∧ cc o G2 eg 62 (za 8000 EG2) ∧ cc o G2 po 63 (za 8192 PO2) ∧ cc o G2 bg 64 (za 65 BG2) ∧ cc o G2 bd 65 (za 64 BD2) ∧ cc o G2 sd 66 (za 2048 SD2) ∧ cc o G2 se_ 67 (za 3072 SE2) ∧ (0 ≤ v ∧ v < ct2 ∧ ct2 ≤ mst) ∧ (bgo BG2 ct2) ∧ (ents PO2 (BG2 ct2) cnt) ∧ (ego EG2 ct2 (cn + 5)) ∧ (rgs BD2 64 0 7) ∧ (1 ≤ ct2 ∧ 0 ≤ sc2 ∧ sc2 ≤ 2048)) := ⟨_, rfl⟩
  rw [← hQ]
  change ab_W X (ab_pl y_ST_firstState b_ST_firstState 4 (some (.int))) d G 0 [some (vR a), some (vR s), some (vz p), none] [] Q
  have hfr : fx o o [60, 62, 63, 64, 65, 66, 67] G G := fx.rf
  have hlen : G.length = G.length := rfl
  have hsl : ab_slots G = ab_slots G := rfl
  refine ab_aload_n d_ST_firstState_0 rfl ?_
  refine ab_dup d_ST_firstState_1 rfl ?_
  refine ab_getf (fs := [vz mst, vR q, vz vr, vz ro, vR cu, vz cn, vR eg, vR po, vR bg, vR bd, vz ct, vR sd, vz sc, vR se_, vz sta, vR stk, vz arv, vj stp]) f_ST_123 d_ST_firstState_2 ha.2.2 rfl ?_
  refine zz_iconst d_ST_firstState_5 ?_
  refine zz_iadd d_ST_firstState_6 ?_
  refine ab_putf (fs := [vz mst, vR q, vz vr, vz ro, vR cu, vz cn, vR eg, vR po, vR bg, vR bd, vz ct, vR sd, vz sc, vR se_, vz sta, vR stk, vz arv, vj stp]) f_ST_123 (Or.inl rfl) d_ST_firstState_7 ha.2.2 (Nat.le_of_ble_eq_true rfl) (fun _ => ⟨rfl, rfl⟩) (ha.2.1 (by decide)) ?_
  obtain ⟨G1, eG1⟩ : ∃ z : ab_G, z = List.set G a (ab_ob 8 [vz mst, vR q, vz vr, vz ro, vR cu, vz cn, vR eg, vR po, vR bg, vR bd, vz ct, vR sd, vz sc, vR se_, vz (sta + 1), vR stk, vz arv, vj stp]) := ⟨_, rfl⟩
  have heg := heg.keep ha eG1 (by decide)
  have hpo := hpo.keep ha eG1 (by decide)
  have hbg := hbg.keep ha eG1 (by decide)
  have hbd := hbd.keep ha eG1 (by decide)
  have hsd := hsd.keep ha eG1 (by decide)
  have hse_ := hse_.keep ha eG1 (by decide)
  have hq := hq.keep ha eG1 (by omega)
  have hs := hs.keep ha eG1 (by decide)
  have hby_ := hby_.keep ha eG1 (by decide)
  have hlen := (z_len eG1).trans hlen
  have hsl := (z_sl ha eG1 rfl).trans hsl
  have hfr := hfr.wr ha eG1 (by decide)
  have ha := ha.kept eG1
  change ab_W _ _ _ (List.set G a (ab_ob 8 [vz mst, vR q, vz vr, vz ro, vR cu, vz cn, vR eg, vR po, vR bg, vR bd, vz ct, vR sd, vz sc, vR se_, vz (sta + 1), vR stk, vz arv, vj stp])) 10 [some (vR a), some (vR s), some (vz p), none] [] _
  rw [← eG1]
  refine ab_aload_n d_ST_firstState_10 rfl ?_
  refine zz_iconst d_ST_firstState_11 ?_
  refine ab_putf (fs := [vz mst, vR q, vz vr, vz ro, vR cu, vz cn, vR eg, vR po, vR bg, vR bd, vz ct, vR sd, vz sc, vR se_, vz (sta + 1), vR stk, vz arv, vj stp]) f_ST_126 (Or.inl rfl) d_ST_firstState_12 ha.2.2 (Nat.le_of_ble_eq_true rfl) (fun _ => ⟨rfl, rfl⟩) (ha.2.1 (by decide)) ?_
  obtain ⟨G2, eG2⟩ : ∃ z : ab_G, z = List.set G1 a (ab_ob 8 [vz mst, vR q, vz vr, vz ro, vR cu, vz cn, vR eg, vR po, vR bg, vR bd, vz ct, vR sd, vz 0, vR se_, vz (sta + 1), vR stk, vz arv, vj stp]) := ⟨_, rfl⟩
  have heg := heg.keep ha eG2 (by decide)
  have hpo := hpo.keep ha eG2 (by decide)
  have hbg := hbg.keep ha eG2 (by decide)
  have hbd := hbd.keep ha eG2 (by decide)
  have hsd := hsd.keep ha eG2 (by decide)
  have hse_ := hse_.keep ha eG2 (by decide)
  have hq := hq.keep ha eG2 (by omega)
  have hs := hs.keep ha eG2 (by decide)
  have hby_ := hby_.keep ha eG2 (by decide)
  have hlen := (z_len eG2).trans hlen
  have hsl := (z_sl ha eG2 rfl).trans hsl
  have hfr := hfr.wr ha eG2 (by decide)
  have ha := ha.kept eG2
  change ab_W _ _ _ (List.set G1 a (ab_ob 8 [vz mst, vR q, vz vr, vz ro, vR cu, vz cn, vR eg, vR po, vR bg, vR bd, vz ct, vR sd, vz 0, vR se_, vz (sta + 1), vR stk, vz arv, vj stp])) 15 [some (vR a), some (vR s), some (vz p), none] [] _
  rw [← eG2]
  refine ab_aload_n d_ST_firstState_15 rfl ?_
  refine ab_getf (fs := [vz mst, vR q, vz vr, vz ro, vR cu, vz cn, vR eg, vR po, vR bg, vR bd, vz ct, vR sd, vz 0, vR se_, vz (sta + 1), vR stk, vz arv, vj stp]) f_ST_70 d_ST_firstState_16 ha.2.2 rfl ?_
  refine zz_if_ne (tgt := 33) d_ST_firstState_19 (by decide) (by omega) (fun c3 => ?_) (fun c3 => ?_)
  · refine ab_iload_n d_ST_firstState_33 rfl ?_
    refine zz_if_ne (tgt := 41) d_ST_firstState_34 (by decide) (by omega) (fun c4 => ?_) (fun c4 => ?_)
    · refine zz_iconst d_ST_firstState_41 ?_
      refine ab_istore_n d_ST_firstState_42 (Nat.le_of_ble_eq_true rfl) (Nat.le_of_ble_eq_true rfl) rfl ?_
      change ab_W _ _ _ G2 43 [some (vR a), some (vR s), some (vz p), some (vz 0)] [] _
      refine ab_iload_n d_ST_firstState_43 rfl ?_
      refine ab_aload_n d_ST_firstState_44 rfl ?_
      refine ab_iload_n d_ST_firstState_45 rfl ?_
      refine zz_iconst d_ST_firstState_46 ?_
      refine zz_isub d_ST_firstState_47 ?_
      refine ab_callV (d' := d - 1) (as := [vz (p - 1)]) (st := [vz 0]) (r := _) (z_SU_isLineFeed (o := o) (s := s) (ls := 26) (by_ := by_) (lby := 27) (m := m) (f := f) (n := n) (co := co) (re := re) (ho := ho) (p := (p - 1)) hs hby_ (by omega) hb) (fun oc G2 h => by rcases h with ⟨h, _⟩ | ⟨h, _⟩ <;> exact ⟨_, h⟩) (by omega) m_SU_isLineFeed ml_ST_135 im_SU_isLineFeed se_SU_isLineFeed c_SU hs.2.2 (Nat.le_of_ble_eq_true rfl) d_ST_firstState_48 rfl ?_
      intro v G5 hq
      rcases hq with ⟨hv, hGe, hq6⟩ | ⟨hv, hGe, hq7⟩
      · cases hv
        rw [hGe]
        change ab_W _ _ _ G2 51 [some (vR a), some (vR s), some (vz p), some (vz 0)] [vz 1, vz 0] _
        refine zz_if_eq (tgt := 58) d_ST_firstState_51 (by decide) (by decide) (fun c8 => absurd c8 (by decide)) (fun c8 => ?_)
        refine zz_iconst d_ST_firstState_54 ?_
        refine ab_goto (tgt := 59) d_ST_firstState_55 (by decide) ?_
        refine zz_iorL (r := 2) d_ST_firstState_59 (by decide) ?_
        refine ab_istore_n d_ST_firstState_60 (Nat.le_of_ble_eq_true rfl) (Nat.le_of_ble_eq_true rfl) rfl ?_
        change ab_W _ _ _ G2 61 [some (vR a), some (vR s), some (vz p), some (vz 2)] [] _
        refine ab_iload_n d_ST_firstState_61 rfl ?_
        refine ab_aload_n d_ST_firstState_62 rfl ?_
        refine ab_iload_n d_ST_firstState_63 rfl ?_
        refine zz_iconst d_ST_firstState_64 ?_
        refine zz_isub d_ST_firstState_65 ?_
        refine ab_callV (d' := d - 1) (as := [vz (p - 1)]) (st := [vz 2]) (r := _) (z_SU_isWordByte (o := o) (s := s) (ls := 26) (by_ := by_) (lby := 27) (m := m) (f := f) (n := n) (co := co) (re := re) (ho := ho) (p := (p - 1)) hs hby_ (by omega) hb (by omega)) (fun oc G2 h => by rcases h with ⟨h, _⟩ | ⟨h, _⟩ <;> exact ⟨_, h⟩) (by omega) m_SU_isWordByte ml_ST_139 im_SU_isWordByte se_SU_isWordByte c_SU hs.2.2 (Nat.le_of_ble_eq_true rfl) d_ST_firstState_66 rfl ?_
        intro v G9 hq
        rcases hq with ⟨hv, hGe, hq10⟩ | ⟨hv, hGe, hq11⟩
        · cases hv
          rw [hGe]
          change ab_W _ _ _ G2 69 [some (vR a), some (vR s), some (vz p), some (vz 2)] [vz 1, vz 2] _
          refine zz_if_eq (tgt := 76) d_ST_firstState_69 (by decide) (by decide) (fun c12 => absurd c12 (by decide)) (fun c12 => ?_)
          refine zz_iconst d_ST_firstState_72 ?_
          refine ab_goto (tgt := 77) d_ST_firstState_73 (by decide) ?_
          refine zz_iorL (r := 6) d_ST_firstState_77 (by decide) ?_
          refine ab_istore_n d_ST_firstState_78 (Nat.le_of_ble_eq_true rfl) (Nat.le_of_ble_eq_true rfl) rfl ?_
          change ab_W _ _ _ G2 79 [some (vR a), some (vR s), some (vz p), some (vz 6)] [] _
          refine ab_aload_n d_ST_firstState_79 rfl ?_
          refine ab_aload_n d_ST_firstState_80 rfl ?_
          refine ab_getf (fs := [vz mst, vR q, vz vr, vz ro, vR cu, vz cn, vR eg, vR po, vR bg, vR bd, vz ct, vR sd, vz 0, vR se_, vz (sta + 1), vR stk, vz arv, vj stp]) f_ST_74 d_ST_firstState_81 ha.2.2 rfl ?_
          refine ab_getf (fs := [vR ki, vR ne, vR ot, vz cnt, vz fi, vz la, vR ra, vz ru, vz gr, vz wi, vz sz, vz fl, vz ve, vz mi, vR na, vR nl]) f_ST_142 d_ST_firstState_84 hq.2.2 rfl ?_
          refine zz_if_eq (tgt := 94) d_ST_firstState_87 (by decide) (by omega) (fun c13 => ?_) (fun c13 => ?_)
          · refine zz_iconst d_ST_firstState_94 ?_
            refine ab_callV (d' := d - 1) (as := [vz 0]) (st := []) (r := _) (z_ST_keptState (o := o) (a := a) (cu := cu) (eg := eg) (po := po) (bg := bg) (bd := bd) (sd := sd) (se_ := se_) (stk := stk) (mst := mst) (q0 := vR q) (vr := vr) (ro := ro) (cn := cn) (ct := ct) (sc := 0) (sta := (sta + 1)) (arv := arv) (stp := stp) (EG := EG) (PO := PO) (BG := BG) (BD := BD) (SD := SD) (cnt := cnt) (ah := 0) ha heg hpo hbg hbd hsd (by omega) (by omega) (by omega) jbg jpo ents_0 (by omega) jbd jeg (by omega)) (fun oc G2 h => by rcases h with ⟨_, _, _, _, _, _, h, _⟩ | ⟨_, _, _, _, _, _, h, _⟩ <;> exact ⟨_, h⟩) (by omega) m_ST_keptState ml_ST_145 im_ST_keptState se_ST_keptState c_ST ha.2.2 (Nat.le_of_ble_eq_true rfl) d_ST_firstState_95 rfl ?_
            intro v G14 hq
            rcases hq with ⟨v15, ct216, EG217, PO218, BG219, BD220, hv, hfk, hlk, hsk, hNa, hNeg, hNpo, hNbg, hNbd, hq21, hq22, hq23, hq24, hq25, hq26⟩ | ⟨v27, ct228, EG229, PO230, BG231, BD232, hv, hfk, hlk, hsk, hNa, hNeg, hNpo, hNbg, hNbd, hq33, hq34, hq35, hq36, hq37, hq38⟩
            · cases hv
              have hsd := hfk.get hsd (by decide)
              have hse_ := hfk.get hse_ (by decide)
              have hq := hfk.get hq (by simp only [List.mem_cons, List.not_mem_nil, or_false]; omega)
              have hs := hfk.get hs (by decide)
              have hby_ := hfk.get hby_ (by decide)
              have hfr := hfr.tr hfk (by decide)
              have hlen := hlk.trans hlen
              have hsl := hsk.trans hsl
              have ha := hNa
              have heg := hNeg
              have hpo := hNpo
              have hbg := hNbg
              have hbd := hNbd
              change ab_W _ _ _ G14 98 [some (vR a), some (vR s), some (vz p), some (vz 6)] [vz v15] _
              refine zz_iret rfl d_ST_firstState_98 ?_
              rw [hQ]; exact ⟨_, _, _, _, _, _, _, _, _, _, rfl, hfr, hlen, hsl, ha, heg, hpo, hbg, hbd, hsd, hse_, (by omega), (by exact hq22), (by exact hq23), (by exact hq24), (by exact hq25), (by omega)⟩
            · cases hv
              have hsd := hfk.get hsd (by decide)
              have hse_ := hfk.get hse_ (by decide)
              have hq := hfk.get hq (by simp only [List.mem_cons, List.not_mem_nil, or_false]; omega)
              have hs := hfk.get hs (by decide)
              have hby_ := hfk.get hby_ (by decide)
              have hfr := hfr.tr hfk (by decide)
              have hlen := hlk.trans hlen
              have hsl := hsk.trans hsl
              have ha := hNa
              have heg := hNeg
              have hpo := hNpo
              have hbg := hNbg
              have hbd := hNbd
              change ab_W _ _ _ G14 98 [some (vR a), some (vR s), some (vz p), some (vz 6)] [vz v27] _
              refine zz_iret rfl d_ST_firstState_98 ?_
              rw [hQ]; exact ⟨_, _, _, _, _, _, _, _, _, _, rfl, hfr, hlen, hsl, ha, heg, hpo, hbg, hbd, hsd, hse_, (by omega), (by exact hq34), (by exact hq35), (by exact hq36), (by exact hq37), (by omega)⟩
          · refine ab_iload_n d_ST_firstState_90 rfl ?_
            refine ab_goto (tgt := 95) d_ST_firstState_91 (by decide) ?_
            refine ab_callV (d' := d - 1) (as := [vz 6]) (st := []) (r := _) (z_ST_keptState (o := o) (a := a) (cu := cu) (eg := eg) (po := po) (bg := bg) (bd := bd) (sd := sd) (se_ := se_) (stk := stk) (mst := mst) (q0 := vR q) (vr := vr) (ro := ro) (cn := cn) (ct := ct) (sc := 0) (sta := (sta + 1)) (arv := arv) (stp := stp) (EG := EG) (PO := PO) (BG := BG) (BD := BD) (SD := SD) (cnt := cnt) (ah := 6) ha heg hpo hbg hbd hsd (by omega) (by omega) (by omega) jbg jpo ents_0 (by omega) jbd jeg (by omega)) (fun oc G2 h => by rcases h with ⟨_, _, _, _, _, _, h, _⟩ | ⟨_, _, _, _, _, _, h, _⟩ <;> exact ⟨_, h⟩) (by omega) m_ST_keptState ml_ST_145 im_ST_keptState se_ST_keptState c_ST ha.2.2 (Nat.le_of_ble_eq_true rfl) d_ST_firstState_95 rfl ?_
            intro v G39 hq
            rcases hq with ⟨v40, ct241, EG242, PO243, BG244, BD245, hv, hfk, hlk, hsk, hNa, hNeg, hNpo, hNbg, hNbd, hq46, hq47, hq48, hq49, hq50, hq51⟩ | ⟨v52, ct253, EG254, PO255, BG256, BD257, hv, hfk, hlk, hsk, hNa, hNeg, hNpo, hNbg, hNbd, hq58, hq59, hq60, hq61, hq62, hq63⟩
            · cases hv
              have hsd := hfk.get hsd (by decide)
              have hse_ := hfk.get hse_ (by decide)
              have hq := hfk.get hq (by simp only [List.mem_cons, List.not_mem_nil, or_false]; omega)
              have hs := hfk.get hs (by decide)
              have hby_ := hfk.get hby_ (by decide)
              have hfr := hfr.tr hfk (by decide)
              have hlen := hlk.trans hlen
              have hsl := hsk.trans hsl
              have ha := hNa
              have heg := hNeg
              have hpo := hNpo
              have hbg := hNbg
              have hbd := hNbd
              change ab_W _ _ _ G39 98 [some (vR a), some (vR s), some (vz p), some (vz 6)] [vz v40] _
              refine zz_iret rfl d_ST_firstState_98 ?_
              rw [hQ]; exact ⟨_, _, _, _, _, _, _, _, _, _, rfl, hfr, hlen, hsl, ha, heg, hpo, hbg, hbd, hsd, hse_, (by omega), (by exact hq47), (by exact hq48), (by exact hq49), (by exact hq50), (by omega)⟩
            · cases hv
              have hsd := hfk.get hsd (by decide)
              have hse_ := hfk.get hse_ (by decide)
              have hq := hfk.get hq (by simp only [List.mem_cons, List.not_mem_nil, or_false]; omega)
              have hs := hfk.get hs (by decide)
              have hby_ := hfk.get hby_ (by decide)
              have hfr := hfr.tr hfk (by decide)
              have hlen := hlk.trans hlen
              have hsl := hsk.trans hsl
              have ha := hNa
              have heg := hNeg
              have hpo := hNpo
              have hbg := hNbg
              have hbd := hNbd
              change ab_W _ _ _ G39 98 [some (vR a), some (vR s), some (vz p), some (vz 6)] [vz v52] _
              refine zz_iret rfl d_ST_firstState_98 ?_
              rw [hQ]; exact ⟨_, _, _, _, _, _, _, _, _, _, rfl, hfr, hlen, hsl, ha, heg, hpo, hbg, hbd, hsd, hse_, (by omega), (by exact hq59), (by exact hq60), (by exact hq61), (by exact hq62), (by omega)⟩
        · cases hv
          rw [hGe]
          change ab_W _ _ _ G2 69 [some (vR a), some (vR s), some (vz p), some (vz 2)] [vz 0, vz 2] _
          refine zz_if_eq (tgt := 76) d_ST_firstState_69 (by decide) (by decide) (fun c64 => ?_) (fun c64 => absurd c64 (by decide))
          refine zz_iconst d_ST_firstState_76 ?_
          refine zz_iorL (r := 2) d_ST_firstState_77 (by decide) ?_
          refine ab_istore_n d_ST_firstState_78 (Nat.le_of_ble_eq_true rfl) (Nat.le_of_ble_eq_true rfl) rfl ?_
          change ab_W _ _ _ G2 79 [some (vR a), some (vR s), some (vz p), some (vz 2)] [] _
          refine ab_aload_n d_ST_firstState_79 rfl ?_
          refine ab_aload_n d_ST_firstState_80 rfl ?_
          refine ab_getf (fs := [vz mst, vR q, vz vr, vz ro, vR cu, vz cn, vR eg, vR po, vR bg, vR bd, vz ct, vR sd, vz 0, vR se_, vz (sta + 1), vR stk, vz arv, vj stp]) f_ST_74 d_ST_firstState_81 ha.2.2 rfl ?_
          refine ab_getf (fs := [vR ki, vR ne, vR ot, vz cnt, vz fi, vz la, vR ra, vz ru, vz gr, vz wi, vz sz, vz fl, vz ve, vz mi, vR na, vR nl]) f_ST_142 d_ST_firstState_84 hq.2.2 rfl ?_
          refine zz_if_eq (tgt := 94) d_ST_firstState_87 (by decide) (by omega) (fun c65 => ?_) (fun c65 => ?_)
          · refine zz_iconst d_ST_firstState_94 ?_
            refine ab_callV (d' := d - 1) (as := [vz 0]) (st := []) (r := _) (z_ST_keptState (o := o) (a := a) (cu := cu) (eg := eg) (po := po) (bg := bg) (bd := bd) (sd := sd) (se_ := se_) (stk := stk) (mst := mst) (q0 := vR q) (vr := vr) (ro := ro) (cn := cn) (ct := ct) (sc := 0) (sta := (sta + 1)) (arv := arv) (stp := stp) (EG := EG) (PO := PO) (BG := BG) (BD := BD) (SD := SD) (cnt := cnt) (ah := 0) ha heg hpo hbg hbd hsd (by omega) (by omega) (by omega) jbg jpo ents_0 (by omega) jbd jeg (by omega)) (fun oc G2 h => by rcases h with ⟨_, _, _, _, _, _, h, _⟩ | ⟨_, _, _, _, _, _, h, _⟩ <;> exact ⟨_, h⟩) (by omega) m_ST_keptState ml_ST_145 im_ST_keptState se_ST_keptState c_ST ha.2.2 (Nat.le_of_ble_eq_true rfl) d_ST_firstState_95 rfl ?_
            intro v G66 hq
            rcases hq with ⟨v67, ct268, EG269, PO270, BG271, BD272, hv, hfk, hlk, hsk, hNa, hNeg, hNpo, hNbg, hNbd, hq73, hq74, hq75, hq76, hq77, hq78⟩ | ⟨v79, ct280, EG281, PO282, BG283, BD284, hv, hfk, hlk, hsk, hNa, hNeg, hNpo, hNbg, hNbd, hq85, hq86, hq87, hq88, hq89, hq90⟩
            · cases hv
              have hsd := hfk.get hsd (by decide)
              have hse_ := hfk.get hse_ (by decide)
              have hq := hfk.get hq (by simp only [List.mem_cons, List.not_mem_nil, or_false]; omega)
              have hs := hfk.get hs (by decide)
              have hby_ := hfk.get hby_ (by decide)
              have hfr := hfr.tr hfk (by decide)
              have hlen := hlk.trans hlen
              have hsl := hsk.trans hsl
              have ha := hNa
              have heg := hNeg
              have hpo := hNpo
              have hbg := hNbg
              have hbd := hNbd
              change ab_W _ _ _ G66 98 [some (vR a), some (vR s), some (vz p), some (vz 2)] [vz v67] _
              refine zz_iret rfl d_ST_firstState_98 ?_
              rw [hQ]; exact ⟨_, _, _, _, _, _, _, _, _, _, rfl, hfr, hlen, hsl, ha, heg, hpo, hbg, hbd, hsd, hse_, (by omega), (by exact hq74), (by exact hq75), (by exact hq76), (by exact hq77), (by omega)⟩
            · cases hv
              have hsd := hfk.get hsd (by decide)
              have hse_ := hfk.get hse_ (by decide)
              have hq := hfk.get hq (by simp only [List.mem_cons, List.not_mem_nil, or_false]; omega)
              have hs := hfk.get hs (by decide)
              have hby_ := hfk.get hby_ (by decide)
              have hfr := hfr.tr hfk (by decide)
              have hlen := hlk.trans hlen
              have hsl := hsk.trans hsl
              have ha := hNa
              have heg := hNeg
              have hpo := hNpo
              have hbg := hNbg
              have hbd := hNbd
              change ab_W _ _ _ G66 98 [some (vR a), some (vR s), some (vz p), some (vz 2)] [vz v79] _
              refine zz_iret rfl d_ST_firstState_98 ?_
              rw [hQ]; exact ⟨_, _, _, _, _, _, _, _, _, _, rfl, hfr, hlen, hsl, ha, heg, hpo, hbg, hbd, hsd, hse_, (by omega), (by exact hq86), (by exact hq87), (by exact hq88), (by exact hq89), (by omega)⟩
          · refine ab_iload_n d_ST_firstState_90 rfl ?_
            refine ab_goto (tgt := 95) d_ST_firstState_91 (by decide) ?_
            refine ab_callV (d' := d - 1) (as := [vz 2]) (st := []) (r := _) (z_ST_keptState (o := o) (a := a) (cu := cu) (eg := eg) (po := po) (bg := bg) (bd := bd) (sd := sd) (se_ := se_) (stk := stk) (mst := mst) (q0 := vR q) (vr := vr) (ro := ro) (cn := cn) (ct := ct) (sc := 0) (sta := (sta + 1)) (arv := arv) (stp := stp) (EG := EG) (PO := PO) (BG := BG) (BD := BD) (SD := SD) (cnt := cnt) (ah := 2) ha heg hpo hbg hbd hsd (by omega) (by omega) (by omega) jbg jpo ents_0 (by omega) jbd jeg (by omega)) (fun oc G2 h => by rcases h with ⟨_, _, _, _, _, _, h, _⟩ | ⟨_, _, _, _, _, _, h, _⟩ <;> exact ⟨_, h⟩) (by omega) m_ST_keptState ml_ST_145 im_ST_keptState se_ST_keptState c_ST ha.2.2 (Nat.le_of_ble_eq_true rfl) d_ST_firstState_95 rfl ?_
            intro v G91 hq
            rcases hq with ⟨v92, ct293, EG294, PO295, BG296, BD297, hv, hfk, hlk, hsk, hNa, hNeg, hNpo, hNbg, hNbd, hq98, hq99, hq100, hq101, hq102, hq103⟩ | ⟨v104, ct2105, EG2106, PO2107, BG2108, BD2109, hv, hfk, hlk, hsk, hNa, hNeg, hNpo, hNbg, hNbd, hq110, hq111, hq112, hq113, hq114, hq115⟩
            · cases hv
              have hsd := hfk.get hsd (by decide)
              have hse_ := hfk.get hse_ (by decide)
              have hq := hfk.get hq (by simp only [List.mem_cons, List.not_mem_nil, or_false]; omega)
              have hs := hfk.get hs (by decide)
              have hby_ := hfk.get hby_ (by decide)
              have hfr := hfr.tr hfk (by decide)
              have hlen := hlk.trans hlen
              have hsl := hsk.trans hsl
              have ha := hNa
              have heg := hNeg
              have hpo := hNpo
              have hbg := hNbg
              have hbd := hNbd
              change ab_W _ _ _ G91 98 [some (vR a), some (vR s), some (vz p), some (vz 2)] [vz v92] _
              refine zz_iret rfl d_ST_firstState_98 ?_
              rw [hQ]; exact ⟨_, _, _, _, _, _, _, _, _, _, rfl, hfr, hlen, hsl, ha, heg, hpo, hbg, hbd, hsd, hse_, (by omega), (by exact hq99), (by exact hq100), (by exact hq101), (by exact hq102), (by omega)⟩
            · cases hv
              have hsd := hfk.get hsd (by decide)
              have hse_ := hfk.get hse_ (by decide)
              have hq := hfk.get hq (by simp only [List.mem_cons, List.not_mem_nil, or_false]; omega)
              have hs := hfk.get hs (by decide)
              have hby_ := hfk.get hby_ (by decide)
              have hfr := hfr.tr hfk (by decide)
              have hlen := hlk.trans hlen
              have hsl := hsk.trans hsl
              have ha := hNa
              have heg := hNeg
              have hpo := hNpo
              have hbg := hNbg
              have hbd := hNbd
              change ab_W _ _ _ G91 98 [some (vR a), some (vR s), some (vz p), some (vz 2)] [vz v104] _
              refine zz_iret rfl d_ST_firstState_98 ?_
              rw [hQ]; exact ⟨_, _, _, _, _, _, _, _, _, _, rfl, hfr, hlen, hsl, ha, heg, hpo, hbg, hbd, hsd, hse_, (by omega), (by exact hq111), (by exact hq112), (by exact hq113), (by exact hq114), (by omega)⟩
      · cases hv
        rw [hGe]
        change ab_W _ _ _ G2 51 [some (vR a), some (vR s), some (vz p), some (vz 0)] [vz 0, vz 0] _
        refine zz_if_eq (tgt := 58) d_ST_firstState_51 (by decide) (by decide) (fun c116 => ?_) (fun c116 => absurd c116 (by decide))
        refine zz_iconst d_ST_firstState_58 ?_
        refine zz_iorL (r := 0) d_ST_firstState_59 (by decide) ?_
        refine ab_istore_n d_ST_firstState_60 (Nat.le_of_ble_eq_true rfl) (Nat.le_of_ble_eq_true rfl) rfl ?_
        change ab_W _ _ _ G2 61 [some (vR a), some (vR s), some (vz p), some (vz 0)] [] _
        refine ab_iload_n d_ST_firstState_61 rfl ?_
        refine ab_aload_n d_ST_firstState_62 rfl ?_
        refine ab_iload_n d_ST_firstState_63 rfl ?_
        refine zz_iconst d_ST_firstState_64 ?_
        refine zz_isub d_ST_firstState_65 ?_
        refine ab_callV (d' := d - 1) (as := [vz (p - 1)]) (st := [vz 0]) (r := _) (z_SU_isWordByte (o := o) (s := s) (ls := 26) (by_ := by_) (lby := 27) (m := m) (f := f) (n := n) (co := co) (re := re) (ho := ho) (p := (p - 1)) hs hby_ (by omega) hb (by omega)) (fun oc G2 h => by rcases h with ⟨h, _⟩ | ⟨h, _⟩ <;> exact ⟨_, h⟩) (by omega) m_SU_isWordByte ml_ST_139 im_SU_isWordByte se_SU_isWordByte c_SU hs.2.2 (Nat.le_of_ble_eq_true rfl) d_ST_firstState_66 rfl ?_
        intro v G117 hq
        rcases hq with ⟨hv, hGe, hq118⟩ | ⟨hv, hGe, hq119⟩
        · cases hv
          rw [hGe]
          change ab_W _ _ _ G2 69 [some (vR a), some (vR s), some (vz p), some (vz 0)] [vz 1, vz 0] _
          refine zz_if_eq (tgt := 76) d_ST_firstState_69 (by decide) (by decide) (fun c120 => absurd c120 (by decide)) (fun c120 => ?_)
          refine zz_iconst d_ST_firstState_72 ?_
          refine ab_goto (tgt := 77) d_ST_firstState_73 (by decide) ?_
          refine zz_iorL (r := 4) d_ST_firstState_77 (by decide) ?_
          refine ab_istore_n d_ST_firstState_78 (Nat.le_of_ble_eq_true rfl) (Nat.le_of_ble_eq_true rfl) rfl ?_
          change ab_W _ _ _ G2 79 [some (vR a), some (vR s), some (vz p), some (vz 4)] [] _
          refine ab_aload_n d_ST_firstState_79 rfl ?_
          refine ab_aload_n d_ST_firstState_80 rfl ?_
          refine ab_getf (fs := [vz mst, vR q, vz vr, vz ro, vR cu, vz cn, vR eg, vR po, vR bg, vR bd, vz ct, vR sd, vz 0, vR se_, vz (sta + 1), vR stk, vz arv, vj stp]) f_ST_74 d_ST_firstState_81 ha.2.2 rfl ?_
          refine ab_getf (fs := [vR ki, vR ne, vR ot, vz cnt, vz fi, vz la, vR ra, vz ru, vz gr, vz wi, vz sz, vz fl, vz ve, vz mi, vR na, vR nl]) f_ST_142 d_ST_firstState_84 hq.2.2 rfl ?_
          refine zz_if_eq (tgt := 94) d_ST_firstState_87 (by decide) (by omega) (fun c121 => ?_) (fun c121 => ?_)
          · refine zz_iconst d_ST_firstState_94 ?_
            refine ab_callV (d' := d - 1) (as := [vz 0]) (st := []) (r := _) (z_ST_keptState (o := o) (a := a) (cu := cu) (eg := eg) (po := po) (bg := bg) (bd := bd) (sd := sd) (se_ := se_) (stk := stk) (mst := mst) (q0 := vR q) (vr := vr) (ro := ro) (cn := cn) (ct := ct) (sc := 0) (sta := (sta + 1)) (arv := arv) (stp := stp) (EG := EG) (PO := PO) (BG := BG) (BD := BD) (SD := SD) (cnt := cnt) (ah := 0) ha heg hpo hbg hbd hsd (by omega) (by omega) (by omega) jbg jpo ents_0 (by omega) jbd jeg (by omega)) (fun oc G2 h => by rcases h with ⟨_, _, _, _, _, _, h, _⟩ | ⟨_, _, _, _, _, _, h, _⟩ <;> exact ⟨_, h⟩) (by omega) m_ST_keptState ml_ST_145 im_ST_keptState se_ST_keptState c_ST ha.2.2 (Nat.le_of_ble_eq_true rfl) d_ST_firstState_95 rfl ?_
            intro v G122 hq
            rcases hq with ⟨v123, ct2124, EG2125, PO2126, BG2127, BD2128, hv, hfk, hlk, hsk, hNa, hNeg, hNpo, hNbg, hNbd, hq129, hq130, hq131, hq132, hq133, hq134⟩ | ⟨v135, ct2136, EG2137, PO2138, BG2139, BD2140, hv, hfk, hlk, hsk, hNa, hNeg, hNpo, hNbg, hNbd, hq141, hq142, hq143, hq144, hq145, hq146⟩
            · cases hv
              have hsd := hfk.get hsd (by decide)
              have hse_ := hfk.get hse_ (by decide)
              have hq := hfk.get hq (by simp only [List.mem_cons, List.not_mem_nil, or_false]; omega)
              have hs := hfk.get hs (by decide)
              have hby_ := hfk.get hby_ (by decide)
              have hfr := hfr.tr hfk (by decide)
              have hlen := hlk.trans hlen
              have hsl := hsk.trans hsl
              have ha := hNa
              have heg := hNeg
              have hpo := hNpo
              have hbg := hNbg
              have hbd := hNbd
              change ab_W _ _ _ G122 98 [some (vR a), some (vR s), some (vz p), some (vz 4)] [vz v123] _
              refine zz_iret rfl d_ST_firstState_98 ?_
              rw [hQ]; exact ⟨_, _, _, _, _, _, _, _, _, _, rfl, hfr, hlen, hsl, ha, heg, hpo, hbg, hbd, hsd, hse_, (by omega), (by exact hq130), (by exact hq131), (by exact hq132), (by exact hq133), (by omega)⟩
            · cases hv
              have hsd := hfk.get hsd (by decide)
              have hse_ := hfk.get hse_ (by decide)
              have hq := hfk.get hq (by simp only [List.mem_cons, List.not_mem_nil, or_false]; omega)
              have hs := hfk.get hs (by decide)
              have hby_ := hfk.get hby_ (by decide)
              have hfr := hfr.tr hfk (by decide)
              have hlen := hlk.trans hlen
              have hsl := hsk.trans hsl
              have ha := hNa
              have heg := hNeg
              have hpo := hNpo
              have hbg := hNbg
              have hbd := hNbd
              change ab_W _ _ _ G122 98 [some (vR a), some (vR s), some (vz p), some (vz 4)] [vz v135] _
              refine zz_iret rfl d_ST_firstState_98 ?_
              rw [hQ]; exact ⟨_, _, _, _, _, _, _, _, _, _, rfl, hfr, hlen, hsl, ha, heg, hpo, hbg, hbd, hsd, hse_, (by omega), (by exact hq142), (by exact hq143), (by exact hq144), (by exact hq145), (by omega)⟩
          · refine ab_iload_n d_ST_firstState_90 rfl ?_
            refine ab_goto (tgt := 95) d_ST_firstState_91 (by decide) ?_
            refine ab_callV (d' := d - 1) (as := [vz 4]) (st := []) (r := _) (z_ST_keptState (o := o) (a := a) (cu := cu) (eg := eg) (po := po) (bg := bg) (bd := bd) (sd := sd) (se_ := se_) (stk := stk) (mst := mst) (q0 := vR q) (vr := vr) (ro := ro) (cn := cn) (ct := ct) (sc := 0) (sta := (sta + 1)) (arv := arv) (stp := stp) (EG := EG) (PO := PO) (BG := BG) (BD := BD) (SD := SD) (cnt := cnt) (ah := 4) ha heg hpo hbg hbd hsd (by omega) (by omega) (by omega) jbg jpo ents_0 (by omega) jbd jeg (by omega)) (fun oc G2 h => by rcases h with ⟨_, _, _, _, _, _, h, _⟩ | ⟨_, _, _, _, _, _, h, _⟩ <;> exact ⟨_, h⟩) (by omega) m_ST_keptState ml_ST_145 im_ST_keptState se_ST_keptState c_ST ha.2.2 (Nat.le_of_ble_eq_true rfl) d_ST_firstState_95 rfl ?_
            intro v G147 hq
            rcases hq with ⟨v148, ct2149, EG2150, PO2151, BG2152, BD2153, hv, hfk, hlk, hsk, hNa, hNeg, hNpo, hNbg, hNbd, hq154, hq155, hq156, hq157, hq158, hq159⟩ | ⟨v160, ct2161, EG2162, PO2163, BG2164, BD2165, hv, hfk, hlk, hsk, hNa, hNeg, hNpo, hNbg, hNbd, hq166, hq167, hq168, hq169, hq170, hq171⟩
            · cases hv
              have hsd := hfk.get hsd (by decide)
              have hse_ := hfk.get hse_ (by decide)
              have hq := hfk.get hq (by simp only [List.mem_cons, List.not_mem_nil, or_false]; omega)
              have hs := hfk.get hs (by decide)
              have hby_ := hfk.get hby_ (by decide)
              have hfr := hfr.tr hfk (by decide)
              have hlen := hlk.trans hlen
              have hsl := hsk.trans hsl
              have ha := hNa
              have heg := hNeg
              have hpo := hNpo
              have hbg := hNbg
              have hbd := hNbd
              change ab_W _ _ _ G147 98 [some (vR a), some (vR s), some (vz p), some (vz 4)] [vz v148] _
              refine zz_iret rfl d_ST_firstState_98 ?_
              rw [hQ]; exact ⟨_, _, _, _, _, _, _, _, _, _, rfl, hfr, hlen, hsl, ha, heg, hpo, hbg, hbd, hsd, hse_, (by omega), (by exact hq155), (by exact hq156), (by exact hq157), (by exact hq158), (by omega)⟩
            · cases hv
              have hsd := hfk.get hsd (by decide)
              have hse_ := hfk.get hse_ (by decide)
              have hq := hfk.get hq (by simp only [List.mem_cons, List.not_mem_nil, or_false]; omega)
              have hs := hfk.get hs (by decide)
              have hby_ := hfk.get hby_ (by decide)
              have hfr := hfr.tr hfk (by decide)
              have hlen := hlk.trans hlen
              have hsl := hsk.trans hsl
              have ha := hNa
              have heg := hNeg
              have hpo := hNpo
              have hbg := hNbg
              have hbd := hNbd
              change ab_W _ _ _ G147 98 [some (vR a), some (vR s), some (vz p), some (vz 4)] [vz v160] _
              refine zz_iret rfl d_ST_firstState_98 ?_
              rw [hQ]; exact ⟨_, _, _, _, _, _, _, _, _, _, rfl, hfr, hlen, hsl, ha, heg, hpo, hbg, hbd, hsd, hse_, (by omega), (by exact hq167), (by exact hq168), (by exact hq169), (by exact hq170), (by omega)⟩
        · cases hv
          rw [hGe]
          change ab_W _ _ _ G2 69 [some (vR a), some (vR s), some (vz p), some (vz 0)] [vz 0, vz 0] _
          refine zz_if_eq (tgt := 76) d_ST_firstState_69 (by decide) (by decide) (fun c172 => ?_) (fun c172 => absurd c172 (by decide))
          refine zz_iconst d_ST_firstState_76 ?_
          refine zz_iorL (r := 0) d_ST_firstState_77 (by decide) ?_
          refine ab_istore_n d_ST_firstState_78 (Nat.le_of_ble_eq_true rfl) (Nat.le_of_ble_eq_true rfl) rfl ?_
          change ab_W _ _ _ G2 79 [some (vR a), some (vR s), some (vz p), some (vz 0)] [] _
          refine ab_aload_n d_ST_firstState_79 rfl ?_
          refine ab_aload_n d_ST_firstState_80 rfl ?_
          refine ab_getf (fs := [vz mst, vR q, vz vr, vz ro, vR cu, vz cn, vR eg, vR po, vR bg, vR bd, vz ct, vR sd, vz 0, vR se_, vz (sta + 1), vR stk, vz arv, vj stp]) f_ST_74 d_ST_firstState_81 ha.2.2 rfl ?_
          refine ab_getf (fs := [vR ki, vR ne, vR ot, vz cnt, vz fi, vz la, vR ra, vz ru, vz gr, vz wi, vz sz, vz fl, vz ve, vz mi, vR na, vR nl]) f_ST_142 d_ST_firstState_84 hq.2.2 rfl ?_
          refine zz_if_eq (tgt := 94) d_ST_firstState_87 (by decide) (by omega) (fun c173 => ?_) (fun c173 => ?_)
          · refine zz_iconst d_ST_firstState_94 ?_
            refine ab_callV (d' := d - 1) (as := [vz 0]) (st := []) (r := _) (z_ST_keptState (o := o) (a := a) (cu := cu) (eg := eg) (po := po) (bg := bg) (bd := bd) (sd := sd) (se_ := se_) (stk := stk) (mst := mst) (q0 := vR q) (vr := vr) (ro := ro) (cn := cn) (ct := ct) (sc := 0) (sta := (sta + 1)) (arv := arv) (stp := stp) (EG := EG) (PO := PO) (BG := BG) (BD := BD) (SD := SD) (cnt := cnt) (ah := 0) ha heg hpo hbg hbd hsd (by omega) (by omega) (by omega) jbg jpo ents_0 (by omega) jbd jeg (by omega)) (fun oc G2 h => by rcases h with ⟨_, _, _, _, _, _, h, _⟩ | ⟨_, _, _, _, _, _, h, _⟩ <;> exact ⟨_, h⟩) (by omega) m_ST_keptState ml_ST_145 im_ST_keptState se_ST_keptState c_ST ha.2.2 (Nat.le_of_ble_eq_true rfl) d_ST_firstState_95 rfl ?_
            intro v G174 hq
            rcases hq with ⟨v175, ct2176, EG2177, PO2178, BG2179, BD2180, hv, hfk, hlk, hsk, hNa, hNeg, hNpo, hNbg, hNbd, hq181, hq182, hq183, hq184, hq185, hq186⟩ | ⟨v187, ct2188, EG2189, PO2190, BG2191, BD2192, hv, hfk, hlk, hsk, hNa, hNeg, hNpo, hNbg, hNbd, hq193, hq194, hq195, hq196, hq197, hq198⟩
            · cases hv
              have hsd := hfk.get hsd (by decide)
              have hse_ := hfk.get hse_ (by decide)
              have hq := hfk.get hq (by simp only [List.mem_cons, List.not_mem_nil, or_false]; omega)
              have hs := hfk.get hs (by decide)
              have hby_ := hfk.get hby_ (by decide)
              have hfr := hfr.tr hfk (by decide)
              have hlen := hlk.trans hlen
              have hsl := hsk.trans hsl
              have ha := hNa
              have heg := hNeg
              have hpo := hNpo
              have hbg := hNbg
              have hbd := hNbd
              change ab_W _ _ _ G174 98 [some (vR a), some (vR s), some (vz p), some (vz 0)] [vz v175] _
              refine zz_iret rfl d_ST_firstState_98 ?_
              rw [hQ]; exact ⟨_, _, _, _, _, _, _, _, _, _, rfl, hfr, hlen, hsl, ha, heg, hpo, hbg, hbd, hsd, hse_, (by omega), (by exact hq182), (by exact hq183), (by exact hq184), (by exact hq185), (by omega)⟩
            · cases hv
              have hsd := hfk.get hsd (by decide)
              have hse_ := hfk.get hse_ (by decide)
              have hq := hfk.get hq (by simp only [List.mem_cons, List.not_mem_nil, or_false]; omega)
              have hs := hfk.get hs (by decide)
              have hby_ := hfk.get hby_ (by decide)
              have hfr := hfr.tr hfk (by decide)
              have hlen := hlk.trans hlen
              have hsl := hsk.trans hsl
              have ha := hNa
              have heg := hNeg
              have hpo := hNpo
              have hbg := hNbg
              have hbd := hNbd
              change ab_W _ _ _ G174 98 [some (vR a), some (vR s), some (vz p), some (vz 0)] [vz v187] _
              refine zz_iret rfl d_ST_firstState_98 ?_
              rw [hQ]; exact ⟨_, _, _, _, _, _, _, _, _, _, rfl, hfr, hlen, hsl, ha, heg, hpo, hbg, hbd, hsd, hse_, (by omega), (by exact hq194), (by exact hq195), (by exact hq196), (by exact hq197), (by omega)⟩
          · refine ab_iload_n d_ST_firstState_90 rfl ?_
            refine ab_goto (tgt := 95) d_ST_firstState_91 (by decide) ?_
            refine ab_callV (d' := d - 1) (as := [vz 0]) (st := []) (r := _) (z_ST_keptState (o := o) (a := a) (cu := cu) (eg := eg) (po := po) (bg := bg) (bd := bd) (sd := sd) (se_ := se_) (stk := stk) (mst := mst) (q0 := vR q) (vr := vr) (ro := ro) (cn := cn) (ct := ct) (sc := 0) (sta := (sta + 1)) (arv := arv) (stp := stp) (EG := EG) (PO := PO) (BG := BG) (BD := BD) (SD := SD) (cnt := cnt) (ah := 0) ha heg hpo hbg hbd hsd (by omega) (by omega) (by omega) jbg jpo ents_0 (by omega) jbd jeg (by omega)) (fun oc G2 h => by rcases h with ⟨_, _, _, _, _, _, h, _⟩ | ⟨_, _, _, _, _, _, h, _⟩ <;> exact ⟨_, h⟩) (by omega) m_ST_keptState ml_ST_145 im_ST_keptState se_ST_keptState c_ST ha.2.2 (Nat.le_of_ble_eq_true rfl) d_ST_firstState_95 rfl ?_
            intro v G199 hq
            rcases hq with ⟨v200, ct2201, EG2202, PO2203, BG2204, BD2205, hv, hfk, hlk, hsk, hNa, hNeg, hNpo, hNbg, hNbd, hq206, hq207, hq208, hq209, hq210, hq211⟩ | ⟨v212, ct2213, EG2214, PO2215, BG2216, BD2217, hv, hfk, hlk, hsk, hNa, hNeg, hNpo, hNbg, hNbd, hq218, hq219, hq220, hq221, hq222, hq223⟩
            · cases hv
              have hsd := hfk.get hsd (by decide)
              have hse_ := hfk.get hse_ (by decide)
              have hq := hfk.get hq (by simp only [List.mem_cons, List.not_mem_nil, or_false]; omega)
              have hs := hfk.get hs (by decide)
              have hby_ := hfk.get hby_ (by decide)
              have hfr := hfr.tr hfk (by decide)
              have hlen := hlk.trans hlen
              have hsl := hsk.trans hsl
              have ha := hNa
              have heg := hNeg
              have hpo := hNpo
              have hbg := hNbg
              have hbd := hNbd
              change ab_W _ _ _ G199 98 [some (vR a), some (vR s), some (vz p), some (vz 0)] [vz v200] _
              refine zz_iret rfl d_ST_firstState_98 ?_
              rw [hQ]; exact ⟨_, _, _, _, _, _, _, _, _, _, rfl, hfr, hlen, hsl, ha, heg, hpo, hbg, hbd, hsd, hse_, (by omega), (by exact hq207), (by exact hq208), (by exact hq209), (by exact hq210), (by omega)⟩
            · cases hv
              have hsd := hfk.get hsd (by decide)
              have hse_ := hfk.get hse_ (by decide)
              have hq := hfk.get hq (by simp only [List.mem_cons, List.not_mem_nil, or_false]; omega)
              have hs := hfk.get hs (by decide)
              have hby_ := hfk.get hby_ (by decide)
              have hfr := hfr.tr hfk (by decide)
              have hlen := hlk.trans hlen
              have hsl := hsk.trans hsl
              have ha := hNa
              have heg := hNeg
              have hpo := hNpo
              have hbg := hNbg
              have hbd := hNbd
              change ab_W _ _ _ G199 98 [some (vR a), some (vR s), some (vz p), some (vz 0)] [vz v212] _
              refine zz_iret rfl d_ST_firstState_98 ?_
              rw [hQ]; exact ⟨_, _, _, _, _, _, _, _, _, _, rfl, hfr, hlen, hsl, ha, heg, hpo, hbg, hbd, hsd, hse_, (by omega), (by exact hq219), (by exact hq220), (by exact hq221), (by exact hq222), (by omega)⟩
    · refine zz_iconst d_ST_firstState_37 ?_
      refine ab_goto (tgt := 42) d_ST_firstState_38 (by decide) ?_
      refine ab_istore_n d_ST_firstState_42 (Nat.le_of_ble_eq_true rfl) (Nat.le_of_ble_eq_true rfl) rfl ?_
      change ab_W _ _ _ G2 43 [some (vR a), some (vR s), some (vz p), some (vz 1)] [] _
      refine ab_iload_n d_ST_firstState_43 rfl ?_
      refine ab_aload_n d_ST_firstState_44 rfl ?_
      refine ab_iload_n d_ST_firstState_45 rfl ?_
      refine zz_iconst d_ST_firstState_46 ?_
      refine zz_isub d_ST_firstState_47 ?_
      refine ab_callV (d' := d - 1) (as := [vz (p - 1)]) (st := [vz 1]) (r := _) (z_SU_isLineFeed (o := o) (s := s) (ls := 26) (by_ := by_) (lby := 27) (m := m) (f := f) (n := n) (co := co) (re := re) (ho := ho) (p := (p - 1)) hs hby_ (by omega) hb) (fun oc G2 h => by rcases h with ⟨h, _⟩ | ⟨h, _⟩ <;> exact ⟨_, h⟩) (by omega) m_SU_isLineFeed ml_ST_135 im_SU_isLineFeed se_SU_isLineFeed c_SU hs.2.2 (Nat.le_of_ble_eq_true rfl) d_ST_firstState_48 rfl ?_
      intro v G224 hq
      rcases hq with ⟨hv, hGe, hq225⟩ | ⟨hv, hGe, hq226⟩
      · cases hv
        rw [hGe]
        change ab_W _ _ _ G2 51 [some (vR a), some (vR s), some (vz p), some (vz 1)] [vz 1, vz 1] _
        refine zz_if_eq (tgt := 58) d_ST_firstState_51 (by decide) (by decide) (fun c227 => absurd c227 (by decide)) (fun c227 => ?_)
        refine zz_iconst d_ST_firstState_54 ?_
        refine ab_goto (tgt := 59) d_ST_firstState_55 (by decide) ?_
        refine zz_iorL (r := 3) d_ST_firstState_59 (by decide) ?_
        refine ab_istore_n d_ST_firstState_60 (Nat.le_of_ble_eq_true rfl) (Nat.le_of_ble_eq_true rfl) rfl ?_
        change ab_W _ _ _ G2 61 [some (vR a), some (vR s), some (vz p), some (vz 3)] [] _
        refine ab_iload_n d_ST_firstState_61 rfl ?_
        refine ab_aload_n d_ST_firstState_62 rfl ?_
        refine ab_iload_n d_ST_firstState_63 rfl ?_
        refine zz_iconst d_ST_firstState_64 ?_
        refine zz_isub d_ST_firstState_65 ?_
        refine ab_callV (d' := d - 1) (as := [vz (p - 1)]) (st := [vz 3]) (r := _) (z_SU_isWordByte (o := o) (s := s) (ls := 26) (by_ := by_) (lby := 27) (m := m) (f := f) (n := n) (co := co) (re := re) (ho := ho) (p := (p - 1)) hs hby_ (by omega) hb (by omega)) (fun oc G2 h => by rcases h with ⟨h, _⟩ | ⟨h, _⟩ <;> exact ⟨_, h⟩) (by omega) m_SU_isWordByte ml_ST_139 im_SU_isWordByte se_SU_isWordByte c_SU hs.2.2 (Nat.le_of_ble_eq_true rfl) d_ST_firstState_66 rfl ?_
        intro v G228 hq
        rcases hq with ⟨hv, hGe, hq229⟩ | ⟨hv, hGe, hq230⟩
        · cases hv
          rw [hGe]
          change ab_W _ _ _ G2 69 [some (vR a), some (vR s), some (vz p), some (vz 3)] [vz 1, vz 3] _
          refine zz_if_eq (tgt := 76) d_ST_firstState_69 (by decide) (by decide) (fun c231 => absurd c231 (by decide)) (fun c231 => ?_)
          refine zz_iconst d_ST_firstState_72 ?_
          refine ab_goto (tgt := 77) d_ST_firstState_73 (by decide) ?_
          refine zz_iorL (r := 7) d_ST_firstState_77 (by decide) ?_
          refine ab_istore_n d_ST_firstState_78 (Nat.le_of_ble_eq_true rfl) (Nat.le_of_ble_eq_true rfl) rfl ?_
          change ab_W _ _ _ G2 79 [some (vR a), some (vR s), some (vz p), some (vz 7)] [] _
          refine ab_aload_n d_ST_firstState_79 rfl ?_
          refine ab_aload_n d_ST_firstState_80 rfl ?_
          refine ab_getf (fs := [vz mst, vR q, vz vr, vz ro, vR cu, vz cn, vR eg, vR po, vR bg, vR bd, vz ct, vR sd, vz 0, vR se_, vz (sta + 1), vR stk, vz arv, vj stp]) f_ST_74 d_ST_firstState_81 ha.2.2 rfl ?_
          refine ab_getf (fs := [vR ki, vR ne, vR ot, vz cnt, vz fi, vz la, vR ra, vz ru, vz gr, vz wi, vz sz, vz fl, vz ve, vz mi, vR na, vR nl]) f_ST_142 d_ST_firstState_84 hq.2.2 rfl ?_
          refine zz_if_eq (tgt := 94) d_ST_firstState_87 (by decide) (by omega) (fun c232 => ?_) (fun c232 => ?_)
          · refine zz_iconst d_ST_firstState_94 ?_
            refine ab_callV (d' := d - 1) (as := [vz 0]) (st := []) (r := _) (z_ST_keptState (o := o) (a := a) (cu := cu) (eg := eg) (po := po) (bg := bg) (bd := bd) (sd := sd) (se_ := se_) (stk := stk) (mst := mst) (q0 := vR q) (vr := vr) (ro := ro) (cn := cn) (ct := ct) (sc := 0) (sta := (sta + 1)) (arv := arv) (stp := stp) (EG := EG) (PO := PO) (BG := BG) (BD := BD) (SD := SD) (cnt := cnt) (ah := 0) ha heg hpo hbg hbd hsd (by omega) (by omega) (by omega) jbg jpo ents_0 (by omega) jbd jeg (by omega)) (fun oc G2 h => by rcases h with ⟨_, _, _, _, _, _, h, _⟩ | ⟨_, _, _, _, _, _, h, _⟩ <;> exact ⟨_, h⟩) (by omega) m_ST_keptState ml_ST_145 im_ST_keptState se_ST_keptState c_ST ha.2.2 (Nat.le_of_ble_eq_true rfl) d_ST_firstState_95 rfl ?_
            intro v G233 hq
            rcases hq with ⟨v234, ct2235, EG2236, PO2237, BG2238, BD2239, hv, hfk, hlk, hsk, hNa, hNeg, hNpo, hNbg, hNbd, hq240, hq241, hq242, hq243, hq244, hq245⟩ | ⟨v246, ct2247, EG2248, PO2249, BG2250, BD2251, hv, hfk, hlk, hsk, hNa, hNeg, hNpo, hNbg, hNbd, hq252, hq253, hq254, hq255, hq256, hq257⟩
            · cases hv
              have hsd := hfk.get hsd (by decide)
              have hse_ := hfk.get hse_ (by decide)
              have hq := hfk.get hq (by simp only [List.mem_cons, List.not_mem_nil, or_false]; omega)
              have hs := hfk.get hs (by decide)
              have hby_ := hfk.get hby_ (by decide)
              have hfr := hfr.tr hfk (by decide)
              have hlen := hlk.trans hlen
              have hsl := hsk.trans hsl
              have ha := hNa
              have heg := hNeg
              have hpo := hNpo
              have hbg := hNbg
              have hbd := hNbd
              change ab_W _ _ _ G233 98 [some (vR a), some (vR s), some (vz p), some (vz 7)] [vz v234] _
              refine zz_iret rfl d_ST_firstState_98 ?_
              rw [hQ]; exact ⟨_, _, _, _, _, _, _, _, _, _, rfl, hfr, hlen, hsl, ha, heg, hpo, hbg, hbd, hsd, hse_, (by omega), (by exact hq241), (by exact hq242), (by exact hq243), (by exact hq244), (by omega)⟩
            · cases hv
              have hsd := hfk.get hsd (by decide)
              have hse_ := hfk.get hse_ (by decide)
              have hq := hfk.get hq (by simp only [List.mem_cons, List.not_mem_nil, or_false]; omega)
              have hs := hfk.get hs (by decide)
              have hby_ := hfk.get hby_ (by decide)
              have hfr := hfr.tr hfk (by decide)
              have hlen := hlk.trans hlen
              have hsl := hsk.trans hsl
              have ha := hNa
              have heg := hNeg
              have hpo := hNpo
              have hbg := hNbg
              have hbd := hNbd
              change ab_W _ _ _ G233 98 [some (vR a), some (vR s), some (vz p), some (vz 7)] [vz v246] _
              refine zz_iret rfl d_ST_firstState_98 ?_
              rw [hQ]; exact ⟨_, _, _, _, _, _, _, _, _, _, rfl, hfr, hlen, hsl, ha, heg, hpo, hbg, hbd, hsd, hse_, (by omega), (by exact hq253), (by exact hq254), (by exact hq255), (by exact hq256), (by omega)⟩
          · refine ab_iload_n d_ST_firstState_90 rfl ?_
            refine ab_goto (tgt := 95) d_ST_firstState_91 (by decide) ?_
            refine ab_callV (d' := d - 1) (as := [vz 7]) (st := []) (r := _) (z_ST_keptState (o := o) (a := a) (cu := cu) (eg := eg) (po := po) (bg := bg) (bd := bd) (sd := sd) (se_ := se_) (stk := stk) (mst := mst) (q0 := vR q) (vr := vr) (ro := ro) (cn := cn) (ct := ct) (sc := 0) (sta := (sta + 1)) (arv := arv) (stp := stp) (EG := EG) (PO := PO) (BG := BG) (BD := BD) (SD := SD) (cnt := cnt) (ah := 7) ha heg hpo hbg hbd hsd (by omega) (by omega) (by omega) jbg jpo ents_0 (by omega) jbd jeg (by omega)) (fun oc G2 h => by rcases h with ⟨_, _, _, _, _, _, h, _⟩ | ⟨_, _, _, _, _, _, h, _⟩ <;> exact ⟨_, h⟩) (by omega) m_ST_keptState ml_ST_145 im_ST_keptState se_ST_keptState c_ST ha.2.2 (Nat.le_of_ble_eq_true rfl) d_ST_firstState_95 rfl ?_
            intro v G258 hq
            rcases hq with ⟨v259, ct2260, EG2261, PO2262, BG2263, BD2264, hv, hfk, hlk, hsk, hNa, hNeg, hNpo, hNbg, hNbd, hq265, hq266, hq267, hq268, hq269, hq270⟩ | ⟨v271, ct2272, EG2273, PO2274, BG2275, BD2276, hv, hfk, hlk, hsk, hNa, hNeg, hNpo, hNbg, hNbd, hq277, hq278, hq279, hq280, hq281, hq282⟩
            · cases hv
              have hsd := hfk.get hsd (by decide)
              have hse_ := hfk.get hse_ (by decide)
              have hq := hfk.get hq (by simp only [List.mem_cons, List.not_mem_nil, or_false]; omega)
              have hs := hfk.get hs (by decide)
              have hby_ := hfk.get hby_ (by decide)
              have hfr := hfr.tr hfk (by decide)
              have hlen := hlk.trans hlen
              have hsl := hsk.trans hsl
              have ha := hNa
              have heg := hNeg
              have hpo := hNpo
              have hbg := hNbg
              have hbd := hNbd
              change ab_W _ _ _ G258 98 [some (vR a), some (vR s), some (vz p), some (vz 7)] [vz v259] _
              refine zz_iret rfl d_ST_firstState_98 ?_
              rw [hQ]; exact ⟨_, _, _, _, _, _, _, _, _, _, rfl, hfr, hlen, hsl, ha, heg, hpo, hbg, hbd, hsd, hse_, (by omega), (by exact hq266), (by exact hq267), (by exact hq268), (by exact hq269), (by omega)⟩
            · cases hv
              have hsd := hfk.get hsd (by decide)
              have hse_ := hfk.get hse_ (by decide)
              have hq := hfk.get hq (by simp only [List.mem_cons, List.not_mem_nil, or_false]; omega)
              have hs := hfk.get hs (by decide)
              have hby_ := hfk.get hby_ (by decide)
              have hfr := hfr.tr hfk (by decide)
              have hlen := hlk.trans hlen
              have hsl := hsk.trans hsl
              have ha := hNa
              have heg := hNeg
              have hpo := hNpo
              have hbg := hNbg
              have hbd := hNbd
              change ab_W _ _ _ G258 98 [some (vR a), some (vR s), some (vz p), some (vz 7)] [vz v271] _
              refine zz_iret rfl d_ST_firstState_98 ?_
              rw [hQ]; exact ⟨_, _, _, _, _, _, _, _, _, _, rfl, hfr, hlen, hsl, ha, heg, hpo, hbg, hbd, hsd, hse_, (by omega), (by exact hq278), (by exact hq279), (by exact hq280), (by exact hq281), (by omega)⟩
        · cases hv
          rw [hGe]
          change ab_W _ _ _ G2 69 [some (vR a), some (vR s), some (vz p), some (vz 3)] [vz 0, vz 3] _
          refine zz_if_eq (tgt := 76) d_ST_firstState_69 (by decide) (by decide) (fun c283 => ?_) (fun c283 => absurd c283 (by decide))
          refine zz_iconst d_ST_firstState_76 ?_
          refine zz_iorL (r := 3) d_ST_firstState_77 (by decide) ?_
          refine ab_istore_n d_ST_firstState_78 (Nat.le_of_ble_eq_true rfl) (Nat.le_of_ble_eq_true rfl) rfl ?_
          change ab_W _ _ _ G2 79 [some (vR a), some (vR s), some (vz p), some (vz 3)] [] _
          refine ab_aload_n d_ST_firstState_79 rfl ?_
          refine ab_aload_n d_ST_firstState_80 rfl ?_
          refine ab_getf (fs := [vz mst, vR q, vz vr, vz ro, vR cu, vz cn, vR eg, vR po, vR bg, vR bd, vz ct, vR sd, vz 0, vR se_, vz (sta + 1), vR stk, vz arv, vj stp]) f_ST_74 d_ST_firstState_81 ha.2.2 rfl ?_
          refine ab_getf (fs := [vR ki, vR ne, vR ot, vz cnt, vz fi, vz la, vR ra, vz ru, vz gr, vz wi, vz sz, vz fl, vz ve, vz mi, vR na, vR nl]) f_ST_142 d_ST_firstState_84 hq.2.2 rfl ?_
          refine zz_if_eq (tgt := 94) d_ST_firstState_87 (by decide) (by omega) (fun c284 => ?_) (fun c284 => ?_)
          · refine zz_iconst d_ST_firstState_94 ?_
            refine ab_callV (d' := d - 1) (as := [vz 0]) (st := []) (r := _) (z_ST_keptState (o := o) (a := a) (cu := cu) (eg := eg) (po := po) (bg := bg) (bd := bd) (sd := sd) (se_ := se_) (stk := stk) (mst := mst) (q0 := vR q) (vr := vr) (ro := ro) (cn := cn) (ct := ct) (sc := 0) (sta := (sta + 1)) (arv := arv) (stp := stp) (EG := EG) (PO := PO) (BG := BG) (BD := BD) (SD := SD) (cnt := cnt) (ah := 0) ha heg hpo hbg hbd hsd (by omega) (by omega) (by omega) jbg jpo ents_0 (by omega) jbd jeg (by omega)) (fun oc G2 h => by rcases h with ⟨_, _, _, _, _, _, h, _⟩ | ⟨_, _, _, _, _, _, h, _⟩ <;> exact ⟨_, h⟩) (by omega) m_ST_keptState ml_ST_145 im_ST_keptState se_ST_keptState c_ST ha.2.2 (Nat.le_of_ble_eq_true rfl) d_ST_firstState_95 rfl ?_
            intro v G285 hq
            rcases hq with ⟨v286, ct2287, EG2288, PO2289, BG2290, BD2291, hv, hfk, hlk, hsk, hNa, hNeg, hNpo, hNbg, hNbd, hq292, hq293, hq294, hq295, hq296, hq297⟩ | ⟨v298, ct2299, EG2300, PO2301, BG2302, BD2303, hv, hfk, hlk, hsk, hNa, hNeg, hNpo, hNbg, hNbd, hq304, hq305, hq306, hq307, hq308, hq309⟩
            · cases hv
              have hsd := hfk.get hsd (by decide)
              have hse_ := hfk.get hse_ (by decide)
              have hq := hfk.get hq (by simp only [List.mem_cons, List.not_mem_nil, or_false]; omega)
              have hs := hfk.get hs (by decide)
              have hby_ := hfk.get hby_ (by decide)
              have hfr := hfr.tr hfk (by decide)
              have hlen := hlk.trans hlen
              have hsl := hsk.trans hsl
              have ha := hNa
              have heg := hNeg
              have hpo := hNpo
              have hbg := hNbg
              have hbd := hNbd
              change ab_W _ _ _ G285 98 [some (vR a), some (vR s), some (vz p), some (vz 3)] [vz v286] _
              refine zz_iret rfl d_ST_firstState_98 ?_
              rw [hQ]; exact ⟨_, _, _, _, _, _, _, _, _, _, rfl, hfr, hlen, hsl, ha, heg, hpo, hbg, hbd, hsd, hse_, (by omega), (by exact hq293), (by exact hq294), (by exact hq295), (by exact hq296), (by omega)⟩
            · cases hv
              have hsd := hfk.get hsd (by decide)
              have hse_ := hfk.get hse_ (by decide)
              have hq := hfk.get hq (by simp only [List.mem_cons, List.not_mem_nil, or_false]; omega)
              have hs := hfk.get hs (by decide)
              have hby_ := hfk.get hby_ (by decide)
              have hfr := hfr.tr hfk (by decide)
              have hlen := hlk.trans hlen
              have hsl := hsk.trans hsl
              have ha := hNa
              have heg := hNeg
              have hpo := hNpo
              have hbg := hNbg
              have hbd := hNbd
              change ab_W _ _ _ G285 98 [some (vR a), some (vR s), some (vz p), some (vz 3)] [vz v298] _
              refine zz_iret rfl d_ST_firstState_98 ?_
              rw [hQ]; exact ⟨_, _, _, _, _, _, _, _, _, _, rfl, hfr, hlen, hsl, ha, heg, hpo, hbg, hbd, hsd, hse_, (by omega), (by exact hq305), (by exact hq306), (by exact hq307), (by exact hq308), (by omega)⟩
          · refine ab_iload_n d_ST_firstState_90 rfl ?_
            refine ab_goto (tgt := 95) d_ST_firstState_91 (by decide) ?_
            refine ab_callV (d' := d - 1) (as := [vz 3]) (st := []) (r := _) (z_ST_keptState (o := o) (a := a) (cu := cu) (eg := eg) (po := po) (bg := bg) (bd := bd) (sd := sd) (se_ := se_) (stk := stk) (mst := mst) (q0 := vR q) (vr := vr) (ro := ro) (cn := cn) (ct := ct) (sc := 0) (sta := (sta + 1)) (arv := arv) (stp := stp) (EG := EG) (PO := PO) (BG := BG) (BD := BD) (SD := SD) (cnt := cnt) (ah := 3) ha heg hpo hbg hbd hsd (by omega) (by omega) (by omega) jbg jpo ents_0 (by omega) jbd jeg (by omega)) (fun oc G2 h => by rcases h with ⟨_, _, _, _, _, _, h, _⟩ | ⟨_, _, _, _, _, _, h, _⟩ <;> exact ⟨_, h⟩) (by omega) m_ST_keptState ml_ST_145 im_ST_keptState se_ST_keptState c_ST ha.2.2 (Nat.le_of_ble_eq_true rfl) d_ST_firstState_95 rfl ?_
            intro v G310 hq
            rcases hq with ⟨v311, ct2312, EG2313, PO2314, BG2315, BD2316, hv, hfk, hlk, hsk, hNa, hNeg, hNpo, hNbg, hNbd, hq317, hq318, hq319, hq320, hq321, hq322⟩ | ⟨v323, ct2324, EG2325, PO2326, BG2327, BD2328, hv, hfk, hlk, hsk, hNa, hNeg, hNpo, hNbg, hNbd, hq329, hq330, hq331, hq332, hq333, hq334⟩
            · cases hv
              have hsd := hfk.get hsd (by decide)
              have hse_ := hfk.get hse_ (by decide)
              have hq := hfk.get hq (by simp only [List.mem_cons, List.not_mem_nil, or_false]; omega)
              have hs := hfk.get hs (by decide)
              have hby_ := hfk.get hby_ (by decide)
              have hfr := hfr.tr hfk (by decide)
              have hlen := hlk.trans hlen
              have hsl := hsk.trans hsl
              have ha := hNa
              have heg := hNeg
              have hpo := hNpo
              have hbg := hNbg
              have hbd := hNbd
              change ab_W _ _ _ G310 98 [some (vR a), some (vR s), some (vz p), some (vz 3)] [vz v311] _
              refine zz_iret rfl d_ST_firstState_98 ?_
              rw [hQ]; exact ⟨_, _, _, _, _, _, _, _, _, _, rfl, hfr, hlen, hsl, ha, heg, hpo, hbg, hbd, hsd, hse_, (by omega), (by exact hq318), (by exact hq319), (by exact hq320), (by exact hq321), (by omega)⟩
            · cases hv
              have hsd := hfk.get hsd (by decide)
              have hse_ := hfk.get hse_ (by decide)
              have hq := hfk.get hq (by simp only [List.mem_cons, List.not_mem_nil, or_false]; omega)
              have hs := hfk.get hs (by decide)
              have hby_ := hfk.get hby_ (by decide)
              have hfr := hfr.tr hfk (by decide)
              have hlen := hlk.trans hlen
              have hsl := hsk.trans hsl
              have ha := hNa
              have heg := hNeg
              have hpo := hNpo
              have hbg := hNbg
              have hbd := hNbd
              change ab_W _ _ _ G310 98 [some (vR a), some (vR s), some (vz p), some (vz 3)] [vz v323] _
              refine zz_iret rfl d_ST_firstState_98 ?_
              rw [hQ]; exact ⟨_, _, _, _, _, _, _, _, _, _, rfl, hfr, hlen, hsl, ha, heg, hpo, hbg, hbd, hsd, hse_, (by omega), (by exact hq330), (by exact hq331), (by exact hq332), (by exact hq333), (by omega)⟩
      · cases hv
        rw [hGe]
        change ab_W _ _ _ G2 51 [some (vR a), some (vR s), some (vz p), some (vz 1)] [vz 0, vz 1] _
        refine zz_if_eq (tgt := 58) d_ST_firstState_51 (by decide) (by decide) (fun c335 => ?_) (fun c335 => absurd c335 (by decide))
        refine zz_iconst d_ST_firstState_58 ?_
        refine zz_iorL (r := 1) d_ST_firstState_59 (by decide) ?_
        refine ab_istore_n d_ST_firstState_60 (Nat.le_of_ble_eq_true rfl) (Nat.le_of_ble_eq_true rfl) rfl ?_
        change ab_W _ _ _ G2 61 [some (vR a), some (vR s), some (vz p), some (vz 1)] [] _
        refine ab_iload_n d_ST_firstState_61 rfl ?_
        refine ab_aload_n d_ST_firstState_62 rfl ?_
        refine ab_iload_n d_ST_firstState_63 rfl ?_
        refine zz_iconst d_ST_firstState_64 ?_
        refine zz_isub d_ST_firstState_65 ?_
        refine ab_callV (d' := d - 1) (as := [vz (p - 1)]) (st := [vz 1]) (r := _) (z_SU_isWordByte (o := o) (s := s) (ls := 26) (by_ := by_) (lby := 27) (m := m) (f := f) (n := n) (co := co) (re := re) (ho := ho) (p := (p - 1)) hs hby_ (by omega) hb (by omega)) (fun oc G2 h => by rcases h with ⟨h, _⟩ | ⟨h, _⟩ <;> exact ⟨_, h⟩) (by omega) m_SU_isWordByte ml_ST_139 im_SU_isWordByte se_SU_isWordByte c_SU hs.2.2 (Nat.le_of_ble_eq_true rfl) d_ST_firstState_66 rfl ?_
        intro v G336 hq
        rcases hq with ⟨hv, hGe, hq337⟩ | ⟨hv, hGe, hq338⟩
        · cases hv
          rw [hGe]
          change ab_W _ _ _ G2 69 [some (vR a), some (vR s), some (vz p), some (vz 1)] [vz 1, vz 1] _
          refine zz_if_eq (tgt := 76) d_ST_firstState_69 (by decide) (by decide) (fun c339 => absurd c339 (by decide)) (fun c339 => ?_)
          refine zz_iconst d_ST_firstState_72 ?_
          refine ab_goto (tgt := 77) d_ST_firstState_73 (by decide) ?_
          refine zz_iorL (r := 5) d_ST_firstState_77 (by decide) ?_
          refine ab_istore_n d_ST_firstState_78 (Nat.le_of_ble_eq_true rfl) (Nat.le_of_ble_eq_true rfl) rfl ?_
          change ab_W _ _ _ G2 79 [some (vR a), some (vR s), some (vz p), some (vz 5)] [] _
          refine ab_aload_n d_ST_firstState_79 rfl ?_
          refine ab_aload_n d_ST_firstState_80 rfl ?_
          refine ab_getf (fs := [vz mst, vR q, vz vr, vz ro, vR cu, vz cn, vR eg, vR po, vR bg, vR bd, vz ct, vR sd, vz 0, vR se_, vz (sta + 1), vR stk, vz arv, vj stp]) f_ST_74 d_ST_firstState_81 ha.2.2 rfl ?_
          refine ab_getf (fs := [vR ki, vR ne, vR ot, vz cnt, vz fi, vz la, vR ra, vz ru, vz gr, vz wi, vz sz, vz fl, vz ve, vz mi, vR na, vR nl]) f_ST_142 d_ST_firstState_84 hq.2.2 rfl ?_
          refine zz_if_eq (tgt := 94) d_ST_firstState_87 (by decide) (by omega) (fun c340 => ?_) (fun c340 => ?_)
          · refine zz_iconst d_ST_firstState_94 ?_
            refine ab_callV (d' := d - 1) (as := [vz 0]) (st := []) (r := _) (z_ST_keptState (o := o) (a := a) (cu := cu) (eg := eg) (po := po) (bg := bg) (bd := bd) (sd := sd) (se_ := se_) (stk := stk) (mst := mst) (q0 := vR q) (vr := vr) (ro := ro) (cn := cn) (ct := ct) (sc := 0) (sta := (sta + 1)) (arv := arv) (stp := stp) (EG := EG) (PO := PO) (BG := BG) (BD := BD) (SD := SD) (cnt := cnt) (ah := 0) ha heg hpo hbg hbd hsd (by omega) (by omega) (by omega) jbg jpo ents_0 (by omega) jbd jeg (by omega)) (fun oc G2 h => by rcases h with ⟨_, _, _, _, _, _, h, _⟩ | ⟨_, _, _, _, _, _, h, _⟩ <;> exact ⟨_, h⟩) (by omega) m_ST_keptState ml_ST_145 im_ST_keptState se_ST_keptState c_ST ha.2.2 (Nat.le_of_ble_eq_true rfl) d_ST_firstState_95 rfl ?_
            intro v G341 hq
            rcases hq with ⟨v342, ct2343, EG2344, PO2345, BG2346, BD2347, hv, hfk, hlk, hsk, hNa, hNeg, hNpo, hNbg, hNbd, hq348, hq349, hq350, hq351, hq352, hq353⟩ | ⟨v354, ct2355, EG2356, PO2357, BG2358, BD2359, hv, hfk, hlk, hsk, hNa, hNeg, hNpo, hNbg, hNbd, hq360, hq361, hq362, hq363, hq364, hq365⟩
            · cases hv
              have hsd := hfk.get hsd (by decide)
              have hse_ := hfk.get hse_ (by decide)
              have hq := hfk.get hq (by simp only [List.mem_cons, List.not_mem_nil, or_false]; omega)
              have hs := hfk.get hs (by decide)
              have hby_ := hfk.get hby_ (by decide)
              have hfr := hfr.tr hfk (by decide)
              have hlen := hlk.trans hlen
              have hsl := hsk.trans hsl
              have ha := hNa
              have heg := hNeg
              have hpo := hNpo
              have hbg := hNbg
              have hbd := hNbd
              change ab_W _ _ _ G341 98 [some (vR a), some (vR s), some (vz p), some (vz 5)] [vz v342] _
              refine zz_iret rfl d_ST_firstState_98 ?_
              rw [hQ]; exact ⟨_, _, _, _, _, _, _, _, _, _, rfl, hfr, hlen, hsl, ha, heg, hpo, hbg, hbd, hsd, hse_, (by omega), (by exact hq349), (by exact hq350), (by exact hq351), (by exact hq352), (by omega)⟩
            · cases hv
              have hsd := hfk.get hsd (by decide)
              have hse_ := hfk.get hse_ (by decide)
              have hq := hfk.get hq (by simp only [List.mem_cons, List.not_mem_nil, or_false]; omega)
              have hs := hfk.get hs (by decide)
              have hby_ := hfk.get hby_ (by decide)
              have hfr := hfr.tr hfk (by decide)
              have hlen := hlk.trans hlen
              have hsl := hsk.trans hsl
              have ha := hNa
              have heg := hNeg
              have hpo := hNpo
              have hbg := hNbg
              have hbd := hNbd
              change ab_W _ _ _ G341 98 [some (vR a), some (vR s), some (vz p), some (vz 5)] [vz v354] _
              refine zz_iret rfl d_ST_firstState_98 ?_
              rw [hQ]; exact ⟨_, _, _, _, _, _, _, _, _, _, rfl, hfr, hlen, hsl, ha, heg, hpo, hbg, hbd, hsd, hse_, (by omega), (by exact hq361), (by exact hq362), (by exact hq363), (by exact hq364), (by omega)⟩
          · refine ab_iload_n d_ST_firstState_90 rfl ?_
            refine ab_goto (tgt := 95) d_ST_firstState_91 (by decide) ?_
            refine ab_callV (d' := d - 1) (as := [vz 5]) (st := []) (r := _) (z_ST_keptState (o := o) (a := a) (cu := cu) (eg := eg) (po := po) (bg := bg) (bd := bd) (sd := sd) (se_ := se_) (stk := stk) (mst := mst) (q0 := vR q) (vr := vr) (ro := ro) (cn := cn) (ct := ct) (sc := 0) (sta := (sta + 1)) (arv := arv) (stp := stp) (EG := EG) (PO := PO) (BG := BG) (BD := BD) (SD := SD) (cnt := cnt) (ah := 5) ha heg hpo hbg hbd hsd (by omega) (by omega) (by omega) jbg jpo ents_0 (by omega) jbd jeg (by omega)) (fun oc G2 h => by rcases h with ⟨_, _, _, _, _, _, h, _⟩ | ⟨_, _, _, _, _, _, h, _⟩ <;> exact ⟨_, h⟩) (by omega) m_ST_keptState ml_ST_145 im_ST_keptState se_ST_keptState c_ST ha.2.2 (Nat.le_of_ble_eq_true rfl) d_ST_firstState_95 rfl ?_
            intro v G366 hq
            rcases hq with ⟨v367, ct2368, EG2369, PO2370, BG2371, BD2372, hv, hfk, hlk, hsk, hNa, hNeg, hNpo, hNbg, hNbd, hq373, hq374, hq375, hq376, hq377, hq378⟩ | ⟨v379, ct2380, EG2381, PO2382, BG2383, BD2384, hv, hfk, hlk, hsk, hNa, hNeg, hNpo, hNbg, hNbd, hq385, hq386, hq387, hq388, hq389, hq390⟩
            · cases hv
              have hsd := hfk.get hsd (by decide)
              have hse_ := hfk.get hse_ (by decide)
              have hq := hfk.get hq (by simp only [List.mem_cons, List.not_mem_nil, or_false]; omega)
              have hs := hfk.get hs (by decide)
              have hby_ := hfk.get hby_ (by decide)
              have hfr := hfr.tr hfk (by decide)
              have hlen := hlk.trans hlen
              have hsl := hsk.trans hsl
              have ha := hNa
              have heg := hNeg
              have hpo := hNpo
              have hbg := hNbg
              have hbd := hNbd
              change ab_W _ _ _ G366 98 [some (vR a), some (vR s), some (vz p), some (vz 5)] [vz v367] _
              refine zz_iret rfl d_ST_firstState_98 ?_
              rw [hQ]; exact ⟨_, _, _, _, _, _, _, _, _, _, rfl, hfr, hlen, hsl, ha, heg, hpo, hbg, hbd, hsd, hse_, (by omega), (by exact hq374), (by exact hq375), (by exact hq376), (by exact hq377), (by omega)⟩
            · cases hv
              have hsd := hfk.get hsd (by decide)
              have hse_ := hfk.get hse_ (by decide)
              have hq := hfk.get hq (by simp only [List.mem_cons, List.not_mem_nil, or_false]; omega)
              have hs := hfk.get hs (by decide)
              have hby_ := hfk.get hby_ (by decide)
              have hfr := hfr.tr hfk (by decide)
              have hlen := hlk.trans hlen
              have hsl := hsk.trans hsl
              have ha := hNa
              have heg := hNeg
              have hpo := hNpo
              have hbg := hNbg
              have hbd := hNbd
              change ab_W _ _ _ G366 98 [some (vR a), some (vR s), some (vz p), some (vz 5)] [vz v379] _
              refine zz_iret rfl d_ST_firstState_98 ?_
              rw [hQ]; exact ⟨_, _, _, _, _, _, _, _, _, _, rfl, hfr, hlen, hsl, ha, heg, hpo, hbg, hbd, hsd, hse_, (by omega), (by exact hq386), (by exact hq387), (by exact hq388), (by exact hq389), (by omega)⟩
        · cases hv
          rw [hGe]
          change ab_W _ _ _ G2 69 [some (vR a), some (vR s), some (vz p), some (vz 1)] [vz 0, vz 1] _
          refine zz_if_eq (tgt := 76) d_ST_firstState_69 (by decide) (by decide) (fun c391 => ?_) (fun c391 => absurd c391 (by decide))
          refine zz_iconst d_ST_firstState_76 ?_
          refine zz_iorL (r := 1) d_ST_firstState_77 (by decide) ?_
          refine ab_istore_n d_ST_firstState_78 (Nat.le_of_ble_eq_true rfl) (Nat.le_of_ble_eq_true rfl) rfl ?_
          change ab_W _ _ _ G2 79 [some (vR a), some (vR s), some (vz p), some (vz 1)] [] _
          refine ab_aload_n d_ST_firstState_79 rfl ?_
          refine ab_aload_n d_ST_firstState_80 rfl ?_
          refine ab_getf (fs := [vz mst, vR q, vz vr, vz ro, vR cu, vz cn, vR eg, vR po, vR bg, vR bd, vz ct, vR sd, vz 0, vR se_, vz (sta + 1), vR stk, vz arv, vj stp]) f_ST_74 d_ST_firstState_81 ha.2.2 rfl ?_
          refine ab_getf (fs := [vR ki, vR ne, vR ot, vz cnt, vz fi, vz la, vR ra, vz ru, vz gr, vz wi, vz sz, vz fl, vz ve, vz mi, vR na, vR nl]) f_ST_142 d_ST_firstState_84 hq.2.2 rfl ?_
          refine zz_if_eq (tgt := 94) d_ST_firstState_87 (by decide) (by omega) (fun c392 => ?_) (fun c392 => ?_)
          · refine zz_iconst d_ST_firstState_94 ?_
            refine ab_callV (d' := d - 1) (as := [vz 0]) (st := []) (r := _) (z_ST_keptState (o := o) (a := a) (cu := cu) (eg := eg) (po := po) (bg := bg) (bd := bd) (sd := sd) (se_ := se_) (stk := stk) (mst := mst) (q0 := vR q) (vr := vr) (ro := ro) (cn := cn) (ct := ct) (sc := 0) (sta := (sta + 1)) (arv := arv) (stp := stp) (EG := EG) (PO := PO) (BG := BG) (BD := BD) (SD := SD) (cnt := cnt) (ah := 0) ha heg hpo hbg hbd hsd (by omega) (by omega) (by omega) jbg jpo ents_0 (by omega) jbd jeg (by omega)) (fun oc G2 h => by rcases h with ⟨_, _, _, _, _, _, h, _⟩ | ⟨_, _, _, _, _, _, h, _⟩ <;> exact ⟨_, h⟩) (by omega) m_ST_keptState ml_ST_145 im_ST_keptState se_ST_keptState c_ST ha.2.2 (Nat.le_of_ble_eq_true rfl) d_ST_firstState_95 rfl ?_
            intro v G393 hq
            rcases hq with ⟨v394, ct2395, EG2396, PO2397, BG2398, BD2399, hv, hfk, hlk, hsk, hNa, hNeg, hNpo, hNbg, hNbd, hq400, hq401, hq402, hq403, hq404, hq405⟩ | ⟨v406, ct2407, EG2408, PO2409, BG2410, BD2411, hv, hfk, hlk, hsk, hNa, hNeg, hNpo, hNbg, hNbd, hq412, hq413, hq414, hq415, hq416, hq417⟩
            · cases hv
              have hsd := hfk.get hsd (by decide)
              have hse_ := hfk.get hse_ (by decide)
              have hq := hfk.get hq (by simp only [List.mem_cons, List.not_mem_nil, or_false]; omega)
              have hs := hfk.get hs (by decide)
              have hby_ := hfk.get hby_ (by decide)
              have hfr := hfr.tr hfk (by decide)
              have hlen := hlk.trans hlen
              have hsl := hsk.trans hsl
              have ha := hNa
              have heg := hNeg
              have hpo := hNpo
              have hbg := hNbg
              have hbd := hNbd
              change ab_W _ _ _ G393 98 [some (vR a), some (vR s), some (vz p), some (vz 1)] [vz v394] _
              refine zz_iret rfl d_ST_firstState_98 ?_
              rw [hQ]; exact ⟨_, _, _, _, _, _, _, _, _, _, rfl, hfr, hlen, hsl, ha, heg, hpo, hbg, hbd, hsd, hse_, (by omega), (by exact hq401), (by exact hq402), (by exact hq403), (by exact hq404), (by omega)⟩
            · cases hv
              have hsd := hfk.get hsd (by decide)
              have hse_ := hfk.get hse_ (by decide)
              have hq := hfk.get hq (by simp only [List.mem_cons, List.not_mem_nil, or_false]; omega)
              have hs := hfk.get hs (by decide)
              have hby_ := hfk.get hby_ (by decide)
              have hfr := hfr.tr hfk (by decide)
              have hlen := hlk.trans hlen
              have hsl := hsk.trans hsl
              have ha := hNa
              have heg := hNeg
              have hpo := hNpo
              have hbg := hNbg
              have hbd := hNbd
              change ab_W _ _ _ G393 98 [some (vR a), some (vR s), some (vz p), some (vz 1)] [vz v406] _
              refine zz_iret rfl d_ST_firstState_98 ?_
              rw [hQ]; exact ⟨_, _, _, _, _, _, _, _, _, _, rfl, hfr, hlen, hsl, ha, heg, hpo, hbg, hbd, hsd, hse_, (by omega), (by exact hq413), (by exact hq414), (by exact hq415), (by exact hq416), (by omega)⟩
          · refine ab_iload_n d_ST_firstState_90 rfl ?_
            refine ab_goto (tgt := 95) d_ST_firstState_91 (by decide) ?_
            refine ab_callV (d' := d - 1) (as := [vz 1]) (st := []) (r := _) (z_ST_keptState (o := o) (a := a) (cu := cu) (eg := eg) (po := po) (bg := bg) (bd := bd) (sd := sd) (se_ := se_) (stk := stk) (mst := mst) (q0 := vR q) (vr := vr) (ro := ro) (cn := cn) (ct := ct) (sc := 0) (sta := (sta + 1)) (arv := arv) (stp := stp) (EG := EG) (PO := PO) (BG := BG) (BD := BD) (SD := SD) (cnt := cnt) (ah := 1) ha heg hpo hbg hbd hsd (by omega) (by omega) (by omega) jbg jpo ents_0 (by omega) jbd jeg (by omega)) (fun oc G2 h => by rcases h with ⟨_, _, _, _, _, _, h, _⟩ | ⟨_, _, _, _, _, _, h, _⟩ <;> exact ⟨_, h⟩) (by omega) m_ST_keptState ml_ST_145 im_ST_keptState se_ST_keptState c_ST ha.2.2 (Nat.le_of_ble_eq_true rfl) d_ST_firstState_95 rfl ?_
            intro v G418 hq
            rcases hq with ⟨v419, ct2420, EG2421, PO2422, BG2423, BD2424, hv, hfk, hlk, hsk, hNa, hNeg, hNpo, hNbg, hNbd, hq425, hq426, hq427, hq428, hq429, hq430⟩ | ⟨v431, ct2432, EG2433, PO2434, BG2435, BD2436, hv, hfk, hlk, hsk, hNa, hNeg, hNpo, hNbg, hNbd, hq437, hq438, hq439, hq440, hq441, hq442⟩
            · cases hv
              have hsd := hfk.get hsd (by decide)
              have hse_ := hfk.get hse_ (by decide)
              have hq := hfk.get hq (by simp only [List.mem_cons, List.not_mem_nil, or_false]; omega)
              have hs := hfk.get hs (by decide)
              have hby_ := hfk.get hby_ (by decide)
              have hfr := hfr.tr hfk (by decide)
              have hlen := hlk.trans hlen
              have hsl := hsk.trans hsl
              have ha := hNa
              have heg := hNeg
              have hpo := hNpo
              have hbg := hNbg
              have hbd := hNbd
              change ab_W _ _ _ G418 98 [some (vR a), some (vR s), some (vz p), some (vz 1)] [vz v419] _
              refine zz_iret rfl d_ST_firstState_98 ?_
              rw [hQ]; exact ⟨_, _, _, _, _, _, _, _, _, _, rfl, hfr, hlen, hsl, ha, heg, hpo, hbg, hbd, hsd, hse_, (by omega), (by exact hq426), (by exact hq427), (by exact hq428), (by exact hq429), (by omega)⟩
            · cases hv
              have hsd := hfk.get hsd (by decide)
              have hse_ := hfk.get hse_ (by decide)
              have hq := hfk.get hq (by simp only [List.mem_cons, List.not_mem_nil, or_false]; omega)
              have hs := hfk.get hs (by decide)
              have hby_ := hfk.get hby_ (by decide)
              have hfr := hfr.tr hfk (by decide)
              have hlen := hlk.trans hlen
              have hsl := hsk.trans hsl
              have ha := hNa
              have heg := hNeg
              have hpo := hNpo
              have hbg := hNbg
              have hbd := hNbd
              change ab_W _ _ _ G418 98 [some (vR a), some (vR s), some (vz p), some (vz 1)] [vz v431] _
              refine zz_iret rfl d_ST_firstState_98 ?_
              rw [hQ]; exact ⟨_, _, _, _, _, _, _, _, _, _, rfl, hfr, hlen, hsl, ha, heg, hpo, hbg, hbd, hsd, hse_, (by omega), (by exact hq438), (by exact hq439), (by exact hq440), (by exact hq441), (by omega)⟩
  · refine ab_aload_n d_ST_firstState_22 rfl ?_
    refine ab_aload_n d_ST_firstState_23 rfl ?_
    refine ab_getf (fs := [vz mst, vR q, vz vr, vz ro, vR cu, vz cn, vR eg, vR po, vR bg, vR bd, vz ct, vR sd, vz 0, vR se_, vz (sta + 1), vR stk, vz arv, vj stp]) f_ST_74 d_ST_firstState_24 ha.2.2 rfl ?_
    refine ab_getf (fs := [vR ki, vR ne, vR ot, vz cnt, vz fi, vz la, vR ra, vz ru, vz gr, vz wi, vz sz, vz fl, vz ve, vz mi, vR na, vR nl]) f_ST_129 d_ST_firstState_27 hq.2.2 rfl ?_
    refine ab_callV (d' := d - 1) (as := [vz fi]) (st := []) (r := _) (z_ST_addSeed (o := o) (a := a) (cu := cu) (eg := eg) (po := po) (bg := bg) (bd := bd) (sd := sd) (se_ := se_) (stk := stk) (mst := mst) (q0 := vR q) (vr := vr) (ro := ro) (cn := cn) (ct := ct) (sc := 0) (sta := (sta + 1)) (arv := arv) (stp := stp) (SD := SD) (SE := SE) (e_ := fi) (cnt := cnt) ha hsd hse_ (by omega) (by omega) ents_0) (fun oc G2 h => by rcases h with ⟨_, _, _, h, _⟩ <;> exact ⟨_, h⟩) (by omega) m_ST_addSeed ml_ST_132 im_ST_addSeed se_ST_addSeed c_ST ha.2.2 (Nat.le_of_ble_eq_true rfl) d_ST_firstState_30 rfl ?_
    intro v G443 hq
    rcases hq with ⟨sc2444, SD2445, SE2446, hv, hfk, hlk, hsk, hNa, hNsd, hNse_, hq447, hq448⟩
    cases hv
    have heg := hfk.get heg (by decide)
    have hpo := hfk.get hpo (by decide)
    have hbg := hfk.get hbg (by decide)
    have hbd := hfk.get hbd (by decide)
    have hq := hfk.get hq (by simp only [List.mem_cons, List.not_mem_nil, or_false]; omega)
    have hs := hfk.get hs (by decide)
    have hby_ := hfk.get hby_ (by decide)
    have hfr := hfr.tr hfk (by decide)
    have hlen := hlk.trans hlen
    have hsl := hsk.trans hsl
    have ha := hNa
    have hsd := hNsd
    have hse_ := hNse_
    change ab_W _ _ _ G443 33 [some (vR a), some (vR s), some (vz p), none] [] _
    refine ab_iload_n d_ST_firstState_33 rfl ?_
    refine zz_if_ne (tgt := 41) d_ST_firstState_34 (by decide) (by omega) (fun c449 => ?_) (fun c449 => ?_)
    · refine zz_iconst d_ST_firstState_41 ?_
      refine ab_istore_n d_ST_firstState_42 (Nat.le_of_ble_eq_true rfl) (Nat.le_of_ble_eq_true rfl) rfl ?_
      change ab_W _ _ _ G443 43 [some (vR a), some (vR s), some (vz p), some (vz 0)] [] _
      refine ab_iload_n d_ST_firstState_43 rfl ?_
      refine ab_aload_n d_ST_firstState_44 rfl ?_
      refine ab_iload_n d_ST_firstState_45 rfl ?_
      refine zz_iconst d_ST_firstState_46 ?_
      refine zz_isub d_ST_firstState_47 ?_
      refine ab_callV (d' := d - 1) (as := [vz (p - 1)]) (st := [vz 0]) (r := _) (z_SU_isLineFeed (o := o) (s := s) (ls := 26) (by_ := by_) (lby := 27) (m := m) (f := f) (n := n) (co := co) (re := re) (ho := ho) (p := (p - 1)) hs hby_ (by omega) hb) (fun oc G2 h => by rcases h with ⟨h, _⟩ | ⟨h, _⟩ <;> exact ⟨_, h⟩) (by omega) m_SU_isLineFeed ml_ST_135 im_SU_isLineFeed se_SU_isLineFeed c_SU hs.2.2 (Nat.le_of_ble_eq_true rfl) d_ST_firstState_48 rfl ?_
      intro v G450 hq
      rcases hq with ⟨hv, hGe, hq451⟩ | ⟨hv, hGe, hq452⟩
      · cases hv
        rw [hGe]
        change ab_W _ _ _ G443 51 [some (vR a), some (vR s), some (vz p), some (vz 0)] [vz 1, vz 0] _
        refine zz_if_eq (tgt := 58) d_ST_firstState_51 (by decide) (by decide) (fun c453 => absurd c453 (by decide)) (fun c453 => ?_)
        refine zz_iconst d_ST_firstState_54 ?_
        refine ab_goto (tgt := 59) d_ST_firstState_55 (by decide) ?_
        refine zz_iorL (r := 2) d_ST_firstState_59 (by decide) ?_
        refine ab_istore_n d_ST_firstState_60 (Nat.le_of_ble_eq_true rfl) (Nat.le_of_ble_eq_true rfl) rfl ?_
        change ab_W _ _ _ G443 61 [some (vR a), some (vR s), some (vz p), some (vz 2)] [] _
        refine ab_iload_n d_ST_firstState_61 rfl ?_
        refine ab_aload_n d_ST_firstState_62 rfl ?_
        refine ab_iload_n d_ST_firstState_63 rfl ?_
        refine zz_iconst d_ST_firstState_64 ?_
        refine zz_isub d_ST_firstState_65 ?_
        refine ab_callV (d' := d - 1) (as := [vz (p - 1)]) (st := [vz 2]) (r := _) (z_SU_isWordByte (o := o) (s := s) (ls := 26) (by_ := by_) (lby := 27) (m := m) (f := f) (n := n) (co := co) (re := re) (ho := ho) (p := (p - 1)) hs hby_ (by omega) hb (by omega)) (fun oc G2 h => by rcases h with ⟨h, _⟩ | ⟨h, _⟩ <;> exact ⟨_, h⟩) (by omega) m_SU_isWordByte ml_ST_139 im_SU_isWordByte se_SU_isWordByte c_SU hs.2.2 (Nat.le_of_ble_eq_true rfl) d_ST_firstState_66 rfl ?_
        intro v G454 hq
        rcases hq with ⟨hv, hGe, hq455⟩ | ⟨hv, hGe, hq456⟩
        · cases hv
          rw [hGe]
          change ab_W _ _ _ G443 69 [some (vR a), some (vR s), some (vz p), some (vz 2)] [vz 1, vz 2] _
          refine zz_if_eq (tgt := 76) d_ST_firstState_69 (by decide) (by decide) (fun c457 => absurd c457 (by decide)) (fun c457 => ?_)
          refine zz_iconst d_ST_firstState_72 ?_
          refine ab_goto (tgt := 77) d_ST_firstState_73 (by decide) ?_
          refine zz_iorL (r := 6) d_ST_firstState_77 (by decide) ?_
          refine ab_istore_n d_ST_firstState_78 (Nat.le_of_ble_eq_true rfl) (Nat.le_of_ble_eq_true rfl) rfl ?_
          change ab_W _ _ _ G443 79 [some (vR a), some (vR s), some (vz p), some (vz 6)] [] _
          refine ab_aload_n d_ST_firstState_79 rfl ?_
          refine ab_aload_n d_ST_firstState_80 rfl ?_
          refine ab_getf (fs := [vz mst, vR q, vz vr, vz ro, vR cu, vz cn, vR eg, vR po, vR bg, vR bd, vz ct, vR sd, vz sc2444, vR se_, vz (sta + 1), vR stk, vz arv, vj stp]) f_ST_74 d_ST_firstState_81 ha.2.2 rfl ?_
          refine ab_getf (fs := [vR ki, vR ne, vR ot, vz cnt, vz fi, vz la, vR ra, vz ru, vz gr, vz wi, vz sz, vz fl, vz ve, vz mi, vR na, vR nl]) f_ST_142 d_ST_firstState_84 hq.2.2 rfl ?_
          refine zz_if_eq (tgt := 94) d_ST_firstState_87 (by decide) (by omega) (fun c458 => ?_) (fun c458 => ?_)
          · refine zz_iconst d_ST_firstState_94 ?_
            refine ab_callV (d' := d - 1) (as := [vz 0]) (st := []) (r := _) (z_ST_keptState (o := o) (a := a) (cu := cu) (eg := eg) (po := po) (bg := bg) (bd := bd) (sd := sd) (se_ := se_) (stk := stk) (mst := mst) (q0 := vR q) (vr := vr) (ro := ro) (cn := cn) (ct := ct) (sc := sc2444) (sta := (sta + 1)) (arv := arv) (stp := stp) (EG := EG) (PO := PO) (BG := BG) (BD := BD) (SD := SD2445) (cnt := cnt) (ah := 0) ha heg hpo hbg hbd hsd (by omega) (by omega) (by omega) jbg jpo hq448 (by omega) jbd jeg (by omega)) (fun oc G2 h => by rcases h with ⟨_, _, _, _, _, _, h, _⟩ | ⟨_, _, _, _, _, _, h, _⟩ <;> exact ⟨_, h⟩) (by omega) m_ST_keptState ml_ST_145 im_ST_keptState se_ST_keptState c_ST ha.2.2 (Nat.le_of_ble_eq_true rfl) d_ST_firstState_95 rfl ?_
            intro v G459 hq
            rcases hq with ⟨v460, ct2461, EG2462, PO2463, BG2464, BD2465, hv, hfk, hlk, hsk, hNa, hNeg, hNpo, hNbg, hNbd, hq466, hq467, hq468, hq469, hq470, hq471⟩ | ⟨v472, ct2473, EG2474, PO2475, BG2476, BD2477, hv, hfk, hlk, hsk, hNa, hNeg, hNpo, hNbg, hNbd, hq478, hq479, hq480, hq481, hq482, hq483⟩
            · cases hv
              have hsd := hfk.get hsd (by decide)
              have hse_ := hfk.get hse_ (by decide)
              have hq := hfk.get hq (by simp only [List.mem_cons, List.not_mem_nil, or_false]; omega)
              have hs := hfk.get hs (by decide)
              have hby_ := hfk.get hby_ (by decide)
              have hfr := hfr.tr hfk (by decide)
              have hlen := hlk.trans hlen
              have hsl := hsk.trans hsl
              have ha := hNa
              have heg := hNeg
              have hpo := hNpo
              have hbg := hNbg
              have hbd := hNbd
              change ab_W _ _ _ G459 98 [some (vR a), some (vR s), some (vz p), some (vz 6)] [vz v460] _
              refine zz_iret rfl d_ST_firstState_98 ?_
              rw [hQ]; exact ⟨_, _, _, _, _, _, _, _, _, _, rfl, hfr, hlen, hsl, ha, heg, hpo, hbg, hbd, hsd, hse_, (by omega), (by exact hq467), (by exact hq468), (by exact hq469), (by exact hq470), (by omega)⟩
            · cases hv
              have hsd := hfk.get hsd (by decide)
              have hse_ := hfk.get hse_ (by decide)
              have hq := hfk.get hq (by simp only [List.mem_cons, List.not_mem_nil, or_false]; omega)
              have hs := hfk.get hs (by decide)
              have hby_ := hfk.get hby_ (by decide)
              have hfr := hfr.tr hfk (by decide)
              have hlen := hlk.trans hlen
              have hsl := hsk.trans hsl
              have ha := hNa
              have heg := hNeg
              have hpo := hNpo
              have hbg := hNbg
              have hbd := hNbd
              change ab_W _ _ _ G459 98 [some (vR a), some (vR s), some (vz p), some (vz 6)] [vz v472] _
              refine zz_iret rfl d_ST_firstState_98 ?_
              rw [hQ]; exact ⟨_, _, _, _, _, _, _, _, _, _, rfl, hfr, hlen, hsl, ha, heg, hpo, hbg, hbd, hsd, hse_, (by omega), (by exact hq479), (by exact hq480), (by exact hq481), (by exact hq482), (by omega)⟩
          · refine ab_iload_n d_ST_firstState_90 rfl ?_
            refine ab_goto (tgt := 95) d_ST_firstState_91 (by decide) ?_
            refine ab_callV (d' := d - 1) (as := [vz 6]) (st := []) (r := _) (z_ST_keptState (o := o) (a := a) (cu := cu) (eg := eg) (po := po) (bg := bg) (bd := bd) (sd := sd) (se_ := se_) (stk := stk) (mst := mst) (q0 := vR q) (vr := vr) (ro := ro) (cn := cn) (ct := ct) (sc := sc2444) (sta := (sta + 1)) (arv := arv) (stp := stp) (EG := EG) (PO := PO) (BG := BG) (BD := BD) (SD := SD2445) (cnt := cnt) (ah := 6) ha heg hpo hbg hbd hsd (by omega) (by omega) (by omega) jbg jpo hq448 (by omega) jbd jeg (by omega)) (fun oc G2 h => by rcases h with ⟨_, _, _, _, _, _, h, _⟩ | ⟨_, _, _, _, _, _, h, _⟩ <;> exact ⟨_, h⟩) (by omega) m_ST_keptState ml_ST_145 im_ST_keptState se_ST_keptState c_ST ha.2.2 (Nat.le_of_ble_eq_true rfl) d_ST_firstState_95 rfl ?_
            intro v G484 hq
            rcases hq with ⟨v485, ct2486, EG2487, PO2488, BG2489, BD2490, hv, hfk, hlk, hsk, hNa, hNeg, hNpo, hNbg, hNbd, hq491, hq492, hq493, hq494, hq495, hq496⟩ | ⟨v497, ct2498, EG2499, PO2500, BG2501, BD2502, hv, hfk, hlk, hsk, hNa, hNeg, hNpo, hNbg, hNbd, hq503, hq504, hq505, hq506, hq507, hq508⟩
            · cases hv
              have hsd := hfk.get hsd (by decide)
              have hse_ := hfk.get hse_ (by decide)
              have hq := hfk.get hq (by simp only [List.mem_cons, List.not_mem_nil, or_false]; omega)
              have hs := hfk.get hs (by decide)
              have hby_ := hfk.get hby_ (by decide)
              have hfr := hfr.tr hfk (by decide)
              have hlen := hlk.trans hlen
              have hsl := hsk.trans hsl
              have ha := hNa
              have heg := hNeg
              have hpo := hNpo
              have hbg := hNbg
              have hbd := hNbd
              change ab_W _ _ _ G484 98 [some (vR a), some (vR s), some (vz p), some (vz 6)] [vz v485] _
              refine zz_iret rfl d_ST_firstState_98 ?_
              rw [hQ]; exact ⟨_, _, _, _, _, _, _, _, _, _, rfl, hfr, hlen, hsl, ha, heg, hpo, hbg, hbd, hsd, hse_, (by omega), (by exact hq492), (by exact hq493), (by exact hq494), (by exact hq495), (by omega)⟩
            · cases hv
              have hsd := hfk.get hsd (by decide)
              have hse_ := hfk.get hse_ (by decide)
              have hq := hfk.get hq (by simp only [List.mem_cons, List.not_mem_nil, or_false]; omega)
              have hs := hfk.get hs (by decide)
              have hby_ := hfk.get hby_ (by decide)
              have hfr := hfr.tr hfk (by decide)
              have hlen := hlk.trans hlen
              have hsl := hsk.trans hsl
              have ha := hNa
              have heg := hNeg
              have hpo := hNpo
              have hbg := hNbg
              have hbd := hNbd
              change ab_W _ _ _ G484 98 [some (vR a), some (vR s), some (vz p), some (vz 6)] [vz v497] _
              refine zz_iret rfl d_ST_firstState_98 ?_
              rw [hQ]; exact ⟨_, _, _, _, _, _, _, _, _, _, rfl, hfr, hlen, hsl, ha, heg, hpo, hbg, hbd, hsd, hse_, (by omega), (by exact hq504), (by exact hq505), (by exact hq506), (by exact hq507), (by omega)⟩
        · cases hv
          rw [hGe]
          change ab_W _ _ _ G443 69 [some (vR a), some (vR s), some (vz p), some (vz 2)] [vz 0, vz 2] _
          refine zz_if_eq (tgt := 76) d_ST_firstState_69 (by decide) (by decide) (fun c509 => ?_) (fun c509 => absurd c509 (by decide))
          refine zz_iconst d_ST_firstState_76 ?_
          refine zz_iorL (r := 2) d_ST_firstState_77 (by decide) ?_
          refine ab_istore_n d_ST_firstState_78 (Nat.le_of_ble_eq_true rfl) (Nat.le_of_ble_eq_true rfl) rfl ?_
          change ab_W _ _ _ G443 79 [some (vR a), some (vR s), some (vz p), some (vz 2)] [] _
          refine ab_aload_n d_ST_firstState_79 rfl ?_
          refine ab_aload_n d_ST_firstState_80 rfl ?_
          refine ab_getf (fs := [vz mst, vR q, vz vr, vz ro, vR cu, vz cn, vR eg, vR po, vR bg, vR bd, vz ct, vR sd, vz sc2444, vR se_, vz (sta + 1), vR stk, vz arv, vj stp]) f_ST_74 d_ST_firstState_81 ha.2.2 rfl ?_
          refine ab_getf (fs := [vR ki, vR ne, vR ot, vz cnt, vz fi, vz la, vR ra, vz ru, vz gr, vz wi, vz sz, vz fl, vz ve, vz mi, vR na, vR nl]) f_ST_142 d_ST_firstState_84 hq.2.2 rfl ?_
          refine zz_if_eq (tgt := 94) d_ST_firstState_87 (by decide) (by omega) (fun c510 => ?_) (fun c510 => ?_)
          · refine zz_iconst d_ST_firstState_94 ?_
            refine ab_callV (d' := d - 1) (as := [vz 0]) (st := []) (r := _) (z_ST_keptState (o := o) (a := a) (cu := cu) (eg := eg) (po := po) (bg := bg) (bd := bd) (sd := sd) (se_ := se_) (stk := stk) (mst := mst) (q0 := vR q) (vr := vr) (ro := ro) (cn := cn) (ct := ct) (sc := sc2444) (sta := (sta + 1)) (arv := arv) (stp := stp) (EG := EG) (PO := PO) (BG := BG) (BD := BD) (SD := SD2445) (cnt := cnt) (ah := 0) ha heg hpo hbg hbd hsd (by omega) (by omega) (by omega) jbg jpo hq448 (by omega) jbd jeg (by omega)) (fun oc G2 h => by rcases h with ⟨_, _, _, _, _, _, h, _⟩ | ⟨_, _, _, _, _, _, h, _⟩ <;> exact ⟨_, h⟩) (by omega) m_ST_keptState ml_ST_145 im_ST_keptState se_ST_keptState c_ST ha.2.2 (Nat.le_of_ble_eq_true rfl) d_ST_firstState_95 rfl ?_
            intro v G511 hq
            rcases hq with ⟨v512, ct2513, EG2514, PO2515, BG2516, BD2517, hv, hfk, hlk, hsk, hNa, hNeg, hNpo, hNbg, hNbd, hq518, hq519, hq520, hq521, hq522, hq523⟩ | ⟨v524, ct2525, EG2526, PO2527, BG2528, BD2529, hv, hfk, hlk, hsk, hNa, hNeg, hNpo, hNbg, hNbd, hq530, hq531, hq532, hq533, hq534, hq535⟩
            · cases hv
              have hsd := hfk.get hsd (by decide)
              have hse_ := hfk.get hse_ (by decide)
              have hq := hfk.get hq (by simp only [List.mem_cons, List.not_mem_nil, or_false]; omega)
              have hs := hfk.get hs (by decide)
              have hby_ := hfk.get hby_ (by decide)
              have hfr := hfr.tr hfk (by decide)
              have hlen := hlk.trans hlen
              have hsl := hsk.trans hsl
              have ha := hNa
              have heg := hNeg
              have hpo := hNpo
              have hbg := hNbg
              have hbd := hNbd
              change ab_W _ _ _ G511 98 [some (vR a), some (vR s), some (vz p), some (vz 2)] [vz v512] _
              refine zz_iret rfl d_ST_firstState_98 ?_
              rw [hQ]; exact ⟨_, _, _, _, _, _, _, _, _, _, rfl, hfr, hlen, hsl, ha, heg, hpo, hbg, hbd, hsd, hse_, (by omega), (by exact hq519), (by exact hq520), (by exact hq521), (by exact hq522), (by omega)⟩
            · cases hv
              have hsd := hfk.get hsd (by decide)
              have hse_ := hfk.get hse_ (by decide)
              have hq := hfk.get hq (by simp only [List.mem_cons, List.not_mem_nil, or_false]; omega)
              have hs := hfk.get hs (by decide)
              have hby_ := hfk.get hby_ (by decide)
              have hfr := hfr.tr hfk (by decide)
              have hlen := hlk.trans hlen
              have hsl := hsk.trans hsl
              have ha := hNa
              have heg := hNeg
              have hpo := hNpo
              have hbg := hNbg
              have hbd := hNbd
              change ab_W _ _ _ G511 98 [some (vR a), some (vR s), some (vz p), some (vz 2)] [vz v524] _
              refine zz_iret rfl d_ST_firstState_98 ?_
              rw [hQ]; exact ⟨_, _, _, _, _, _, _, _, _, _, rfl, hfr, hlen, hsl, ha, heg, hpo, hbg, hbd, hsd, hse_, (by omega), (by exact hq531), (by exact hq532), (by exact hq533), (by exact hq534), (by omega)⟩
          · refine ab_iload_n d_ST_firstState_90 rfl ?_
            refine ab_goto (tgt := 95) d_ST_firstState_91 (by decide) ?_
            refine ab_callV (d' := d - 1) (as := [vz 2]) (st := []) (r := _) (z_ST_keptState (o := o) (a := a) (cu := cu) (eg := eg) (po := po) (bg := bg) (bd := bd) (sd := sd) (se_ := se_) (stk := stk) (mst := mst) (q0 := vR q) (vr := vr) (ro := ro) (cn := cn) (ct := ct) (sc := sc2444) (sta := (sta + 1)) (arv := arv) (stp := stp) (EG := EG) (PO := PO) (BG := BG) (BD := BD) (SD := SD2445) (cnt := cnt) (ah := 2) ha heg hpo hbg hbd hsd (by omega) (by omega) (by omega) jbg jpo hq448 (by omega) jbd jeg (by omega)) (fun oc G2 h => by rcases h with ⟨_, _, _, _, _, _, h, _⟩ | ⟨_, _, _, _, _, _, h, _⟩ <;> exact ⟨_, h⟩) (by omega) m_ST_keptState ml_ST_145 im_ST_keptState se_ST_keptState c_ST ha.2.2 (Nat.le_of_ble_eq_true rfl) d_ST_firstState_95 rfl ?_
            intro v G536 hq
            rcases hq with ⟨v537, ct2538, EG2539, PO2540, BG2541, BD2542, hv, hfk, hlk, hsk, hNa, hNeg, hNpo, hNbg, hNbd, hq543, hq544, hq545, hq546, hq547, hq548⟩ | ⟨v549, ct2550, EG2551, PO2552, BG2553, BD2554, hv, hfk, hlk, hsk, hNa, hNeg, hNpo, hNbg, hNbd, hq555, hq556, hq557, hq558, hq559, hq560⟩
            · cases hv
              have hsd := hfk.get hsd (by decide)
              have hse_ := hfk.get hse_ (by decide)
              have hq := hfk.get hq (by simp only [List.mem_cons, List.not_mem_nil, or_false]; omega)
              have hs := hfk.get hs (by decide)
              have hby_ := hfk.get hby_ (by decide)
              have hfr := hfr.tr hfk (by decide)
              have hlen := hlk.trans hlen
              have hsl := hsk.trans hsl
              have ha := hNa
              have heg := hNeg
              have hpo := hNpo
              have hbg := hNbg
              have hbd := hNbd
              change ab_W _ _ _ G536 98 [some (vR a), some (vR s), some (vz p), some (vz 2)] [vz v537] _
              refine zz_iret rfl d_ST_firstState_98 ?_
              rw [hQ]; exact ⟨_, _, _, _, _, _, _, _, _, _, rfl, hfr, hlen, hsl, ha, heg, hpo, hbg, hbd, hsd, hse_, (by omega), (by exact hq544), (by exact hq545), (by exact hq546), (by exact hq547), (by omega)⟩
            · cases hv
              have hsd := hfk.get hsd (by decide)
              have hse_ := hfk.get hse_ (by decide)
              have hq := hfk.get hq (by simp only [List.mem_cons, List.not_mem_nil, or_false]; omega)
              have hs := hfk.get hs (by decide)
              have hby_ := hfk.get hby_ (by decide)
              have hfr := hfr.tr hfk (by decide)
              have hlen := hlk.trans hlen
              have hsl := hsk.trans hsl
              have ha := hNa
              have heg := hNeg
              have hpo := hNpo
              have hbg := hNbg
              have hbd := hNbd
              change ab_W _ _ _ G536 98 [some (vR a), some (vR s), some (vz p), some (vz 2)] [vz v549] _
              refine zz_iret rfl d_ST_firstState_98 ?_
              rw [hQ]; exact ⟨_, _, _, _, _, _, _, _, _, _, rfl, hfr, hlen, hsl, ha, heg, hpo, hbg, hbd, hsd, hse_, (by omega), (by exact hq556), (by exact hq557), (by exact hq558), (by exact hq559), (by omega)⟩
      · cases hv
        rw [hGe]
        change ab_W _ _ _ G443 51 [some (vR a), some (vR s), some (vz p), some (vz 0)] [vz 0, vz 0] _
        refine zz_if_eq (tgt := 58) d_ST_firstState_51 (by decide) (by decide) (fun c561 => ?_) (fun c561 => absurd c561 (by decide))
        refine zz_iconst d_ST_firstState_58 ?_
        refine zz_iorL (r := 0) d_ST_firstState_59 (by decide) ?_
        refine ab_istore_n d_ST_firstState_60 (Nat.le_of_ble_eq_true rfl) (Nat.le_of_ble_eq_true rfl) rfl ?_
        change ab_W _ _ _ G443 61 [some (vR a), some (vR s), some (vz p), some (vz 0)] [] _
        refine ab_iload_n d_ST_firstState_61 rfl ?_
        refine ab_aload_n d_ST_firstState_62 rfl ?_
        refine ab_iload_n d_ST_firstState_63 rfl ?_
        refine zz_iconst d_ST_firstState_64 ?_
        refine zz_isub d_ST_firstState_65 ?_
        refine ab_callV (d' := d - 1) (as := [vz (p - 1)]) (st := [vz 0]) (r := _) (z_SU_isWordByte (o := o) (s := s) (ls := 26) (by_ := by_) (lby := 27) (m := m) (f := f) (n := n) (co := co) (re := re) (ho := ho) (p := (p - 1)) hs hby_ (by omega) hb (by omega)) (fun oc G2 h => by rcases h with ⟨h, _⟩ | ⟨h, _⟩ <;> exact ⟨_, h⟩) (by omega) m_SU_isWordByte ml_ST_139 im_SU_isWordByte se_SU_isWordByte c_SU hs.2.2 (Nat.le_of_ble_eq_true rfl) d_ST_firstState_66 rfl ?_
        intro v G562 hq
        rcases hq with ⟨hv, hGe, hq563⟩ | ⟨hv, hGe, hq564⟩
        · cases hv
          rw [hGe]
          change ab_W _ _ _ G443 69 [some (vR a), some (vR s), some (vz p), some (vz 0)] [vz 1, vz 0] _
          refine zz_if_eq (tgt := 76) d_ST_firstState_69 (by decide) (by decide) (fun c565 => absurd c565 (by decide)) (fun c565 => ?_)
          refine zz_iconst d_ST_firstState_72 ?_
          refine ab_goto (tgt := 77) d_ST_firstState_73 (by decide) ?_
          refine zz_iorL (r := 4) d_ST_firstState_77 (by decide) ?_
          refine ab_istore_n d_ST_firstState_78 (Nat.le_of_ble_eq_true rfl) (Nat.le_of_ble_eq_true rfl) rfl ?_
          change ab_W _ _ _ G443 79 [some (vR a), some (vR s), some (vz p), some (vz 4)] [] _
          refine ab_aload_n d_ST_firstState_79 rfl ?_
          refine ab_aload_n d_ST_firstState_80 rfl ?_
          refine ab_getf (fs := [vz mst, vR q, vz vr, vz ro, vR cu, vz cn, vR eg, vR po, vR bg, vR bd, vz ct, vR sd, vz sc2444, vR se_, vz (sta + 1), vR stk, vz arv, vj stp]) f_ST_74 d_ST_firstState_81 ha.2.2 rfl ?_
          refine ab_getf (fs := [vR ki, vR ne, vR ot, vz cnt, vz fi, vz la, vR ra, vz ru, vz gr, vz wi, vz sz, vz fl, vz ve, vz mi, vR na, vR nl]) f_ST_142 d_ST_firstState_84 hq.2.2 rfl ?_
          refine zz_if_eq (tgt := 94) d_ST_firstState_87 (by decide) (by omega) (fun c566 => ?_) (fun c566 => ?_)
          · refine zz_iconst d_ST_firstState_94 ?_
            refine ab_callV (d' := d - 1) (as := [vz 0]) (st := []) (r := _) (z_ST_keptState (o := o) (a := a) (cu := cu) (eg := eg) (po := po) (bg := bg) (bd := bd) (sd := sd) (se_ := se_) (stk := stk) (mst := mst) (q0 := vR q) (vr := vr) (ro := ro) (cn := cn) (ct := ct) (sc := sc2444) (sta := (sta + 1)) (arv := arv) (stp := stp) (EG := EG) (PO := PO) (BG := BG) (BD := BD) (SD := SD2445) (cnt := cnt) (ah := 0) ha heg hpo hbg hbd hsd (by omega) (by omega) (by omega) jbg jpo hq448 (by omega) jbd jeg (by omega)) (fun oc G2 h => by rcases h with ⟨_, _, _, _, _, _, h, _⟩ | ⟨_, _, _, _, _, _, h, _⟩ <;> exact ⟨_, h⟩) (by omega) m_ST_keptState ml_ST_145 im_ST_keptState se_ST_keptState c_ST ha.2.2 (Nat.le_of_ble_eq_true rfl) d_ST_firstState_95 rfl ?_
            intro v G567 hq
            rcases hq with ⟨v568, ct2569, EG2570, PO2571, BG2572, BD2573, hv, hfk, hlk, hsk, hNa, hNeg, hNpo, hNbg, hNbd, hq574, hq575, hq576, hq577, hq578, hq579⟩ | ⟨v580, ct2581, EG2582, PO2583, BG2584, BD2585, hv, hfk, hlk, hsk, hNa, hNeg, hNpo, hNbg, hNbd, hq586, hq587, hq588, hq589, hq590, hq591⟩
            · cases hv
              have hsd := hfk.get hsd (by decide)
              have hse_ := hfk.get hse_ (by decide)
              have hq := hfk.get hq (by simp only [List.mem_cons, List.not_mem_nil, or_false]; omega)
              have hs := hfk.get hs (by decide)
              have hby_ := hfk.get hby_ (by decide)
              have hfr := hfr.tr hfk (by decide)
              have hlen := hlk.trans hlen
              have hsl := hsk.trans hsl
              have ha := hNa
              have heg := hNeg
              have hpo := hNpo
              have hbg := hNbg
              have hbd := hNbd
              change ab_W _ _ _ G567 98 [some (vR a), some (vR s), some (vz p), some (vz 4)] [vz v568] _
              refine zz_iret rfl d_ST_firstState_98 ?_
              rw [hQ]; exact ⟨_, _, _, _, _, _, _, _, _, _, rfl, hfr, hlen, hsl, ha, heg, hpo, hbg, hbd, hsd, hse_, (by omega), (by exact hq575), (by exact hq576), (by exact hq577), (by exact hq578), (by omega)⟩
            · cases hv
              have hsd := hfk.get hsd (by decide)
              have hse_ := hfk.get hse_ (by decide)
              have hq := hfk.get hq (by simp only [List.mem_cons, List.not_mem_nil, or_false]; omega)
              have hs := hfk.get hs (by decide)
              have hby_ := hfk.get hby_ (by decide)
              have hfr := hfr.tr hfk (by decide)
              have hlen := hlk.trans hlen
              have hsl := hsk.trans hsl
              have ha := hNa
              have heg := hNeg
              have hpo := hNpo
              have hbg := hNbg
              have hbd := hNbd
              change ab_W _ _ _ G567 98 [some (vR a), some (vR s), some (vz p), some (vz 4)] [vz v580] _
              refine zz_iret rfl d_ST_firstState_98 ?_
              rw [hQ]; exact ⟨_, _, _, _, _, _, _, _, _, _, rfl, hfr, hlen, hsl, ha, heg, hpo, hbg, hbd, hsd, hse_, (by omega), (by exact hq587), (by exact hq588), (by exact hq589), (by exact hq590), (by omega)⟩
          · refine ab_iload_n d_ST_firstState_90 rfl ?_
            refine ab_goto (tgt := 95) d_ST_firstState_91 (by decide) ?_
            refine ab_callV (d' := d - 1) (as := [vz 4]) (st := []) (r := _) (z_ST_keptState (o := o) (a := a) (cu := cu) (eg := eg) (po := po) (bg := bg) (bd := bd) (sd := sd) (se_ := se_) (stk := stk) (mst := mst) (q0 := vR q) (vr := vr) (ro := ro) (cn := cn) (ct := ct) (sc := sc2444) (sta := (sta + 1)) (arv := arv) (stp := stp) (EG := EG) (PO := PO) (BG := BG) (BD := BD) (SD := SD2445) (cnt := cnt) (ah := 4) ha heg hpo hbg hbd hsd (by omega) (by omega) (by omega) jbg jpo hq448 (by omega) jbd jeg (by omega)) (fun oc G2 h => by rcases h with ⟨_, _, _, _, _, _, h, _⟩ | ⟨_, _, _, _, _, _, h, _⟩ <;> exact ⟨_, h⟩) (by omega) m_ST_keptState ml_ST_145 im_ST_keptState se_ST_keptState c_ST ha.2.2 (Nat.le_of_ble_eq_true rfl) d_ST_firstState_95 rfl ?_
            intro v G592 hq
            rcases hq with ⟨v593, ct2594, EG2595, PO2596, BG2597, BD2598, hv, hfk, hlk, hsk, hNa, hNeg, hNpo, hNbg, hNbd, hq599, hq600, hq601, hq602, hq603, hq604⟩ | ⟨v605, ct2606, EG2607, PO2608, BG2609, BD2610, hv, hfk, hlk, hsk, hNa, hNeg, hNpo, hNbg, hNbd, hq611, hq612, hq613, hq614, hq615, hq616⟩
            · cases hv
              have hsd := hfk.get hsd (by decide)
              have hse_ := hfk.get hse_ (by decide)
              have hq := hfk.get hq (by simp only [List.mem_cons, List.not_mem_nil, or_false]; omega)
              have hs := hfk.get hs (by decide)
              have hby_ := hfk.get hby_ (by decide)
              have hfr := hfr.tr hfk (by decide)
              have hlen := hlk.trans hlen
              have hsl := hsk.trans hsl
              have ha := hNa
              have heg := hNeg
              have hpo := hNpo
              have hbg := hNbg
              have hbd := hNbd
              change ab_W _ _ _ G592 98 [some (vR a), some (vR s), some (vz p), some (vz 4)] [vz v593] _
              refine zz_iret rfl d_ST_firstState_98 ?_
              rw [hQ]; exact ⟨_, _, _, _, _, _, _, _, _, _, rfl, hfr, hlen, hsl, ha, heg, hpo, hbg, hbd, hsd, hse_, (by omega), (by exact hq600), (by exact hq601), (by exact hq602), (by exact hq603), (by omega)⟩
            · cases hv
              have hsd := hfk.get hsd (by decide)
              have hse_ := hfk.get hse_ (by decide)
              have hq := hfk.get hq (by simp only [List.mem_cons, List.not_mem_nil, or_false]; omega)
              have hs := hfk.get hs (by decide)
              have hby_ := hfk.get hby_ (by decide)
              have hfr := hfr.tr hfk (by decide)
              have hlen := hlk.trans hlen
              have hsl := hsk.trans hsl
              have ha := hNa
              have heg := hNeg
              have hpo := hNpo
              have hbg := hNbg
              have hbd := hNbd
              change ab_W _ _ _ G592 98 [some (vR a), some (vR s), some (vz p), some (vz 4)] [vz v605] _
              refine zz_iret rfl d_ST_firstState_98 ?_
              rw [hQ]; exact ⟨_, _, _, _, _, _, _, _, _, _, rfl, hfr, hlen, hsl, ha, heg, hpo, hbg, hbd, hsd, hse_, (by omega), (by exact hq612), (by exact hq613), (by exact hq614), (by exact hq615), (by omega)⟩
        · cases hv
          rw [hGe]
          change ab_W _ _ _ G443 69 [some (vR a), some (vR s), some (vz p), some (vz 0)] [vz 0, vz 0] _
          refine zz_if_eq (tgt := 76) d_ST_firstState_69 (by decide) (by decide) (fun c617 => ?_) (fun c617 => absurd c617 (by decide))
          refine zz_iconst d_ST_firstState_76 ?_
          refine zz_iorL (r := 0) d_ST_firstState_77 (by decide) ?_
          refine ab_istore_n d_ST_firstState_78 (Nat.le_of_ble_eq_true rfl) (Nat.le_of_ble_eq_true rfl) rfl ?_
          change ab_W _ _ _ G443 79 [some (vR a), some (vR s), some (vz p), some (vz 0)] [] _
          refine ab_aload_n d_ST_firstState_79 rfl ?_
          refine ab_aload_n d_ST_firstState_80 rfl ?_
          refine ab_getf (fs := [vz mst, vR q, vz vr, vz ro, vR cu, vz cn, vR eg, vR po, vR bg, vR bd, vz ct, vR sd, vz sc2444, vR se_, vz (sta + 1), vR stk, vz arv, vj stp]) f_ST_74 d_ST_firstState_81 ha.2.2 rfl ?_
          refine ab_getf (fs := [vR ki, vR ne, vR ot, vz cnt, vz fi, vz la, vR ra, vz ru, vz gr, vz wi, vz sz, vz fl, vz ve, vz mi, vR na, vR nl]) f_ST_142 d_ST_firstState_84 hq.2.2 rfl ?_
          refine zz_if_eq (tgt := 94) d_ST_firstState_87 (by decide) (by omega) (fun c618 => ?_) (fun c618 => ?_)
          · refine zz_iconst d_ST_firstState_94 ?_
            refine ab_callV (d' := d - 1) (as := [vz 0]) (st := []) (r := _) (z_ST_keptState (o := o) (a := a) (cu := cu) (eg := eg) (po := po) (bg := bg) (bd := bd) (sd := sd) (se_ := se_) (stk := stk) (mst := mst) (q0 := vR q) (vr := vr) (ro := ro) (cn := cn) (ct := ct) (sc := sc2444) (sta := (sta + 1)) (arv := arv) (stp := stp) (EG := EG) (PO := PO) (BG := BG) (BD := BD) (SD := SD2445) (cnt := cnt) (ah := 0) ha heg hpo hbg hbd hsd (by omega) (by omega) (by omega) jbg jpo hq448 (by omega) jbd jeg (by omega)) (fun oc G2 h => by rcases h with ⟨_, _, _, _, _, _, h, _⟩ | ⟨_, _, _, _, _, _, h, _⟩ <;> exact ⟨_, h⟩) (by omega) m_ST_keptState ml_ST_145 im_ST_keptState se_ST_keptState c_ST ha.2.2 (Nat.le_of_ble_eq_true rfl) d_ST_firstState_95 rfl ?_
            intro v G619 hq
            rcases hq with ⟨v620, ct2621, EG2622, PO2623, BG2624, BD2625, hv, hfk, hlk, hsk, hNa, hNeg, hNpo, hNbg, hNbd, hq626, hq627, hq628, hq629, hq630, hq631⟩ | ⟨v632, ct2633, EG2634, PO2635, BG2636, BD2637, hv, hfk, hlk, hsk, hNa, hNeg, hNpo, hNbg, hNbd, hq638, hq639, hq640, hq641, hq642, hq643⟩
            · cases hv
              have hsd := hfk.get hsd (by decide)
              have hse_ := hfk.get hse_ (by decide)
              have hq := hfk.get hq (by simp only [List.mem_cons, List.not_mem_nil, or_false]; omega)
              have hs := hfk.get hs (by decide)
              have hby_ := hfk.get hby_ (by decide)
              have hfr := hfr.tr hfk (by decide)
              have hlen := hlk.trans hlen
              have hsl := hsk.trans hsl
              have ha := hNa
              have heg := hNeg
              have hpo := hNpo
              have hbg := hNbg
              have hbd := hNbd
              change ab_W _ _ _ G619 98 [some (vR a), some (vR s), some (vz p), some (vz 0)] [vz v620] _
              refine zz_iret rfl d_ST_firstState_98 ?_
              rw [hQ]; exact ⟨_, _, _, _, _, _, _, _, _, _, rfl, hfr, hlen, hsl, ha, heg, hpo, hbg, hbd, hsd, hse_, (by omega), (by exact hq627), (by exact hq628), (by exact hq629), (by exact hq630), (by omega)⟩
            · cases hv
              have hsd := hfk.get hsd (by decide)
              have hse_ := hfk.get hse_ (by decide)
              have hq := hfk.get hq (by simp only [List.mem_cons, List.not_mem_nil, or_false]; omega)
              have hs := hfk.get hs (by decide)
              have hby_ := hfk.get hby_ (by decide)
              have hfr := hfr.tr hfk (by decide)
              have hlen := hlk.trans hlen
              have hsl := hsk.trans hsl
              have ha := hNa
              have heg := hNeg
              have hpo := hNpo
              have hbg := hNbg
              have hbd := hNbd
              change ab_W _ _ _ G619 98 [some (vR a), some (vR s), some (vz p), some (vz 0)] [vz v632] _
              refine zz_iret rfl d_ST_firstState_98 ?_
              rw [hQ]; exact ⟨_, _, _, _, _, _, _, _, _, _, rfl, hfr, hlen, hsl, ha, heg, hpo, hbg, hbd, hsd, hse_, (by omega), (by exact hq639), (by exact hq640), (by exact hq641), (by exact hq642), (by omega)⟩
          · refine ab_iload_n d_ST_firstState_90 rfl ?_
            refine ab_goto (tgt := 95) d_ST_firstState_91 (by decide) ?_
            refine ab_callV (d' := d - 1) (as := [vz 0]) (st := []) (r := _) (z_ST_keptState (o := o) (a := a) (cu := cu) (eg := eg) (po := po) (bg := bg) (bd := bd) (sd := sd) (se_ := se_) (stk := stk) (mst := mst) (q0 := vR q) (vr := vr) (ro := ro) (cn := cn) (ct := ct) (sc := sc2444) (sta := (sta + 1)) (arv := arv) (stp := stp) (EG := EG) (PO := PO) (BG := BG) (BD := BD) (SD := SD2445) (cnt := cnt) (ah := 0) ha heg hpo hbg hbd hsd (by omega) (by omega) (by omega) jbg jpo hq448 (by omega) jbd jeg (by omega)) (fun oc G2 h => by rcases h with ⟨_, _, _, _, _, _, h, _⟩ | ⟨_, _, _, _, _, _, h, _⟩ <;> exact ⟨_, h⟩) (by omega) m_ST_keptState ml_ST_145 im_ST_keptState se_ST_keptState c_ST ha.2.2 (Nat.le_of_ble_eq_true rfl) d_ST_firstState_95 rfl ?_
            intro v G644 hq
            rcases hq with ⟨v645, ct2646, EG2647, PO2648, BG2649, BD2650, hv, hfk, hlk, hsk, hNa, hNeg, hNpo, hNbg, hNbd, hq651, hq652, hq653, hq654, hq655, hq656⟩ | ⟨v657, ct2658, EG2659, PO2660, BG2661, BD2662, hv, hfk, hlk, hsk, hNa, hNeg, hNpo, hNbg, hNbd, hq663, hq664, hq665, hq666, hq667, hq668⟩
            · cases hv
              have hsd := hfk.get hsd (by decide)
              have hse_ := hfk.get hse_ (by decide)
              have hq := hfk.get hq (by simp only [List.mem_cons, List.not_mem_nil, or_false]; omega)
              have hs := hfk.get hs (by decide)
              have hby_ := hfk.get hby_ (by decide)
              have hfr := hfr.tr hfk (by decide)
              have hlen := hlk.trans hlen
              have hsl := hsk.trans hsl
              have ha := hNa
              have heg := hNeg
              have hpo := hNpo
              have hbg := hNbg
              have hbd := hNbd
              change ab_W _ _ _ G644 98 [some (vR a), some (vR s), some (vz p), some (vz 0)] [vz v645] _
              refine zz_iret rfl d_ST_firstState_98 ?_
              rw [hQ]; exact ⟨_, _, _, _, _, _, _, _, _, _, rfl, hfr, hlen, hsl, ha, heg, hpo, hbg, hbd, hsd, hse_, (by omega), (by exact hq652), (by exact hq653), (by exact hq654), (by exact hq655), (by omega)⟩
            · cases hv
              have hsd := hfk.get hsd (by decide)
              have hse_ := hfk.get hse_ (by decide)
              have hq := hfk.get hq (by simp only [List.mem_cons, List.not_mem_nil, or_false]; omega)
              have hs := hfk.get hs (by decide)
              have hby_ := hfk.get hby_ (by decide)
              have hfr := hfr.tr hfk (by decide)
              have hlen := hlk.trans hlen
              have hsl := hsk.trans hsl
              have ha := hNa
              have heg := hNeg
              have hpo := hNpo
              have hbg := hNbg
              have hbd := hNbd
              change ab_W _ _ _ G644 98 [some (vR a), some (vR s), some (vz p), some (vz 0)] [vz v657] _
              refine zz_iret rfl d_ST_firstState_98 ?_
              rw [hQ]; exact ⟨_, _, _, _, _, _, _, _, _, _, rfl, hfr, hlen, hsl, ha, heg, hpo, hbg, hbd, hsd, hse_, (by omega), (by exact hq664), (by exact hq665), (by exact hq666), (by exact hq667), (by omega)⟩
    · refine zz_iconst d_ST_firstState_37 ?_
      refine ab_goto (tgt := 42) d_ST_firstState_38 (by decide) ?_
      refine ab_istore_n d_ST_firstState_42 (Nat.le_of_ble_eq_true rfl) (Nat.le_of_ble_eq_true rfl) rfl ?_
      change ab_W _ _ _ G443 43 [some (vR a), some (vR s), some (vz p), some (vz 1)] [] _
      refine ab_iload_n d_ST_firstState_43 rfl ?_
      refine ab_aload_n d_ST_firstState_44 rfl ?_
      refine ab_iload_n d_ST_firstState_45 rfl ?_
      refine zz_iconst d_ST_firstState_46 ?_
      refine zz_isub d_ST_firstState_47 ?_
      refine ab_callV (d' := d - 1) (as := [vz (p - 1)]) (st := [vz 1]) (r := _) (z_SU_isLineFeed (o := o) (s := s) (ls := 26) (by_ := by_) (lby := 27) (m := m) (f := f) (n := n) (co := co) (re := re) (ho := ho) (p := (p - 1)) hs hby_ (by omega) hb) (fun oc G2 h => by rcases h with ⟨h, _⟩ | ⟨h, _⟩ <;> exact ⟨_, h⟩) (by omega) m_SU_isLineFeed ml_ST_135 im_SU_isLineFeed se_SU_isLineFeed c_SU hs.2.2 (Nat.le_of_ble_eq_true rfl) d_ST_firstState_48 rfl ?_
      intro v G669 hq
      rcases hq with ⟨hv, hGe, hq670⟩ | ⟨hv, hGe, hq671⟩
      · cases hv
        rw [hGe]
        change ab_W _ _ _ G443 51 [some (vR a), some (vR s), some (vz p), some (vz 1)] [vz 1, vz 1] _
        refine zz_if_eq (tgt := 58) d_ST_firstState_51 (by decide) (by decide) (fun c672 => absurd c672 (by decide)) (fun c672 => ?_)
        refine zz_iconst d_ST_firstState_54 ?_
        refine ab_goto (tgt := 59) d_ST_firstState_55 (by decide) ?_
        refine zz_iorL (r := 3) d_ST_firstState_59 (by decide) ?_
        refine ab_istore_n d_ST_firstState_60 (Nat.le_of_ble_eq_true rfl) (Nat.le_of_ble_eq_true rfl) rfl ?_
        change ab_W _ _ _ G443 61 [some (vR a), some (vR s), some (vz p), some (vz 3)] [] _
        refine ab_iload_n d_ST_firstState_61 rfl ?_
        refine ab_aload_n d_ST_firstState_62 rfl ?_
        refine ab_iload_n d_ST_firstState_63 rfl ?_
        refine zz_iconst d_ST_firstState_64 ?_
        refine zz_isub d_ST_firstState_65 ?_
        refine ab_callV (d' := d - 1) (as := [vz (p - 1)]) (st := [vz 3]) (r := _) (z_SU_isWordByte (o := o) (s := s) (ls := 26) (by_ := by_) (lby := 27) (m := m) (f := f) (n := n) (co := co) (re := re) (ho := ho) (p := (p - 1)) hs hby_ (by omega) hb (by omega)) (fun oc G2 h => by rcases h with ⟨h, _⟩ | ⟨h, _⟩ <;> exact ⟨_, h⟩) (by omega) m_SU_isWordByte ml_ST_139 im_SU_isWordByte se_SU_isWordByte c_SU hs.2.2 (Nat.le_of_ble_eq_true rfl) d_ST_firstState_66 rfl ?_
        intro v G673 hq
        rcases hq with ⟨hv, hGe, hq674⟩ | ⟨hv, hGe, hq675⟩
        · cases hv
          rw [hGe]
          change ab_W _ _ _ G443 69 [some (vR a), some (vR s), some (vz p), some (vz 3)] [vz 1, vz 3] _
          refine zz_if_eq (tgt := 76) d_ST_firstState_69 (by decide) (by decide) (fun c676 => absurd c676 (by decide)) (fun c676 => ?_)
          refine zz_iconst d_ST_firstState_72 ?_
          refine ab_goto (tgt := 77) d_ST_firstState_73 (by decide) ?_
          refine zz_iorL (r := 7) d_ST_firstState_77 (by decide) ?_
          refine ab_istore_n d_ST_firstState_78 (Nat.le_of_ble_eq_true rfl) (Nat.le_of_ble_eq_true rfl) rfl ?_
          change ab_W _ _ _ G443 79 [some (vR a), some (vR s), some (vz p), some (vz 7)] [] _
          refine ab_aload_n d_ST_firstState_79 rfl ?_
          refine ab_aload_n d_ST_firstState_80 rfl ?_
          refine ab_getf (fs := [vz mst, vR q, vz vr, vz ro, vR cu, vz cn, vR eg, vR po, vR bg, vR bd, vz ct, vR sd, vz sc2444, vR se_, vz (sta + 1), vR stk, vz arv, vj stp]) f_ST_74 d_ST_firstState_81 ha.2.2 rfl ?_
          refine ab_getf (fs := [vR ki, vR ne, vR ot, vz cnt, vz fi, vz la, vR ra, vz ru, vz gr, vz wi, vz sz, vz fl, vz ve, vz mi, vR na, vR nl]) f_ST_142 d_ST_firstState_84 hq.2.2 rfl ?_
          refine zz_if_eq (tgt := 94) d_ST_firstState_87 (by decide) (by omega) (fun c677 => ?_) (fun c677 => ?_)
          · refine zz_iconst d_ST_firstState_94 ?_
            refine ab_callV (d' := d - 1) (as := [vz 0]) (st := []) (r := _) (z_ST_keptState (o := o) (a := a) (cu := cu) (eg := eg) (po := po) (bg := bg) (bd := bd) (sd := sd) (se_ := se_) (stk := stk) (mst := mst) (q0 := vR q) (vr := vr) (ro := ro) (cn := cn) (ct := ct) (sc := sc2444) (sta := (sta + 1)) (arv := arv) (stp := stp) (EG := EG) (PO := PO) (BG := BG) (BD := BD) (SD := SD2445) (cnt := cnt) (ah := 0) ha heg hpo hbg hbd hsd (by omega) (by omega) (by omega) jbg jpo hq448 (by omega) jbd jeg (by omega)) (fun oc G2 h => by rcases h with ⟨_, _, _, _, _, _, h, _⟩ | ⟨_, _, _, _, _, _, h, _⟩ <;> exact ⟨_, h⟩) (by omega) m_ST_keptState ml_ST_145 im_ST_keptState se_ST_keptState c_ST ha.2.2 (Nat.le_of_ble_eq_true rfl) d_ST_firstState_95 rfl ?_
            intro v G678 hq
            rcases hq with ⟨v679, ct2680, EG2681, PO2682, BG2683, BD2684, hv, hfk, hlk, hsk, hNa, hNeg, hNpo, hNbg, hNbd, hq685, hq686, hq687, hq688, hq689, hq690⟩ | ⟨v691, ct2692, EG2693, PO2694, BG2695, BD2696, hv, hfk, hlk, hsk, hNa, hNeg, hNpo, hNbg, hNbd, hq697, hq698, hq699, hq700, hq701, hq702⟩
            · cases hv
              have hsd := hfk.get hsd (by decide)
              have hse_ := hfk.get hse_ (by decide)
              have hq := hfk.get hq (by simp only [List.mem_cons, List.not_mem_nil, or_false]; omega)
              have hs := hfk.get hs (by decide)
              have hby_ := hfk.get hby_ (by decide)
              have hfr := hfr.tr hfk (by decide)
              have hlen := hlk.trans hlen
              have hsl := hsk.trans hsl
              have ha := hNa
              have heg := hNeg
              have hpo := hNpo
              have hbg := hNbg
              have hbd := hNbd
              change ab_W _ _ _ G678 98 [some (vR a), some (vR s), some (vz p), some (vz 7)] [vz v679] _
              refine zz_iret rfl d_ST_firstState_98 ?_
              rw [hQ]; exact ⟨_, _, _, _, _, _, _, _, _, _, rfl, hfr, hlen, hsl, ha, heg, hpo, hbg, hbd, hsd, hse_, (by omega), (by exact hq686), (by exact hq687), (by exact hq688), (by exact hq689), (by omega)⟩
            · cases hv
              have hsd := hfk.get hsd (by decide)
              have hse_ := hfk.get hse_ (by decide)
              have hq := hfk.get hq (by simp only [List.mem_cons, List.not_mem_nil, or_false]; omega)
              have hs := hfk.get hs (by decide)
              have hby_ := hfk.get hby_ (by decide)
              have hfr := hfr.tr hfk (by decide)
              have hlen := hlk.trans hlen
              have hsl := hsk.trans hsl
              have ha := hNa
              have heg := hNeg
              have hpo := hNpo
              have hbg := hNbg
              have hbd := hNbd
              change ab_W _ _ _ G678 98 [some (vR a), some (vR s), some (vz p), some (vz 7)] [vz v691] _
              refine zz_iret rfl d_ST_firstState_98 ?_
              rw [hQ]; exact ⟨_, _, _, _, _, _, _, _, _, _, rfl, hfr, hlen, hsl, ha, heg, hpo, hbg, hbd, hsd, hse_, (by omega), (by exact hq698), (by exact hq699), (by exact hq700), (by exact hq701), (by omega)⟩
          · refine ab_iload_n d_ST_firstState_90 rfl ?_
            refine ab_goto (tgt := 95) d_ST_firstState_91 (by decide) ?_
            refine ab_callV (d' := d - 1) (as := [vz 7]) (st := []) (r := _) (z_ST_keptState (o := o) (a := a) (cu := cu) (eg := eg) (po := po) (bg := bg) (bd := bd) (sd := sd) (se_ := se_) (stk := stk) (mst := mst) (q0 := vR q) (vr := vr) (ro := ro) (cn := cn) (ct := ct) (sc := sc2444) (sta := (sta + 1)) (arv := arv) (stp := stp) (EG := EG) (PO := PO) (BG := BG) (BD := BD) (SD := SD2445) (cnt := cnt) (ah := 7) ha heg hpo hbg hbd hsd (by omega) (by omega) (by omega) jbg jpo hq448 (by omega) jbd jeg (by omega)) (fun oc G2 h => by rcases h with ⟨_, _, _, _, _, _, h, _⟩ | ⟨_, _, _, _, _, _, h, _⟩ <;> exact ⟨_, h⟩) (by omega) m_ST_keptState ml_ST_145 im_ST_keptState se_ST_keptState c_ST ha.2.2 (Nat.le_of_ble_eq_true rfl) d_ST_firstState_95 rfl ?_
            intro v G703 hq
            rcases hq with ⟨v704, ct2705, EG2706, PO2707, BG2708, BD2709, hv, hfk, hlk, hsk, hNa, hNeg, hNpo, hNbg, hNbd, hq710, hq711, hq712, hq713, hq714, hq715⟩ | ⟨v716, ct2717, EG2718, PO2719, BG2720, BD2721, hv, hfk, hlk, hsk, hNa, hNeg, hNpo, hNbg, hNbd, hq722, hq723, hq724, hq725, hq726, hq727⟩
            · cases hv
              have hsd := hfk.get hsd (by decide)
              have hse_ := hfk.get hse_ (by decide)
              have hq := hfk.get hq (by simp only [List.mem_cons, List.not_mem_nil, or_false]; omega)
              have hs := hfk.get hs (by decide)
              have hby_ := hfk.get hby_ (by decide)
              have hfr := hfr.tr hfk (by decide)
              have hlen := hlk.trans hlen
              have hsl := hsk.trans hsl
              have ha := hNa
              have heg := hNeg
              have hpo := hNpo
              have hbg := hNbg
              have hbd := hNbd
              change ab_W _ _ _ G703 98 [some (vR a), some (vR s), some (vz p), some (vz 7)] [vz v704] _
              refine zz_iret rfl d_ST_firstState_98 ?_
              rw [hQ]; exact ⟨_, _, _, _, _, _, _, _, _, _, rfl, hfr, hlen, hsl, ha, heg, hpo, hbg, hbd, hsd, hse_, (by omega), (by exact hq711), (by exact hq712), (by exact hq713), (by exact hq714), (by omega)⟩
            · cases hv
              have hsd := hfk.get hsd (by decide)
              have hse_ := hfk.get hse_ (by decide)
              have hq := hfk.get hq (by simp only [List.mem_cons, List.not_mem_nil, or_false]; omega)
              have hs := hfk.get hs (by decide)
              have hby_ := hfk.get hby_ (by decide)
              have hfr := hfr.tr hfk (by decide)
              have hlen := hlk.trans hlen
              have hsl := hsk.trans hsl
              have ha := hNa
              have heg := hNeg
              have hpo := hNpo
              have hbg := hNbg
              have hbd := hNbd
              change ab_W _ _ _ G703 98 [some (vR a), some (vR s), some (vz p), some (vz 7)] [vz v716] _
              refine zz_iret rfl d_ST_firstState_98 ?_
              rw [hQ]; exact ⟨_, _, _, _, _, _, _, _, _, _, rfl, hfr, hlen, hsl, ha, heg, hpo, hbg, hbd, hsd, hse_, (by omega), (by exact hq723), (by exact hq724), (by exact hq725), (by exact hq726), (by omega)⟩
        · cases hv
          rw [hGe]
          change ab_W _ _ _ G443 69 [some (vR a), some (vR s), some (vz p), some (vz 3)] [vz 0, vz 3] _
          refine zz_if_eq (tgt := 76) d_ST_firstState_69 (by decide) (by decide) (fun c728 => ?_) (fun c728 => absurd c728 (by decide))
          refine zz_iconst d_ST_firstState_76 ?_
          refine zz_iorL (r := 3) d_ST_firstState_77 (by decide) ?_
          refine ab_istore_n d_ST_firstState_78 (Nat.le_of_ble_eq_true rfl) (Nat.le_of_ble_eq_true rfl) rfl ?_
          change ab_W _ _ _ G443 79 [some (vR a), some (vR s), some (vz p), some (vz 3)] [] _
          refine ab_aload_n d_ST_firstState_79 rfl ?_
          refine ab_aload_n d_ST_firstState_80 rfl ?_
          refine ab_getf (fs := [vz mst, vR q, vz vr, vz ro, vR cu, vz cn, vR eg, vR po, vR bg, vR bd, vz ct, vR sd, vz sc2444, vR se_, vz (sta + 1), vR stk, vz arv, vj stp]) f_ST_74 d_ST_firstState_81 ha.2.2 rfl ?_
          refine ab_getf (fs := [vR ki, vR ne, vR ot, vz cnt, vz fi, vz la, vR ra, vz ru, vz gr, vz wi, vz sz, vz fl, vz ve, vz mi, vR na, vR nl]) f_ST_142 d_ST_firstState_84 hq.2.2 rfl ?_
          refine zz_if_eq (tgt := 94) d_ST_firstState_87 (by decide) (by omega) (fun c729 => ?_) (fun c729 => ?_)
          · refine zz_iconst d_ST_firstState_94 ?_
            refine ab_callV (d' := d - 1) (as := [vz 0]) (st := []) (r := _) (z_ST_keptState (o := o) (a := a) (cu := cu) (eg := eg) (po := po) (bg := bg) (bd := bd) (sd := sd) (se_ := se_) (stk := stk) (mst := mst) (q0 := vR q) (vr := vr) (ro := ro) (cn := cn) (ct := ct) (sc := sc2444) (sta := (sta + 1)) (arv := arv) (stp := stp) (EG := EG) (PO := PO) (BG := BG) (BD := BD) (SD := SD2445) (cnt := cnt) (ah := 0) ha heg hpo hbg hbd hsd (by omega) (by omega) (by omega) jbg jpo hq448 (by omega) jbd jeg (by omega)) (fun oc G2 h => by rcases h with ⟨_, _, _, _, _, _, h, _⟩ | ⟨_, _, _, _, _, _, h, _⟩ <;> exact ⟨_, h⟩) (by omega) m_ST_keptState ml_ST_145 im_ST_keptState se_ST_keptState c_ST ha.2.2 (Nat.le_of_ble_eq_true rfl) d_ST_firstState_95 rfl ?_
            intro v G730 hq
            rcases hq with ⟨v731, ct2732, EG2733, PO2734, BG2735, BD2736, hv, hfk, hlk, hsk, hNa, hNeg, hNpo, hNbg, hNbd, hq737, hq738, hq739, hq740, hq741, hq742⟩ | ⟨v743, ct2744, EG2745, PO2746, BG2747, BD2748, hv, hfk, hlk, hsk, hNa, hNeg, hNpo, hNbg, hNbd, hq749, hq750, hq751, hq752, hq753, hq754⟩
            · cases hv
              have hsd := hfk.get hsd (by decide)
              have hse_ := hfk.get hse_ (by decide)
              have hq := hfk.get hq (by simp only [List.mem_cons, List.not_mem_nil, or_false]; omega)
              have hs := hfk.get hs (by decide)
              have hby_ := hfk.get hby_ (by decide)
              have hfr := hfr.tr hfk (by decide)
              have hlen := hlk.trans hlen
              have hsl := hsk.trans hsl
              have ha := hNa
              have heg := hNeg
              have hpo := hNpo
              have hbg := hNbg
              have hbd := hNbd
              change ab_W _ _ _ G730 98 [some (vR a), some (vR s), some (vz p), some (vz 3)] [vz v731] _
              refine zz_iret rfl d_ST_firstState_98 ?_
              rw [hQ]; exact ⟨_, _, _, _, _, _, _, _, _, _, rfl, hfr, hlen, hsl, ha, heg, hpo, hbg, hbd, hsd, hse_, (by omega), (by exact hq738), (by exact hq739), (by exact hq740), (by exact hq741), (by omega)⟩
            · cases hv
              have hsd := hfk.get hsd (by decide)
              have hse_ := hfk.get hse_ (by decide)
              have hq := hfk.get hq (by simp only [List.mem_cons, List.not_mem_nil, or_false]; omega)
              have hs := hfk.get hs (by decide)
              have hby_ := hfk.get hby_ (by decide)
              have hfr := hfr.tr hfk (by decide)
              have hlen := hlk.trans hlen
              have hsl := hsk.trans hsl
              have ha := hNa
              have heg := hNeg
              have hpo := hNpo
              have hbg := hNbg
              have hbd := hNbd
              change ab_W _ _ _ G730 98 [some (vR a), some (vR s), some (vz p), some (vz 3)] [vz v743] _
              refine zz_iret rfl d_ST_firstState_98 ?_
              rw [hQ]; exact ⟨_, _, _, _, _, _, _, _, _, _, rfl, hfr, hlen, hsl, ha, heg, hpo, hbg, hbd, hsd, hse_, (by omega), (by exact hq750), (by exact hq751), (by exact hq752), (by exact hq753), (by omega)⟩
          · refine ab_iload_n d_ST_firstState_90 rfl ?_
            refine ab_goto (tgt := 95) d_ST_firstState_91 (by decide) ?_
            refine ab_callV (d' := d - 1) (as := [vz 3]) (st := []) (r := _) (z_ST_keptState (o := o) (a := a) (cu := cu) (eg := eg) (po := po) (bg := bg) (bd := bd) (sd := sd) (se_ := se_) (stk := stk) (mst := mst) (q0 := vR q) (vr := vr) (ro := ro) (cn := cn) (ct := ct) (sc := sc2444) (sta := (sta + 1)) (arv := arv) (stp := stp) (EG := EG) (PO := PO) (BG := BG) (BD := BD) (SD := SD2445) (cnt := cnt) (ah := 3) ha heg hpo hbg hbd hsd (by omega) (by omega) (by omega) jbg jpo hq448 (by omega) jbd jeg (by omega)) (fun oc G2 h => by rcases h with ⟨_, _, _, _, _, _, h, _⟩ | ⟨_, _, _, _, _, _, h, _⟩ <;> exact ⟨_, h⟩) (by omega) m_ST_keptState ml_ST_145 im_ST_keptState se_ST_keptState c_ST ha.2.2 (Nat.le_of_ble_eq_true rfl) d_ST_firstState_95 rfl ?_
            intro v G755 hq
            rcases hq with ⟨v756, ct2757, EG2758, PO2759, BG2760, BD2761, hv, hfk, hlk, hsk, hNa, hNeg, hNpo, hNbg, hNbd, hq762, hq763, hq764, hq765, hq766, hq767⟩ | ⟨v768, ct2769, EG2770, PO2771, BG2772, BD2773, hv, hfk, hlk, hsk, hNa, hNeg, hNpo, hNbg, hNbd, hq774, hq775, hq776, hq777, hq778, hq779⟩
            · cases hv
              have hsd := hfk.get hsd (by decide)
              have hse_ := hfk.get hse_ (by decide)
              have hq := hfk.get hq (by simp only [List.mem_cons, List.not_mem_nil, or_false]; omega)
              have hs := hfk.get hs (by decide)
              have hby_ := hfk.get hby_ (by decide)
              have hfr := hfr.tr hfk (by decide)
              have hlen := hlk.trans hlen
              have hsl := hsk.trans hsl
              have ha := hNa
              have heg := hNeg
              have hpo := hNpo
              have hbg := hNbg
              have hbd := hNbd
              change ab_W _ _ _ G755 98 [some (vR a), some (vR s), some (vz p), some (vz 3)] [vz v756] _
              refine zz_iret rfl d_ST_firstState_98 ?_
              rw [hQ]; exact ⟨_, _, _, _, _, _, _, _, _, _, rfl, hfr, hlen, hsl, ha, heg, hpo, hbg, hbd, hsd, hse_, (by omega), (by exact hq763), (by exact hq764), (by exact hq765), (by exact hq766), (by omega)⟩
            · cases hv
              have hsd := hfk.get hsd (by decide)
              have hse_ := hfk.get hse_ (by decide)
              have hq := hfk.get hq (by simp only [List.mem_cons, List.not_mem_nil, or_false]; omega)
              have hs := hfk.get hs (by decide)
              have hby_ := hfk.get hby_ (by decide)
              have hfr := hfr.tr hfk (by decide)
              have hlen := hlk.trans hlen
              have hsl := hsk.trans hsl
              have ha := hNa
              have heg := hNeg
              have hpo := hNpo
              have hbg := hNbg
              have hbd := hNbd
              change ab_W _ _ _ G755 98 [some (vR a), some (vR s), some (vz p), some (vz 3)] [vz v768] _
              refine zz_iret rfl d_ST_firstState_98 ?_
              rw [hQ]; exact ⟨_, _, _, _, _, _, _, _, _, _, rfl, hfr, hlen, hsl, ha, heg, hpo, hbg, hbd, hsd, hse_, (by omega), (by exact hq775), (by exact hq776), (by exact hq777), (by exact hq778), (by omega)⟩
      · cases hv
        rw [hGe]
        change ab_W _ _ _ G443 51 [some (vR a), some (vR s), some (vz p), some (vz 1)] [vz 0, vz 1] _
        refine zz_if_eq (tgt := 58) d_ST_firstState_51 (by decide) (by decide) (fun c780 => ?_) (fun c780 => absurd c780 (by decide))
        refine zz_iconst d_ST_firstState_58 ?_
        refine zz_iorL (r := 1) d_ST_firstState_59 (by decide) ?_
        refine ab_istore_n d_ST_firstState_60 (Nat.le_of_ble_eq_true rfl) (Nat.le_of_ble_eq_true rfl) rfl ?_
        change ab_W _ _ _ G443 61 [some (vR a), some (vR s), some (vz p), some (vz 1)] [] _
        refine ab_iload_n d_ST_firstState_61 rfl ?_
        refine ab_aload_n d_ST_firstState_62 rfl ?_
        refine ab_iload_n d_ST_firstState_63 rfl ?_
        refine zz_iconst d_ST_firstState_64 ?_
        refine zz_isub d_ST_firstState_65 ?_
        refine ab_callV (d' := d - 1) (as := [vz (p - 1)]) (st := [vz 1]) (r := _) (z_SU_isWordByte (o := o) (s := s) (ls := 26) (by_ := by_) (lby := 27) (m := m) (f := f) (n := n) (co := co) (re := re) (ho := ho) (p := (p - 1)) hs hby_ (by omega) hb (by omega)) (fun oc G2 h => by rcases h with ⟨h, _⟩ | ⟨h, _⟩ <;> exact ⟨_, h⟩) (by omega) m_SU_isWordByte ml_ST_139 im_SU_isWordByte se_SU_isWordByte c_SU hs.2.2 (Nat.le_of_ble_eq_true rfl) d_ST_firstState_66 rfl ?_
        intro v G781 hq
        rcases hq with ⟨hv, hGe, hq782⟩ | ⟨hv, hGe, hq783⟩
        · cases hv
          rw [hGe]
          change ab_W _ _ _ G443 69 [some (vR a), some (vR s), some (vz p), some (vz 1)] [vz 1, vz 1] _
          refine zz_if_eq (tgt := 76) d_ST_firstState_69 (by decide) (by decide) (fun c784 => absurd c784 (by decide)) (fun c784 => ?_)
          refine zz_iconst d_ST_firstState_72 ?_
          refine ab_goto (tgt := 77) d_ST_firstState_73 (by decide) ?_
          refine zz_iorL (r := 5) d_ST_firstState_77 (by decide) ?_
          refine ab_istore_n d_ST_firstState_78 (Nat.le_of_ble_eq_true rfl) (Nat.le_of_ble_eq_true rfl) rfl ?_
          change ab_W _ _ _ G443 79 [some (vR a), some (vR s), some (vz p), some (vz 5)] [] _
          refine ab_aload_n d_ST_firstState_79 rfl ?_
          refine ab_aload_n d_ST_firstState_80 rfl ?_
          refine ab_getf (fs := [vz mst, vR q, vz vr, vz ro, vR cu, vz cn, vR eg, vR po, vR bg, vR bd, vz ct, vR sd, vz sc2444, vR se_, vz (sta + 1), vR stk, vz arv, vj stp]) f_ST_74 d_ST_firstState_81 ha.2.2 rfl ?_
          refine ab_getf (fs := [vR ki, vR ne, vR ot, vz cnt, vz fi, vz la, vR ra, vz ru, vz gr, vz wi, vz sz, vz fl, vz ve, vz mi, vR na, vR nl]) f_ST_142 d_ST_firstState_84 hq.2.2 rfl ?_
          refine zz_if_eq (tgt := 94) d_ST_firstState_87 (by decide) (by omega) (fun c785 => ?_) (fun c785 => ?_)
          · refine zz_iconst d_ST_firstState_94 ?_
            refine ab_callV (d' := d - 1) (as := [vz 0]) (st := []) (r := _) (z_ST_keptState (o := o) (a := a) (cu := cu) (eg := eg) (po := po) (bg := bg) (bd := bd) (sd := sd) (se_ := se_) (stk := stk) (mst := mst) (q0 := vR q) (vr := vr) (ro := ro) (cn := cn) (ct := ct) (sc := sc2444) (sta := (sta + 1)) (arv := arv) (stp := stp) (EG := EG) (PO := PO) (BG := BG) (BD := BD) (SD := SD2445) (cnt := cnt) (ah := 0) ha heg hpo hbg hbd hsd (by omega) (by omega) (by omega) jbg jpo hq448 (by omega) jbd jeg (by omega)) (fun oc G2 h => by rcases h with ⟨_, _, _, _, _, _, h, _⟩ | ⟨_, _, _, _, _, _, h, _⟩ <;> exact ⟨_, h⟩) (by omega) m_ST_keptState ml_ST_145 im_ST_keptState se_ST_keptState c_ST ha.2.2 (Nat.le_of_ble_eq_true rfl) d_ST_firstState_95 rfl ?_
            intro v G786 hq
            rcases hq with ⟨v787, ct2788, EG2789, PO2790, BG2791, BD2792, hv, hfk, hlk, hsk, hNa, hNeg, hNpo, hNbg, hNbd, hq793, hq794, hq795, hq796, hq797, hq798⟩ | ⟨v799, ct2800, EG2801, PO2802, BG2803, BD2804, hv, hfk, hlk, hsk, hNa, hNeg, hNpo, hNbg, hNbd, hq805, hq806, hq807, hq808, hq809, hq810⟩
            · cases hv
              have hsd := hfk.get hsd (by decide)
              have hse_ := hfk.get hse_ (by decide)
              have hq := hfk.get hq (by simp only [List.mem_cons, List.not_mem_nil, or_false]; omega)
              have hs := hfk.get hs (by decide)
              have hby_ := hfk.get hby_ (by decide)
              have hfr := hfr.tr hfk (by decide)
              have hlen := hlk.trans hlen
              have hsl := hsk.trans hsl
              have ha := hNa
              have heg := hNeg
              have hpo := hNpo
              have hbg := hNbg
              have hbd := hNbd
              change ab_W _ _ _ G786 98 [some (vR a), some (vR s), some (vz p), some (vz 5)] [vz v787] _
              refine zz_iret rfl d_ST_firstState_98 ?_
              rw [hQ]; exact ⟨_, _, _, _, _, _, _, _, _, _, rfl, hfr, hlen, hsl, ha, heg, hpo, hbg, hbd, hsd, hse_, (by omega), (by exact hq794), (by exact hq795), (by exact hq796), (by exact hq797), (by omega)⟩
            · cases hv
              have hsd := hfk.get hsd (by decide)
              have hse_ := hfk.get hse_ (by decide)
              have hq := hfk.get hq (by simp only [List.mem_cons, List.not_mem_nil, or_false]; omega)
              have hs := hfk.get hs (by decide)
              have hby_ := hfk.get hby_ (by decide)
              have hfr := hfr.tr hfk (by decide)
              have hlen := hlk.trans hlen
              have hsl := hsk.trans hsl
              have ha := hNa
              have heg := hNeg
              have hpo := hNpo
              have hbg := hNbg
              have hbd := hNbd
              change ab_W _ _ _ G786 98 [some (vR a), some (vR s), some (vz p), some (vz 5)] [vz v799] _
              refine zz_iret rfl d_ST_firstState_98 ?_
              rw [hQ]; exact ⟨_, _, _, _, _, _, _, _, _, _, rfl, hfr, hlen, hsl, ha, heg, hpo, hbg, hbd, hsd, hse_, (by omega), (by exact hq806), (by exact hq807), (by exact hq808), (by exact hq809), (by omega)⟩
          · refine ab_iload_n d_ST_firstState_90 rfl ?_
            refine ab_goto (tgt := 95) d_ST_firstState_91 (by decide) ?_
            refine ab_callV (d' := d - 1) (as := [vz 5]) (st := []) (r := _) (z_ST_keptState (o := o) (a := a) (cu := cu) (eg := eg) (po := po) (bg := bg) (bd := bd) (sd := sd) (se_ := se_) (stk := stk) (mst := mst) (q0 := vR q) (vr := vr) (ro := ro) (cn := cn) (ct := ct) (sc := sc2444) (sta := (sta + 1)) (arv := arv) (stp := stp) (EG := EG) (PO := PO) (BG := BG) (BD := BD) (SD := SD2445) (cnt := cnt) (ah := 5) ha heg hpo hbg hbd hsd (by omega) (by omega) (by omega) jbg jpo hq448 (by omega) jbd jeg (by omega)) (fun oc G2 h => by rcases h with ⟨_, _, _, _, _, _, h, _⟩ | ⟨_, _, _, _, _, _, h, _⟩ <;> exact ⟨_, h⟩) (by omega) m_ST_keptState ml_ST_145 im_ST_keptState se_ST_keptState c_ST ha.2.2 (Nat.le_of_ble_eq_true rfl) d_ST_firstState_95 rfl ?_
            intro v G811 hq
            rcases hq with ⟨v812, ct2813, EG2814, PO2815, BG2816, BD2817, hv, hfk, hlk, hsk, hNa, hNeg, hNpo, hNbg, hNbd, hq818, hq819, hq820, hq821, hq822, hq823⟩ | ⟨v824, ct2825, EG2826, PO2827, BG2828, BD2829, hv, hfk, hlk, hsk, hNa, hNeg, hNpo, hNbg, hNbd, hq830, hq831, hq832, hq833, hq834, hq835⟩
            · cases hv
              have hsd := hfk.get hsd (by decide)
              have hse_ := hfk.get hse_ (by decide)
              have hq := hfk.get hq (by simp only [List.mem_cons, List.not_mem_nil, or_false]; omega)
              have hs := hfk.get hs (by decide)
              have hby_ := hfk.get hby_ (by decide)
              have hfr := hfr.tr hfk (by decide)
              have hlen := hlk.trans hlen
              have hsl := hsk.trans hsl
              have ha := hNa
              have heg := hNeg
              have hpo := hNpo
              have hbg := hNbg
              have hbd := hNbd
              change ab_W _ _ _ G811 98 [some (vR a), some (vR s), some (vz p), some (vz 5)] [vz v812] _
              refine zz_iret rfl d_ST_firstState_98 ?_
              rw [hQ]; exact ⟨_, _, _, _, _, _, _, _, _, _, rfl, hfr, hlen, hsl, ha, heg, hpo, hbg, hbd, hsd, hse_, (by omega), (by exact hq819), (by exact hq820), (by exact hq821), (by exact hq822), (by omega)⟩
            · cases hv
              have hsd := hfk.get hsd (by decide)
              have hse_ := hfk.get hse_ (by decide)
              have hq := hfk.get hq (by simp only [List.mem_cons, List.not_mem_nil, or_false]; omega)
              have hs := hfk.get hs (by decide)
              have hby_ := hfk.get hby_ (by decide)
              have hfr := hfr.tr hfk (by decide)
              have hlen := hlk.trans hlen
              have hsl := hsk.trans hsl
              have ha := hNa
              have heg := hNeg
              have hpo := hNpo
              have hbg := hNbg
              have hbd := hNbd
              change ab_W _ _ _ G811 98 [some (vR a), some (vR s), some (vz p), some (vz 5)] [vz v824] _
              refine zz_iret rfl d_ST_firstState_98 ?_
              rw [hQ]; exact ⟨_, _, _, _, _, _, _, _, _, _, rfl, hfr, hlen, hsl, ha, heg, hpo, hbg, hbd, hsd, hse_, (by omega), (by exact hq831), (by exact hq832), (by exact hq833), (by exact hq834), (by omega)⟩
        · cases hv
          rw [hGe]
          change ab_W _ _ _ G443 69 [some (vR a), some (vR s), some (vz p), some (vz 1)] [vz 0, vz 1] _
          refine zz_if_eq (tgt := 76) d_ST_firstState_69 (by decide) (by decide) (fun c836 => ?_) (fun c836 => absurd c836 (by decide))
          refine zz_iconst d_ST_firstState_76 ?_
          refine zz_iorL (r := 1) d_ST_firstState_77 (by decide) ?_
          refine ab_istore_n d_ST_firstState_78 (Nat.le_of_ble_eq_true rfl) (Nat.le_of_ble_eq_true rfl) rfl ?_
          change ab_W _ _ _ G443 79 [some (vR a), some (vR s), some (vz p), some (vz 1)] [] _
          refine ab_aload_n d_ST_firstState_79 rfl ?_
          refine ab_aload_n d_ST_firstState_80 rfl ?_
          refine ab_getf (fs := [vz mst, vR q, vz vr, vz ro, vR cu, vz cn, vR eg, vR po, vR bg, vR bd, vz ct, vR sd, vz sc2444, vR se_, vz (sta + 1), vR stk, vz arv, vj stp]) f_ST_74 d_ST_firstState_81 ha.2.2 rfl ?_
          refine ab_getf (fs := [vR ki, vR ne, vR ot, vz cnt, vz fi, vz la, vR ra, vz ru, vz gr, vz wi, vz sz, vz fl, vz ve, vz mi, vR na, vR nl]) f_ST_142 d_ST_firstState_84 hq.2.2 rfl ?_
          refine zz_if_eq (tgt := 94) d_ST_firstState_87 (by decide) (by omega) (fun c837 => ?_) (fun c837 => ?_)
          · refine zz_iconst d_ST_firstState_94 ?_
            refine ab_callV (d' := d - 1) (as := [vz 0]) (st := []) (r := _) (z_ST_keptState (o := o) (a := a) (cu := cu) (eg := eg) (po := po) (bg := bg) (bd := bd) (sd := sd) (se_ := se_) (stk := stk) (mst := mst) (q0 := vR q) (vr := vr) (ro := ro) (cn := cn) (ct := ct) (sc := sc2444) (sta := (sta + 1)) (arv := arv) (stp := stp) (EG := EG) (PO := PO) (BG := BG) (BD := BD) (SD := SD2445) (cnt := cnt) (ah := 0) ha heg hpo hbg hbd hsd (by omega) (by omega) (by omega) jbg jpo hq448 (by omega) jbd jeg (by omega)) (fun oc G2 h => by rcases h with ⟨_, _, _, _, _, _, h, _⟩ | ⟨_, _, _, _, _, _, h, _⟩ <;> exact ⟨_, h⟩) (by omega) m_ST_keptState ml_ST_145 im_ST_keptState se_ST_keptState c_ST ha.2.2 (Nat.le_of_ble_eq_true rfl) d_ST_firstState_95 rfl ?_
            intro v G838 hq
            rcases hq with ⟨v839, ct2840, EG2841, PO2842, BG2843, BD2844, hv, hfk, hlk, hsk, hNa, hNeg, hNpo, hNbg, hNbd, hq845, hq846, hq847, hq848, hq849, hq850⟩ | ⟨v851, ct2852, EG2853, PO2854, BG2855, BD2856, hv, hfk, hlk, hsk, hNa, hNeg, hNpo, hNbg, hNbd, hq857, hq858, hq859, hq860, hq861, hq862⟩
            · cases hv
              have hsd := hfk.get hsd (by decide)
              have hse_ := hfk.get hse_ (by decide)
              have hq := hfk.get hq (by simp only [List.mem_cons, List.not_mem_nil, or_false]; omega)
              have hs := hfk.get hs (by decide)
              have hby_ := hfk.get hby_ (by decide)
              have hfr := hfr.tr hfk (by decide)
              have hlen := hlk.trans hlen
              have hsl := hsk.trans hsl
              have ha := hNa
              have heg := hNeg
              have hpo := hNpo
              have hbg := hNbg
              have hbd := hNbd
              change ab_W _ _ _ G838 98 [some (vR a), some (vR s), some (vz p), some (vz 1)] [vz v839] _
              refine zz_iret rfl d_ST_firstState_98 ?_
              rw [hQ]; exact ⟨_, _, _, _, _, _, _, _, _, _, rfl, hfr, hlen, hsl, ha, heg, hpo, hbg, hbd, hsd, hse_, (by omega), (by exact hq846), (by exact hq847), (by exact hq848), (by exact hq849), (by omega)⟩
            · cases hv
              have hsd := hfk.get hsd (by decide)
              have hse_ := hfk.get hse_ (by decide)
              have hq := hfk.get hq (by simp only [List.mem_cons, List.not_mem_nil, or_false]; omega)
              have hs := hfk.get hs (by decide)
              have hby_ := hfk.get hby_ (by decide)
              have hfr := hfr.tr hfk (by decide)
              have hlen := hlk.trans hlen
              have hsl := hsk.trans hsl
              have ha := hNa
              have heg := hNeg
              have hpo := hNpo
              have hbg := hNbg
              have hbd := hNbd
              change ab_W _ _ _ G838 98 [some (vR a), some (vR s), some (vz p), some (vz 1)] [vz v851] _
              refine zz_iret rfl d_ST_firstState_98 ?_
              rw [hQ]; exact ⟨_, _, _, _, _, _, _, _, _, _, rfl, hfr, hlen, hsl, ha, heg, hpo, hbg, hbd, hsd, hse_, (by omega), (by exact hq858), (by exact hq859), (by exact hq860), (by exact hq861), (by omega)⟩
          · refine ab_iload_n d_ST_firstState_90 rfl ?_
            refine ab_goto (tgt := 95) d_ST_firstState_91 (by decide) ?_
            refine ab_callV (d' := d - 1) (as := [vz 1]) (st := []) (r := _) (z_ST_keptState (o := o) (a := a) (cu := cu) (eg := eg) (po := po) (bg := bg) (bd := bd) (sd := sd) (se_ := se_) (stk := stk) (mst := mst) (q0 := vR q) (vr := vr) (ro := ro) (cn := cn) (ct := ct) (sc := sc2444) (sta := (sta + 1)) (arv := arv) (stp := stp) (EG := EG) (PO := PO) (BG := BG) (BD := BD) (SD := SD2445) (cnt := cnt) (ah := 1) ha heg hpo hbg hbd hsd (by omega) (by omega) (by omega) jbg jpo hq448 (by omega) jbd jeg (by omega)) (fun oc G2 h => by rcases h with ⟨_, _, _, _, _, _, h, _⟩ | ⟨_, _, _, _, _, _, h, _⟩ <;> exact ⟨_, h⟩) (by omega) m_ST_keptState ml_ST_145 im_ST_keptState se_ST_keptState c_ST ha.2.2 (Nat.le_of_ble_eq_true rfl) d_ST_firstState_95 rfl ?_
            intro v G863 hq
            rcases hq with ⟨v864, ct2865, EG2866, PO2867, BG2868, BD2869, hv, hfk, hlk, hsk, hNa, hNeg, hNpo, hNbg, hNbd, hq870, hq871, hq872, hq873, hq874, hq875⟩ | ⟨v876, ct2877, EG2878, PO2879, BG2880, BD2881, hv, hfk, hlk, hsk, hNa, hNeg, hNpo, hNbg, hNbd, hq882, hq883, hq884, hq885, hq886, hq887⟩
            · cases hv
              have hsd := hfk.get hsd (by decide)
              have hse_ := hfk.get hse_ (by decide)
              have hq := hfk.get hq (by simp only [List.mem_cons, List.not_mem_nil, or_false]; omega)
              have hs := hfk.get hs (by decide)
              have hby_ := hfk.get hby_ (by decide)
              have hfr := hfr.tr hfk (by decide)
              have hlen := hlk.trans hlen
              have hsl := hsk.trans hsl
              have ha := hNa
              have heg := hNeg
              have hpo := hNpo
              have hbg := hNbg
              have hbd := hNbd
              change ab_W _ _ _ G863 98 [some (vR a), some (vR s), some (vz p), some (vz 1)] [vz v864] _
              refine zz_iret rfl d_ST_firstState_98 ?_
              rw [hQ]; exact ⟨_, _, _, _, _, _, _, _, _, _, rfl, hfr, hlen, hsl, ha, heg, hpo, hbg, hbd, hsd, hse_, (by omega), (by exact hq871), (by exact hq872), (by exact hq873), (by exact hq874), (by omega)⟩
            · cases hv
              have hsd := hfk.get hsd (by decide)
              have hse_ := hfk.get hse_ (by decide)
              have hq := hfk.get hq (by simp only [List.mem_cons, List.not_mem_nil, or_false]; omega)
              have hs := hfk.get hs (by decide)
              have hby_ := hfk.get hby_ (by decide)
              have hfr := hfr.tr hfk (by decide)
              have hlen := hlk.trans hlen
              have hsl := hsk.trans hsl
              have ha := hNa
              have heg := hNeg
              have hpo := hNpo
              have hbg := hNbg
              have hbd := hNbd
              change ab_W _ _ _ G863 98 [some (vR a), some (vR s), some (vz p), some (vz 1)] [vz v876] _
              refine zz_iret rfl d_ST_firstState_98 ?_
              rw [hQ]; exact ⟨_, _, _, _, _, _, _, _, _, _, rfl, hfr, hlen, hsl, ha, heg, hpo, hbg, hbd, hsd, hse_, (by omega), (by exact hq883), (by exact hq884), (by exact hq885), (by exact hq886), (by omega)⟩
set_option maxRecDepth 100000 in
set_option maxHeartbeats 4000000 in
theorem y_ST_makeEdge_27 {X : ab_X} {d : Nat} {Q : Outcome → ab_G → Prop} {o : Nat → Nat} {G0 : ab_G} {a : Nat} {cu : Nat} {eg : Nat} {po : Nat} {bg : Nat} {bd : Nat} {sd : Nat} {se_ : Nat} {stk : Nat} {mst : Int} {vr : Int} {ro : Int} {cn : Int} {ct : Int} {sta : Int} {CU : Int → Int} {PO : Int → Int} {BG : Int → Int} {BD : Int → Int} {q : Nat} {lq : Nat} {ki : Nat} {ne : Nat} {ot : Nat} {cnt : Int} {fi : Int} {la : Int} {ra : Nat} {ru : Int} {gr : Int} {wi : Int} {sz : Int} {fl : Int} {ve : Int} {mi : Int} {na : Nat} {nl : Nat} {K : Int → Int} {N : Int → Int} {O : Int → Int} {RR : Int → Int} {nr : Nat} {sg : Int} {s_ : Int} (cc0 : 0 ≤ cn ∧ cn ≤ 120) (jcu : rgs CU 120 0 1114112) (csg : 0 ≤ sg ∧ sg ≤ cn + 4) (cq : 100 ≤ lq ∧ 0 ≤ cnt ∧ cnt ≤ 808 ∧ ↑nr ≤ (100000 : Int)) (hp : prok K N O RR cnt ↑nr wi) (hr : ∀ k : Int, 0 ≤ k → k < ↑nr → 0 ≤ RR k ∧ RR k ≤ 1114111) (cfi : 0 ≤ fi ∧ fi < cnt ∧ 0 ≤ la ∧ la ≤ 1) (jpo : ents PO (BG ct) cnt) (jbg : bgo BG ct) (jbd : rgs BD 64 0 7) (cms : 4 ≤ mst ∧ mst ≤ 64 ∧ 0 ≤ ct ∧ ct ≤ mst) (cs1 : 0 ≤ s_ ∧ s_ < ct) (jb : 0 ≤ BG s_ ∧ BG s_ ≤ BG (s_ + 1) ∧ BG (s_ + 1) ≤ BG s_ + 2048 ∧ BG (s_ + 1) ≤ 8192 ∧ BG (s_ + 1) ≤ BG ct) (hd : 5 ≤ d) : ∀ (mz : Nat) {G : ab_G} {sc : Int} {arv : Int} {stp : Int} {SD : Int → Int} {SE : Int → Int} {SK : Int → Int} {i_ : Int}, (cc o G a 60 (ab_ob 8 [vz mst, vR q, vz vr, vz ro, vR cu, vz cn, vR eg, vR po, vR bg, vR bd, vz ct, vR sd, vz sc, vR se_, vz sta, vR stk, vz arv, vj stp])) → (cc o G cu 61 (za 120 CU)) → (cc o G sd 66 (za 2048 SD)) → (cc o G se_ 67 (za 3072 SE)) → (cc o G stk 68 (za 809 SK)) → (cc o G po 63 (za 8192 PO)) → (cc o G bg 64 (za 65 BG)) → (cc o G bd 65 (za 64 BD)) → (cc o G q lq (ab_ob 5 [vR ki, vR ne, vR ot, vz cnt, vz fi, vz la, vR ra, vz ru, vz gr, vz wi, vz sz, vz fl, vz ve, vz mi, vR na, vR nl])) → (cc o G ki (lq + 1) (za 808 K)) → (cc o G ne (lq + 2) (za 808 N)) → (cc o G ot (lq + 3) (za 808 O)) → (cc o G ra (lq + 4) (za nr RR)) → (BG s_ ≤ i_ ∧ i_ ≤ BG (s_ + 1)) → (0 ≤ sc ∧ sc ≤ 2048) → (ents SD sc cnt) → (0 ≤ arv ∧ arv ≤ 1) → (fx o o [60, 66, 67, 68] G0 G) → (G.length = G0.length) → (ab_slots G = ab_slots G0) → (Int.toNat (BG (s_ + 1) - i_) < mz) → (∀ (G2 : ab_G) (sc2 : Int) (st2 : Int) (ar2 : Int) (SD2 : Int → Int) (SE2 : Int → Int) (SK2 : Int → Int), (cc o G2 a 60 (ab_ob 8 [vz mst, vR q, vz vr, vz ro, vR cu, vz cn, vR eg, vR po, vR bg, vR bd, vz ct, vR sd, vz sc2, vR se_, vz sta, vR stk, vz ar2, vj st2])) → (cc o G2 sd 66 (za 2048 SD2)) → (cc o G2 se_ 67 (za 3072 SE2)) → (cc o G2 stk 68 (za 809 SK2)) → (0 ≤ sc2 ∧ sc2 ≤ 2048 ∧ 0 ≤ ar2 ∧ ar2 ≤ 1) → (ents SD2 sc2 cnt) → (fx o o [60, 66, 67, 68] G0 G2) → (G2.length = G0.length) → (ab_slots G2 = ab_slots G0) → ab_W X (ab_pl y_ST_makeEdge b_ST_makeEdge 6 (some (.int))) d G2 113 [some (vR a), some (vz s_), some (vz sg), none, none, none] [] Q) → ab_W X (ab_pl y_ST_makeEdge b_ST_makeEdge 6 (some (.int))) d G 27 [some (vR a), some (vz s_), some (vz sg), some (vz i_), none, none] [] Q := by
  intro mz
  induction mz with
  | zero => intro G sc arv stp SD SE SK i_ ha hcu hsd hse_ hstk hpo hbg hbd hq hki hne hot hra ci csc jsd car hfr hlen hsl hm hk0; exact absurd hm (Nat.not_lt_zero _)
  | succ mz ih =>
    intro G sc arv stp SD SE SK i_ ha hcu hsd hse_ hstk hpo hbg hbd hq hki hne hot hra ci csc jsd car hfr hlen hsl hm hk0
    refine ab_iload_n d_ST_makeEdge_27 rfl ?_
    refine ab_aload_n d_ST_makeEdge_28 rfl ?_
    refine ab_getf (fs := [vz mst, vR q, vz vr, vz ro, vR cu, vz cn, vR eg, vR po, vR bg, vR bd, vz ct, vR sd, vz sc, vR se_, vz sta, vR stk, vz arv, vj stp]) f_ST_25 d_ST_makeEdge_29 ha.2.2 rfl ?_
    refine ab_iload_n d_ST_makeEdge_32 rfl ?_
    refine zz_iconst d_ST_makeEdge_33 ?_
    refine zz_iadd d_ST_makeEdge_34 ?_
    refine zz_iald d_ST_makeEdge_35 hbg (by omega) ?_
    refine zz_icmp_ge (tgt := 113) d_ST_makeEdge_36 (by decide) (by omega) (by omega) (fun c1 => ?_) (fun c1 => ?_)
    · refine ab_less (L' := [some (vR a), some (vz s_), some (vz sg), none, none, none]) (fun i v h => by rcases i with _ | _ | _ | _ | _ | _ | i <;> first | exact h | (simp at h)) ?_
      exact hk0 _ _ _ _ _ _ _ ha hsd hse_ hstk (by omega) (by exact jsd) hfr hlen hsl
    · refine ab_aload_n d_ST_makeEdge_39 rfl ?_
      refine ab_getf (fs := [vz mst, vR q, vz vr, vz ro, vR cu, vz cn, vR eg, vR po, vR bg, vR bd, vz ct, vR sd, vz sc, vR se_, vz sta, vR stk, vz arv, vj stp]) f_ST_22 d_ST_makeEdge_40 ha.2.2 rfl ?_
      refine ab_iload_n d_ST_makeEdge_43 rfl ?_
      refine zz_iald d_ST_makeEdge_44 hpo (by omega) ?_
      have hq2 := jpo i_ (by omega) (by omega)
      refine zz_sipush d_ST_makeEdge_45 (by decide) ?_
      refine zz_icmp_ge (tgt := 71) d_ST_makeEdge_48 (by decide) (by omega) (by decide) (fun c3 => ?_) (fun c3 => ?_)
      · refine ab_aload_n d_ST_makeEdge_71 rfl ?_
        refine ab_iload_n d_ST_makeEdge_72 rfl ?_
        refine zz_iconst d_ST_makeEdge_73 ?_
        refine zz_icmp_ne (tgt := 98) d_ST_makeEdge_74 (by decide) (by omega) (by decide) (fun c4 => ?_) (fun c4 => ?_)
        · refine ab_aload_n d_ST_makeEdge_98 rfl ?_
          refine ab_getf (fs := [vz mst, vR q, vz vr, vz ro, vR cu, vz cn, vR eg, vR po, vR bg, vR bd, vz ct, vR sd, vz sc, vR se_, vz sta, vR stk, vz arv, vj stp]) f_ST_22 d_ST_makeEdge_99 ha.2.2 rfl ?_
          refine ab_iload_n d_ST_makeEdge_102 rfl ?_
          refine zz_iald d_ST_makeEdge_103 hpo (by omega) ?_
          have hq5 := jpo i_ (by omega) (by omega)
          refine ab_callV (d' := d - 1) (as := [vz (PO i_)]) (st := []) (r := _) (z_ST_addSeed (o := o) (a := a) (cu := cu) (eg := eg) (po := po) (bg := bg) (bd := bd) (sd := sd) (se_ := se_) (stk := stk) (mst := mst) (q0 := vR q) (vr := vr) (ro := ro) (cn := cn) (ct := ct) (sc := sc) (sta := sta) (arv := arv) (stp := stp) (SD := SD) (SE := SE) (e_ := (PO i_)) ha hsd hse_ (by omega) (by omega) jsd) (fun oc G2 h => by rcases h with ⟨_, _, _, h, _⟩ <;> exact ⟨_, h⟩) (by omega) m_ST_addSeed ml_ST_132 im_ST_addSeed se_ST_addSeed c_ST ha.2.2 (Nat.le_of_ble_eq_true rfl) d_ST_makeEdge_104 rfl ?_
          intro v G6 hq
          rcases hq with ⟨sc27, SD28, SE29, hv, hfk, hlk, hsk, hNa, hNsd, hNse_, hq10, hq11⟩
          cases hv
          have hcu := hfk.get hcu (by decide)
          have hstk := hfk.get hstk (by decide)
          have hpo := hfk.get hpo (by decide)
          have hbg := hfk.get hbg (by decide)
          have hbd := hfk.get hbd (by decide)
          have hq := hfk.get hq (by simp only [List.mem_cons, List.not_mem_nil, or_false]; omega)
          have hki := hfk.get hki (by simp only [List.mem_cons, List.not_mem_nil, or_false]; omega)
          have hne := hfk.get hne (by simp only [List.mem_cons, List.not_mem_nil, or_false]; omega)
          have hot := hfk.get hot (by simp only [List.mem_cons, List.not_mem_nil, or_false]; omega)
          have hra := hfk.get hra (by simp only [List.mem_cons, List.not_mem_nil, or_false]; omega)
          have hfr := hfr.tr hfk (by decide)
          have hlen := hlk.trans hlen
          have hsl := hsk.trans hsl
          have ha := hNa
          have hsd := hNsd
          have hse_ := hNse_
          change ab_W _ _ _ G6 107 [some (vR a), some (vz s_), some (vz sg), some (vz i_), none, none] [] _
          refine zz_iinc d_ST_makeEdge_107 rfl (Nat.le_of_ble_eq_true rfl) (Nat.le_of_ble_eq_true rfl) rfl ?_
          change ab_W _ _ _ G6 110 [some (vR a), some (vz s_), some (vz sg), some (vz (i_ + 1)), none, none] [] _
          refine ab_goto (tgt := 27) d_ST_makeEdge_110 (by decide) ?_
          exact ih (sc := sc27) (arv := arv) (stp := stp) (SD := SD28) (SE := SE29) (SK := SK) (i_ := (i_ + 1)) ha hcu hsd hse_ hstk hpo hbg hbd hq hki hne hot hra (by omega) (by omega) hq11 (by omega) hfr hlen hsl (by omega) hk0
        · refine ab_aload_n d_ST_makeEdge_77 rfl ?_
          refine ab_getf (fs := [vz mst, vR q, vz vr, vz ro, vR cu, vz cn, vR eg, vR po, vR bg, vR bd, vz ct, vR sd, vz sc, vR se_, vz sta, vR stk, vz arv, vj stp]) f_ST_74 d_ST_makeEdge_78 ha.2.2 rfl ?_
          refine ab_getf (fs := [vR ki, vR ne, vR ot, vz cnt, vz fi, vz la, vR ra, vz ru, vz gr, vz wi, vz sz, vz fl, vz ve, vz mi, vR na, vR nl]) f_ST_155 d_ST_makeEdge_81 hq.2.2 rfl ?_
          refine ab_aload_n d_ST_makeEdge_84 rfl ?_
          refine ab_getf (fs := [vz mst, vR q, vz vr, vz ro, vR cu, vz cn, vR eg, vR po, vR bg, vR bd, vz ct, vR sd, vz sc, vR se_, vz sta, vR stk, vz arv, vj stp]) f_ST_22 d_ST_makeEdge_85 ha.2.2 rfl ?_
          refine ab_iload_n d_ST_makeEdge_88 rfl ?_
          refine zz_iald d_ST_makeEdge_89 hpo (by omega) ?_
          have hq12 := jpo i_ (by omega) (by omega)
          refine zz_sipush d_ST_makeEdge_90 (by decide) ?_
          refine zz_isub d_ST_makeEdge_93 ?_
          refine zz_iald d_ST_makeEdge_94 hne (by omega) ?_
          have hq13 := hp.n ((PO i_) - 1024) (by omega) (by omega)
          refine ab_goto (tgt := 104) d_ST_makeEdge_95 (by decide) ?_
          refine ab_callV (d' := d - 1) (as := [vz (N ((PO i_) - 1024))]) (st := []) (r := _) (z_ST_addSeed (o := o) (a := a) (cu := cu) (eg := eg) (po := po) (bg := bg) (bd := bd) (sd := sd) (se_ := se_) (stk := stk) (mst := mst) (q0 := vR q) (vr := vr) (ro := ro) (cn := cn) (ct := ct) (sc := sc) (sta := sta) (arv := arv) (stp := stp) (SD := SD) (SE := SE) (e_ := (N ((PO i_) - 1024))) ha hsd hse_ (by omega) (by omega) jsd) (fun oc G2 h => by rcases h with ⟨_, _, _, h, _⟩ <;> exact ⟨_, h⟩) (by omega) m_ST_addSeed ml_ST_132 im_ST_addSeed se_ST_addSeed c_ST ha.2.2 (Nat.le_of_ble_eq_true rfl) d_ST_makeEdge_104 rfl ?_
          intro v G14 hq
          rcases hq with ⟨sc215, SD216, SE217, hv, hfk, hlk, hsk, hNa, hNsd, hNse_, hq18, hq19⟩
          cases hv
          have hcu := hfk.get hcu (by decide)
          have hstk := hfk.get hstk (by decide)
          have hpo := hfk.get hpo (by decide)
          have hbg := hfk.get hbg (by decide)
          have hbd := hfk.get hbd (by decide)
          have hq := hfk.get hq (by simp only [List.mem_cons, List.not_mem_nil, or_false]; omega)
          have hki := hfk.get hki (by simp only [List.mem_cons, List.not_mem_nil, or_false]; omega)
          have hne := hfk.get hne (by simp only [List.mem_cons, List.not_mem_nil, or_false]; omega)
          have hot := hfk.get hot (by simp only [List.mem_cons, List.not_mem_nil, or_false]; omega)
          have hra := hfk.get hra (by simp only [List.mem_cons, List.not_mem_nil, or_false]; omega)
          have hfr := hfr.tr hfk (by decide)
          have hlen := hlk.trans hlen
          have hsl := hsk.trans hsl
          have ha := hNa
          have hsd := hNsd
          have hse_ := hNse_
          change ab_W _ _ _ G14 107 [some (vR a), some (vz s_), some (vz sg), some (vz i_), none, none] [] _
          refine zz_iinc d_ST_makeEdge_107 rfl (Nat.le_of_ble_eq_true rfl) (Nat.le_of_ble_eq_true rfl) rfl ?_
          change ab_W _ _ _ G14 110 [some (vR a), some (vz s_), some (vz sg), some (vz (i_ + 1)), none, none] [] _
          refine ab_goto (tgt := 27) d_ST_makeEdge_110 (by decide) ?_
          exact ih (sc := sc215) (arv := arv) (stp := stp) (SD := SD216) (SE := SE217) (SK := SK) (i_ := (i_ + 1)) ha hcu hsd hse_ hstk hpo hbg hbd hq hki hne hot hra (by omega) (by omega) hq19 (by omega) hfr hlen hsl (by omega) hk0
      · refine ab_aload_n d_ST_makeEdge_51 rfl ?_
        refine ab_aload_n d_ST_makeEdge_52 rfl ?_
        refine ab_getf (fs := [vz mst, vR q, vz vr, vz ro, vR cu, vz cn, vR eg, vR po, vR bg, vR bd, vz ct, vR sd, vz sc, vR se_, vz sta, vR stk, vz arv, vj stp]) f_ST_22 d_ST_makeEdge_53 ha.2.2 rfl ?_
        refine ab_iload_n d_ST_makeEdge_56 rfl ?_
        refine zz_iald d_ST_makeEdge_57 hpo (by omega) ?_
        have hq20 := jpo i_ (by omega) (by omega)
        refine ab_aload_n d_ST_makeEdge_58 rfl ?_
        refine ab_getf (fs := [vz mst, vR q, vz vr, vz ro, vR cu, vz cn, vR eg, vR po, vR bg, vR bd, vz ct, vR sd, vz sc, vR se_, vz sta, vR stk, vz arv, vj stp]) f_ST_28 d_ST_makeEdge_59 ha.2.2 rfl ?_
        refine ab_iload_n d_ST_makeEdge_62 rfl ?_
        refine zz_iald d_ST_makeEdge_63 hbd (by omega) ?_
        have hq21 := jbd s_ (by omega) (by omega)
        refine ab_iload_n d_ST_makeEdge_64 rfl ?_
        refine ab_callV (d' := d - 1) (as := [vz (PO i_), vz (BD s_), vz sg]) (st := []) (r := _) (z_ST_follow (o := o) (a := a) (cu := cu) (eg := eg) (po := po) (bg := bg) (bd := bd) (sd := sd) (se_ := se_) (stk := stk) (mst := mst) (vr := vr) (ro := ro) (cn := cn) (ct := ct) (sc := sc) (sta := sta) (arv := arv) (stp := stp) (CU := CU) (SD := SD) (SE := SE) (SK := SK) (q := q) (lq := lq) (ki := ki) (ne := ne) (ot := ot) (cnt := cnt) (fi := fi) (la := la) (ra := ra) (ru := ru) (gr := gr) (wi := wi) (sz := sz) (fl := fl) (ve := ve) (mi := mi) (na := na) (nl := nl) (K := K) (N := N) (O := O) (RR := RR) (nr := nr) (sg := sg) (ah := (BD s_)) (b_ := (PO i_)) ha hcu hsd hse_ hstk hq hki hne hot hra (by omega) jcu (by omega) (by omega) hp hr (by omega) (by omega) (by omega) jsd (by omega) (by omega)) (fun oc G2 h => by rcases h with ⟨_, _, _, _, _, _, h, _⟩ <;> exact ⟨_, h⟩) (by omega) m_ST_follow ml_ST_151 im_ST_follow se_ST_follow c_ST ha.2.2 (Nat.le_of_ble_eq_true rfl) d_ST_makeEdge_65 rfl ?_
        intro v G22 hq
        rcases hq with ⟨sc223, st224, ar225, SD226, SE227, SK228, hv, hfk, hlk, hsk, hNa, hNsd, hNse_, hNstk, hq29, hq30⟩
        cases hv
        have hcu := hfk.get hcu (by decide)
        have hpo := hfk.get hpo (by decide)
        have hbg := hfk.get hbg (by decide)
        have hbd := hfk.get hbd (by decide)
        have hq := hfk.get hq (by simp only [List.mem_cons, List.not_mem_nil, or_false]; omega)
        have hki := hfk.get hki (by simp only [List.mem_cons, List.not_mem_nil, or_false]; omega)
        have hne := hfk.get hne (by simp only [List.mem_cons, List.not_mem_nil, or_false]; omega)
        have hot := hfk.get hot (by simp only [List.mem_cons, List.not_mem_nil, or_false]; omega)
        have hra := hfk.get hra (by simp only [List.mem_cons, List.not_mem_nil, or_false]; omega)
        have hfr := hfr.tr hfk (by decide)
        have hlen := hlk.trans hlen
        have hsl := hsk.trans hsl
        have ha := hNa
        have hsd := hNsd
        have hse_ := hNse_
        have hstk := hNstk
        change ab_W _ _ _ G22 68 [some (vR a), some (vz s_), some (vz sg), some (vz i_), none, none] [] _
        refine ab_goto (tgt := 107) d_ST_makeEdge_68 (by decide) ?_
        refine zz_iinc d_ST_makeEdge_107 rfl (Nat.le_of_ble_eq_true rfl) (Nat.le_of_ble_eq_true rfl) rfl ?_
        change ab_W _ _ _ G22 110 [some (vR a), some (vz s_), some (vz sg), some (vz (i_ + 1)), none, none] [] _
        refine ab_goto (tgt := 27) d_ST_makeEdge_110 (by decide) ?_
        exact ih (sc := sc223) (arv := ar225) (stp := st224) (SD := SD226) (SE := SE227) (SK := SK228) (i_ := (i_ + 1)) ha hcu hsd hse_ hstk hpo hbg hbd hq hki hne hot hra (by omega) (by omega) hq30 (by omega) hfr hlen hsl (by omega) hk0
set_option maxRecDepth 100000 in
set_option maxHeartbeats 4000000 in
theorem z_ST_makeEdge {X : ab_X} {d : Nat} {o : Nat → Nat} {G : ab_G} {a : Nat} {cu : Nat} {eg : Nat} {po : Nat} {bg : Nat} {bd : Nat} {sd : Nat} {se_ : Nat} {stk : Nat} {mst : Int} {vr : Int} {ro : Int} {cn : Int} {ct : Int} {sc : Int} {sta : Int} {arv : Int} {stp : Int} {CU : Int → Int} {EG : Int → Int} {PO : Int → Int} {BG : Int → Int} {BD : Int → Int} {SD : Int → Int} {SE : Int → Int} {SK : Int → Int} {q : Nat} {lq : Nat} {ki : Nat} {ne : Nat} {ot : Nat} {cnt : Int} {fi : Int} {la : Int} {ra : Nat} {ru : Int} {gr : Int} {wi : Int} {sz : Int} {fl : Int} {ve : Int} {mi : Int} {na : Nat} {nl : Nat} {K : Int → Int} {N : Int → Int} {O : Int → Int} {RR : Int → Int} {nr : Nat} {sg : Int} {s_ : Int} (ha : cc o G a 60 (ab_ob 8 [vz mst, vR q, vz vr, vz ro, vR cu, vz cn, vR eg, vR po, vR bg, vR bd, vz ct, vR sd, vz sc, vR se_, vz sta, vR stk, vz arv, vj stp])) (hcu : cc o G cu 61 (za 120 CU)) (hsd : cc o G sd 66 (za 2048 SD)) (hse_ : cc o G se_ 67 (za 3072 SE)) (hstk : cc o G stk 68 (za 809 SK)) (hpo : cc o G po 63 (za 8192 PO)) (hbg : cc o G bg 64 (za 65 BG)) (hbd : cc o G bd 65 (za 64 BD)) (hq : cc o G q lq (ab_ob 5 [vR ki, vR ne, vR ot, vz cnt, vz fi, vz la, vR ra, vz ru, vz gr, vz wi, vz sz, vz fl, vz ve, vz mi, vR na, vR nl])) (hki : cc o G ki (lq + 1) (za 808 K)) (hne : cc o G ne (lq + 2) (za 808 N)) (hot : cc o G ot (lq + 3) (za 808 O)) (hra : cc o G ra (lq + 4) (za nr RR)) (heg : cc o G eg 62 (za 8000 EG)) (cc0 : 0 ≤ cn ∧ cn ≤ 120) (jcu : rgs CU 120 0 1114112) (csg : 0 ≤ sg ∧ sg ≤ cn + 4) (cq : 100 ≤ lq ∧ 0 ≤ cnt ∧ cnt ≤ 808 ∧ ↑nr ≤ (100000 : Int)) (hp : prok K N O RR cnt ↑nr wi) (hr : ∀ k : Int, 0 ≤ k → k < ↑nr → 0 ≤ RR k ∧ RR k ≤ 1114111) (cfi : 0 ≤ fi ∧ fi < cnt ∧ 0 ≤ la ∧ la ≤ 1) (jpo : ents PO (BG ct) cnt) (jbg : bgo BG ct) (jbd : rgs BD 64 0 7) (cms : 4 ≤ mst ∧ mst ≤ 64 ∧ 0 ≤ ct ∧ ct ≤ mst) (cs1 : 0 ≤ s_ ∧ s_ < ct) (jeg : ego EG ct (cn + 5)) (cro : 0 ≤ ro ∧ ro ≤ 1) (hd : 6 ≤ d) : ab_F X d y_ST_makeEdge (.code y_ST_makeEdge b_ST_makeEdge 6 (some (.int))) [vR a, vz s_, vz sg] G (fun oc G2 => ∃ v : Int, ∃ ct2 : Int, ∃ sc2 : Int, ∃ sta2 : Int, ∃ st2 : Int, ∃ ar2 : Int, ∃ EG2 : Int → Int, ∃ PO2 : Int → Int, ∃ BG2 : Int → Int, ∃ BD2 : Int → Int, ∃ SD2 : Int → Int, ∃ SE2 : Int → Int, ∃ SK2 : Int → Int, oc = .returned (some (vz v)) ∧ fx o o [60, 62, 63, 64, 65, 66, 67, 68] G G2 ∧ G2.length = G.length ∧ ab_slots G2 = ab_slots G ∧ cc o G2 a 60 (ab_ob 8 [vz mst, vR q, vz vr, vz ro, vR cu, vz cn, vR eg, vR po, vR bg, vR bd, vz ct2, vR sd, vz sc2, vR se_, vz sta2, vR stk, vz ar2, vj st2]) ∧ cc o G2 eg 62 (za 8000 EG2) ∧ cc o G2 po 63 (za 8192 PO2) ∧ cc o G2 bg 64 (za 65 BG2) ∧ cc o G2 bd 65 (za 64 BD2) ∧ cc o G2 sd 66 (za 2048 SD2) ∧ cc o G2 se_ 67 (za 3072 SE2) ∧ cc o G2 stk 68 (za 809 SK2) ∧ (2 ≤ v ∧ v / 2 ≤ ct2 ∧ 1 ≤ ct2 ∧ ct2 ≤ mst ∧ 0 ≤ ar2 ∧ ar2 ≤ 1) ∧ (bgo BG2 ct2) ∧ (ents PO2 (BG2 ct2) cnt) ∧ (ego EG2 ct2 (cn + 5)) ∧ (rgs BD2 64 0 7) ∧ (0 ≤ sc2 ∧ sc2 ≤ 2048)) := by
  refine ab_F_of (by decide +kernel) (Nat.le_of_ble_eq_true rfl) ?_
  obtain ⟨Q, hQ⟩ : ∃ z : Outcome → ab_G → Prop, z = (fun oc G2 => ∃ v : Int, ∃ ct2 : Int, ∃ sc2 : Int, ∃ sta2 : Int, ∃ st2 : Int, ∃ ar2 : Int, ∃ EG2 : Int → Int, ∃ PO2 : Int → Int, ∃ BG2 : Int → Int, ∃ BD2 : Int → Int, ∃ SD2 : Int → Int, ∃ SE2 : Int → Int, ∃ SK2 : Int → Int, oc = .returned (some (vz v)) ∧ fx o o [60, 62, 63, 64, 65, 66, 67, 68] G G2 ∧ G2.length = G.length ∧ ab_slots G2 = ab_slots G ∧ cc o G2 a 60 (ab_ob 8 [vz mst, vR q, vz vr, vz ro, vR cu, vz cn, vR eg, vR po, vR bg, vR bd, vz ct2, vR sd, vz sc2, vR se_, vz sta2, vR stk, vz ar2, vj st2]) ∧ cc o G2 eg 62 (za 8000 EG2) ∧ cc o G2 po 63 (za 8192 PO2) ∧ cc o G2 bg 64 (za 65 BG2) ∧ cc o G2 bd 65 (za 64 BD2) ∧ cc o G2 sd 66 (za 2048 SD2) ∧ cc o G2 se_ 67 (za 3072 SE2) ∧ cc o G2 stk 68 (za 809 SK2) ∧ (2 ≤ v ∧ v / 2 ≤ ct2 ∧ 1 ≤ ct2 ∧ ct2 ≤ mst ∧ 0 ≤ ar2 ∧ ar2 ≤ 1) ∧ (bgo BG2 ct2) ∧ (ents PO2 (BG2 ct2) cnt) ∧ (ego EG2 ct2 (cn + 5)) ∧ (rgs BD2 64 0 7) ∧ (0 ≤ sc2 ∧ sc2 ≤ 2048)) := ⟨_, rfl⟩
  rw [← hQ]
  change ab_W X (ab_pl y_ST_makeEdge b_ST_makeEdge 6 (some (.int))) d G 0 [some (vR a), some (vz s_), some (vz sg), none, none, none] [] Q
  have hfr : fx o o [60, 62, 63, 64, 65, 66, 67, 68] G G := fx.rf
  have hlen : G.length = G.length := rfl
  have hsl : ab_slots G = ab_slots G := rfl
  have jb := jbg.st s_ (by omega) (by omega)
  refine ab_aload_n d_ST_makeEdge_0 rfl ?_
  refine zz_iconst d_ST_makeEdge_1 ?_
  refine ab_putf (fs := [vz mst, vR q, vz vr, vz ro, vR cu, vz cn, vR eg, vR po, vR bg, vR bd, vz ct, vR sd, vz sc, vR se_, vz sta, vR stk, vz arv, vj stp]) f_ST_148 (Or.inl rfl) d_ST_makeEdge_2 ha.2.2 (Nat.le_of_ble_eq_true rfl) (ab_fbz (by decide)) (ha.2.1 (by decide)) ?_
  obtain ⟨G1, eG1⟩ : ∃ z : ab_G, z = List.set G a (ab_ob 8 [vz mst, vR q, vz vr, vz ro, vR cu, vz cn, vR eg, vR po, vR bg, vR bd, vz ct, vR sd, vz sc, vR se_, vz sta, vR stk, vz 0, vj stp]) := ⟨_, rfl⟩
  have hcu := hcu.keep ha eG1 (by decide)
  have hsd := hsd.keep ha eG1 (by decide)
  have hse_ := hse_.keep ha eG1 (by decide)
  have hstk := hstk.keep ha eG1 (by decide)
  have hpo := hpo.keep ha eG1 (by decide)
  have hbg := hbg.keep ha eG1 (by decide)
  have hbd := hbd.keep ha eG1 (by decide)
  have hq := hq.keep ha eG1 (by omega)
  have hki := hki.keep ha eG1 (by omega)
  have hne := hne.keep ha eG1 (by omega)
  have hot := hot.keep ha eG1 (by omega)
  have hra := hra.keep ha eG1 (by omega)
  have heg := heg.keep ha eG1 (by decide)
  have hlen := (z_len eG1).trans hlen
  have hsl := (z_sl ha eG1 rfl).trans hsl
  have hfr := hfr.wr ha eG1 (by decide)
  have ha := ha.kept eG1
  change ab_W _ _ _ (List.set G a (ab_ob 8 [vz mst, vR q, vz vr, vz ro, vR cu, vz cn, vR eg, vR po, vR bg, vR bd, vz ct, vR sd, vz sc, vR se_, vz sta, vR stk, vz 0, vj stp])) 5 [some (vR a), some (vz s_), some (vz sg), none, none, none] [] _
  rw [← eG1]
  refine ab_aload_n d_ST_makeEdge_5 rfl ?_
  refine ab_dup d_ST_makeEdge_6 rfl ?_
  refine ab_getf (fs := [vz mst, vR q, vz vr, vz ro, vR cu, vz cn, vR eg, vR po, vR bg, vR bd, vz ct, vR sd, vz sc, vR se_, vz sta, vR stk, vz 0, vj stp]) f_ST_123 d_ST_makeEdge_7 ha.2.2 rfl ?_
  refine zz_iconst d_ST_makeEdge_10 ?_
  refine zz_iadd d_ST_makeEdge_11 ?_
  refine ab_putf (fs := [vz mst, vR q, vz vr, vz ro, vR cu, vz cn, vR eg, vR po, vR bg, vR bd, vz ct, vR sd, vz sc, vR se_, vz sta, vR stk, vz 0, vj stp]) f_ST_123 (Or.inl rfl) d_ST_makeEdge_12 ha.2.2 (Nat.le_of_ble_eq_true rfl) (fun _ => ⟨rfl, rfl⟩) (ha.2.1 (by decide)) ?_
  obtain ⟨G2, eG2⟩ : ∃ z : ab_G, z = List.set G1 a (ab_ob 8 [vz mst, vR q, vz vr, vz ro, vR cu, vz cn, vR eg, vR po, vR bg, vR bd, vz ct, vR sd, vz sc, vR se_, vz (sta + 1), vR stk, vz 0, vj stp]) := ⟨_, rfl⟩
  have hcu := hcu.keep ha eG2 (by decide)
  have hsd := hsd.keep ha eG2 (by decide)
  have hse_ := hse_.keep ha eG2 (by decide)
  have hstk := hstk.keep ha eG2 (by decide)
  have hpo := hpo.keep ha eG2 (by decide)
  have hbg := hbg.keep ha eG2 (by decide)
  have hbd := hbd.keep ha eG2 (by decide)
  have hq := hq.keep ha eG2 (by omega)
  have hki := hki.keep ha eG2 (by omega)
  have hne := hne.keep ha eG2 (by omega)
  have hot := hot.keep ha eG2 (by omega)
  have hra := hra.keep ha eG2 (by omega)
  have heg := heg.keep ha eG2 (by decide)
  have hlen := (z_len eG2).trans hlen
  have hsl := (z_sl ha eG2 rfl).trans hsl
  have hfr := hfr.wr ha eG2 (by decide)
  have ha := ha.kept eG2
  change ab_W _ _ _ (List.set G1 a (ab_ob 8 [vz mst, vR q, vz vr, vz ro, vR cu, vz cn, vR eg, vR po, vR bg, vR bd, vz ct, vR sd, vz sc, vR se_, vz (sta + 1), vR stk, vz 0, vj stp])) 15 [some (vR a), some (vz s_), some (vz sg), none, none, none] [] _
  rw [← eG2]
  refine ab_aload_n d_ST_makeEdge_15 rfl ?_
  refine zz_iconst d_ST_makeEdge_16 ?_
  refine ab_putf (fs := [vz mst, vR q, vz vr, vz ro, vR cu, vz cn, vR eg, vR po, vR bg, vR bd, vz ct, vR sd, vz sc, vR se_, vz (sta + 1), vR stk, vz 0, vj stp]) f_ST_126 (Or.inl rfl) d_ST_makeEdge_17 ha.2.2 (Nat.le_of_ble_eq_true rfl) (fun _ => ⟨rfl, rfl⟩) (ha.2.1 (by decide)) ?_
  obtain ⟨G3, eG3⟩ : ∃ z : ab_G, z = List.set G2 a (ab_ob 8 [vz mst, vR q, vz vr, vz ro, vR cu, vz cn, vR eg, vR po, vR bg, vR bd, vz ct, vR sd, vz 0, vR se_, vz (sta + 1), vR stk, vz 0, vj stp]) := ⟨_, rfl⟩
  have hcu := hcu.keep ha eG3 (by decide)
  have hsd := hsd.keep ha eG3 (by decide)
  have hse_ := hse_.keep ha eG3 (by decide)
  have hstk := hstk.keep ha eG3 (by decide)
  have hpo := hpo.keep ha eG3 (by decide)
  have hbg := hbg.keep ha eG3 (by decide)
  have hbd := hbd.keep ha eG3 (by decide)
  have hq := hq.keep ha eG3 (by omega)
  have hki := hki.keep ha eG3 (by omega)
  have hne := hne.keep ha eG3 (by omega)
  have hot := hot.keep ha eG3 (by omega)
  have hra := hra.keep ha eG3 (by omega)
  have heg := heg.keep ha eG3 (by decide)
  have hlen := (z_len eG3).trans hlen
  have hsl := (z_sl ha eG3 rfl).trans hsl
  have hfr := hfr.wr ha eG3 (by decide)
  have ha := ha.kept eG3
  change ab_W _ _ _ (List.set G2 a (ab_ob 8 [vz mst, vR q, vz vr, vz ro, vR cu, vz cn, vR eg, vR po, vR bg, vR bd, vz ct, vR sd, vz 0, vR se_, vz (sta + 1), vR stk, vz 0, vj stp])) 20 [some (vR a), some (vz s_), some (vz sg), none, none, none] [] _
  rw [← eG3]
  refine ab_aload_n d_ST_makeEdge_20 rfl ?_
  refine ab_getf (fs := [vz mst, vR q, vz vr, vz ro, vR cu, vz cn, vR eg, vR po, vR bg, vR bd, vz ct, vR sd, vz 0, vR se_, vz (sta + 1), vR stk, vz 0, vj stp]) f_ST_25 d_ST_makeEdge_21 ha.2.2 rfl ?_
  refine ab_iload_n d_ST_makeEdge_24 rfl ?_
  refine zz_iald d_ST_makeEdge_25 hbg (by omega) ?_
  refine ab_istore_n d_ST_makeEdge_26 (Nat.le_of_ble_eq_true rfl) (Nat.le_of_ble_eq_true rfl) rfl ?_
  change ab_W _ _ _ G3 27 [some (vR a), some (vz s_), some (vz sg), some (vz (BG s_)), none, none] [] _
  refine y_ST_makeEdge_27 (a := a) (cu := cu) (eg := eg) (po := po) (bg := bg) (bd := bd) (sd := sd) (se_ := se_) (stk := stk) (mst := mst) (vr := vr) (ro := ro) (cn := cn) (ct := ct) (sta := (sta + 1)) (CU := CU) (PO := PO) (BG := BG) (BD := BD) (q := q) (lq := lq) (ki := ki) (ne := ne) (ot := ot) (cnt := cnt) (fi := fi) (la := la) (ra := ra) (ru := ru) (gr := gr) (wi := wi) (sz := sz) (fl := fl) (ve := ve) (mi := mi) (na := na) (nl := nl) (K := K) (N := N) (O := O) (RR := RR) (nr := nr) (sg := sg) (s_ := s_) (G0 := G3) (sc := 0) (arv := 0) (stp := stp) (SD := SD) (SE := SE) (SK := SK) (i_ := (BG s_)) (by omega) jcu (by omega) (by omega) hp hr (by omega) jpo jbg jbd (by omega) (by omega) (by omega) (by omega) (Int.toNat (BG (s_ + 1) - (BG s_)) + 1) ha hcu hsd hse_ hstk hpo hbg hbd hq hki hne hot hra (by omega) (by omega) ents_0 (by omega) fx.rf rfl rfl (by omega) (fun G4 sc25 st26 ar27 SD28 SE29 SK210 hNa hNsd hNse_ hNstk hq11 hq12 hfk hlk hsk => ?_)
  · have hcu := hfk.get hcu (by decide)
    have hpo := hfk.get hpo (by decide)
    have hbg := hfk.get hbg (by decide)
    have hbd := hfk.get hbd (by decide)
    have hq := hfk.get hq (by simp only [List.mem_cons, List.not_mem_nil, or_false]; omega)
    have hki := hfk.get hki (by simp only [List.mem_cons, List.not_mem_nil, or_false]; omega)
    have hne := hfk.get hne (by simp only [List.mem_cons, List.not_mem_nil, or_false]; omega)
    have hot := hfk.get hot (by simp only [List.mem_cons, List.not_mem_nil, or_false]; omega)
    have hra := hfk.get hra (by simp only [List.mem_cons, List.not_mem_nil, or_false]; omega)
    have heg := hfk.get heg (by decide)
    have hfr := hfr.tr hfk (by decide)
    have hlen := hlk.trans hlen
    have hsl := hsk.trans hsl
    have ha := hNa
    have hsd := hNsd
    have hse_ := hNse_
    have hstk := hNstk
    change ab_W _ _ _ G4 113 [some (vR a), some (vz s_), some (vz sg), none, none, none] [] _
    refine ab_aload_n d_ST_makeEdge_113 rfl ?_
    refine ab_getf (fs := [vz mst, vR q, vz vr, vz ro, vR cu, vz cn, vR eg, vR po, vR bg, vR bd, vz ct, vR sd, vz sc25, vR se_, vz (sta + 1), vR stk, vz ar27, vj st26]) f_ST_70 d_ST_makeEdge_114 ha.2.2 rfl ?_
    refine zz_if_eq (tgt := 138) d_ST_makeEdge_117 (by decide) (by omega) (fun c13 => ?_) (fun c13 => ?_)
    · refine ab_aload_n d_ST_makeEdge_138 rfl ?_
      refine ab_getf (fs := [vz mst, vR q, vz vr, vz ro, vR cu, vz cn, vR eg, vR po, vR bg, vR bd, vz ct, vR sd, vz sc25, vR se_, vz (sta + 1), vR stk, vz ar27, vj st26]) f_ST_40 d_ST_makeEdge_139 ha.2.2 rfl ?_
      refine ab_istore_n d_ST_makeEdge_142 (Nat.le_of_ble_eq_true rfl) (Nat.le_of_ble_eq_true rfl) rfl ?_
      change ab_W _ _ _ G4 143 [some (vR a), some (vz s_), some (vz sg), some (vz ct), none, none] [] _
      refine ab_iload_n d_ST_makeEdge_143 rfl ?_
      refine zz_if_ne (tgt := 151) d_ST_makeEdge_144 (by decide) (by omega) (fun c14 => ?_) (fun c14 => ?_)
      · refine ab_aload_n d_ST_makeEdge_151 rfl ?_
        refine ab_aload_n d_ST_makeEdge_152 rfl ?_
        refine ab_iload_n d_ST_makeEdge_153 rfl ?_
        refine ab_callV (d' := d - 1) (as := [vz sg]) (st := [vR a]) (r := _) (z_ST_aheadOf (o := o) (a := a) (cu := cu) (eg := eg) (po := po) (bg := bg) (bd := bd) (sd := sd) (se_ := se_) (stk := stk) (mst := mst) (vr := vr) (ro := ro) (cn := cn) (ct := ct) (sc := sc25) (sta := (sta + 1)) (arv := ar27) (stp := st26) (CU := CU) (q := q) (lq := lq) (ki := ki) (ne := ne) (ot := ot) (cnt := cnt) (fi := fi) (la := la) (ra := ra) (ru := ru) (gr := gr) (wi := wi) (sz := sz) (fl := fl) (ve := ve) (mi := mi) (na := na) (nl := nl) (sg := sg) ha hcu hq (by omega) jcu (by omega) (by omega) (by omega)) (fun oc G2 h => by rcases h with ⟨_, h, _⟩ <;> exact ⟨_, h⟩) (by omega) m_ST_aheadOf ml_ST_158 im_ST_aheadOf se_ST_aheadOf c_ST ha.2.2 (Nat.le_of_ble_eq_true rfl) d_ST_makeEdge_154 rfl ?_
        intro v G15 hq
        rcases hq with ⟨v16, hv, hGe, hq17⟩
        cases hv
        rw [hGe]
        change ab_W _ _ _ G4 157 [some (vR a), some (vz s_), some (vz sg), some (vz ct), none, none] [vz v16, vR a] _
        refine ab_callV (d' := d - 1) (as := [vz v16]) (st := []) (r := _) (z_ST_keptState (o := o) (a := a) (cu := cu) (eg := eg) (po := po) (bg := bg) (bd := bd) (sd := sd) (se_ := se_) (stk := stk) (mst := mst) (q0 := vR q) (vr := vr) (ro := ro) (cn := cn) (ct := ct) (sc := sc25) (sta := (sta + 1)) (arv := ar27) (stp := st26) (EG := EG) (PO := PO) (BG := BG) (BD := BD) (SD := SD28) (ah := v16) ha heg hpo hbg hbd hsd (by omega) (by omega) (by omega) jbg jpo hq12 (by omega) jbd jeg (by omega)) (fun oc G2 h => by rcases h with ⟨_, _, _, _, _, _, h, _⟩ | ⟨_, _, _, _, _, _, h, _⟩ <;> exact ⟨_, h⟩) (by omega) m_ST_keptState ml_ST_145 im_ST_keptState se_ST_keptState c_ST ha.2.2 (Nat.le_of_ble_eq_true rfl) d_ST_makeEdge_157 rfl ?_
        intro v G18 hq
        rcases hq with ⟨v19, ct220, EG221, PO222, BG223, BD224, hv, hfk, hlk, hsk, hNa, hNeg, hNpo, hNbg, hNbd, hq25, hq26, hq27, hq28, hq29, hq30⟩ | ⟨v31, ct232, EG233, PO234, BG235, BD236, hv, hfk, hlk, hsk, hNa, hNeg, hNpo, hNbg, hNbd, hq37, hq38, hq39, hq40, hq41, hq42⟩
        · cases hv
          have hcu := hfk.get hcu (by decide)
          have hsd := hfk.get hsd (by decide)
          have hse_ := hfk.get hse_ (by decide)
          have hstk := hfk.get hstk (by decide)
          have hq := hfk.get hq (by simp only [List.mem_cons, List.not_mem_nil, or_false]; omega)
          have hki := hfk.get hki (by simp only [List.mem_cons, List.not_mem_nil, or_false]; omega)
          have hne := hfk.get hne (by simp only [List.mem_cons, List.not_mem_nil, or_false]; omega)
          have hot := hfk.get hot (by simp only [List.mem_cons, List.not_mem_nil, or_false]; omega)
          have hra := hfk.get hra (by simp only [List.mem_cons, List.not_mem_nil, or_false]; omega)
          have hfr := hfr.tr hfk (by decide)
          have hlen := hlk.trans hlen
          have hsl := hsk.trans hsl
          have ha := hNa
          have heg := hNeg
          have hpo := hNpo
          have hbg := hNbg
          have hbd := hNbd
          change ab_W _ _ _ G18 160 [some (vR a), some (vz s_), some (vz sg), some (vz ct), none, none] [vz v19] _
          refine ab_istore d_ST_makeEdge_160 (Nat.le_of_ble_eq_true rfl) (Nat.le_of_ble_eq_true rfl) rfl ?_
          change ab_W _ _ _ G18 162 [some (vR a), some (vz s_), some (vz sg), some (vz ct), some (vz v19), none] [] _
          refine zz_iconst d_ST_makeEdge_162 ?_
          refine ab_iload d_ST_makeEdge_163 rfl ?_
          refine zz_iconst d_ST_makeEdge_165 ?_
          refine zz_iadd d_ST_makeEdge_166 ?_
          refine zz_imul d_ST_makeEdge_167 ?_
          refine ab_aload_n d_ST_makeEdge_168 rfl ?_
          refine ab_getf (fs := [vz mst, vR q, vz vr, vz ro, vR cu, vz cn, vR eg, vR po, vR bg, vR bd, vz ct220, vR sd, vz sc25, vR se_, vz (sta + 1), vR stk, vz ar27, vj st26]) f_ST_148 d_ST_makeEdge_169 ha.2.2 rfl ?_
          refine zz_if_eq (tgt := 179) d_ST_makeEdge_172 (by decide) (by omega) (fun c43 => ?_) (fun c43 => ?_)
          · refine zz_iconst d_ST_makeEdge_179 ?_
            refine zz_iadd d_ST_makeEdge_180 ?_
            refine ab_istore d_ST_makeEdge_181 (Nat.le_of_ble_eq_true rfl) (Nat.le_of_ble_eq_true rfl) rfl ?_
            change ab_W _ _ _ G18 183 [some (vR a), some (vz s_), some (vz sg), some (vz ct), some (vz v19), some (vz ((2 * (v19 + 1)) + 0))] [] _
            refine ab_aload_n d_ST_makeEdge_183 rfl ?_
            refine ab_getf (fs := [vz mst, vR q, vz vr, vz ro, vR cu, vz cn, vR eg, vR po, vR bg, vR bd, vz ct220, vR sd, vz sc25, vR se_, vz (sta + 1), vR stk, vz ar27, vj st26]) f_ST_40 d_ST_makeEdge_184 ha.2.2 rfl ?_
            refine ab_iload_n d_ST_makeEdge_187 rfl ?_
            refine zz_icmp_lt (tgt := 208) d_ST_makeEdge_188 (by decide) (by omega) (by omega) (fun c44 => absurd c44 (by omega)) (fun c44 => ?_)
            refine ab_aload_n d_ST_makeEdge_191 rfl ?_
            refine ab_getf (fs := [vz mst, vR q, vz vr, vz ro, vR cu, vz cn, vR eg, vR po, vR bg, vR bd, vz ct220, vR sd, vz sc25, vR se_, vz (sta + 1), vR stk, vz ar27, vj st26]) f_ST_19 d_ST_makeEdge_192 ha.2.2 rfl ?_
            refine ab_iload_n d_ST_makeEdge_195 rfl ?_
            refine ab_aload_n d_ST_makeEdge_196 rfl ?_
            refine ab_getf (fs := [vz mst, vR q, vz vr, vz ro, vR cu, vz cn, vR eg, vR po, vR bg, vR bd, vz ct220, vR sd, vz sc25, vR se_, vz (sta + 1), vR stk, vz ar27, vj st26]) f_ST_63 d_ST_makeEdge_197 ha.2.2 rfl ?_
            refine zz_iconst d_ST_makeEdge_200 ?_
            refine zz_iadd d_ST_makeEdge_201 ?_
            refine zz_imul d_ST_makeEdge_202 ?_
            obtain ⟨v45, hv45⟩ : ∃ z : Int, z = s_ * (cn + 5) := ⟨_, rfl⟩
            rw [← hv45]
            have hv45b := z_mulb (a := s_) (b := (cn + 5)) (A := 64) (B := 125) (by omega) (by omega)
            rw [← hv45] at hv45b
            change ab_W _ _ _ G18 203 [some (vR a), some (vz s_), some (vz sg), some (vz ct), some (vz v19), some (vz ((2 * (v19 + 1)) + 0))] [vz v45, vR eg] _
            have hm3 : (s_ + 1) * (cn + 5) ≤ 64 * 125 := Int.mul_le_mul (by omega) (by omega) (by omega) (by omega)
            have hm4 : (s_ + 1) * (cn + 5) = s_ * (cn + 5) + (cn + 5) := by rw [Int.add_mul, Int.one_mul]
            refine ab_iload_n d_ST_makeEdge_203 rfl ?_
            refine zz_iadd d_ST_makeEdge_204 ?_
            refine ab_iload d_ST_makeEdge_205 rfl ?_
            refine zz_iast d_ST_makeEdge_207 heg (by omega) (heg.2.1 (by decide)) ?_
            obtain ⟨G46, eG46⟩ : ∃ z : ab_G, z = List.set G18 eg (za 8000 (zu EG221 (v45 + sg) ((2 * (v19 + 1)) + 0))) := ⟨_, rfl⟩
            have ha := ha.keep heg eG46 (by decide)
            have hcu := hcu.keep heg eG46 (by decide)
            have hsd := hsd.keep heg eG46 (by decide)
            have hse_ := hse_.keep heg eG46 (by decide)
            have hstk := hstk.keep heg eG46 (by decide)
            have hpo := hpo.keep heg eG46 (by decide)
            have hbg := hbg.keep heg eG46 (by decide)
            have hbd := hbd.keep heg eG46 (by decide)
            have hq := hq.keep heg eG46 (by omega)
            have hki := hki.keep heg eG46 (by omega)
            have hne := hne.keep heg eG46 (by omega)
            have hot := hot.keep heg eG46 (by omega)
            have hra := hra.keep heg eG46 (by omega)
            have hlen := (z_len eG46).trans hlen
            have hsl := (z_sl heg eG46 rfl).trans hsl
            have hfr := hfr.wr heg eG46 (by decide)
            have heg := heg.kept eG46
            change ab_W _ _ _ (List.set G18 eg (za 8000 (zu EG221 (v45 + sg) ((2 * (v19 + 1)) + 0)))) 208 [some (vR a), some (vz s_), some (vz sg), some (vz ct), some (vz v19), some (vz ((2 * (v19 + 1)) + 0))] [] _
            rw [← eG46]
            refine ab_iload d_ST_makeEdge_208 rfl ?_
            refine zz_iret rfl d_ST_makeEdge_210 ?_
            rw [hQ]; exact ⟨_, _, _, _, _, _, _, _, _, _, _, _, _, rfl, hfr, hlen, hsl, ha, heg, hpo, hbg, hbd, hsd, hse_, hstk, (by omega), (by exact hq26), (by exact hq27), (by exact ego_set (s0 := s_) (t0 := sg) hq28 (by rw [hv45]) (by omega)), (by exact hq29), (by omega)⟩
          · refine zz_iconst d_ST_makeEdge_175 ?_
            refine ab_goto (tgt := 180) d_ST_makeEdge_176 (by decide) ?_
            refine zz_iadd d_ST_makeEdge_180 ?_
            refine ab_istore d_ST_makeEdge_181 (Nat.le_of_ble_eq_true rfl) (Nat.le_of_ble_eq_true rfl) rfl ?_
            change ab_W _ _ _ G18 183 [some (vR a), some (vz s_), some (vz sg), some (vz ct), some (vz v19), some (vz ((2 * (v19 + 1)) + 1))] [] _
            refine ab_aload_n d_ST_makeEdge_183 rfl ?_
            refine ab_getf (fs := [vz mst, vR q, vz vr, vz ro, vR cu, vz cn, vR eg, vR po, vR bg, vR bd, vz ct220, vR sd, vz sc25, vR se_, vz (sta + 1), vR stk, vz ar27, vj st26]) f_ST_40 d_ST_makeEdge_184 ha.2.2 rfl ?_
            refine ab_iload_n d_ST_makeEdge_187 rfl ?_
            refine zz_icmp_lt (tgt := 208) d_ST_makeEdge_188 (by decide) (by omega) (by omega) (fun c47 => absurd c47 (by omega)) (fun c47 => ?_)
            refine ab_aload_n d_ST_makeEdge_191 rfl ?_
            refine ab_getf (fs := [vz mst, vR q, vz vr, vz ro, vR cu, vz cn, vR eg, vR po, vR bg, vR bd, vz ct220, vR sd, vz sc25, vR se_, vz (sta + 1), vR stk, vz ar27, vj st26]) f_ST_19 d_ST_makeEdge_192 ha.2.2 rfl ?_
            refine ab_iload_n d_ST_makeEdge_195 rfl ?_
            refine ab_aload_n d_ST_makeEdge_196 rfl ?_
            refine ab_getf (fs := [vz mst, vR q, vz vr, vz ro, vR cu, vz cn, vR eg, vR po, vR bg, vR bd, vz ct220, vR sd, vz sc25, vR se_, vz (sta + 1), vR stk, vz ar27, vj st26]) f_ST_63 d_ST_makeEdge_197 ha.2.2 rfl ?_
            refine zz_iconst d_ST_makeEdge_200 ?_
            refine zz_iadd d_ST_makeEdge_201 ?_
            refine zz_imul d_ST_makeEdge_202 ?_
            obtain ⟨v48, hv48⟩ : ∃ z : Int, z = s_ * (cn + 5) := ⟨_, rfl⟩
            rw [← hv48]
            have hv48b := z_mulb (a := s_) (b := (cn + 5)) (A := 64) (B := 125) (by omega) (by omega)
            rw [← hv48] at hv48b
            change ab_W _ _ _ G18 203 [some (vR a), some (vz s_), some (vz sg), some (vz ct), some (vz v19), some (vz ((2 * (v19 + 1)) + 1))] [vz v48, vR eg] _
            have hm3 : (s_ + 1) * (cn + 5) ≤ 64 * 125 := Int.mul_le_mul (by omega) (by omega) (by omega) (by omega)
            have hm4 : (s_ + 1) * (cn + 5) = s_ * (cn + 5) + (cn + 5) := by rw [Int.add_mul, Int.one_mul]
            refine ab_iload_n d_ST_makeEdge_203 rfl ?_
            refine zz_iadd d_ST_makeEdge_204 ?_
            refine ab_iload d_ST_makeEdge_205 rfl ?_
            refine zz_iast d_ST_makeEdge_207 heg (by omega) (heg.2.1 (by decide)) ?_
            obtain ⟨G49, eG49⟩ : ∃ z : ab_G, z = List.set G18 eg (za 8000 (zu EG221 (v48 + sg) ((2 * (v19 + 1)) + 1))) := ⟨_, rfl⟩
            have ha := ha.keep heg eG49 (by decide)
            have hcu := hcu.keep heg eG49 (by decide)
            have hsd := hsd.keep heg eG49 (by decide)
            have hse_ := hse_.keep heg eG49 (by decide)
            have hstk := hstk.keep heg eG49 (by decide)
            have hpo := hpo.keep heg eG49 (by decide)
            have hbg := hbg.keep heg eG49 (by decide)
            have hbd := hbd.keep heg eG49 (by decide)
            have hq := hq.keep heg eG49 (by omega)
            have hki := hki.keep heg eG49 (by omega)
            have hne := hne.keep heg eG49 (by omega)
            have hot := hot.keep heg eG49 (by omega)
            have hra := hra.keep heg eG49 (by omega)
            have hlen := (z_len eG49).trans hlen
            have hsl := (z_sl heg eG49 rfl).trans hsl
            have hfr := hfr.wr heg eG49 (by decide)
            have heg := heg.kept eG49
            change ab_W _ _ _ (List.set G18 eg (za 8000 (zu EG221 (v48 + sg) ((2 * (v19 + 1)) + 1)))) 208 [some (vR a), some (vz s_), some (vz sg), some (vz ct), some (vz v19), some (vz ((2 * (v19 + 1)) + 1))] [] _
            rw [← eG49]
            refine ab_iload d_ST_makeEdge_208 rfl ?_
            refine zz_iret rfl d_ST_makeEdge_210 ?_
            rw [hQ]; exact ⟨_, _, _, _, _, _, _, _, _, _, _, _, _, rfl, hfr, hlen, hsl, ha, heg, hpo, hbg, hbd, hsd, hse_, hstk, (by omega), (by exact hq26), (by exact hq27), (by exact ego_set (s0 := s_) (t0 := sg) hq28 (by rw [hv48]) (by omega)), (by exact hq29), (by omega)⟩
        · cases hv
          have hcu := hfk.get hcu (by decide)
          have hsd := hfk.get hsd (by decide)
          have hse_ := hfk.get hse_ (by decide)
          have hstk := hfk.get hstk (by decide)
          have hq := hfk.get hq (by simp only [List.mem_cons, List.not_mem_nil, or_false]; omega)
          have hki := hfk.get hki (by simp only [List.mem_cons, List.not_mem_nil, or_false]; omega)
          have hne := hfk.get hne (by simp only [List.mem_cons, List.not_mem_nil, or_false]; omega)
          have hot := hfk.get hot (by simp only [List.mem_cons, List.not_mem_nil, or_false]; omega)
          have hra := hfk.get hra (by simp only [List.mem_cons, List.not_mem_nil, or_false]; omega)
          have hfr := hfr.tr hfk (by decide)
          have hlen := hlk.trans hlen
          have hsl := hsk.trans hsl
          have ha := hNa
          have heg := hNeg
          have hpo := hNpo
          have hbg := hNbg
          have hbd := hNbd
          change ab_W _ _ _ G18 160 [some (vR a), some (vz s_), some (vz sg), some (vz ct), none, none] [vz v31] _
          refine ab_istore d_ST_makeEdge_160 (Nat.le_of_ble_eq_true rfl) (Nat.le_of_ble_eq_true rfl) rfl ?_
          change ab_W _ _ _ G18 162 [some (vR a), some (vz s_), some (vz sg), some (vz ct), some (vz v31), none] [] _
          refine zz_iconst d_ST_makeEdge_162 ?_
          refine ab_iload d_ST_makeEdge_163 rfl ?_
          refine zz_iconst d_ST_makeEdge_165 ?_
          refine zz_iadd d_ST_makeEdge_166 ?_
          refine zz_imul d_ST_makeEdge_167 ?_
          refine ab_aload_n d_ST_makeEdge_168 rfl ?_
          refine ab_getf (fs := [vz mst, vR q, vz vr, vz ro, vR cu, vz cn, vR eg, vR po, vR bg, vR bd, vz ct232, vR sd, vz sc25, vR se_, vz (sta + 1), vR stk, vz ar27, vj st26]) f_ST_148 d_ST_makeEdge_169 ha.2.2 rfl ?_
          refine zz_if_eq (tgt := 179) d_ST_makeEdge_172 (by decide) (by omega) (fun c50 => ?_) (fun c50 => ?_)
          · refine zz_iconst d_ST_makeEdge_179 ?_
            refine zz_iadd d_ST_makeEdge_180 ?_
            refine ab_istore d_ST_makeEdge_181 (Nat.le_of_ble_eq_true rfl) (Nat.le_of_ble_eq_true rfl) rfl ?_
            change ab_W _ _ _ G18 183 [some (vR a), some (vz s_), some (vz sg), some (vz ct), some (vz v31), some (vz ((2 * (v31 + 1)) + 0))] [] _
            refine ab_aload_n d_ST_makeEdge_183 rfl ?_
            refine ab_getf (fs := [vz mst, vR q, vz vr, vz ro, vR cu, vz cn, vR eg, vR po, vR bg, vR bd, vz ct232, vR sd, vz sc25, vR se_, vz (sta + 1), vR stk, vz ar27, vj st26]) f_ST_40 d_ST_makeEdge_184 ha.2.2 rfl ?_
            refine ab_iload_n d_ST_makeEdge_187 rfl ?_
            refine zz_icmp_lt (tgt := 208) d_ST_makeEdge_188 (by decide) (by omega) (by omega) (fun c51 => ?_) (fun c51 => absurd c51 (by omega))
            refine ab_iload d_ST_makeEdge_208 rfl ?_
            refine zz_iret rfl d_ST_makeEdge_210 ?_
            rw [hQ]; exact ⟨_, _, _, _, _, _, _, _, _, _, _, _, _, rfl, hfr, hlen, hsl, ha, heg, hpo, hbg, hbd, hsd, hse_, hstk, (by omega), (by exact hq38), (by exact hq39), (by exact hq40), (by exact hq41), (by omega)⟩
          · refine zz_iconst d_ST_makeEdge_175 ?_
            refine ab_goto (tgt := 180) d_ST_makeEdge_176 (by decide) ?_
            refine zz_iadd d_ST_makeEdge_180 ?_
            refine ab_istore d_ST_makeEdge_181 (Nat.le_of_ble_eq_true rfl) (Nat.le_of_ble_eq_true rfl) rfl ?_
            change ab_W _ _ _ G18 183 [some (vR a), some (vz s_), some (vz sg), some (vz ct), some (vz v31), some (vz ((2 * (v31 + 1)) + 1))] [] _
            refine ab_aload_n d_ST_makeEdge_183 rfl ?_
            refine ab_getf (fs := [vz mst, vR q, vz vr, vz ro, vR cu, vz cn, vR eg, vR po, vR bg, vR bd, vz ct232, vR sd, vz sc25, vR se_, vz (sta + 1), vR stk, vz ar27, vj st26]) f_ST_40 d_ST_makeEdge_184 ha.2.2 rfl ?_
            refine ab_iload_n d_ST_makeEdge_187 rfl ?_
            refine zz_icmp_lt (tgt := 208) d_ST_makeEdge_188 (by decide) (by omega) (by omega) (fun c52 => ?_) (fun c52 => absurd c52 (by omega))
            refine ab_iload d_ST_makeEdge_208 rfl ?_
            refine zz_iret rfl d_ST_makeEdge_210 ?_
            rw [hQ]; exact ⟨_, _, _, _, _, _, _, _, _, _, _, _, _, rfl, hfr, hlen, hsl, ha, heg, hpo, hbg, hbd, hsd, hse_, hstk, (by omega), (by exact hq38), (by exact hq39), (by exact hq40), (by exact hq41), (by omega)⟩
      · refine ab_iload_n d_ST_makeEdge_147 rfl ?_
        refine ab_goto (tgt := 160) d_ST_makeEdge_148 (by decide) ?_
        refine ab_istore d_ST_makeEdge_160 (Nat.le_of_ble_eq_true rfl) (Nat.le_of_ble_eq_true rfl) rfl ?_
        change ab_W _ _ _ G4 162 [some (vR a), some (vz s_), some (vz sg), some (vz ct), some (vz s_), none] [] _
        refine zz_iconst d_ST_makeEdge_162 ?_
        refine ab_iload d_ST_makeEdge_163 rfl ?_
        refine zz_iconst d_ST_makeEdge_165 ?_
        refine zz_iadd d_ST_makeEdge_166 ?_
        refine zz_imul d_ST_makeEdge_167 ?_
        refine ab_aload_n d_ST_makeEdge_168 rfl ?_
        refine ab_getf (fs := [vz mst, vR q, vz vr, vz ro, vR cu, vz cn, vR eg, vR po, vR bg, vR bd, vz ct, vR sd, vz sc25, vR se_, vz (sta + 1), vR stk, vz ar27, vj st26]) f_ST_148 d_ST_makeEdge_169 ha.2.2 rfl ?_
        refine zz_if_eq (tgt := 179) d_ST_makeEdge_172 (by decide) (by omega) (fun c53 => ?_) (fun c53 => ?_)
        · refine zz_iconst d_ST_makeEdge_179 ?_
          refine zz_iadd d_ST_makeEdge_180 ?_
          refine ab_istore d_ST_makeEdge_181 (Nat.le_of_ble_eq_true rfl) (Nat.le_of_ble_eq_true rfl) rfl ?_
          change ab_W _ _ _ G4 183 [some (vR a), some (vz s_), some (vz sg), some (vz ct), some (vz s_), some (vz ((2 * (s_ + 1)) + 0))] [] _
          refine ab_aload_n d_ST_makeEdge_183 rfl ?_
          refine ab_getf (fs := [vz mst, vR q, vz vr, vz ro, vR cu, vz cn, vR eg, vR po, vR bg, vR bd, vz ct, vR sd, vz sc25, vR se_, vz (sta + 1), vR stk, vz ar27, vj st26]) f_ST_40 d_ST_makeEdge_184 ha.2.2 rfl ?_
          refine ab_iload_n d_ST_makeEdge_187 rfl ?_
          refine zz_icmp_lt (tgt := 208) d_ST_makeEdge_188 (by decide) (by omega) (by omega) (fun c54 => absurd c54 (by omega)) (fun c54 => ?_)
          refine ab_aload_n d_ST_makeEdge_191 rfl ?_
          refine ab_getf (fs := [vz mst, vR q, vz vr, vz ro, vR cu, vz cn, vR eg, vR po, vR bg, vR bd, vz ct, vR sd, vz sc25, vR se_, vz (sta + 1), vR stk, vz ar27, vj st26]) f_ST_19 d_ST_makeEdge_192 ha.2.2 rfl ?_
          refine ab_iload_n d_ST_makeEdge_195 rfl ?_
          refine ab_aload_n d_ST_makeEdge_196 rfl ?_
          refine ab_getf (fs := [vz mst, vR q, vz vr, vz ro, vR cu, vz cn, vR eg, vR po, vR bg, vR bd, vz ct, vR sd, vz sc25, vR se_, vz (sta + 1), vR stk, vz ar27, vj st26]) f_ST_63 d_ST_makeEdge_197 ha.2.2 rfl ?_
          refine zz_iconst d_ST_makeEdge_200 ?_
          refine zz_iadd d_ST_makeEdge_201 ?_
          refine zz_imul d_ST_makeEdge_202 ?_
          obtain ⟨v55, hv55⟩ : ∃ z : Int, z = s_ * (cn + 5) := ⟨_, rfl⟩
          rw [← hv55]
          have hv55b := z_mulb (a := s_) (b := (cn + 5)) (A := 64) (B := 125) (by omega) (by omega)
          rw [← hv55] at hv55b
          change ab_W _ _ _ G4 203 [some (vR a), some (vz s_), some (vz sg), some (vz ct), some (vz s_), some (vz ((2 * (s_ + 1)) + 0))] [vz v55, vR eg] _
          have hm3 : (s_ + 1) * (cn + 5) ≤ 64 * 125 := Int.mul_le_mul (by omega) (by omega) (by omega) (by omega)
          have hm4 : (s_ + 1) * (cn + 5) = s_ * (cn + 5) + (cn + 5) := by rw [Int.add_mul, Int.one_mul]
          refine ab_iload_n d_ST_makeEdge_203 rfl ?_
          refine zz_iadd d_ST_makeEdge_204 ?_
          refine ab_iload d_ST_makeEdge_205 rfl ?_
          refine zz_iast d_ST_makeEdge_207 heg (by omega) (heg.2.1 (by decide)) ?_
          obtain ⟨G56, eG56⟩ : ∃ z : ab_G, z = List.set G4 eg (za 8000 (zu EG (v55 + sg) ((2 * (s_ + 1)) + 0))) := ⟨_, rfl⟩
          have ha := ha.keep heg eG56 (by decide)
          have hcu := hcu.keep heg eG56 (by decide)
          have hsd := hsd.keep heg eG56 (by decide)
          have hse_ := hse_.keep heg eG56 (by decide)
          have hstk := hstk.keep heg eG56 (by decide)
          have hpo := hpo.keep heg eG56 (by decide)
          have hbg := hbg.keep heg eG56 (by decide)
          have hbd := hbd.keep heg eG56 (by decide)
          have hq := hq.keep heg eG56 (by omega)
          have hki := hki.keep heg eG56 (by omega)
          have hne := hne.keep heg eG56 (by omega)
          have hot := hot.keep heg eG56 (by omega)
          have hra := hra.keep heg eG56 (by omega)
          have hlen := (z_len eG56).trans hlen
          have hsl := (z_sl heg eG56 rfl).trans hsl
          have hfr := hfr.wr heg eG56 (by decide)
          have heg := heg.kept eG56
          change ab_W _ _ _ (List.set G4 eg (za 8000 (zu EG (v55 + sg) ((2 * (s_ + 1)) + 0)))) 208 [some (vR a), some (vz s_), some (vz sg), some (vz ct), some (vz s_), some (vz ((2 * (s_ + 1)) + 0))] [] _
          rw [← eG56]
          refine ab_iload d_ST_makeEdge_208 rfl ?_
          refine zz_iret rfl d_ST_makeEdge_210 ?_
          rw [hQ]; exact ⟨_, _, _, _, _, _, _, _, _, _, _, _, _, rfl, hfr, hlen, hsl, ha, heg, hpo, hbg, hbd, hsd, hse_, hstk, (by omega), (by exact jbg), (by exact jpo), (by exact ego_set (s0 := s_) (t0 := sg) jeg (by rw [hv55]) (by omega)), (by exact jbd), (by omega)⟩
        · refine zz_iconst d_ST_makeEdge_175 ?_
          refine ab_goto (tgt := 180) d_ST_makeEdge_176 (by decide) ?_
          refine zz_iadd d_ST_makeEdge_180 ?_
          refine ab_istore d_ST_makeEdge_181 (Nat.le_of_ble_eq_true rfl) (Nat.le_of_ble_eq_true rfl) rfl ?_
          change ab_W _ _ _ G4 183 [some (vR a), some (vz s_), some (vz sg), some (vz ct), some (vz s_), some (vz ((2 * (s_ + 1)) + 1))] [] _
          refine ab_aload_n d_ST_makeEdge_183 rfl ?_
          refine ab_getf (fs := [vz mst, vR q, vz vr, vz ro, vR cu, vz cn, vR eg, vR po, vR bg, vR bd, vz ct, vR sd, vz sc25, vR se_, vz (sta + 1), vR stk, vz ar27, vj st26]) f_ST_40 d_ST_makeEdge_184 ha.2.2 rfl ?_
          refine ab_iload_n d_ST_makeEdge_187 rfl ?_
          refine zz_icmp_lt (tgt := 208) d_ST_makeEdge_188 (by decide) (by omega) (by omega) (fun c57 => absurd c57 (by omega)) (fun c57 => ?_)
          refine ab_aload_n d_ST_makeEdge_191 rfl ?_
          refine ab_getf (fs := [vz mst, vR q, vz vr, vz ro, vR cu, vz cn, vR eg, vR po, vR bg, vR bd, vz ct, vR sd, vz sc25, vR se_, vz (sta + 1), vR stk, vz ar27, vj st26]) f_ST_19 d_ST_makeEdge_192 ha.2.2 rfl ?_
          refine ab_iload_n d_ST_makeEdge_195 rfl ?_
          refine ab_aload_n d_ST_makeEdge_196 rfl ?_
          refine ab_getf (fs := [vz mst, vR q, vz vr, vz ro, vR cu, vz cn, vR eg, vR po, vR bg, vR bd, vz ct, vR sd, vz sc25, vR se_, vz (sta + 1), vR stk, vz ar27, vj st26]) f_ST_63 d_ST_makeEdge_197 ha.2.2 rfl ?_
          refine zz_iconst d_ST_makeEdge_200 ?_
          refine zz_iadd d_ST_makeEdge_201 ?_
          refine zz_imul d_ST_makeEdge_202 ?_
          obtain ⟨v58, hv58⟩ : ∃ z : Int, z = s_ * (cn + 5) := ⟨_, rfl⟩
          rw [← hv58]
          have hv58b := z_mulb (a := s_) (b := (cn + 5)) (A := 64) (B := 125) (by omega) (by omega)
          rw [← hv58] at hv58b
          change ab_W _ _ _ G4 203 [some (vR a), some (vz s_), some (vz sg), some (vz ct), some (vz s_), some (vz ((2 * (s_ + 1)) + 1))] [vz v58, vR eg] _
          have hm3 : (s_ + 1) * (cn + 5) ≤ 64 * 125 := Int.mul_le_mul (by omega) (by omega) (by omega) (by omega)
          have hm4 : (s_ + 1) * (cn + 5) = s_ * (cn + 5) + (cn + 5) := by rw [Int.add_mul, Int.one_mul]
          refine ab_iload_n d_ST_makeEdge_203 rfl ?_
          refine zz_iadd d_ST_makeEdge_204 ?_
          refine ab_iload d_ST_makeEdge_205 rfl ?_
          refine zz_iast d_ST_makeEdge_207 heg (by omega) (heg.2.1 (by decide)) ?_
          obtain ⟨G59, eG59⟩ : ∃ z : ab_G, z = List.set G4 eg (za 8000 (zu EG (v58 + sg) ((2 * (s_ + 1)) + 1))) := ⟨_, rfl⟩
          have ha := ha.keep heg eG59 (by decide)
          have hcu := hcu.keep heg eG59 (by decide)
          have hsd := hsd.keep heg eG59 (by decide)
          have hse_ := hse_.keep heg eG59 (by decide)
          have hstk := hstk.keep heg eG59 (by decide)
          have hpo := hpo.keep heg eG59 (by decide)
          have hbg := hbg.keep heg eG59 (by decide)
          have hbd := hbd.keep heg eG59 (by decide)
          have hq := hq.keep heg eG59 (by omega)
          have hki := hki.keep heg eG59 (by omega)
          have hne := hne.keep heg eG59 (by omega)
          have hot := hot.keep heg eG59 (by omega)
          have hra := hra.keep heg eG59 (by omega)
          have hlen := (z_len eG59).trans hlen
          have hsl := (z_sl heg eG59 rfl).trans hsl
          have hfr := hfr.wr heg eG59 (by decide)
          have heg := heg.kept eG59
          change ab_W _ _ _ (List.set G4 eg (za 8000 (zu EG (v58 + sg) ((2 * (s_ + 1)) + 1)))) 208 [some (vR a), some (vz s_), some (vz sg), some (vz ct), some (vz s_), some (vz ((2 * (s_ + 1)) + 1))] [] _
          rw [← eG59]
          refine ab_iload d_ST_makeEdge_208 rfl ?_
          refine zz_iret rfl d_ST_makeEdge_210 ?_
          rw [hQ]; exact ⟨_, _, _, _, _, _, _, _, _, _, _, _, _, rfl, hfr, hlen, hsl, ha, heg, hpo, hbg, hbd, hsd, hse_, hstk, (by omega), (by exact jbg), (by exact jpo), (by exact ego_set (s0 := s_) (t0 := sg) jeg (by rw [hv58]) (by omega)), (by exact jbd), (by omega)⟩
    · refine ab_aload_n d_ST_makeEdge_120 rfl ?_
      refine ab_aload_n d_ST_makeEdge_121 rfl ?_
      refine ab_getf (fs := [vz mst, vR q, vz vr, vz ro, vR cu, vz cn, vR eg, vR po, vR bg, vR bd, vz ct, vR sd, vz sc25, vR se_, vz (sta + 1), vR stk, vz ar27, vj st26]) f_ST_74 d_ST_makeEdge_122 ha.2.2 rfl ?_
      refine ab_getf (fs := [vR ki, vR ne, vR ot, vz cnt, vz fi, vz la, vR ra, vz ru, vz gr, vz wi, vz sz, vz fl, vz ve, vz mi, vR na, vR nl]) f_ST_129 d_ST_makeEdge_125 hq.2.2 rfl ?_
      refine ab_aload_n d_ST_makeEdge_128 rfl ?_
      refine ab_getf (fs := [vz mst, vR q, vz vr, vz ro, vR cu, vz cn, vR eg, vR po, vR bg, vR bd, vz ct, vR sd, vz sc25, vR se_, vz (sta + 1), vR stk, vz ar27, vj st26]) f_ST_28 d_ST_makeEdge_129 ha.2.2 rfl ?_
      refine ab_iload_n d_ST_makeEdge_132 rfl ?_
      refine zz_iald d_ST_makeEdge_133 hbd (by omega) ?_
      have hq60 := jbd s_ (by omega) (by omega)
      refine ab_iload_n d_ST_makeEdge_134 rfl ?_
      refine ab_callV (d' := d - 1) (as := [vz fi, vz (BD s_), vz sg]) (st := []) (r := _) (z_ST_follow (o := o) (a := a) (cu := cu) (eg := eg) (po := po) (bg := bg) (bd := bd) (sd := sd) (se_ := se_) (stk := stk) (mst := mst) (vr := vr) (ro := ro) (cn := cn) (ct := ct) (sc := sc25) (sta := (sta + 1)) (arv := ar27) (stp := st26) (CU := CU) (SD := SD28) (SE := SE29) (SK := SK210) (q := q) (lq := lq) (ki := ki) (ne := ne) (ot := ot) (cnt := cnt) (fi := fi) (la := la) (ra := ra) (ru := ru) (gr := gr) (wi := wi) (sz := sz) (fl := fl) (ve := ve) (mi := mi) (na := na) (nl := nl) (K := K) (N := N) (O := O) (RR := RR) (nr := nr) (sg := sg) (ah := (BD s_)) (b_ := fi) ha hcu hsd hse_ hstk hq hki hne hot hra (by omega) jcu (by omega) (by omega) hp hr (by omega) (by omega) (by omega) hq12 (by omega) (by omega)) (fun oc G2 h => by rcases h with ⟨_, _, _, _, _, _, h, _⟩ <;> exact ⟨_, h⟩) (by omega) m_ST_follow ml_ST_151 im_ST_follow se_ST_follow c_ST ha.2.2 (Nat.le_of_ble_eq_true rfl) d_ST_makeEdge_135 rfl ?_
      intro v G61 hq
      rcases hq with ⟨sc262, st263, ar264, SD265, SE266, SK267, hv, hfk, hlk, hsk, hNa, hNsd, hNse_, hNstk, hq68, hq69⟩
      cases hv
      have hcu := hfk.get hcu (by decide)
      have hpo := hfk.get hpo (by decide)
      have hbg := hfk.get hbg (by decide)
      have hbd := hfk.get hbd (by decide)
      have hq := hfk.get hq (by simp only [List.mem_cons, List.not_mem_nil, or_false]; omega)
      have hki := hfk.get hki (by simp only [List.mem_cons, List.not_mem_nil, or_false]; omega)
      have hne := hfk.get hne (by simp only [List.mem_cons, List.not_mem_nil, or_false]; omega)
      have hot := hfk.get hot (by simp only [List.mem_cons, List.not_mem_nil, or_false]; omega)
      have hra := hfk.get hra (by simp only [List.mem_cons, List.not_mem_nil, or_false]; omega)
      have heg := hfk.get heg (by decide)
      have hfr := hfr.tr hfk (by decide)
      have hlen := hlk.trans hlen
      have hsl := hsk.trans hsl
      have ha := hNa
      have hsd := hNsd
      have hse_ := hNse_
      have hstk := hNstk
      change ab_W _ _ _ G61 138 [some (vR a), some (vz s_), some (vz sg), none, none, none] [] _
      refine ab_aload_n d_ST_makeEdge_138 rfl ?_
      refine ab_getf (fs := [vz mst, vR q, vz vr, vz ro, vR cu, vz cn, vR eg, vR po, vR bg, vR bd, vz ct, vR sd, vz sc262, vR se_, vz (sta + 1), vR stk, vz ar264, vj st263]) f_ST_40 d_ST_makeEdge_139 ha.2.2 rfl ?_
      refine ab_istore_n d_ST_makeEdge_142 (Nat.le_of_ble_eq_true rfl) (Nat.le_of_ble_eq_true rfl) rfl ?_
      change ab_W _ _ _ G61 143 [some (vR a), some (vz s_), some (vz sg), some (vz ct), none, none] [] _
      refine ab_iload_n d_ST_makeEdge_143 rfl ?_
      refine zz_if_ne (tgt := 151) d_ST_makeEdge_144 (by decide) (by omega) (fun c70 => ?_) (fun c70 => ?_)
      · refine ab_aload_n d_ST_makeEdge_151 rfl ?_
        refine ab_aload_n d_ST_makeEdge_152 rfl ?_
        refine ab_iload_n d_ST_makeEdge_153 rfl ?_
        refine ab_callV (d' := d - 1) (as := [vz sg]) (st := [vR a]) (r := _) (z_ST_aheadOf (o := o) (a := a) (cu := cu) (eg := eg) (po := po) (bg := bg) (bd := bd) (sd := sd) (se_ := se_) (stk := stk) (mst := mst) (vr := vr) (ro := ro) (cn := cn) (ct := ct) (sc := sc262) (sta := (sta + 1)) (arv := ar264) (stp := st263) (CU := CU) (q := q) (lq := lq) (ki := ki) (ne := ne) (ot := ot) (cnt := cnt) (fi := fi) (la := la) (ra := ra) (ru := ru) (gr := gr) (wi := wi) (sz := sz) (fl := fl) (ve := ve) (mi := mi) (na := na) (nl := nl) (sg := sg) ha hcu hq (by omega) jcu (by omega) (by omega) (by omega)) (fun oc G2 h => by rcases h with ⟨_, h, _⟩ <;> exact ⟨_, h⟩) (by omega) m_ST_aheadOf ml_ST_158 im_ST_aheadOf se_ST_aheadOf c_ST ha.2.2 (Nat.le_of_ble_eq_true rfl) d_ST_makeEdge_154 rfl ?_
        intro v G71 hq
        rcases hq with ⟨v72, hv, hGe, hq73⟩
        cases hv
        rw [hGe]
        change ab_W _ _ _ G61 157 [some (vR a), some (vz s_), some (vz sg), some (vz ct), none, none] [vz v72, vR a] _
        refine ab_callV (d' := d - 1) (as := [vz v72]) (st := []) (r := _) (z_ST_keptState (o := o) (a := a) (cu := cu) (eg := eg) (po := po) (bg := bg) (bd := bd) (sd := sd) (se_ := se_) (stk := stk) (mst := mst) (q0 := vR q) (vr := vr) (ro := ro) (cn := cn) (ct := ct) (sc := sc262) (sta := (sta + 1)) (arv := ar264) (stp := st263) (EG := EG) (PO := PO) (BG := BG) (BD := BD) (SD := SD265) (ah := v72) ha heg hpo hbg hbd hsd (by omega) (by omega) (by omega) jbg jpo hq69 (by omega) jbd jeg (by omega)) (fun oc G2 h => by rcases h with ⟨_, _, _, _, _, _, h, _⟩ | ⟨_, _, _, _, _, _, h, _⟩ <;> exact ⟨_, h⟩) (by omega) m_ST_keptState ml_ST_145 im_ST_keptState se_ST_keptState c_ST ha.2.2 (Nat.le_of_ble_eq_true rfl) d_ST_makeEdge_157 rfl ?_
        intro v G74 hq
        rcases hq with ⟨v75, ct276, EG277, PO278, BG279, BD280, hv, hfk, hlk, hsk, hNa, hNeg, hNpo, hNbg, hNbd, hq81, hq82, hq83, hq84, hq85, hq86⟩ | ⟨v87, ct288, EG289, PO290, BG291, BD292, hv, hfk, hlk, hsk, hNa, hNeg, hNpo, hNbg, hNbd, hq93, hq94, hq95, hq96, hq97, hq98⟩
        · cases hv
          have hcu := hfk.get hcu (by decide)
          have hsd := hfk.get hsd (by decide)
          have hse_ := hfk.get hse_ (by decide)
          have hstk := hfk.get hstk (by decide)
          have hq := hfk.get hq (by simp only [List.mem_cons, List.not_mem_nil, or_false]; omega)
          have hki := hfk.get hki (by simp only [List.mem_cons, List.not_mem_nil, or_false]; omega)
          have hne := hfk.get hne (by simp only [List.mem_cons, List.not_mem_nil, or_false]; omega)
          have hot := hfk.get hot (by simp only [List.mem_cons, List.not_mem_nil, or_false]; omega)
          have hra := hfk.get hra (by simp only [List.mem_cons, List.not_mem_nil, or_false]; omega)
          have hfr := hfr.tr hfk (by decide)
          have hlen := hlk.trans hlen
          have hsl := hsk.trans hsl
          have ha := hNa
          have heg := hNeg
          have hpo := hNpo
          have hbg := hNbg
          have hbd := hNbd
          change ab_W _ _ _ G74 160 [some (vR a), some (vz s_), some (vz sg), some (vz ct), none, none] [vz v75] _
          refine ab_istore d_ST_makeEdge_160 (Nat.le_of_ble_eq_true rfl) (Nat.le_of_ble_eq_true rfl) rfl ?_
          change ab_W _ _ _ G74 162 [some (vR a), some (vz s_), some (vz sg), some (vz ct), some (vz v75), none] [] _
          refine zz_iconst d_ST_makeEdge_162 ?_
          refine ab_iload d_ST_makeEdge_163 rfl ?_
          refine zz_iconst d_ST_makeEdge_165 ?_
          refine zz_iadd d_ST_makeEdge_166 ?_
          refine zz_imul d_ST_makeEdge_167 ?_
          refine ab_aload_n d_ST_makeEdge_168 rfl ?_
          refine ab_getf (fs := [vz mst, vR q, vz vr, vz ro, vR cu, vz cn, vR eg, vR po, vR bg, vR bd, vz ct276, vR sd, vz sc262, vR se_, vz (sta + 1), vR stk, vz ar264, vj st263]) f_ST_148 d_ST_makeEdge_169 ha.2.2 rfl ?_
          refine zz_if_eq (tgt := 179) d_ST_makeEdge_172 (by decide) (by omega) (fun c99 => ?_) (fun c99 => ?_)
          · refine zz_iconst d_ST_makeEdge_179 ?_
            refine zz_iadd d_ST_makeEdge_180 ?_
            refine ab_istore d_ST_makeEdge_181 (Nat.le_of_ble_eq_true rfl) (Nat.le_of_ble_eq_true rfl) rfl ?_
            change ab_W _ _ _ G74 183 [some (vR a), some (vz s_), some (vz sg), some (vz ct), some (vz v75), some (vz ((2 * (v75 + 1)) + 0))] [] _
            refine ab_aload_n d_ST_makeEdge_183 rfl ?_
            refine ab_getf (fs := [vz mst, vR q, vz vr, vz ro, vR cu, vz cn, vR eg, vR po, vR bg, vR bd, vz ct276, vR sd, vz sc262, vR se_, vz (sta + 1), vR stk, vz ar264, vj st263]) f_ST_40 d_ST_makeEdge_184 ha.2.2 rfl ?_
            refine ab_iload_n d_ST_makeEdge_187 rfl ?_
            refine zz_icmp_lt (tgt := 208) d_ST_makeEdge_188 (by decide) (by omega) (by omega) (fun c100 => absurd c100 (by omega)) (fun c100 => ?_)
            refine ab_aload_n d_ST_makeEdge_191 rfl ?_
            refine ab_getf (fs := [vz mst, vR q, vz vr, vz ro, vR cu, vz cn, vR eg, vR po, vR bg, vR bd, vz ct276, vR sd, vz sc262, vR se_, vz (sta + 1), vR stk, vz ar264, vj st263]) f_ST_19 d_ST_makeEdge_192 ha.2.2 rfl ?_
            refine ab_iload_n d_ST_makeEdge_195 rfl ?_
            refine ab_aload_n d_ST_makeEdge_196 rfl ?_
            refine ab_getf (fs := [vz mst, vR q, vz vr, vz ro, vR cu, vz cn, vR eg, vR po, vR bg, vR bd, vz ct276, vR sd, vz sc262, vR se_, vz (sta + 1), vR stk, vz ar264, vj st263]) f_ST_63 d_ST_makeEdge_197 ha.2.2 rfl ?_
            refine zz_iconst d_ST_makeEdge_200 ?_
            refine zz_iadd d_ST_makeEdge_201 ?_
            refine zz_imul d_ST_makeEdge_202 ?_
            obtain ⟨v101, hv101⟩ : ∃ z : Int, z = s_ * (cn + 5) := ⟨_, rfl⟩
            rw [← hv101]
            have hv101b := z_mulb (a := s_) (b := (cn + 5)) (A := 64) (B := 125) (by omega) (by omega)
            rw [← hv101] at hv101b
            change ab_W _ _ _ G74 203 [some (vR a), some (vz s_), some (vz sg), some (vz ct), some (vz v75), some (vz ((2 * (v75 + 1)) + 0))] [vz v101, vR eg] _
            have hm3 : (s_ + 1) * (cn + 5) ≤ 64 * 125 := Int.mul_le_mul (by omega) (by omega) (by omega) (by omega)
            have hm4 : (s_ + 1) * (cn + 5) = s_ * (cn + 5) + (cn + 5) := by rw [Int.add_mul, Int.one_mul]
            refine ab_iload_n d_ST_makeEdge_203 rfl ?_
            refine zz_iadd d_ST_makeEdge_204 ?_
            refine ab_iload d_ST_makeEdge_205 rfl ?_
            refine zz_iast d_ST_makeEdge_207 heg (by omega) (heg.2.1 (by decide)) ?_
            obtain ⟨G102, eG102⟩ : ∃ z : ab_G, z = List.set G74 eg (za 8000 (zu EG277 (v101 + sg) ((2 * (v75 + 1)) + 0))) := ⟨_, rfl⟩
            have ha := ha.keep heg eG102 (by decide)
            have hcu := hcu.keep heg eG102 (by decide)
            have hsd := hsd.keep heg eG102 (by decide)
            have hse_ := hse_.keep heg eG102 (by decide)
            have hstk := hstk.keep heg eG102 (by decide)
            have hpo := hpo.keep heg eG102 (by decide)
            have hbg := hbg.keep heg eG102 (by decide)
            have hbd := hbd.keep heg eG102 (by decide)
            have hq := hq.keep heg eG102 (by omega)
            have hki := hki.keep heg eG102 (by omega)
            have hne := hne.keep heg eG102 (by omega)
            have hot := hot.keep heg eG102 (by omega)
            have hra := hra.keep heg eG102 (by omega)
            have hlen := (z_len eG102).trans hlen
            have hsl := (z_sl heg eG102 rfl).trans hsl
            have hfr := hfr.wr heg eG102 (by decide)
            have heg := heg.kept eG102
            change ab_W _ _ _ (List.set G74 eg (za 8000 (zu EG277 (v101 + sg) ((2 * (v75 + 1)) + 0)))) 208 [some (vR a), some (vz s_), some (vz sg), some (vz ct), some (vz v75), some (vz ((2 * (v75 + 1)) + 0))] [] _
            rw [← eG102]
            refine ab_iload d_ST_makeEdge_208 rfl ?_
            refine zz_iret rfl d_ST_makeEdge_210 ?_
            rw [hQ]; exact ⟨_, _, _, _, _, _, _, _, _, _, _, _, _, rfl, hfr, hlen, hsl, ha, heg, hpo, hbg, hbd, hsd, hse_, hstk, (by omega), (by exact hq82), (by exact hq83), (by exact ego_set (s0 := s_) (t0 := sg) hq84 (by rw [hv101]) (by omega)), (by exact hq85), (by omega)⟩
          · refine zz_iconst d_ST_makeEdge_175 ?_
            refine ab_goto (tgt := 180) d_ST_makeEdge_176 (by decide) ?_
            refine zz_iadd d_ST_makeEdge_180 ?_
            refine ab_istore d_ST_makeEdge_181 (Nat.le_of_ble_eq_true rfl) (Nat.le_of_ble_eq_true rfl) rfl ?_
            change ab_W _ _ _ G74 183 [some (vR a), some (vz s_), some (vz sg), some (vz ct), some (vz v75), some (vz ((2 * (v75 + 1)) + 1))] [] _
            refine ab_aload_n d_ST_makeEdge_183 rfl ?_
            refine ab_getf (fs := [vz mst, vR q, vz vr, vz ro, vR cu, vz cn, vR eg, vR po, vR bg, vR bd, vz ct276, vR sd, vz sc262, vR se_, vz (sta + 1), vR stk, vz ar264, vj st263]) f_ST_40 d_ST_makeEdge_184 ha.2.2 rfl ?_
            refine ab_iload_n d_ST_makeEdge_187 rfl ?_
            refine zz_icmp_lt (tgt := 208) d_ST_makeEdge_188 (by decide) (by omega) (by omega) (fun c103 => absurd c103 (by omega)) (fun c103 => ?_)
            refine ab_aload_n d_ST_makeEdge_191 rfl ?_
            refine ab_getf (fs := [vz mst, vR q, vz vr, vz ro, vR cu, vz cn, vR eg, vR po, vR bg, vR bd, vz ct276, vR sd, vz sc262, vR se_, vz (sta + 1), vR stk, vz ar264, vj st263]) f_ST_19 d_ST_makeEdge_192 ha.2.2 rfl ?_
            refine ab_iload_n d_ST_makeEdge_195 rfl ?_
            refine ab_aload_n d_ST_makeEdge_196 rfl ?_
            refine ab_getf (fs := [vz mst, vR q, vz vr, vz ro, vR cu, vz cn, vR eg, vR po, vR bg, vR bd, vz ct276, vR sd, vz sc262, vR se_, vz (sta + 1), vR stk, vz ar264, vj st263]) f_ST_63 d_ST_makeEdge_197 ha.2.2 rfl ?_
            refine zz_iconst d_ST_makeEdge_200 ?_
            refine zz_iadd d_ST_makeEdge_201 ?_
            refine zz_imul d_ST_makeEdge_202 ?_
            obtain ⟨v104, hv104⟩ : ∃ z : Int, z = s_ * (cn + 5) := ⟨_, rfl⟩
            rw [← hv104]
            have hv104b := z_mulb (a := s_) (b := (cn + 5)) (A := 64) (B := 125) (by omega) (by omega)
            rw [← hv104] at hv104b
            change ab_W _ _ _ G74 203 [some (vR a), some (vz s_), some (vz sg), some (vz ct), some (vz v75), some (vz ((2 * (v75 + 1)) + 1))] [vz v104, vR eg] _
            have hm3 : (s_ + 1) * (cn + 5) ≤ 64 * 125 := Int.mul_le_mul (by omega) (by omega) (by omega) (by omega)
            have hm4 : (s_ + 1) * (cn + 5) = s_ * (cn + 5) + (cn + 5) := by rw [Int.add_mul, Int.one_mul]
            refine ab_iload_n d_ST_makeEdge_203 rfl ?_
            refine zz_iadd d_ST_makeEdge_204 ?_
            refine ab_iload d_ST_makeEdge_205 rfl ?_
            refine zz_iast d_ST_makeEdge_207 heg (by omega) (heg.2.1 (by decide)) ?_
            obtain ⟨G105, eG105⟩ : ∃ z : ab_G, z = List.set G74 eg (za 8000 (zu EG277 (v104 + sg) ((2 * (v75 + 1)) + 1))) := ⟨_, rfl⟩
            have ha := ha.keep heg eG105 (by decide)
            have hcu := hcu.keep heg eG105 (by decide)
            have hsd := hsd.keep heg eG105 (by decide)
            have hse_ := hse_.keep heg eG105 (by decide)
            have hstk := hstk.keep heg eG105 (by decide)
            have hpo := hpo.keep heg eG105 (by decide)
            have hbg := hbg.keep heg eG105 (by decide)
            have hbd := hbd.keep heg eG105 (by decide)
            have hq := hq.keep heg eG105 (by omega)
            have hki := hki.keep heg eG105 (by omega)
            have hne := hne.keep heg eG105 (by omega)
            have hot := hot.keep heg eG105 (by omega)
            have hra := hra.keep heg eG105 (by omega)
            have hlen := (z_len eG105).trans hlen
            have hsl := (z_sl heg eG105 rfl).trans hsl
            have hfr := hfr.wr heg eG105 (by decide)
            have heg := heg.kept eG105
            change ab_W _ _ _ (List.set G74 eg (za 8000 (zu EG277 (v104 + sg) ((2 * (v75 + 1)) + 1)))) 208 [some (vR a), some (vz s_), some (vz sg), some (vz ct), some (vz v75), some (vz ((2 * (v75 + 1)) + 1))] [] _
            rw [← eG105]
            refine ab_iload d_ST_makeEdge_208 rfl ?_
            refine zz_iret rfl d_ST_makeEdge_210 ?_
            rw [hQ]; exact ⟨_, _, _, _, _, _, _, _, _, _, _, _, _, rfl, hfr, hlen, hsl, ha, heg, hpo, hbg, hbd, hsd, hse_, hstk, (by omega), (by exact hq82), (by exact hq83), (by exact ego_set (s0 := s_) (t0 := sg) hq84 (by rw [hv104]) (by omega)), (by exact hq85), (by omega)⟩
        · cases hv
          have hcu := hfk.get hcu (by decide)
          have hsd := hfk.get hsd (by decide)
          have hse_ := hfk.get hse_ (by decide)
          have hstk := hfk.get hstk (by decide)
          have hq := hfk.get hq (by simp only [List.mem_cons, List.not_mem_nil, or_false]; omega)
          have hki := hfk.get hki (by simp only [List.mem_cons, List.not_mem_nil, or_false]; omega)
          have hne := hfk.get hne (by simp only [List.mem_cons, List.not_mem_nil, or_false]; omega)
          have hot := hfk.get hot (by simp only [List.mem_cons, List.not_mem_nil, or_false]; omega)
          have hra := hfk.get hra (by simp only [List.mem_cons, List.not_mem_nil, or_false]; omega)
          have hfr := hfr.tr hfk (by decide)
          have hlen := hlk.trans hlen
          have hsl := hsk.trans hsl
          have ha := hNa
          have heg := hNeg
          have hpo := hNpo
          have hbg := hNbg
          have hbd := hNbd
          change ab_W _ _ _ G74 160 [some (vR a), some (vz s_), some (vz sg), some (vz ct), none, none] [vz v87] _
          refine ab_istore d_ST_makeEdge_160 (Nat.le_of_ble_eq_true rfl) (Nat.le_of_ble_eq_true rfl) rfl ?_
          change ab_W _ _ _ G74 162 [some (vR a), some (vz s_), some (vz sg), some (vz ct), some (vz v87), none] [] _
          refine zz_iconst d_ST_makeEdge_162 ?_
          refine ab_iload d_ST_makeEdge_163 rfl ?_
          refine zz_iconst d_ST_makeEdge_165 ?_
          refine zz_iadd d_ST_makeEdge_166 ?_
          refine zz_imul d_ST_makeEdge_167 ?_
          refine ab_aload_n d_ST_makeEdge_168 rfl ?_
          refine ab_getf (fs := [vz mst, vR q, vz vr, vz ro, vR cu, vz cn, vR eg, vR po, vR bg, vR bd, vz ct288, vR sd, vz sc262, vR se_, vz (sta + 1), vR stk, vz ar264, vj st263]) f_ST_148 d_ST_makeEdge_169 ha.2.2 rfl ?_
          refine zz_if_eq (tgt := 179) d_ST_makeEdge_172 (by decide) (by omega) (fun c106 => ?_) (fun c106 => ?_)
          · refine zz_iconst d_ST_makeEdge_179 ?_
            refine zz_iadd d_ST_makeEdge_180 ?_
            refine ab_istore d_ST_makeEdge_181 (Nat.le_of_ble_eq_true rfl) (Nat.le_of_ble_eq_true rfl) rfl ?_
            change ab_W _ _ _ G74 183 [some (vR a), some (vz s_), some (vz sg), some (vz ct), some (vz v87), some (vz ((2 * (v87 + 1)) + 0))] [] _
            refine ab_aload_n d_ST_makeEdge_183 rfl ?_
            refine ab_getf (fs := [vz mst, vR q, vz vr, vz ro, vR cu, vz cn, vR eg, vR po, vR bg, vR bd, vz ct288, vR sd, vz sc262, vR se_, vz (sta + 1), vR stk, vz ar264, vj st263]) f_ST_40 d_ST_makeEdge_184 ha.2.2 rfl ?_
            refine ab_iload_n d_ST_makeEdge_187 rfl ?_
            refine zz_icmp_lt (tgt := 208) d_ST_makeEdge_188 (by decide) (by omega) (by omega) (fun c107 => ?_) (fun c107 => absurd c107 (by omega))
            refine ab_iload d_ST_makeEdge_208 rfl ?_
            refine zz_iret rfl d_ST_makeEdge_210 ?_
            rw [hQ]; exact ⟨_, _, _, _, _, _, _, _, _, _, _, _, _, rfl, hfr, hlen, hsl, ha, heg, hpo, hbg, hbd, hsd, hse_, hstk, (by omega), (by exact hq94), (by exact hq95), (by exact hq96), (by exact hq97), (by omega)⟩
          · refine zz_iconst d_ST_makeEdge_175 ?_
            refine ab_goto (tgt := 180) d_ST_makeEdge_176 (by decide) ?_
            refine zz_iadd d_ST_makeEdge_180 ?_
            refine ab_istore d_ST_makeEdge_181 (Nat.le_of_ble_eq_true rfl) (Nat.le_of_ble_eq_true rfl) rfl ?_
            change ab_W _ _ _ G74 183 [some (vR a), some (vz s_), some (vz sg), some (vz ct), some (vz v87), some (vz ((2 * (v87 + 1)) + 1))] [] _
            refine ab_aload_n d_ST_makeEdge_183 rfl ?_
            refine ab_getf (fs := [vz mst, vR q, vz vr, vz ro, vR cu, vz cn, vR eg, vR po, vR bg, vR bd, vz ct288, vR sd, vz sc262, vR se_, vz (sta + 1), vR stk, vz ar264, vj st263]) f_ST_40 d_ST_makeEdge_184 ha.2.2 rfl ?_
            refine ab_iload_n d_ST_makeEdge_187 rfl ?_
            refine zz_icmp_lt (tgt := 208) d_ST_makeEdge_188 (by decide) (by omega) (by omega) (fun c108 => ?_) (fun c108 => absurd c108 (by omega))
            refine ab_iload d_ST_makeEdge_208 rfl ?_
            refine zz_iret rfl d_ST_makeEdge_210 ?_
            rw [hQ]; exact ⟨_, _, _, _, _, _, _, _, _, _, _, _, _, rfl, hfr, hlen, hsl, ha, heg, hpo, hbg, hbd, hsd, hse_, hstk, (by omega), (by exact hq94), (by exact hq95), (by exact hq96), (by exact hq97), (by omega)⟩
      · refine ab_iload_n d_ST_makeEdge_147 rfl ?_
        refine ab_goto (tgt := 160) d_ST_makeEdge_148 (by decide) ?_
        refine ab_istore d_ST_makeEdge_160 (Nat.le_of_ble_eq_true rfl) (Nat.le_of_ble_eq_true rfl) rfl ?_
        change ab_W _ _ _ G61 162 [some (vR a), some (vz s_), some (vz sg), some (vz ct), some (vz s_), none] [] _
        refine zz_iconst d_ST_makeEdge_162 ?_
        refine ab_iload d_ST_makeEdge_163 rfl ?_
        refine zz_iconst d_ST_makeEdge_165 ?_
        refine zz_iadd d_ST_makeEdge_166 ?_
        refine zz_imul d_ST_makeEdge_167 ?_
        refine ab_aload_n d_ST_makeEdge_168 rfl ?_
        refine ab_getf (fs := [vz mst, vR q, vz vr, vz ro, vR cu, vz cn, vR eg, vR po, vR bg, vR bd, vz ct, vR sd, vz sc262, vR se_, vz (sta + 1), vR stk, vz ar264, vj st263]) f_ST_148 d_ST_makeEdge_169 ha.2.2 rfl ?_
        refine zz_if_eq (tgt := 179) d_ST_makeEdge_172 (by decide) (by omega) (fun c109 => ?_) (fun c109 => ?_)
        · refine zz_iconst d_ST_makeEdge_179 ?_
          refine zz_iadd d_ST_makeEdge_180 ?_
          refine ab_istore d_ST_makeEdge_181 (Nat.le_of_ble_eq_true rfl) (Nat.le_of_ble_eq_true rfl) rfl ?_
          change ab_W _ _ _ G61 183 [some (vR a), some (vz s_), some (vz sg), some (vz ct), some (vz s_), some (vz ((2 * (s_ + 1)) + 0))] [] _
          refine ab_aload_n d_ST_makeEdge_183 rfl ?_
          refine ab_getf (fs := [vz mst, vR q, vz vr, vz ro, vR cu, vz cn, vR eg, vR po, vR bg, vR bd, vz ct, vR sd, vz sc262, vR se_, vz (sta + 1), vR stk, vz ar264, vj st263]) f_ST_40 d_ST_makeEdge_184 ha.2.2 rfl ?_
          refine ab_iload_n d_ST_makeEdge_187 rfl ?_
          refine zz_icmp_lt (tgt := 208) d_ST_makeEdge_188 (by decide) (by omega) (by omega) (fun c110 => absurd c110 (by omega)) (fun c110 => ?_)
          refine ab_aload_n d_ST_makeEdge_191 rfl ?_
          refine ab_getf (fs := [vz mst, vR q, vz vr, vz ro, vR cu, vz cn, vR eg, vR po, vR bg, vR bd, vz ct, vR sd, vz sc262, vR se_, vz (sta + 1), vR stk, vz ar264, vj st263]) f_ST_19 d_ST_makeEdge_192 ha.2.2 rfl ?_
          refine ab_iload_n d_ST_makeEdge_195 rfl ?_
          refine ab_aload_n d_ST_makeEdge_196 rfl ?_
          refine ab_getf (fs := [vz mst, vR q, vz vr, vz ro, vR cu, vz cn, vR eg, vR po, vR bg, vR bd, vz ct, vR sd, vz sc262, vR se_, vz (sta + 1), vR stk, vz ar264, vj st263]) f_ST_63 d_ST_makeEdge_197 ha.2.2 rfl ?_
          refine zz_iconst d_ST_makeEdge_200 ?_
          refine zz_iadd d_ST_makeEdge_201 ?_
          refine zz_imul d_ST_makeEdge_202 ?_
          obtain ⟨v111, hv111⟩ : ∃ z : Int, z = s_ * (cn + 5) := ⟨_, rfl⟩
          rw [← hv111]
          have hv111b := z_mulb (a := s_) (b := (cn + 5)) (A := 64) (B := 125) (by omega) (by omega)
          rw [← hv111] at hv111b
          change ab_W _ _ _ G61 203 [some (vR a), some (vz s_), some (vz sg), some (vz ct), some (vz s_), some (vz ((2 * (s_ + 1)) + 0))] [vz v111, vR eg] _
          have hm3 : (s_ + 1) * (cn + 5) ≤ 64 * 125 := Int.mul_le_mul (by omega) (by omega) (by omega) (by omega)
          have hm4 : (s_ + 1) * (cn + 5) = s_ * (cn + 5) + (cn + 5) := by rw [Int.add_mul, Int.one_mul]
          refine ab_iload_n d_ST_makeEdge_203 rfl ?_
          refine zz_iadd d_ST_makeEdge_204 ?_
          refine ab_iload d_ST_makeEdge_205 rfl ?_
          refine zz_iast d_ST_makeEdge_207 heg (by omega) (heg.2.1 (by decide)) ?_
          obtain ⟨G112, eG112⟩ : ∃ z : ab_G, z = List.set G61 eg (za 8000 (zu EG (v111 + sg) ((2 * (s_ + 1)) + 0))) := ⟨_, rfl⟩
          have ha := ha.keep heg eG112 (by decide)
          have hcu := hcu.keep heg eG112 (by decide)
          have hsd := hsd.keep heg eG112 (by decide)
          have hse_ := hse_.keep heg eG112 (by decide)
          have hstk := hstk.keep heg eG112 (by decide)
          have hpo := hpo.keep heg eG112 (by decide)
          have hbg := hbg.keep heg eG112 (by decide)
          have hbd := hbd.keep heg eG112 (by decide)
          have hq := hq.keep heg eG112 (by omega)
          have hki := hki.keep heg eG112 (by omega)
          have hne := hne.keep heg eG112 (by omega)
          have hot := hot.keep heg eG112 (by omega)
          have hra := hra.keep heg eG112 (by omega)
          have hlen := (z_len eG112).trans hlen
          have hsl := (z_sl heg eG112 rfl).trans hsl
          have hfr := hfr.wr heg eG112 (by decide)
          have heg := heg.kept eG112
          change ab_W _ _ _ (List.set G61 eg (za 8000 (zu EG (v111 + sg) ((2 * (s_ + 1)) + 0)))) 208 [some (vR a), some (vz s_), some (vz sg), some (vz ct), some (vz s_), some (vz ((2 * (s_ + 1)) + 0))] [] _
          rw [← eG112]
          refine ab_iload d_ST_makeEdge_208 rfl ?_
          refine zz_iret rfl d_ST_makeEdge_210 ?_
          rw [hQ]; exact ⟨_, _, _, _, _, _, _, _, _, _, _, _, _, rfl, hfr, hlen, hsl, ha, heg, hpo, hbg, hbd, hsd, hse_, hstk, (by omega), (by exact jbg), (by exact jpo), (by exact ego_set (s0 := s_) (t0 := sg) jeg (by rw [hv111]) (by omega)), (by exact jbd), (by omega)⟩
        · refine zz_iconst d_ST_makeEdge_175 ?_
          refine ab_goto (tgt := 180) d_ST_makeEdge_176 (by decide) ?_
          refine zz_iadd d_ST_makeEdge_180 ?_
          refine ab_istore d_ST_makeEdge_181 (Nat.le_of_ble_eq_true rfl) (Nat.le_of_ble_eq_true rfl) rfl ?_
          change ab_W _ _ _ G61 183 [some (vR a), some (vz s_), some (vz sg), some (vz ct), some (vz s_), some (vz ((2 * (s_ + 1)) + 1))] [] _
          refine ab_aload_n d_ST_makeEdge_183 rfl ?_
          refine ab_getf (fs := [vz mst, vR q, vz vr, vz ro, vR cu, vz cn, vR eg, vR po, vR bg, vR bd, vz ct, vR sd, vz sc262, vR se_, vz (sta + 1), vR stk, vz ar264, vj st263]) f_ST_40 d_ST_makeEdge_184 ha.2.2 rfl ?_
          refine ab_iload_n d_ST_makeEdge_187 rfl ?_
          refine zz_icmp_lt (tgt := 208) d_ST_makeEdge_188 (by decide) (by omega) (by omega) (fun c113 => absurd c113 (by omega)) (fun c113 => ?_)
          refine ab_aload_n d_ST_makeEdge_191 rfl ?_
          refine ab_getf (fs := [vz mst, vR q, vz vr, vz ro, vR cu, vz cn, vR eg, vR po, vR bg, vR bd, vz ct, vR sd, vz sc262, vR se_, vz (sta + 1), vR stk, vz ar264, vj st263]) f_ST_19 d_ST_makeEdge_192 ha.2.2 rfl ?_
          refine ab_iload_n d_ST_makeEdge_195 rfl ?_
          refine ab_aload_n d_ST_makeEdge_196 rfl ?_
          refine ab_getf (fs := [vz mst, vR q, vz vr, vz ro, vR cu, vz cn, vR eg, vR po, vR bg, vR bd, vz ct, vR sd, vz sc262, vR se_, vz (sta + 1), vR stk, vz ar264, vj st263]) f_ST_63 d_ST_makeEdge_197 ha.2.2 rfl ?_
          refine zz_iconst d_ST_makeEdge_200 ?_
          refine zz_iadd d_ST_makeEdge_201 ?_
          refine zz_imul d_ST_makeEdge_202 ?_
          obtain ⟨v114, hv114⟩ : ∃ z : Int, z = s_ * (cn + 5) := ⟨_, rfl⟩
          rw [← hv114]
          have hv114b := z_mulb (a := s_) (b := (cn + 5)) (A := 64) (B := 125) (by omega) (by omega)
          rw [← hv114] at hv114b
          change ab_W _ _ _ G61 203 [some (vR a), some (vz s_), some (vz sg), some (vz ct), some (vz s_), some (vz ((2 * (s_ + 1)) + 1))] [vz v114, vR eg] _
          have hm3 : (s_ + 1) * (cn + 5) ≤ 64 * 125 := Int.mul_le_mul (by omega) (by omega) (by omega) (by omega)
          have hm4 : (s_ + 1) * (cn + 5) = s_ * (cn + 5) + (cn + 5) := by rw [Int.add_mul, Int.one_mul]
          refine ab_iload_n d_ST_makeEdge_203 rfl ?_
          refine zz_iadd d_ST_makeEdge_204 ?_
          refine ab_iload d_ST_makeEdge_205 rfl ?_
          refine zz_iast d_ST_makeEdge_207 heg (by omega) (heg.2.1 (by decide)) ?_
          obtain ⟨G115, eG115⟩ : ∃ z : ab_G, z = List.set G61 eg (za 8000 (zu EG (v114 + sg) ((2 * (s_ + 1)) + 1))) := ⟨_, rfl⟩
          have ha := ha.keep heg eG115 (by decide)
          have hcu := hcu.keep heg eG115 (by decide)
          have hsd := hsd.keep heg eG115 (by decide)
          have hse_ := hse_.keep heg eG115 (by decide)
          have hstk := hstk.keep heg eG115 (by decide)
          have hpo := hpo.keep heg eG115 (by decide)
          have hbg := hbg.keep heg eG115 (by decide)
          have hbd := hbd.keep heg eG115 (by decide)
          have hq := hq.keep heg eG115 (by omega)
          have hki := hki.keep heg eG115 (by omega)
          have hne := hne.keep heg eG115 (by omega)
          have hot := hot.keep heg eG115 (by omega)
          have hra := hra.keep heg eG115 (by omega)
          have hlen := (z_len eG115).trans hlen
          have hsl := (z_sl heg eG115 rfl).trans hsl
          have hfr := hfr.wr heg eG115 (by decide)
          have heg := heg.kept eG115
          change ab_W _ _ _ (List.set G61 eg (za 8000 (zu EG (v114 + sg) ((2 * (s_ + 1)) + 1)))) 208 [some (vR a), some (vz s_), some (vz sg), some (vz ct), some (vz s_), some (vz ((2 * (s_ + 1)) + 1))] [] _
          rw [← eG115]
          refine ab_iload d_ST_makeEdge_208 rfl ?_
          refine zz_iret rfl d_ST_makeEdge_210 ?_
          rw [hQ]; exact ⟨_, _, _, _, _, _, _, _, _, _, _, _, _, rfl, hfr, hlen, hsl, ha, heg, hpo, hbg, hbd, hsd, hse_, hstk, (by omega), (by exact jbg), (by exact jpo), (by exact ego_set (s0 := s_) (t0 := sg) jeg (by rw [hv114]) (by omega)), (by exact jbd), (by omega)⟩
