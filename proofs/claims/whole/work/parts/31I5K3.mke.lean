set_option maxRecDepth 100000 in
set_option maxHeartbeats 4000000 in
theorem z_ST_signAt {X : ab_X} {d : Nat} {o : Nat → Nat} {G : ab_G} {a : Nat} {cu : Nat} {eg : Nat} {po : Nat} {bg : Nat} {bd : Nat} {sd : Nat} {se_ : Nat} {stk : Nat} {mst : Int} {q0 : Value} {vr : Int} {ro : Int} {cn : Int} {ct : Int} {sc : Int} {sta : Int} {arv : Int} {stp : Int} {CU : Int → Int} {s : Nat} {by_ : Nat} {co : Nat} {re : Nat} {ho : Nat} {n : Int} {f : Int → Int} {C : Int → Int} {Rs : Int → Int} {H : Int → Int} {m : Nat} {mc : Nat} {p : Int} (ha : cc o G a 60 (ab_ob 8 [vz mst, q0, vz vr, vz ro, vR cu, vz cn, vR eg, vR po, vR bg, vR bd, vz ct, vR sd, vz sc, vR se_, vz sta, vR stk, vz arv, vj stp])) (hcu : cc o G cu 61 (za 120 CU)) (hs : cc o G s 26 (ab_ob 9 [vR by_, vR co, vR re, vR ho, vz n])) (hco : cc o G co 28 (za mc C)) (hre : cc o G re 29 (za mc Rs)) (cc0 : 0 ≤ cn ∧ cn ≤ 120) (jcu : rgs CU 120 0 1114112) (csu : 0 ≤ n ∧ n ≤ ↑m ∧ 32 ≤ m ∧ m ≤ 2000 ∧ mc = m + 1) (hsu : suok f C Rs H n) (cp : 0 ≤ p ∧ p ≤ n) (jcs : cuS CU cn) (jcf : cuF CU cn) (hd : 1 ≤ d) : ab_F X d y_ST_signAt (.code y_ST_signAt b_ST_signAt 4 (some (.int))) [vR a, vR s, vz p] G (fun oc G2 => ∃ v : Int, oc = .returned (some (vz v)) ∧ fx o o [] G G2 ∧ G2.length = G.length ∧ ab_slots G2 = ab_slots G ∧ (0 ≤ v ∧ v ≤ cn + 4) ∧ (sgR CU cn C Rs n p v (cdG CU v))) := by
  refine ab_F_of (by decide +kernel) (Nat.le_of_ble_eq_true rfl) ?_
  obtain ⟨Q, hQ⟩ : ∃ z : Outcome → ab_G → Prop, z = (fun oc G2 => ∃ v : Int, oc = .returned (some (vz v)) ∧ fx o o [] G G2 ∧ G2.length = G.length ∧ ab_slots G2 = ab_slots G ∧ (0 ≤ v ∧ v ≤ cn + 4) ∧ (sgR CU cn C Rs n p v (cdG CU v))) := ⟨_, rfl⟩
  rw [← hQ]
  change ab_W X (ab_pl y_ST_signAt b_ST_signAt 4 (some (.int))) d G 0 [some (vR a), some (vR s), some (vz p), none] [] Q
  have hfr : fx o o [] G G := fx.rf
  have hlen : G.length = G.length := rfl
  have hsl : ab_slots G = ab_slots G := rfl
  refine ab_iload_n d_ST_signAt_0 rfl ?_
  refine ab_aload_n d_ST_signAt_1 rfl ?_
  refine ab_getf (fs := [vR by_, vR co, vR re, vR ho, vz n]) f_ST_51 d_ST_signAt_2 hs.2.2 rfl ?_
  refine zz_icmp_lt (tgt := 10) d_ST_signAt_5 (by decide) (by omega) (by omega) (fun c1 => ?_) (fun c1 => ?_)
  · refine ab_aload_n d_ST_signAt_10 rfl ?_
    refine ab_getf (fs := [vR by_, vR co, vR re, vR ho, vz n]) f_ST_117 d_ST_signAt_11 hs.2.2 rfl ?_
    refine ab_iload_n d_ST_signAt_14 rfl ?_
    refine zz_iald d_ST_signAt_15 hco (by omega) ?_
    have hq2 := hsu.c p (by omega) (by omega)
    refine ab_istore_n d_ST_signAt_16 (Nat.le_of_ble_eq_true rfl) (Nat.le_of_ble_eq_true rfl) rfl ?_
    change ab_W _ _ _ G 17 [some (vR a), some (vR s), some (vz p), some (vz (C p))] [] _
    refine ab_iload_n d_ST_signAt_17 rfl ?_
    refine zz_iconst d_ST_signAt_18 ?_
    refine zz_icmp_eq (tgt := 30) d_ST_signAt_19 (by decide) (by omega) (by decide) (fun c3 => ?_) (fun c3 => ?_)
    · refine ab_aload_n d_ST_signAt_30 rfl ?_
      refine ab_getf (fs := [vR by_, vR co, vR re, vR ho, vz n]) f_ST_120 d_ST_signAt_31 hs.2.2 rfl ?_
      refine ab_iload_n d_ST_signAt_34 rfl ?_
      refine zz_iald d_ST_signAt_35 hre (by omega) ?_
      have hq4 := hsu.r p (by omega) (by omega)
      refine zz_if_le (tgt := 48) d_ST_signAt_36 (by decide) (by omega) (fun c5 => ?_) (fun c5 => ?_)
      · refine zz_iconst d_ST_signAt_48 ?_
        refine zz_iret rfl d_ST_signAt_49 ?_
        rw [hQ]; exact ⟨_, rfl, hfr, hlen, hsl, (by omega), (by first | exact sgR_e (by omega) | exact sgR_r (by omega) (by omega) (by omega) (by omega) | exact sgR_o (by omega) (by omega) (by omega))⟩
      · refine ab_aload_n d_ST_signAt_39 rfl ?_
        refine ab_getf (fs := [vR by_, vR co, vR re, vR ho, vz n]) f_ST_120 d_ST_signAt_40 hs.2.2 rfl ?_
        refine ab_iload_n d_ST_signAt_43 rfl ?_
        refine zz_iald d_ST_signAt_44 hre (by omega) ?_
        have hq6 := hsu.r p (by omega) (by omega)
        refine ab_goto (tgt := 49) d_ST_signAt_45 (by decide) ?_
        refine zz_iret rfl d_ST_signAt_49 ?_
        rw [hQ]; exact ⟨_, rfl, hfr, hlen, hsl, (by omega), (by first | exact sgR_e (by omega) | exact sgR_r (by omega) (by omega) (by omega) (by omega) | exact sgR_o (by omega) (by omega) (by omega))⟩
    · refine zz_iconst d_ST_signAt_22 ?_
      refine ab_aload_n d_ST_signAt_23 rfl ?_
      refine ab_iload_n d_ST_signAt_24 rfl ?_
      refine ab_callV (d' := d - 1) (as := [vz (C p)]) (st := [vz 5]) (r := _) (z_ST_lastCut (o := o) (a := a) (cu := cu) (eg := eg) (po := po) (bg := bg) (bd := bd) (sd := sd) (se_ := se_) (stk := stk) (mst := mst) (q0 := q0) (vr := vr) (ro := ro) (cn := cn) (ct := ct) (sc := sc) (sta := sta) (arv := arv) (stp := stp) (CU := CU) (c := (C p)) ha hcu (by omega) (by omega) jcu jcs) (fun oc G2 h => by rcases h with ⟨_, h, _⟩ <;> exact ⟨_, h⟩) (by omega) m_ST_lastCut ml_ST_107 im_ST_lastCut se_ST_lastCut c_ST ha.2.2 (Nat.le_of_ble_eq_true rfl) d_ST_signAt_25 rfl ?_
      intro v G7 hq
      rcases hq with ⟨v8, hv, hfk, hlk, hsk, hq9, hq10⟩
      cases hv
      have ha := hfk.get ha (by decide)
      have hcu := hfk.get hcu (by decide)
      have hs := hfk.get hs (by decide)
      have hco := hfk.get hco (by decide)
      have hre := hfk.get hre (by decide)
      have hfr := hfr.tr hfk (by decide)
      have hlen := hlk.trans hlen
      have hsl := hsk.trans hsl
      change ab_W _ _ _ G7 28 [some (vR a), some (vR s), some (vz p), some (vz (C p))] [vz v8, vz 5] _
      refine zz_iadd d_ST_signAt_28 ?_
      refine zz_iret rfl d_ST_signAt_29 ?_
      rw [hQ]; exact ⟨_, rfl, hfr, hlen, hsl, (by have t_ := (cuL_at jcf hq10 (by omega)).1; omega), (by exact sgR_c jcf hq10 (by omega) (by omega))⟩
  · refine zz_iconst d_ST_signAt_8 ?_
    refine zz_iret rfl d_ST_signAt_9 ?_
    rw [hQ]; exact ⟨_, rfl, hfr, hlen, hsl, (by omega), (by first | exact sgR_e (by omega) | exact sgR_r (by omega) (by omega) (by omega) (by omega) | exact sgR_o (by omega) (by omega) (by omega))⟩
set_option maxRecDepth 100000 in
set_option maxHeartbeats 4000000 in
theorem z_ST_firstState {X : ab_X} {d : Nat} {o : Nat → Nat} {G : ab_G} {a : Nat} {cu : Nat} {eg : Nat} {po : Nat} {bg : Nat} {bd : Nat} {sd : Nat} {se_ : Nat} {stk : Nat} {mst : Int} {vr : Int} {ro : Int} {cn : Int} {ct : Int} {sc : Int} {sta : Int} {arv : Int} {stp : Int} {CU : Int → Int} {EG : Int → Int} {PO : Int → Int} {BG : Int → Int} {BD : Int → Int} {SD : Int → Int} {SE : Int → Int} {q : Nat} {lq : Nat} {ki : Nat} {ne : Nat} {ot : Nat} {cnt : Int} {fi : Int} {la : Int} {ra : Nat} {ru : Int} {gr : Int} {wi : Int} {sz : Int} {fl : Int} {ve : Int} {mi : Int} {na : Nat} {nl : Nat} {nr : Nat} {s : Nat} {by_ : Nat} {co : Nat} {re : Nat} {ho : Nat} {n : Int} {f : Int → Int} {m : Nat} {mc : Nat} {KT : Int → Int} {NT : Int → Int} {OT : Int → Int} {RT : Int → Int} {p : Int} (ha : cc o G a 60 (ab_ob 8 [vz mst, vR q, vz vr, vz ro, vR cu, vz cn, vR eg, vR po, vR bg, vR bd, vz ct, vR sd, vz sc, vR se_, vz sta, vR stk, vz arv, vj stp])) (heg : cc o G eg 62 (za 8000 EG)) (hpo : cc o G po 63 (za 8192 PO)) (hbg : cc o G bg 64 (za 65 BG)) (hbd : cc o G bd 65 (za 64 BD)) (hsd : cc o G sd 66 (za 2048 SD)) (hse_ : cc o G se_ 67 (za 3072 SE)) (hq : cc o G q lq (ab_ob 5 [vR ki, vR ne, vR ot, vz cnt, vz fi, vz la, vR ra, vz ru, vz gr, vz wi, vz sz, vz fl, vz ve, vz mi, vR na, vR nl])) (hs : cc o G s 26 (ab_ob 9 [vR by_, vR co, vR re, vR ho, vz n])) (hby_ : cc o G by_ 27 (za m f)) (cc0 : 0 ≤ cn ∧ cn ≤ 120) (cms : 4 ≤ mst ∧ mst ≤ 64 ∧ 0 ≤ ct ∧ ct ≤ mst) (jbg : bgo BG ct) (jpo : ents PO (BG ct) cnt) (jbd : rgs BD 64 0 7) (jeg : ego EG ct (cn + 5)) (cq : 100 ≤ lq ∧ 0 ≤ cnt ∧ cnt ≤ 808 ∧ ↑nr ≤ (100000 : Int)) (cfi : 0 ≤ fi ∧ fi < cnt ∧ 0 ≤ la ∧ la ≤ 1) (cro : 0 ≤ ro ∧ ro ≤ 1) (csu : 0 ≤ n ∧ n ≤ ↑m ∧ 32 ≤ m ∧ m ≤ 2000 ∧ mc = m + 1) (hb : bytes f n) (cp : 0 ≤ p ∧ p ≤ n) (csta : 0 ≤ sta ∧ sta ≤ 1900000000) (jse : rgs SE 3072 0 sta) (jed : edO KT NT OT RT fi la ro CU PO BG BD EG cn ct) (hd : 3 ≤ d) : ab_F X d y_ST_firstState (.code y_ST_firstState b_ST_firstState 4 (some (.int))) [vR a, vR s, vz p] G (fun oc G2 => ∃ v : Int, ∃ ct2 : Int, ∃ sc2 : Int, ∃ sta2 : Int, ∃ EG2 : Int → Int, ∃ PO2 : Int → Int, ∃ BG2 : Int → Int, ∃ BD2 : Int → Int, ∃ SD2 : Int → Int, ∃ SE2 : Int → Int, oc = .returned (some (vz v)) ∧ fx o o [60, 62, 63, 64, 65, 66, 67] G G2 ∧ G2.length = G.length ∧ ab_slots G2 = ab_slots G ∧ cc o G2 a 60 (ab_ob 8 [vz mst, vR q, vz vr, vz ro, vR cu, vz cn, vR eg, vR po, vR bg, vR bd, vz ct2, vR sd, vz sc2, vR se_, vz sta2, vR stk, vz arv, vj stp]) ∧ cc o G2 eg 62 (za 8000 EG2) ∧ cc o G2 po 63 (za 8192 PO2) ∧ cc o G2 bg 64 (za 65 BG2) ∧ cc o G2 bd 65 (za 64 BD2) ∧ cc o G2 sd 66 (za 2048 SD2) ∧ cc o G2 se_ 67 (za 3072 SE2) ∧ (0 ≤ v ∧ v < ct2 ∧ ct2 ≤ mst) ∧ (bgo BG2 ct2) ∧ (ents PO2 (BG2 ct2) cnt) ∧ (ego EG2 ct2 (cn + 5)) ∧ (rgs BD2 64 0 7) ∧ (1 ≤ ct2 ∧ 0 ≤ sc2 ∧ sc2 ≤ 2048) ∧ (sta2 = sta + 1) ∧ (rgs SE2 3072 0 sta2) ∧ (edO KT NT OT RT fi la ro CU PO2 BG2 BD2 EG2 cn ct2) ∧ (fsR f n p fi la ro PO2 BG2 BD2 v)) := by
  refine ab_F_of (by decide +kernel) (Nat.le_of_ble_eq_true rfl) ?_
  obtain ⟨Q, hQ⟩ : ∃ z : Outcome → ab_G → Prop, z = (fun oc G2 => ∃ v : Int, ∃ ct2 : Int, ∃ sc2 : Int, ∃ sta2 : Int, ∃ EG2 : Int → Int, ∃ PO2 : Int → Int, ∃ BG2 : Int → Int, ∃ BD2 : Int → Int, ∃ SD2 : Int → Int, ∃ SE2 : Int → Int, oc = .returned (some (vz v)) ∧ fx o o [60, 62, 63, 64, 65, 66, 67] G G2 ∧ G2.length = G.length ∧ ab_slots G2 = ab_slots G ∧ cc o G2 a 60 (ab_ob 8 [vz mst, vR q, vz vr, vz ro, vR cu, vz cn, vR eg, vR po, vR bg, vR bd, vz ct2, vR sd, vz sc2, vR se_, vz sta2, vR stk, vz arv, vj stp]) ∧ cc o G2 eg 62 (za 8000 EG2) ∧ cc o G2 po 63 (za 8192 PO2) ∧ cc o G2 bg 64 (za 65 BG2) ∧ cc o G2 bd 65 (za 64 BD2) ∧ cc o G2 sd 66 (za 2048 SD2) ∧ cc o G2 se_ 67 (za 3072 SE2) ∧ (0 ≤ v ∧ v < ct2 ∧ ct2 ≤ mst) ∧ (bgo BG2 ct2) ∧ (ents PO2 (BG2 ct2) cnt) ∧ (ego EG2 ct2 (cn + 5)) ∧ (rgs BD2 64 0 7) ∧ (1 ≤ ct2 ∧ 0 ≤ sc2 ∧ sc2 ≤ 2048) ∧ (sta2 = sta + 1) ∧ (rgs SE2 3072 0 sta2) ∧ (edO KT NT OT RT fi la ro CU PO2 BG2 BD2 EG2 cn ct2) ∧ (fsR f n p fi la ro PO2 BG2 BD2 v)) := ⟨_, rfl⟩
  rw [← hQ]
  change ab_W X (ab_pl y_ST_firstState b_ST_firstState 4 (some (.int))) d G 0 [some (vR a), some (vR s), some (vz p), none] [] Q
  have hfr : fx o o [60, 62, 63, 64, 65, 66, 67] G G := fx.rf
  have hlen : G.length = G.length := rfl
  have hsl : ab_slots G = ab_slots G := rfl
  refine ab_aload_n d_ST_firstState_0 rfl ?_
  refine ab_dup d_ST_firstState_1 rfl ?_
  refine ab_getf (fs := [vz mst, vR q, vz vr, vz ro, vR cu, vz cn, vR eg, vR po, vR bg, vR bd, vz ct, vR sd, vz sc, vR se_, vz sta, vR stk, vz arv, vj stp]) f_ST_123 d_ST_firstState_2 ha.2.2 rfl ?_
  refine zz_iconst d_ST_firstState_5 ?_
  refine zz_iadd d_ST_firstState_6 ?_
  refine ab_putf (fs := [vz mst, vR q, vz vr, vz ro, vR cu, vz cn, vR eg, vR po, vR bg, vR bd, vz ct, vR sd, vz sc, vR se_, vz sta, vR stk, vz arv, vj stp]) f_ST_123 (Or.inl rfl) d_ST_firstState_7 ha.2.2 (Nat.le_of_ble_eq_true rfl) (fun _ => ⟨rfl, rfl⟩) (ha.2.1 (by decide)) ?_
  obtain ⟨G1, eG1⟩ : ∃ z : ab_G, z = List.set G a (ab_ob 8 [vz mst, vR q, vz vr, vz ro, vR cu, vz cn, vR eg, vR po, vR bg, vR bd, vz ct, vR sd, vz sc, vR se_, vz (sta + 1), vR stk, vz arv, vj stp]) := ⟨_, rfl⟩
  have heg := heg.keep ha eG1 (by decide)
  have hpo := hpo.keep ha eG1 (by decide)
  have hbg := hbg.keep ha eG1 (by decide)
  have hbd := hbd.keep ha eG1 (by decide)
  have hsd := hsd.keep ha eG1 (by decide)
  have hse_ := hse_.keep ha eG1 (by decide)
  have hq := hq.keep ha eG1 (by omega)
  have hs := hs.keep ha eG1 (by decide)
  have hby_ := hby_.keep ha eG1 (by decide)
  have hlen := (z_len eG1).trans hlen
  have hsl := (z_sl ha eG1 rfl).trans hsl
  have hfr := hfr.wr ha eG1 (by decide)
  have ha := ha.kept eG1
  change ab_W _ _ _ (List.set G a (ab_ob 8 [vz mst, vR q, vz vr, vz ro, vR cu, vz cn, vR eg, vR po, vR bg, vR bd, vz ct, vR sd, vz sc, vR se_, vz (sta + 1), vR stk, vz arv, vj stp])) 10 [some (vR a), some (vR s), some (vz p), none] [] _
  rw [← eG1]
  refine ab_aload_n d_ST_firstState_10 rfl ?_
  refine zz_iconst d_ST_firstState_11 ?_
  refine ab_putf (fs := [vz mst, vR q, vz vr, vz ro, vR cu, vz cn, vR eg, vR po, vR bg, vR bd, vz ct, vR sd, vz sc, vR se_, vz (sta + 1), vR stk, vz arv, vj stp]) f_ST_126 (Or.inl rfl) d_ST_firstState_12 ha.2.2 (Nat.le_of_ble_eq_true rfl) (fun _ => ⟨rfl, rfl⟩) (ha.2.1 (by decide)) ?_
  obtain ⟨G2, eG2⟩ : ∃ z : ab_G, z = List.set G1 a (ab_ob 8 [vz mst, vR q, vz vr, vz ro, vR cu, vz cn, vR eg, vR po, vR bg, vR bd, vz ct, vR sd, vz 0, vR se_, vz (sta + 1), vR stk, vz arv, vj stp]) := ⟨_, rfl⟩
  have heg := heg.keep ha eG2 (by decide)
  have hpo := hpo.keep ha eG2 (by decide)
  have hbg := hbg.keep ha eG2 (by decide)
  have hbd := hbd.keep ha eG2 (by decide)
  have hsd := hsd.keep ha eG2 (by decide)
  have hse_ := hse_.keep ha eG2 (by decide)
  have hq := hq.keep ha eG2 (by omega)
  have hs := hs.keep ha eG2 (by decide)
  have hby_ := hby_.keep ha eG2 (by decide)
  have hlen := (z_len eG2).trans hlen
  have hsl := (z_sl ha eG2 rfl).trans hsl
  have hfr := hfr.wr ha eG2 (by decide)
  have ha := ha.kept eG2
  change ab_W _ _ _ (List.set G1 a (ab_ob 8 [vz mst, vR q, vz vr, vz ro, vR cu, vz cn, vR eg, vR po, vR bg, vR bd, vz ct, vR sd, vz 0, vR se_, vz (sta + 1), vR stk, vz arv, vj stp])) 15 [some (vR a), some (vR s), some (vz p), none] [] _
  rw [← eG2]
  refine ab_aload_n d_ST_firstState_15 rfl ?_
  refine ab_getf (fs := [vz mst, vR q, vz vr, vz ro, vR cu, vz cn, vR eg, vR po, vR bg, vR bd, vz ct, vR sd, vz 0, vR se_, vz (sta + 1), vR stk, vz arv, vj stp]) f_ST_70 d_ST_firstState_16 ha.2.2 rfl ?_
  refine zz_if_ne (tgt := 33) d_ST_firstState_19 (by decide) (by omega) (fun c3 => ?_) (fun c3 => ?_)
  · refine ab_iload_n d_ST_firstState_33 rfl ?_
    refine zz_if_ne (tgt := 41) d_ST_firstState_34 (by decide) (by omega) (fun c4 => ?_) (fun c4 => ?_)
    · refine zz_iconst d_ST_firstState_41 ?_
      refine ab_istore_n d_ST_firstState_42 (Nat.le_of_ble_eq_true rfl) (Nat.le_of_ble_eq_true rfl) rfl ?_
      change ab_W _ _ _ G2 43 [some (vR a), some (vR s), some (vz p), some (vz 0)] [] _
      refine ab_iload_n d_ST_firstState_43 rfl ?_
      refine ab_aload_n d_ST_firstState_44 rfl ?_
      refine ab_iload_n d_ST_firstState_45 rfl ?_
      refine zz_iconst d_ST_firstState_46 ?_
      refine zz_isub d_ST_firstState_47 ?_
      refine ab_callV (d' := d - 1) (as := [vz (p - 1)]) (st := [vz 0]) (r := _) (z_SU_isLineFeed (o := o) (s := s) (ls := 26) (by_ := by_) (lby := 27) (m := m) (f := f) (n := n) (co := co) (re := re) (ho := ho) (p := (p - 1)) hs hby_ (by omega) hb) (fun oc G2 h => by rcases h with ⟨h, _⟩ | ⟨h, _⟩ <;> exact ⟨_, h⟩) (by omega) m_SU_isLineFeed ml_ST_135 im_SU_isLineFeed se_SU_isLineFeed c_SU hs.2.2 (Nat.le_of_ble_eq_true rfl) d_ST_firstState_48 rfl ?_
      intro v G5 hq
      rcases hq with ⟨hv, hGe, hq6⟩ | ⟨hv, hGe, hq7⟩
      · cases hv
        rw [hGe]
        change ab_W _ _ _ G2 51 [some (vR a), some (vR s), some (vz p), some (vz 0)] [vz 1, vz 0] _
        refine zz_if_eq (tgt := 58) d_ST_firstState_51 (by decide) (by decide) (fun c8 => absurd c8 (by decide)) (fun c8 => ?_)
        refine zz_iconst d_ST_firstState_54 ?_
        refine ab_goto (tgt := 59) d_ST_firstState_55 (by decide) ?_
        refine zz_iorL (r := 2) d_ST_firstState_59 (by decide) ?_
        refine ab_istore_n d_ST_firstState_60 (Nat.le_of_ble_eq_true rfl) (Nat.le_of_ble_eq_true rfl) rfl ?_
        change ab_W _ _ _ G2 61 [some (vR a), some (vR s), some (vz p), some (vz 2)] [] _
        refine ab_iload_n d_ST_firstState_61 rfl ?_
        refine ab_aload_n d_ST_firstState_62 rfl ?_
        refine ab_iload_n d_ST_firstState_63 rfl ?_
        refine zz_iconst d_ST_firstState_64 ?_
        refine zz_isub d_ST_firstState_65 ?_
        refine ab_callV (d' := d - 1) (as := [vz (p - 1)]) (st := [vz 2]) (r := _) (z_SU_isWordByte (o := o) (s := s) (ls := 26) (by_ := by_) (lby := 27) (m := m) (f := f) (n := n) (co := co) (re := re) (ho := ho) (p := (p - 1)) hs hby_ (by omega) hb (by omega)) (fun oc G2 h => by rcases h with ⟨h, _⟩ | ⟨h, _⟩ <;> exact ⟨_, h⟩) (by omega) m_SU_isWordByte ml_ST_139 im_SU_isWordByte se_SU_isWordByte c_SU hs.2.2 (Nat.le_of_ble_eq_true rfl) d_ST_firstState_66 rfl ?_
        intro v G9 hq
        rcases hq with ⟨hv, hGe, hq10⟩ | ⟨hv, hGe, hq11⟩
        · cases hv
          rw [hGe]
          change ab_W _ _ _ G2 69 [some (vR a), some (vR s), some (vz p), some (vz 2)] [vz 1, vz 2] _
          refine zz_if_eq (tgt := 76) d_ST_firstState_69 (by decide) (by decide) (fun c12 => absurd c12 (by decide)) (fun c12 => ?_)
          refine zz_iconst d_ST_firstState_72 ?_
          refine ab_goto (tgt := 77) d_ST_firstState_73 (by decide) ?_
          refine zz_iorL (r := 6) d_ST_firstState_77 (by decide) ?_
          refine ab_istore_n d_ST_firstState_78 (Nat.le_of_ble_eq_true rfl) (Nat.le_of_ble_eq_true rfl) rfl ?_
          change ab_W _ _ _ G2 79 [some (vR a), some (vR s), some (vz p), some (vz 6)] [] _
          refine ab_aload_n d_ST_firstState_79 rfl ?_
          refine ab_aload_n d_ST_firstState_80 rfl ?_
          refine ab_getf (fs := [vz mst, vR q, vz vr, vz ro, vR cu, vz cn, vR eg, vR po, vR bg, vR bd, vz ct, vR sd, vz 0, vR se_, vz (sta + 1), vR stk, vz arv, vj stp]) f_ST_74 d_ST_firstState_81 ha.2.2 rfl ?_
          refine ab_getf (fs := [vR ki, vR ne, vR ot, vz cnt, vz fi, vz la, vR ra, vz ru, vz gr, vz wi, vz sz, vz fl, vz ve, vz mi, vR na, vR nl]) f_ST_142 d_ST_firstState_84 hq.2.2 rfl ?_
          refine zz_if_eq (tgt := 94) d_ST_firstState_87 (by decide) (by omega) (fun c13 => ?_) (fun c13 => ?_)
          · refine zz_iconst d_ST_firstState_94 ?_
            refine ab_callV (d' := d - 1) (as := [vz 0]) (st := []) (r := _) (z_ST_keptState (o := o) (a := a) (cu := cu) (eg := eg) (po := po) (bg := bg) (bd := bd) (sd := sd) (se_ := se_) (stk := stk) (mst := mst) (q0 := vR q) (vr := vr) (ro := ro) (cn := cn) (ct := ct) (sc := 0) (sta := (sta + 1)) (arv := arv) (stp := stp) (EG := EG) (PO := PO) (BG := BG) (BD := BD) (SD := SD) (cnt := cnt) (ah := 0) ha heg hpo hbg hbd hsd (by omega) (by omega) (by omega) jbg jpo ents_0 (by omega) jbd jeg (by omega)) (fun oc G2 h => by rcases h with ⟨_, _, _, _, _, _, h, _⟩ | ⟨_, _, _, _, _, _, h, _⟩ <;> exact ⟨_, h⟩) (by omega) m_ST_keptState ml_ST_145 im_ST_keptState se_ST_keptState c_ST ha.2.2 (Nat.le_of_ble_eq_true rfl) d_ST_firstState_95 rfl ?_
            intro v G14 hq
            rcases hq with ⟨v15, ct216, EG217, PO218, BG219, BD220, hv, hfk, hlk, hsk, hNa, hNeg, hNpo, hNbg, hNbd, hq21, hq22, hq23, hq24, hq25, hq26, hq27⟩ | ⟨v28, ct229, EG230, PO231, BG232, BD233, hv, hfk, hlk, hsk, hNa, hNeg, hNpo, hNbg, hNbd, hq34, hq35, hq36, hq37, hq38, hq39, hq40⟩
            · cases hv
              have hsd := hfk.get hsd (by decide)
              have hse_ := hfk.get hse_ (by decide)
              have hq := hfk.get hq (by simp only [List.mem_cons, List.not_mem_nil, or_false]; omega)
              have hs := hfk.get hs (by decide)
              have hby_ := hfk.get hby_ (by decide)
              have hfr := hfr.tr hfk (by decide)
              have hlen := hlk.trans hlen
              have hsl := hsk.trans hsl
              have ha := hNa
              have heg := hNeg
              have hpo := hNpo
              have hbg := hNbg
              have hbd := hNbd
              change ab_W _ _ _ G14 98 [some (vR a), some (vR s), some (vz p), some (vz 6)] [vz v15] _
              refine zz_iret rfl d_ST_firstState_98 ?_
              rw [hQ]; exact ⟨_, _, _, _, _, _, _, _, _, _, rfl, hfr, hlen, hsl, ha, heg, hpo, hbg, hbd, hsd, hse_, (by omega), (by exact hq22), (by exact hq23), (by exact hq24), (by exact hq25), (by omega), (by rfl), (by exact (rgs_up jse (by omega))), (by exact edO_ks jed hq26), (by exact ⟨fun y => by rw [hq26.2.2.2 y]; exact ⟨fun ⟨i, i0, i1, _⟩ => by omega, fun q => by omega⟩, fun q => by omega⟩)⟩
            · cases hv
              have hsd := hfk.get hsd (by decide)
              have hse_ := hfk.get hse_ (by decide)
              have hq := hfk.get hq (by simp only [List.mem_cons, List.not_mem_nil, or_false]; omega)
              have hs := hfk.get hs (by decide)
              have hby_ := hfk.get hby_ (by decide)
              have hfr := hfr.tr hfk (by decide)
              have hlen := hlk.trans hlen
              have hsl := hsk.trans hsl
              have ha := hNa
              have heg := hNeg
              have hpo := hNpo
              have hbg := hNbg
              have hbd := hNbd
              change ab_W _ _ _ G14 98 [some (vR a), some (vR s), some (vz p), some (vz 6)] [vz v28] _
              refine zz_iret rfl d_ST_firstState_98 ?_
              rw [hQ]; exact ⟨_, _, _, _, _, _, _, _, _, _, rfl, hfr, hlen, hsl, ha, heg, hpo, hbg, hbd, hsd, hse_, (by omega), (by exact hq35), (by exact hq36), (by exact hq37), (by exact hq38), (by omega), (by rfl), (by exact (rgs_up jse (by omega))), (by exact edO_ks jed hq39), (by exact ⟨fun y => by rw [hq39.2.2.2 y]; exact ⟨fun ⟨i, i0, i1, _⟩ => by omega, fun q => by omega⟩, fun q => by omega⟩)⟩
          · refine ab_iload_n d_ST_firstState_90 rfl ?_
            refine ab_goto (tgt := 95) d_ST_firstState_91 (by decide) ?_
            refine ab_callV (d' := d - 1) (as := [vz 6]) (st := []) (r := _) (z_ST_keptState (o := o) (a := a) (cu := cu) (eg := eg) (po := po) (bg := bg) (bd := bd) (sd := sd) (se_ := se_) (stk := stk) (mst := mst) (q0 := vR q) (vr := vr) (ro := ro) (cn := cn) (ct := ct) (sc := 0) (sta := (sta + 1)) (arv := arv) (stp := stp) (EG := EG) (PO := PO) (BG := BG) (BD := BD) (SD := SD) (cnt := cnt) (ah := 6) ha heg hpo hbg hbd hsd (by omega) (by omega) (by omega) jbg jpo ents_0 (by omega) jbd jeg (by omega)) (fun oc G2 h => by rcases h with ⟨_, _, _, _, _, _, h, _⟩ | ⟨_, _, _, _, _, _, h, _⟩ <;> exact ⟨_, h⟩) (by omega) m_ST_keptState ml_ST_145 im_ST_keptState se_ST_keptState c_ST ha.2.2 (Nat.le_of_ble_eq_true rfl) d_ST_firstState_95 rfl ?_
            intro v G41 hq
            rcases hq with ⟨v42, ct243, EG244, PO245, BG246, BD247, hv, hfk, hlk, hsk, hNa, hNeg, hNpo, hNbg, hNbd, hq48, hq49, hq50, hq51, hq52, hq53, hq54⟩ | ⟨v55, ct256, EG257, PO258, BG259, BD260, hv, hfk, hlk, hsk, hNa, hNeg, hNpo, hNbg, hNbd, hq61, hq62, hq63, hq64, hq65, hq66, hq67⟩
            · cases hv
              have hsd := hfk.get hsd (by decide)
              have hse_ := hfk.get hse_ (by decide)
              have hq := hfk.get hq (by simp only [List.mem_cons, List.not_mem_nil, or_false]; omega)
              have hs := hfk.get hs (by decide)
              have hby_ := hfk.get hby_ (by decide)
              have hfr := hfr.tr hfk (by decide)
              have hlen := hlk.trans hlen
              have hsl := hsk.trans hsl
              have ha := hNa
              have heg := hNeg
              have hpo := hNpo
              have hbg := hNbg
              have hbd := hNbd
              change ab_W _ _ _ G41 98 [some (vR a), some (vR s), some (vz p), some (vz 6)] [vz v42] _
              refine zz_iret rfl d_ST_firstState_98 ?_
              rw [hQ]; exact ⟨_, _, _, _, _, _, _, _, _, _, rfl, hfr, hlen, hsl, ha, heg, hpo, hbg, hbd, hsd, hse_, (by omega), (by exact hq49), (by exact hq50), (by exact hq51), (by exact hq52), (by omega), (by rfl), (by exact (rgs_up jse (by omega))), (by exact edO_ks jed hq53), (by exact ⟨fun y => by rw [hq53.2.2.2 y]; exact ⟨fun ⟨i, i0, i1, _⟩ => by omega, fun q => by omega⟩, fun _ => by rw [hq53.2.2.1]; exact ⟨by omega, ⟨fun _ => hq6, fun _ => by decide⟩, ⟨fun _ => hq10, fun _ => by decide⟩⟩⟩)⟩
            · cases hv
              have hsd := hfk.get hsd (by decide)
              have hse_ := hfk.get hse_ (by decide)
              have hq := hfk.get hq (by simp only [List.mem_cons, List.not_mem_nil, or_false]; omega)
              have hs := hfk.get hs (by decide)
              have hby_ := hfk.get hby_ (by decide)
              have hfr := hfr.tr hfk (by decide)
              have hlen := hlk.trans hlen
              have hsl := hsk.trans hsl
              have ha := hNa
              have heg := hNeg
              have hpo := hNpo
              have hbg := hNbg
              have hbd := hNbd
              change ab_W _ _ _ G41 98 [some (vR a), some (vR s), some (vz p), some (vz 6)] [vz v55] _
              refine zz_iret rfl d_ST_firstState_98 ?_
              rw [hQ]; exact ⟨_, _, _, _, _, _, _, _, _, _, rfl, hfr, hlen, hsl, ha, heg, hpo, hbg, hbd, hsd, hse_, (by omega), (by exact hq62), (by exact hq63), (by exact hq64), (by exact hq65), (by omega), (by rfl), (by exact (rgs_up jse (by omega))), (by exact edO_ks jed hq66), (by exact ⟨fun y => by rw [hq66.2.2.2 y]; exact ⟨fun ⟨i, i0, i1, _⟩ => by omega, fun q => by omega⟩, fun _ => by rw [hq66.2.2.1]; exact ⟨by omega, ⟨fun _ => hq6, fun _ => by decide⟩, ⟨fun _ => hq10, fun _ => by decide⟩⟩⟩)⟩
        · cases hv
          rw [hGe]
          change ab_W _ _ _ G2 69 [some (vR a), some (vR s), some (vz p), some (vz 2)] [vz 0, vz 2] _
          refine zz_if_eq (tgt := 76) d_ST_firstState_69 (by decide) (by decide) (fun c68 => ?_) (fun c68 => absurd c68 (by decide))
          refine zz_iconst d_ST_firstState_76 ?_
          refine zz_iorL (r := 2) d_ST_firstState_77 (by decide) ?_
          refine ab_istore_n d_ST_firstState_78 (Nat.le_of_ble_eq_true rfl) (Nat.le_of_ble_eq_true rfl) rfl ?_
          change ab_W _ _ _ G2 79 [some (vR a), some (vR s), some (vz p), some (vz 2)] [] _
          refine ab_aload_n d_ST_firstState_79 rfl ?_
          refine ab_aload_n d_ST_firstState_80 rfl ?_
          refine ab_getf (fs := [vz mst, vR q, vz vr, vz ro, vR cu, vz cn, vR eg, vR po, vR bg, vR bd, vz ct, vR sd, vz 0, vR se_, vz (sta + 1), vR stk, vz arv, vj stp]) f_ST_74 d_ST_firstState_81 ha.2.2 rfl ?_
          refine ab_getf (fs := [vR ki, vR ne, vR ot, vz cnt, vz fi, vz la, vR ra, vz ru, vz gr, vz wi, vz sz, vz fl, vz ve, vz mi, vR na, vR nl]) f_ST_142 d_ST_firstState_84 hq.2.2 rfl ?_
          refine zz_if_eq (tgt := 94) d_ST_firstState_87 (by decide) (by omega) (fun c69 => ?_) (fun c69 => ?_)
          · refine zz_iconst d_ST_firstState_94 ?_
            refine ab_callV (d' := d - 1) (as := [vz 0]) (st := []) (r := _) (z_ST_keptState (o := o) (a := a) (cu := cu) (eg := eg) (po := po) (bg := bg) (bd := bd) (sd := sd) (se_ := se_) (stk := stk) (mst := mst) (q0 := vR q) (vr := vr) (ro := ro) (cn := cn) (ct := ct) (sc := 0) (sta := (sta + 1)) (arv := arv) (stp := stp) (EG := EG) (PO := PO) (BG := BG) (BD := BD) (SD := SD) (cnt := cnt) (ah := 0) ha heg hpo hbg hbd hsd (by omega) (by omega) (by omega) jbg jpo ents_0 (by omega) jbd jeg (by omega)) (fun oc G2 h => by rcases h with ⟨_, _, _, _, _, _, h, _⟩ | ⟨_, _, _, _, _, _, h, _⟩ <;> exact ⟨_, h⟩) (by omega) m_ST_keptState ml_ST_145 im_ST_keptState se_ST_keptState c_ST ha.2.2 (Nat.le_of_ble_eq_true rfl) d_ST_firstState_95 rfl ?_
            intro v G70 hq
            rcases hq with ⟨v71, ct272, EG273, PO274, BG275, BD276, hv, hfk, hlk, hsk, hNa, hNeg, hNpo, hNbg, hNbd, hq77, hq78, hq79, hq80, hq81, hq82, hq83⟩ | ⟨v84, ct285, EG286, PO287, BG288, BD289, hv, hfk, hlk, hsk, hNa, hNeg, hNpo, hNbg, hNbd, hq90, hq91, hq92, hq93, hq94, hq95, hq96⟩
            · cases hv
              have hsd := hfk.get hsd (by decide)
              have hse_ := hfk.get hse_ (by decide)
              have hq := hfk.get hq (by simp only [List.mem_cons, List.not_mem_nil, or_false]; omega)
              have hs := hfk.get hs (by decide)
              have hby_ := hfk.get hby_ (by decide)
              have hfr := hfr.tr hfk (by decide)
              have hlen := hlk.trans hlen
              have hsl := hsk.trans hsl
              have ha := hNa
              have heg := hNeg
              have hpo := hNpo
              have hbg := hNbg
              have hbd := hNbd
              change ab_W _ _ _ G70 98 [some (vR a), some (vR s), some (vz p), some (vz 2)] [vz v71] _
              refine zz_iret rfl d_ST_firstState_98 ?_
              rw [hQ]; exact ⟨_, _, _, _, _, _, _, _, _, _, rfl, hfr, hlen, hsl, ha, heg, hpo, hbg, hbd, hsd, hse_, (by omega), (by exact hq78), (by exact hq79), (by exact hq80), (by exact hq81), (by omega), (by rfl), (by exact (rgs_up jse (by omega))), (by exact edO_ks jed hq82), (by exact ⟨fun y => by rw [hq82.2.2.2 y]; exact ⟨fun ⟨i, i0, i1, _⟩ => by omega, fun q => by omega⟩, fun q => by omega⟩)⟩
            · cases hv
              have hsd := hfk.get hsd (by decide)
              have hse_ := hfk.get hse_ (by decide)
              have hq := hfk.get hq (by simp only [List.mem_cons, List.not_mem_nil, or_false]; omega)
              have hs := hfk.get hs (by decide)
              have hby_ := hfk.get hby_ (by decide)
              have hfr := hfr.tr hfk (by decide)
              have hlen := hlk.trans hlen
              have hsl := hsk.trans hsl
              have ha := hNa
              have heg := hNeg
              have hpo := hNpo
              have hbg := hNbg
              have hbd := hNbd
              change ab_W _ _ _ G70 98 [some (vR a), some (vR s), some (vz p), some (vz 2)] [vz v84] _
              refine zz_iret rfl d_ST_firstState_98 ?_
              rw [hQ]; exact ⟨_, _, _, _, _, _, _, _, _, _, rfl, hfr, hlen, hsl, ha, heg, hpo, hbg, hbd, hsd, hse_, (by omega), (by exact hq91), (by exact hq92), (by exact hq93), (by exact hq94), (by omega), (by rfl), (by exact (rgs_up jse (by omega))), (by exact edO_ks jed hq95), (by exact ⟨fun y => by rw [hq95.2.2.2 y]; exact ⟨fun ⟨i, i0, i1, _⟩ => by omega, fun q => by omega⟩, fun q => by omega⟩)⟩
          · refine ab_iload_n d_ST_firstState_90 rfl ?_
            refine ab_goto (tgt := 95) d_ST_firstState_91 (by decide) ?_
            refine ab_callV (d' := d - 1) (as := [vz 2]) (st := []) (r := _) (z_ST_keptState (o := o) (a := a) (cu := cu) (eg := eg) (po := po) (bg := bg) (bd := bd) (sd := sd) (se_ := se_) (stk := stk) (mst := mst) (q0 := vR q) (vr := vr) (ro := ro) (cn := cn) (ct := ct) (sc := 0) (sta := (sta + 1)) (arv := arv) (stp := stp) (EG := EG) (PO := PO) (BG := BG) (BD := BD) (SD := SD) (cnt := cnt) (ah := 2) ha heg hpo hbg hbd hsd (by omega) (by omega) (by omega) jbg jpo ents_0 (by omega) jbd jeg (by omega)) (fun oc G2 h => by rcases h with ⟨_, _, _, _, _, _, h, _⟩ | ⟨_, _, _, _, _, _, h, _⟩ <;> exact ⟨_, h⟩) (by omega) m_ST_keptState ml_ST_145 im_ST_keptState se_ST_keptState c_ST ha.2.2 (Nat.le_of_ble_eq_true rfl) d_ST_firstState_95 rfl ?_
            intro v G97 hq
            rcases hq with ⟨v98, ct299, EG2100, PO2101, BG2102, BD2103, hv, hfk, hlk, hsk, hNa, hNeg, hNpo, hNbg, hNbd, hq104, hq105, hq106, hq107, hq108, hq109, hq110⟩ | ⟨v111, ct2112, EG2113, PO2114, BG2115, BD2116, hv, hfk, hlk, hsk, hNa, hNeg, hNpo, hNbg, hNbd, hq117, hq118, hq119, hq120, hq121, hq122, hq123⟩
            · cases hv
              have hsd := hfk.get hsd (by decide)
              have hse_ := hfk.get hse_ (by decide)
              have hq := hfk.get hq (by simp only [List.mem_cons, List.not_mem_nil, or_false]; omega)
              have hs := hfk.get hs (by decide)
              have hby_ := hfk.get hby_ (by decide)
              have hfr := hfr.tr hfk (by decide)
              have hlen := hlk.trans hlen
              have hsl := hsk.trans hsl
              have ha := hNa
              have heg := hNeg
              have hpo := hNpo
              have hbg := hNbg
              have hbd := hNbd
              change ab_W _ _ _ G97 98 [some (vR a), some (vR s), some (vz p), some (vz 2)] [vz v98] _
              refine zz_iret rfl d_ST_firstState_98 ?_
              rw [hQ]; exact ⟨_, _, _, _, _, _, _, _, _, _, rfl, hfr, hlen, hsl, ha, heg, hpo, hbg, hbd, hsd, hse_, (by omega), (by exact hq105), (by exact hq106), (by exact hq107), (by exact hq108), (by omega), (by rfl), (by exact (rgs_up jse (by omega))), (by exact edO_ks jed hq109), (by exact ⟨fun y => by rw [hq109.2.2.2 y]; exact ⟨fun ⟨i, i0, i1, _⟩ => by omega, fun q => by omega⟩, fun _ => by rw [hq109.2.2.1]; exact ⟨by omega, ⟨fun _ => hq6, fun _ => by decide⟩, ⟨fun q => absurd q (by decide), fun q => absurd q hq11⟩⟩⟩)⟩
            · cases hv
              have hsd := hfk.get hsd (by decide)
              have hse_ := hfk.get hse_ (by decide)
              have hq := hfk.get hq (by simp only [List.mem_cons, List.not_mem_nil, or_false]; omega)
              have hs := hfk.get hs (by decide)
              have hby_ := hfk.get hby_ (by decide)
              have hfr := hfr.tr hfk (by decide)
              have hlen := hlk.trans hlen
              have hsl := hsk.trans hsl
              have ha := hNa
              have heg := hNeg
              have hpo := hNpo
              have hbg := hNbg
              have hbd := hNbd
              change ab_W _ _ _ G97 98 [some (vR a), some (vR s), some (vz p), some (vz 2)] [vz v111] _
              refine zz_iret rfl d_ST_firstState_98 ?_
              rw [hQ]; exact ⟨_, _, _, _, _, _, _, _, _, _, rfl, hfr, hlen, hsl, ha, heg, hpo, hbg, hbd, hsd, hse_, (by omega), (by exact hq118), (by exact hq119), (by exact hq120), (by exact hq121), (by omega), (by rfl), (by exact (rgs_up jse (by omega))), (by exact edO_ks jed hq122), (by exact ⟨fun y => by rw [hq122.2.2.2 y]; exact ⟨fun ⟨i, i0, i1, _⟩ => by omega, fun q => by omega⟩, fun _ => by rw [hq122.2.2.1]; exact ⟨by omega, ⟨fun _ => hq6, fun _ => by decide⟩, ⟨fun q => absurd q (by decide), fun q => absurd q hq11⟩⟩⟩)⟩
      · cases hv
        rw [hGe]
        change ab_W _ _ _ G2 51 [some (vR a), some (vR s), some (vz p), some (vz 0)] [vz 0, vz 0] _
        refine zz_if_eq (tgt := 58) d_ST_firstState_51 (by decide) (by decide) (fun c124 => ?_) (fun c124 => absurd c124 (by decide))
        refine zz_iconst d_ST_firstState_58 ?_
        refine zz_iorL (r := 0) d_ST_firstState_59 (by decide) ?_
        refine ab_istore_n d_ST_firstState_60 (Nat.le_of_ble_eq_true rfl) (Nat.le_of_ble_eq_true rfl) rfl ?_
        change ab_W _ _ _ G2 61 [some (vR a), some (vR s), some (vz p), some (vz 0)] [] _
        refine ab_iload_n d_ST_firstState_61 rfl ?_
        refine ab_aload_n d_ST_firstState_62 rfl ?_
        refine ab_iload_n d_ST_firstState_63 rfl ?_
        refine zz_iconst d_ST_firstState_64 ?_
        refine zz_isub d_ST_firstState_65 ?_
        refine ab_callV (d' := d - 1) (as := [vz (p - 1)]) (st := [vz 0]) (r := _) (z_SU_isWordByte (o := o) (s := s) (ls := 26) (by_ := by_) (lby := 27) (m := m) (f := f) (n := n) (co := co) (re := re) (ho := ho) (p := (p - 1)) hs hby_ (by omega) hb (by omega)) (fun oc G2 h => by rcases h with ⟨h, _⟩ | ⟨h, _⟩ <;> exact ⟨_, h⟩) (by omega) m_SU_isWordByte ml_ST_139 im_SU_isWordByte se_SU_isWordByte c_SU hs.2.2 (Nat.le_of_ble_eq_true rfl) d_ST_firstState_66 rfl ?_
        intro v G125 hq
        rcases hq with ⟨hv, hGe, hq126⟩ | ⟨hv, hGe, hq127⟩
        · cases hv
          rw [hGe]
          change ab_W _ _ _ G2 69 [some (vR a), some (vR s), some (vz p), some (vz 0)] [vz 1, vz 0] _
          refine zz_if_eq (tgt := 76) d_ST_firstState_69 (by decide) (by decide) (fun c128 => absurd c128 (by decide)) (fun c128 => ?_)
          refine zz_iconst d_ST_firstState_72 ?_
          refine ab_goto (tgt := 77) d_ST_firstState_73 (by decide) ?_
          refine zz_iorL (r := 4) d_ST_firstState_77 (by decide) ?_
          refine ab_istore_n d_ST_firstState_78 (Nat.le_of_ble_eq_true rfl) (Nat.le_of_ble_eq_true rfl) rfl ?_
          change ab_W _ _ _ G2 79 [some (vR a), some (vR s), some (vz p), some (vz 4)] [] _
          refine ab_aload_n d_ST_firstState_79 rfl ?_
          refine ab_aload_n d_ST_firstState_80 rfl ?_
          refine ab_getf (fs := [vz mst, vR q, vz vr, vz ro, vR cu, vz cn, vR eg, vR po, vR bg, vR bd, vz ct, vR sd, vz 0, vR se_, vz (sta + 1), vR stk, vz arv, vj stp]) f_ST_74 d_ST_firstState_81 ha.2.2 rfl ?_
          refine ab_getf (fs := [vR ki, vR ne, vR ot, vz cnt, vz fi, vz la, vR ra, vz ru, vz gr, vz wi, vz sz, vz fl, vz ve, vz mi, vR na, vR nl]) f_ST_142 d_ST_firstState_84 hq.2.2 rfl ?_
          refine zz_if_eq (tgt := 94) d_ST_firstState_87 (by decide) (by omega) (fun c129 => ?_) (fun c129 => ?_)
          · refine zz_iconst d_ST_firstState_94 ?_
            refine ab_callV (d' := d - 1) (as := [vz 0]) (st := []) (r := _) (z_ST_keptState (o := o) (a := a) (cu := cu) (eg := eg) (po := po) (bg := bg) (bd := bd) (sd := sd) (se_ := se_) (stk := stk) (mst := mst) (q0 := vR q) (vr := vr) (ro := ro) (cn := cn) (ct := ct) (sc := 0) (sta := (sta + 1)) (arv := arv) (stp := stp) (EG := EG) (PO := PO) (BG := BG) (BD := BD) (SD := SD) (cnt := cnt) (ah := 0) ha heg hpo hbg hbd hsd (by omega) (by omega) (by omega) jbg jpo ents_0 (by omega) jbd jeg (by omega)) (fun oc G2 h => by rcases h with ⟨_, _, _, _, _, _, h, _⟩ | ⟨_, _, _, _, _, _, h, _⟩ <;> exact ⟨_, h⟩) (by omega) m_ST_keptState ml_ST_145 im_ST_keptState se_ST_keptState c_ST ha.2.2 (Nat.le_of_ble_eq_true rfl) d_ST_firstState_95 rfl ?_
            intro v G130 hq
            rcases hq with ⟨v131, ct2132, EG2133, PO2134, BG2135, BD2136, hv, hfk, hlk, hsk, hNa, hNeg, hNpo, hNbg, hNbd, hq137, hq138, hq139, hq140, hq141, hq142, hq143⟩ | ⟨v144, ct2145, EG2146, PO2147, BG2148, BD2149, hv, hfk, hlk, hsk, hNa, hNeg, hNpo, hNbg, hNbd, hq150, hq151, hq152, hq153, hq154, hq155, hq156⟩
            · cases hv
              have hsd := hfk.get hsd (by decide)
              have hse_ := hfk.get hse_ (by decide)
              have hq := hfk.get hq (by simp only [List.mem_cons, List.not_mem_nil, or_false]; omega)
              have hs := hfk.get hs (by decide)
              have hby_ := hfk.get hby_ (by decide)
              have hfr := hfr.tr hfk (by decide)
              have hlen := hlk.trans hlen
              have hsl := hsk.trans hsl
              have ha := hNa
              have heg := hNeg
              have hpo := hNpo
              have hbg := hNbg
              have hbd := hNbd
              change ab_W _ _ _ G130 98 [some (vR a), some (vR s), some (vz p), some (vz 4)] [vz v131] _
              refine zz_iret rfl d_ST_firstState_98 ?_
              rw [hQ]; exact ⟨_, _, _, _, _, _, _, _, _, _, rfl, hfr, hlen, hsl, ha, heg, hpo, hbg, hbd, hsd, hse_, (by omega), (by exact hq138), (by exact hq139), (by exact hq140), (by exact hq141), (by omega), (by rfl), (by exact (rgs_up jse (by omega))), (by exact edO_ks jed hq142), (by exact ⟨fun y => by rw [hq142.2.2.2 y]; exact ⟨fun ⟨i, i0, i1, _⟩ => by omega, fun q => by omega⟩, fun q => by omega⟩)⟩
            · cases hv
              have hsd := hfk.get hsd (by decide)
              have hse_ := hfk.get hse_ (by decide)
              have hq := hfk.get hq (by simp only [List.mem_cons, List.not_mem_nil, or_false]; omega)
              have hs := hfk.get hs (by decide)
              have hby_ := hfk.get hby_ (by decide)
              have hfr := hfr.tr hfk (by decide)
              have hlen := hlk.trans hlen
              have hsl := hsk.trans hsl
              have ha := hNa
              have heg := hNeg
              have hpo := hNpo
              have hbg := hNbg
              have hbd := hNbd
              change ab_W _ _ _ G130 98 [some (vR a), some (vR s), some (vz p), some (vz 4)] [vz v144] _
              refine zz_iret rfl d_ST_firstState_98 ?_
              rw [hQ]; exact ⟨_, _, _, _, _, _, _, _, _, _, rfl, hfr, hlen, hsl, ha, heg, hpo, hbg, hbd, hsd, hse_, (by omega), (by exact hq151), (by exact hq152), (by exact hq153), (by exact hq154), (by omega), (by rfl), (by exact (rgs_up jse (by omega))), (by exact edO_ks jed hq155), (by exact ⟨fun y => by rw [hq155.2.2.2 y]; exact ⟨fun ⟨i, i0, i1, _⟩ => by omega, fun q => by omega⟩, fun q => by omega⟩)⟩
          · refine ab_iload_n d_ST_firstState_90 rfl ?_
            refine ab_goto (tgt := 95) d_ST_firstState_91 (by decide) ?_
            refine ab_callV (d' := d - 1) (as := [vz 4]) (st := []) (r := _) (z_ST_keptState (o := o) (a := a) (cu := cu) (eg := eg) (po := po) (bg := bg) (bd := bd) (sd := sd) (se_ := se_) (stk := stk) (mst := mst) (q0 := vR q) (vr := vr) (ro := ro) (cn := cn) (ct := ct) (sc := 0) (sta := (sta + 1)) (arv := arv) (stp := stp) (EG := EG) (PO := PO) (BG := BG) (BD := BD) (SD := SD) (cnt := cnt) (ah := 4) ha heg hpo hbg hbd hsd (by omega) (by omega) (by omega) jbg jpo ents_0 (by omega) jbd jeg (by omega)) (fun oc G2 h => by rcases h with ⟨_, _, _, _, _, _, h, _⟩ | ⟨_, _, _, _, _, _, h, _⟩ <;> exact ⟨_, h⟩) (by omega) m_ST_keptState ml_ST_145 im_ST_keptState se_ST_keptState c_ST ha.2.2 (Nat.le_of_ble_eq_true rfl) d_ST_firstState_95 rfl ?_
            intro v G157 hq
            rcases hq with ⟨v158, ct2159, EG2160, PO2161, BG2162, BD2163, hv, hfk, hlk, hsk, hNa, hNeg, hNpo, hNbg, hNbd, hq164, hq165, hq166, hq167, hq168, hq169, hq170⟩ | ⟨v171, ct2172, EG2173, PO2174, BG2175, BD2176, hv, hfk, hlk, hsk, hNa, hNeg, hNpo, hNbg, hNbd, hq177, hq178, hq179, hq180, hq181, hq182, hq183⟩
            · cases hv
              have hsd := hfk.get hsd (by decide)
              have hse_ := hfk.get hse_ (by decide)
              have hq := hfk.get hq (by simp only [List.mem_cons, List.not_mem_nil, or_false]; omega)
              have hs := hfk.get hs (by decide)
              have hby_ := hfk.get hby_ (by decide)
              have hfr := hfr.tr hfk (by decide)
              have hlen := hlk.trans hlen
              have hsl := hsk.trans hsl
              have ha := hNa
              have heg := hNeg
              have hpo := hNpo
              have hbg := hNbg
              have hbd := hNbd
              change ab_W _ _ _ G157 98 [some (vR a), some (vR s), some (vz p), some (vz 4)] [vz v158] _
              refine zz_iret rfl d_ST_firstState_98 ?_
              rw [hQ]; exact ⟨_, _, _, _, _, _, _, _, _, _, rfl, hfr, hlen, hsl, ha, heg, hpo, hbg, hbd, hsd, hse_, (by omega), (by exact hq165), (by exact hq166), (by exact hq167), (by exact hq168), (by omega), (by rfl), (by exact (rgs_up jse (by omega))), (by exact edO_ks jed hq169), (by exact ⟨fun y => by rw [hq169.2.2.2 y]; exact ⟨fun ⟨i, i0, i1, _⟩ => by omega, fun q => by omega⟩, fun _ => by rw [hq169.2.2.1]; exact ⟨by omega, ⟨fun q => absurd q (by decide), fun q => absurd q hq7⟩, ⟨fun _ => hq126, fun _ => by decide⟩⟩⟩)⟩
            · cases hv
              have hsd := hfk.get hsd (by decide)
              have hse_ := hfk.get hse_ (by decide)
              have hq := hfk.get hq (by simp only [List.mem_cons, List.not_mem_nil, or_false]; omega)
              have hs := hfk.get hs (by decide)
              have hby_ := hfk.get hby_ (by decide)
              have hfr := hfr.tr hfk (by decide)
              have hlen := hlk.trans hlen
              have hsl := hsk.trans hsl
              have ha := hNa
              have heg := hNeg
              have hpo := hNpo
              have hbg := hNbg
              have hbd := hNbd
              change ab_W _ _ _ G157 98 [some (vR a), some (vR s), some (vz p), some (vz 4)] [vz v171] _
              refine zz_iret rfl d_ST_firstState_98 ?_
              rw [hQ]; exact ⟨_, _, _, _, _, _, _, _, _, _, rfl, hfr, hlen, hsl, ha, heg, hpo, hbg, hbd, hsd, hse_, (by omega), (by exact hq178), (by exact hq179), (by exact hq180), (by exact hq181), (by omega), (by rfl), (by exact (rgs_up jse (by omega))), (by exact edO_ks jed hq182), (by exact ⟨fun y => by rw [hq182.2.2.2 y]; exact ⟨fun ⟨i, i0, i1, _⟩ => by omega, fun q => by omega⟩, fun _ => by rw [hq182.2.2.1]; exact ⟨by omega, ⟨fun q => absurd q (by decide), fun q => absurd q hq7⟩, ⟨fun _ => hq126, fun _ => by decide⟩⟩⟩)⟩
        · cases hv
          rw [hGe]
          change ab_W _ _ _ G2 69 [some (vR a), some (vR s), some (vz p), some (vz 0)] [vz 0, vz 0] _
          refine zz_if_eq (tgt := 76) d_ST_firstState_69 (by decide) (by decide) (fun c184 => ?_) (fun c184 => absurd c184 (by decide))
          refine zz_iconst d_ST_firstState_76 ?_
          refine zz_iorL (r := 0) d_ST_firstState_77 (by decide) ?_
          refine ab_istore_n d_ST_firstState_78 (Nat.le_of_ble_eq_true rfl) (Nat.le_of_ble_eq_true rfl) rfl ?_
          change ab_W _ _ _ G2 79 [some (vR a), some (vR s), some (vz p), some (vz 0)] [] _
          refine ab_aload_n d_ST_firstState_79 rfl ?_
          refine ab_aload_n d_ST_firstState_80 rfl ?_
          refine ab_getf (fs := [vz mst, vR q, vz vr, vz ro, vR cu, vz cn, vR eg, vR po, vR bg, vR bd, vz ct, vR sd, vz 0, vR se_, vz (sta + 1), vR stk, vz arv, vj stp]) f_ST_74 d_ST_firstState_81 ha.2.2 rfl ?_
          refine ab_getf (fs := [vR ki, vR ne, vR ot, vz cnt, vz fi, vz la, vR ra, vz ru, vz gr, vz wi, vz sz, vz fl, vz ve, vz mi, vR na, vR nl]) f_ST_142 d_ST_firstState_84 hq.2.2 rfl ?_
          refine zz_if_eq (tgt := 94) d_ST_firstState_87 (by decide) (by omega) (fun c185 => ?_) (fun c185 => ?_)
          · refine zz_iconst d_ST_firstState_94 ?_
            refine ab_callV (d' := d - 1) (as := [vz 0]) (st := []) (r := _) (z_ST_keptState (o := o) (a := a) (cu := cu) (eg := eg) (po := po) (bg := bg) (bd := bd) (sd := sd) (se_ := se_) (stk := stk) (mst := mst) (q0 := vR q) (vr := vr) (ro := ro) (cn := cn) (ct := ct) (sc := 0) (sta := (sta + 1)) (arv := arv) (stp := stp) (EG := EG) (PO := PO) (BG := BG) (BD := BD) (SD := SD) (cnt := cnt) (ah := 0) ha heg hpo hbg hbd hsd (by omega) (by omega) (by omega) jbg jpo ents_0 (by omega) jbd jeg (by omega)) (fun oc G2 h => by rcases h with ⟨_, _, _, _, _, _, h, _⟩ | ⟨_, _, _, _, _, _, h, _⟩ <;> exact ⟨_, h⟩) (by omega) m_ST_keptState ml_ST_145 im_ST_keptState se_ST_keptState c_ST ha.2.2 (Nat.le_of_ble_eq_true rfl) d_ST_firstState_95 rfl ?_
            intro v G186 hq
            rcases hq with ⟨v187, ct2188, EG2189, PO2190, BG2191, BD2192, hv, hfk, hlk, hsk, hNa, hNeg, hNpo, hNbg, hNbd, hq193, hq194, hq195, hq196, hq197, hq198, hq199⟩ | ⟨v200, ct2201, EG2202, PO2203, BG2204, BD2205, hv, hfk, hlk, hsk, hNa, hNeg, hNpo, hNbg, hNbd, hq206, hq207, hq208, hq209, hq210, hq211, hq212⟩
            · cases hv
              have hsd := hfk.get hsd (by decide)
              have hse_ := hfk.get hse_ (by decide)
              have hq := hfk.get hq (by simp only [List.mem_cons, List.not_mem_nil, or_false]; omega)
              have hs := hfk.get hs (by decide)
              have hby_ := hfk.get hby_ (by decide)
              have hfr := hfr.tr hfk (by decide)
              have hlen := hlk.trans hlen
              have hsl := hsk.trans hsl
              have ha := hNa
              have heg := hNeg
              have hpo := hNpo
              have hbg := hNbg
              have hbd := hNbd
              change ab_W _ _ _ G186 98 [some (vR a), some (vR s), some (vz p), some (vz 0)] [vz v187] _
              refine zz_iret rfl d_ST_firstState_98 ?_
              rw [hQ]; exact ⟨_, _, _, _, _, _, _, _, _, _, rfl, hfr, hlen, hsl, ha, heg, hpo, hbg, hbd, hsd, hse_, (by omega), (by exact hq194), (by exact hq195), (by exact hq196), (by exact hq197), (by omega), (by rfl), (by exact (rgs_up jse (by omega))), (by exact edO_ks jed hq198), (by exact ⟨fun y => by rw [hq198.2.2.2 y]; exact ⟨fun ⟨i, i0, i1, _⟩ => by omega, fun q => by omega⟩, fun q => by omega⟩)⟩
            · cases hv
              have hsd := hfk.get hsd (by decide)
              have hse_ := hfk.get hse_ (by decide)
              have hq := hfk.get hq (by simp only [List.mem_cons, List.not_mem_nil, or_false]; omega)
              have hs := hfk.get hs (by decide)
              have hby_ := hfk.get hby_ (by decide)
              have hfr := hfr.tr hfk (by decide)
              have hlen := hlk.trans hlen
              have hsl := hsk.trans hsl
              have ha := hNa
              have heg := hNeg
              have hpo := hNpo
              have hbg := hNbg
              have hbd := hNbd
              change ab_W _ _ _ G186 98 [some (vR a), some (vR s), some (vz p), some (vz 0)] [vz v200] _
              refine zz_iret rfl d_ST_firstState_98 ?_
              rw [hQ]; exact ⟨_, _, _, _, _, _, _, _, _, _, rfl, hfr, hlen, hsl, ha, heg, hpo, hbg, hbd, hsd, hse_, (by omega), (by exact hq207), (by exact hq208), (by exact hq209), (by exact hq210), (by omega), (by rfl), (by exact (rgs_up jse (by omega))), (by exact edO_ks jed hq211), (by exact ⟨fun y => by rw [hq211.2.2.2 y]; exact ⟨fun ⟨i, i0, i1, _⟩ => by omega, fun q => by omega⟩, fun q => by omega⟩)⟩
          · refine ab_iload_n d_ST_firstState_90 rfl ?_
            refine ab_goto (tgt := 95) d_ST_firstState_91 (by decide) ?_
            refine ab_callV (d' := d - 1) (as := [vz 0]) (st := []) (r := _) (z_ST_keptState (o := o) (a := a) (cu := cu) (eg := eg) (po := po) (bg := bg) (bd := bd) (sd := sd) (se_ := se_) (stk := stk) (mst := mst) (q0 := vR q) (vr := vr) (ro := ro) (cn := cn) (ct := ct) (sc := 0) (sta := (sta + 1)) (arv := arv) (stp := stp) (EG := EG) (PO := PO) (BG := BG) (BD := BD) (SD := SD) (cnt := cnt) (ah := 0) ha heg hpo hbg hbd hsd (by omega) (by omega) (by omega) jbg jpo ents_0 (by omega) jbd jeg (by omega)) (fun oc G2 h => by rcases h with ⟨_, _, _, _, _, _, h, _⟩ | ⟨_, _, _, _, _, _, h, _⟩ <;> exact ⟨_, h⟩) (by omega) m_ST_keptState ml_ST_145 im_ST_keptState se_ST_keptState c_ST ha.2.2 (Nat.le_of_ble_eq_true rfl) d_ST_firstState_95 rfl ?_
            intro v G213 hq
            rcases hq with ⟨v214, ct2215, EG2216, PO2217, BG2218, BD2219, hv, hfk, hlk, hsk, hNa, hNeg, hNpo, hNbg, hNbd, hq220, hq221, hq222, hq223, hq224, hq225, hq226⟩ | ⟨v227, ct2228, EG2229, PO2230, BG2231, BD2232, hv, hfk, hlk, hsk, hNa, hNeg, hNpo, hNbg, hNbd, hq233, hq234, hq235, hq236, hq237, hq238, hq239⟩
            · cases hv
              have hsd := hfk.get hsd (by decide)
              have hse_ := hfk.get hse_ (by decide)
              have hq := hfk.get hq (by simp only [List.mem_cons, List.not_mem_nil, or_false]; omega)
              have hs := hfk.get hs (by decide)
              have hby_ := hfk.get hby_ (by decide)
              have hfr := hfr.tr hfk (by decide)
              have hlen := hlk.trans hlen
              have hsl := hsk.trans hsl
              have ha := hNa
              have heg := hNeg
              have hpo := hNpo
              have hbg := hNbg
              have hbd := hNbd
              change ab_W _ _ _ G213 98 [some (vR a), some (vR s), some (vz p), some (vz 0)] [vz v214] _
              refine zz_iret rfl d_ST_firstState_98 ?_
              rw [hQ]; exact ⟨_, _, _, _, _, _, _, _, _, _, rfl, hfr, hlen, hsl, ha, heg, hpo, hbg, hbd, hsd, hse_, (by omega), (by exact hq221), (by exact hq222), (by exact hq223), (by exact hq224), (by omega), (by rfl), (by exact (rgs_up jse (by omega))), (by exact edO_ks jed hq225), (by exact ⟨fun y => by rw [hq225.2.2.2 y]; exact ⟨fun ⟨i, i0, i1, _⟩ => by omega, fun q => by omega⟩, fun _ => by rw [hq225.2.2.1]; exact ⟨by omega, ⟨fun q => absurd q (by decide), fun q => absurd q hq7⟩, ⟨fun q => absurd q (by decide), fun q => absurd q hq127⟩⟩⟩)⟩
            · cases hv
              have hsd := hfk.get hsd (by decide)
              have hse_ := hfk.get hse_ (by decide)
              have hq := hfk.get hq (by simp only [List.mem_cons, List.not_mem_nil, or_false]; omega)
              have hs := hfk.get hs (by decide)
              have hby_ := hfk.get hby_ (by decide)
              have hfr := hfr.tr hfk (by decide)
              have hlen := hlk.trans hlen
              have hsl := hsk.trans hsl
              have ha := hNa
              have heg := hNeg
              have hpo := hNpo
              have hbg := hNbg
              have hbd := hNbd
              change ab_W _ _ _ G213 98 [some (vR a), some (vR s), some (vz p), some (vz 0)] [vz v227] _
              refine zz_iret rfl d_ST_firstState_98 ?_
              rw [hQ]; exact ⟨_, _, _, _, _, _, _, _, _, _, rfl, hfr, hlen, hsl, ha, heg, hpo, hbg, hbd, hsd, hse_, (by omega), (by exact hq234), (by exact hq235), (by exact hq236), (by exact hq237), (by omega), (by rfl), (by exact (rgs_up jse (by omega))), (by exact edO_ks jed hq238), (by exact ⟨fun y => by rw [hq238.2.2.2 y]; exact ⟨fun ⟨i, i0, i1, _⟩ => by omega, fun q => by omega⟩, fun _ => by rw [hq238.2.2.1]; exact ⟨by omega, ⟨fun q => absurd q (by decide), fun q => absurd q hq7⟩, ⟨fun q => absurd q (by decide), fun q => absurd q hq127⟩⟩⟩)⟩
    · refine zz_iconst d_ST_firstState_37 ?_
      refine ab_goto (tgt := 42) d_ST_firstState_38 (by decide) ?_
      refine ab_istore_n d_ST_firstState_42 (Nat.le_of_ble_eq_true rfl) (Nat.le_of_ble_eq_true rfl) rfl ?_
      change ab_W _ _ _ G2 43 [some (vR a), some (vR s), some (vz p), some (vz 1)] [] _
      refine ab_iload_n d_ST_firstState_43 rfl ?_
      refine ab_aload_n d_ST_firstState_44 rfl ?_
      refine ab_iload_n d_ST_firstState_45 rfl ?_
      refine zz_iconst d_ST_firstState_46 ?_
      refine zz_isub d_ST_firstState_47 ?_
      refine ab_callV (d' := d - 1) (as := [vz (p - 1)]) (st := [vz 1]) (r := _) (z_SU_isLineFeed (o := o) (s := s) (ls := 26) (by_ := by_) (lby := 27) (m := m) (f := f) (n := n) (co := co) (re := re) (ho := ho) (p := (p - 1)) hs hby_ (by omega) hb) (fun oc G2 h => by rcases h with ⟨h, _⟩ | ⟨h, _⟩ <;> exact ⟨_, h⟩) (by omega) m_SU_isLineFeed ml_ST_135 im_SU_isLineFeed se_SU_isLineFeed c_SU hs.2.2 (Nat.le_of_ble_eq_true rfl) d_ST_firstState_48 rfl ?_
      intro v G240 hq
      rcases hq with ⟨hv, hGe, hq241⟩ | ⟨hv, hGe, hq242⟩
      · cases hv
        rw [hGe]
        change ab_W _ _ _ G2 51 [some (vR a), some (vR s), some (vz p), some (vz 1)] [vz 1, vz 1] _
        refine zz_if_eq (tgt := 58) d_ST_firstState_51 (by decide) (by decide) (fun c243 => absurd c243 (by decide)) (fun c243 => ?_)
        refine zz_iconst d_ST_firstState_54 ?_
        refine ab_goto (tgt := 59) d_ST_firstState_55 (by decide) ?_
        refine zz_iorL (r := 3) d_ST_firstState_59 (by decide) ?_
        refine ab_istore_n d_ST_firstState_60 (Nat.le_of_ble_eq_true rfl) (Nat.le_of_ble_eq_true rfl) rfl ?_
        change ab_W _ _ _ G2 61 [some (vR a), some (vR s), some (vz p), some (vz 3)] [] _
        refine ab_iload_n d_ST_firstState_61 rfl ?_
        refine ab_aload_n d_ST_firstState_62 rfl ?_
        refine ab_iload_n d_ST_firstState_63 rfl ?_
        refine zz_iconst d_ST_firstState_64 ?_
        refine zz_isub d_ST_firstState_65 ?_
        refine ab_callV (d' := d - 1) (as := [vz (p - 1)]) (st := [vz 3]) (r := _) (z_SU_isWordByte (o := o) (s := s) (ls := 26) (by_ := by_) (lby := 27) (m := m) (f := f) (n := n) (co := co) (re := re) (ho := ho) (p := (p - 1)) hs hby_ (by omega) hb (by omega)) (fun oc G2 h => by rcases h with ⟨h, _⟩ | ⟨h, _⟩ <;> exact ⟨_, h⟩) (by omega) m_SU_isWordByte ml_ST_139 im_SU_isWordByte se_SU_isWordByte c_SU hs.2.2 (Nat.le_of_ble_eq_true rfl) d_ST_firstState_66 rfl ?_
        intro v G244 hq
        rcases hq with ⟨hv, hGe, hq245⟩ | ⟨hv, hGe, hq246⟩
        · cases hv
          rw [hGe]
          change ab_W _ _ _ G2 69 [some (vR a), some (vR s), some (vz p), some (vz 3)] [vz 1, vz 3] _
          refine zz_if_eq (tgt := 76) d_ST_firstState_69 (by decide) (by decide) (fun c247 => absurd c247 (by decide)) (fun c247 => ?_)
          refine zz_iconst d_ST_firstState_72 ?_
          refine ab_goto (tgt := 77) d_ST_firstState_73 (by decide) ?_
          refine zz_iorL (r := 7) d_ST_firstState_77 (by decide) ?_
          refine ab_istore_n d_ST_firstState_78 (Nat.le_of_ble_eq_true rfl) (Nat.le_of_ble_eq_true rfl) rfl ?_
          change ab_W _ _ _ G2 79 [some (vR a), some (vR s), some (vz p), some (vz 7)] [] _
          refine ab_aload_n d_ST_firstState_79 rfl ?_
          refine ab_aload_n d_ST_firstState_80 rfl ?_
          refine ab_getf (fs := [vz mst, vR q, vz vr, vz ro, vR cu, vz cn, vR eg, vR po, vR bg, vR bd, vz ct, vR sd, vz 0, vR se_, vz (sta + 1), vR stk, vz arv, vj stp]) f_ST_74 d_ST_firstState_81 ha.2.2 rfl ?_
          refine ab_getf (fs := [vR ki, vR ne, vR ot, vz cnt, vz fi, vz la, vR ra, vz ru, vz gr, vz wi, vz sz, vz fl, vz ve, vz mi, vR na, vR nl]) f_ST_142 d_ST_firstState_84 hq.2.2 rfl ?_
          refine zz_if_eq (tgt := 94) d_ST_firstState_87 (by decide) (by omega) (fun c248 => ?_) (fun c248 => ?_)
          · refine zz_iconst d_ST_firstState_94 ?_
            refine ab_callV (d' := d - 1) (as := [vz 0]) (st := []) (r := _) (z_ST_keptState (o := o) (a := a) (cu := cu) (eg := eg) (po := po) (bg := bg) (bd := bd) (sd := sd) (se_ := se_) (stk := stk) (mst := mst) (q0 := vR q) (vr := vr) (ro := ro) (cn := cn) (ct := ct) (sc := 0) (sta := (sta + 1)) (arv := arv) (stp := stp) (EG := EG) (PO := PO) (BG := BG) (BD := BD) (SD := SD) (cnt := cnt) (ah := 0) ha heg hpo hbg hbd hsd (by omega) (by omega) (by omega) jbg jpo ents_0 (by omega) jbd jeg (by omega)) (fun oc G2 h => by rcases h with ⟨_, _, _, _, _, _, h, _⟩ | ⟨_, _, _, _, _, _, h, _⟩ <;> exact ⟨_, h⟩) (by omega) m_ST_keptState ml_ST_145 im_ST_keptState se_ST_keptState c_ST ha.2.2 (Nat.le_of_ble_eq_true rfl) d_ST_firstState_95 rfl ?_
            intro v G249 hq
            rcases hq with ⟨v250, ct2251, EG2252, PO2253, BG2254, BD2255, hv, hfk, hlk, hsk, hNa, hNeg, hNpo, hNbg, hNbd, hq256, hq257, hq258, hq259, hq260, hq261, hq262⟩ | ⟨v263, ct2264, EG2265, PO2266, BG2267, BD2268, hv, hfk, hlk, hsk, hNa, hNeg, hNpo, hNbg, hNbd, hq269, hq270, hq271, hq272, hq273, hq274, hq275⟩
            · cases hv
              have hsd := hfk.get hsd (by decide)
              have hse_ := hfk.get hse_ (by decide)
              have hq := hfk.get hq (by simp only [List.mem_cons, List.not_mem_nil, or_false]; omega)
              have hs := hfk.get hs (by decide)
              have hby_ := hfk.get hby_ (by decide)
              have hfr := hfr.tr hfk (by decide)
              have hlen := hlk.trans hlen
              have hsl := hsk.trans hsl
              have ha := hNa
              have heg := hNeg
              have hpo := hNpo
              have hbg := hNbg
              have hbd := hNbd
              change ab_W _ _ _ G249 98 [some (vR a), some (vR s), some (vz p), some (vz 7)] [vz v250] _
              refine zz_iret rfl d_ST_firstState_98 ?_
              rw [hQ]; exact ⟨_, _, _, _, _, _, _, _, _, _, rfl, hfr, hlen, hsl, ha, heg, hpo, hbg, hbd, hsd, hse_, (by omega), (by exact hq257), (by exact hq258), (by exact hq259), (by exact hq260), (by omega), (by rfl), (by exact (rgs_up jse (by omega))), (by exact edO_ks jed hq261), (by exact ⟨fun y => by rw [hq261.2.2.2 y]; exact ⟨fun ⟨i, i0, i1, _⟩ => by omega, fun q => by omega⟩, fun q => by omega⟩)⟩
            · cases hv
              have hsd := hfk.get hsd (by decide)
              have hse_ := hfk.get hse_ (by decide)
              have hq := hfk.get hq (by simp only [List.mem_cons, List.not_mem_nil, or_false]; omega)
              have hs := hfk.get hs (by decide)
              have hby_ := hfk.get hby_ (by decide)
              have hfr := hfr.tr hfk (by decide)
              have hlen := hlk.trans hlen
              have hsl := hsk.trans hsl
              have ha := hNa
              have heg := hNeg
              have hpo := hNpo
              have hbg := hNbg
              have hbd := hNbd
              change ab_W _ _ _ G249 98 [some (vR a), some (vR s), some (vz p), some (vz 7)] [vz v263] _
              refine zz_iret rfl d_ST_firstState_98 ?_
              rw [hQ]; exact ⟨_, _, _, _, _, _, _, _, _, _, rfl, hfr, hlen, hsl, ha, heg, hpo, hbg, hbd, hsd, hse_, (by omega), (by exact hq270), (by exact hq271), (by exact hq272), (by exact hq273), (by omega), (by rfl), (by exact (rgs_up jse (by omega))), (by exact edO_ks jed hq274), (by exact ⟨fun y => by rw [hq274.2.2.2 y]; exact ⟨fun ⟨i, i0, i1, _⟩ => by omega, fun q => by omega⟩, fun q => by omega⟩)⟩
          · refine ab_iload_n d_ST_firstState_90 rfl ?_
            refine ab_goto (tgt := 95) d_ST_firstState_91 (by decide) ?_
            refine ab_callV (d' := d - 1) (as := [vz 7]) (st := []) (r := _) (z_ST_keptState (o := o) (a := a) (cu := cu) (eg := eg) (po := po) (bg := bg) (bd := bd) (sd := sd) (se_ := se_) (stk := stk) (mst := mst) (q0 := vR q) (vr := vr) (ro := ro) (cn := cn) (ct := ct) (sc := 0) (sta := (sta + 1)) (arv := arv) (stp := stp) (EG := EG) (PO := PO) (BG := BG) (BD := BD) (SD := SD) (cnt := cnt) (ah := 7) ha heg hpo hbg hbd hsd (by omega) (by omega) (by omega) jbg jpo ents_0 (by omega) jbd jeg (by omega)) (fun oc G2 h => by rcases h with ⟨_, _, _, _, _, _, h, _⟩ | ⟨_, _, _, _, _, _, h, _⟩ <;> exact ⟨_, h⟩) (by omega) m_ST_keptState ml_ST_145 im_ST_keptState se_ST_keptState c_ST ha.2.2 (Nat.le_of_ble_eq_true rfl) d_ST_firstState_95 rfl ?_
            intro v G276 hq
            rcases hq with ⟨v277, ct2278, EG2279, PO2280, BG2281, BD2282, hv, hfk, hlk, hsk, hNa, hNeg, hNpo, hNbg, hNbd, hq283, hq284, hq285, hq286, hq287, hq288, hq289⟩ | ⟨v290, ct2291, EG2292, PO2293, BG2294, BD2295, hv, hfk, hlk, hsk, hNa, hNeg, hNpo, hNbg, hNbd, hq296, hq297, hq298, hq299, hq300, hq301, hq302⟩
            · cases hv
              have hsd := hfk.get hsd (by decide)
              have hse_ := hfk.get hse_ (by decide)
              have hq := hfk.get hq (by simp only [List.mem_cons, List.not_mem_nil, or_false]; omega)
              have hs := hfk.get hs (by decide)
              have hby_ := hfk.get hby_ (by decide)
              have hfr := hfr.tr hfk (by decide)
              have hlen := hlk.trans hlen
              have hsl := hsk.trans hsl
              have ha := hNa
              have heg := hNeg
              have hpo := hNpo
              have hbg := hNbg
              have hbd := hNbd
              change ab_W _ _ _ G276 98 [some (vR a), some (vR s), some (vz p), some (vz 7)] [vz v277] _
              refine zz_iret rfl d_ST_firstState_98 ?_
              rw [hQ]; exact ⟨_, _, _, _, _, _, _, _, _, _, rfl, hfr, hlen, hsl, ha, heg, hpo, hbg, hbd, hsd, hse_, (by omega), (by exact hq284), (by exact hq285), (by exact hq286), (by exact hq287), (by omega), (by rfl), (by exact (rgs_up jse (by omega))), (by exact edO_ks jed hq288), (by exact ⟨fun y => by rw [hq288.2.2.2 y]; exact ⟨fun ⟨i, i0, i1, _⟩ => by omega, fun q => by omega⟩, fun _ => by rw [hq288.2.2.1]; exact ⟨by omega, ⟨fun _ => hq241, fun _ => by decide⟩, ⟨fun _ => hq245, fun _ => by decide⟩⟩⟩)⟩
            · cases hv
              have hsd := hfk.get hsd (by decide)
              have hse_ := hfk.get hse_ (by decide)
              have hq := hfk.get hq (by simp only [List.mem_cons, List.not_mem_nil, or_false]; omega)
              have hs := hfk.get hs (by decide)
              have hby_ := hfk.get hby_ (by decide)
              have hfr := hfr.tr hfk (by decide)
              have hlen := hlk.trans hlen
              have hsl := hsk.trans hsl
              have ha := hNa
              have heg := hNeg
              have hpo := hNpo
              have hbg := hNbg
              have hbd := hNbd
              change ab_W _ _ _ G276 98 [some (vR a), some (vR s), some (vz p), some (vz 7)] [vz v290] _
              refine zz_iret rfl d_ST_firstState_98 ?_
              rw [hQ]; exact ⟨_, _, _, _, _, _, _, _, _, _, rfl, hfr, hlen, hsl, ha, heg, hpo, hbg, hbd, hsd, hse_, (by omega), (by exact hq297), (by exact hq298), (by exact hq299), (by exact hq300), (by omega), (by rfl), (by exact (rgs_up jse (by omega))), (by exact edO_ks jed hq301), (by exact ⟨fun y => by rw [hq301.2.2.2 y]; exact ⟨fun ⟨i, i0, i1, _⟩ => by omega, fun q => by omega⟩, fun _ => by rw [hq301.2.2.1]; exact ⟨by omega, ⟨fun _ => hq241, fun _ => by decide⟩, ⟨fun _ => hq245, fun _ => by decide⟩⟩⟩)⟩
        · cases hv
          rw [hGe]
          change ab_W _ _ _ G2 69 [some (vR a), some (vR s), some (vz p), some (vz 3)] [vz 0, vz 3] _
          refine zz_if_eq (tgt := 76) d_ST_firstState_69 (by decide) (by decide) (fun c303 => ?_) (fun c303 => absurd c303 (by decide))
          refine zz_iconst d_ST_firstState_76 ?_
          refine zz_iorL (r := 3) d_ST_firstState_77 (by decide) ?_
          refine ab_istore_n d_ST_firstState_78 (Nat.le_of_ble_eq_true rfl) (Nat.le_of_ble_eq_true rfl) rfl ?_
          change ab_W _ _ _ G2 79 [some (vR a), some (vR s), some (vz p), some (vz 3)] [] _
          refine ab_aload_n d_ST_firstState_79 rfl ?_
          refine ab_aload_n d_ST_firstState_80 rfl ?_
          refine ab_getf (fs := [vz mst, vR q, vz vr, vz ro, vR cu, vz cn, vR eg, vR po, vR bg, vR bd, vz ct, vR sd, vz 0, vR se_, vz (sta + 1), vR stk, vz arv, vj stp]) f_ST_74 d_ST_firstState_81 ha.2.2 rfl ?_
          refine ab_getf (fs := [vR ki, vR ne, vR ot, vz cnt, vz fi, vz la, vR ra, vz ru, vz gr, vz wi, vz sz, vz fl, vz ve, vz mi, vR na, vR nl]) f_ST_142 d_ST_firstState_84 hq.2.2 rfl ?_
          refine zz_if_eq (tgt := 94) d_ST_firstState_87 (by decide) (by omega) (fun c304 => ?_) (fun c304 => ?_)
          · refine zz_iconst d_ST_firstState_94 ?_
            refine ab_callV (d' := d - 1) (as := [vz 0]) (st := []) (r := _) (z_ST_keptState (o := o) (a := a) (cu := cu) (eg := eg) (po := po) (bg := bg) (bd := bd) (sd := sd) (se_ := se_) (stk := stk) (mst := mst) (q0 := vR q) (vr := vr) (ro := ro) (cn := cn) (ct := ct) (sc := 0) (sta := (sta + 1)) (arv := arv) (stp := stp) (EG := EG) (PO := PO) (BG := BG) (BD := BD) (SD := SD) (cnt := cnt) (ah := 0) ha heg hpo hbg hbd hsd (by omega) (by omega) (by omega) jbg jpo ents_0 (by omega) jbd jeg (by omega)) (fun oc G2 h => by rcases h with ⟨_, _, _, _, _, _, h, _⟩ | ⟨_, _, _, _, _, _, h, _⟩ <;> exact ⟨_, h⟩) (by omega) m_ST_keptState ml_ST_145 im_ST_keptState se_ST_keptState c_ST ha.2.2 (Nat.le_of_ble_eq_true rfl) d_ST_firstState_95 rfl ?_
            intro v G305 hq
            rcases hq with ⟨v306, ct2307, EG2308, PO2309, BG2310, BD2311, hv, hfk, hlk, hsk, hNa, hNeg, hNpo, hNbg, hNbd, hq312, hq313, hq314, hq315, hq316, hq317, hq318⟩ | ⟨v319, ct2320, EG2321, PO2322, BG2323, BD2324, hv, hfk, hlk, hsk, hNa, hNeg, hNpo, hNbg, hNbd, hq325, hq326, hq327, hq328, hq329, hq330, hq331⟩
            · cases hv
              have hsd := hfk.get hsd (by decide)
              have hse_ := hfk.get hse_ (by decide)
              have hq := hfk.get hq (by simp only [List.mem_cons, List.not_mem_nil, or_false]; omega)
              have hs := hfk.get hs (by decide)
              have hby_ := hfk.get hby_ (by decide)
              have hfr := hfr.tr hfk (by decide)
              have hlen := hlk.trans hlen
              have hsl := hsk.trans hsl
              have ha := hNa
              have heg := hNeg
              have hpo := hNpo
              have hbg := hNbg
              have hbd := hNbd
              change ab_W _ _ _ G305 98 [some (vR a), some (vR s), some (vz p), some (vz 3)] [vz v306] _
              refine zz_iret rfl d_ST_firstState_98 ?_
              rw [hQ]; exact ⟨_, _, _, _, _, _, _, _, _, _, rfl, hfr, hlen, hsl, ha, heg, hpo, hbg, hbd, hsd, hse_, (by omega), (by exact hq313), (by exact hq314), (by exact hq315), (by exact hq316), (by omega), (by rfl), (by exact (rgs_up jse (by omega))), (by exact edO_ks jed hq317), (by exact ⟨fun y => by rw [hq317.2.2.2 y]; exact ⟨fun ⟨i, i0, i1, _⟩ => by omega, fun q => by omega⟩, fun q => by omega⟩)⟩
            · cases hv
              have hsd := hfk.get hsd (by decide)
              have hse_ := hfk.get hse_ (by decide)
              have hq := hfk.get hq (by simp only [List.mem_cons, List.not_mem_nil, or_false]; omega)
              have hs := hfk.get hs (by decide)
              have hby_ := hfk.get hby_ (by decide)
              have hfr := hfr.tr hfk (by decide)
              have hlen := hlk.trans hlen
              have hsl := hsk.trans hsl
              have ha := hNa
              have heg := hNeg
              have hpo := hNpo
              have hbg := hNbg
              have hbd := hNbd
              change ab_W _ _ _ G305 98 [some (vR a), some (vR s), some (vz p), some (vz 3)] [vz v319] _
              refine zz_iret rfl d_ST_firstState_98 ?_
              rw [hQ]; exact ⟨_, _, _, _, _, _, _, _, _, _, rfl, hfr, hlen, hsl, ha, heg, hpo, hbg, hbd, hsd, hse_, (by omega), (by exact hq326), (by exact hq327), (by exact hq328), (by exact hq329), (by omega), (by rfl), (by exact (rgs_up jse (by omega))), (by exact edO_ks jed hq330), (by exact ⟨fun y => by rw [hq330.2.2.2 y]; exact ⟨fun ⟨i, i0, i1, _⟩ => by omega, fun q => by omega⟩, fun q => by omega⟩)⟩
          · refine ab_iload_n d_ST_firstState_90 rfl ?_
            refine ab_goto (tgt := 95) d_ST_firstState_91 (by decide) ?_
            refine ab_callV (d' := d - 1) (as := [vz 3]) (st := []) (r := _) (z_ST_keptState (o := o) (a := a) (cu := cu) (eg := eg) (po := po) (bg := bg) (bd := bd) (sd := sd) (se_ := se_) (stk := stk) (mst := mst) (q0 := vR q) (vr := vr) (ro := ro) (cn := cn) (ct := ct) (sc := 0) (sta := (sta + 1)) (arv := arv) (stp := stp) (EG := EG) (PO := PO) (BG := BG) (BD := BD) (SD := SD) (cnt := cnt) (ah := 3) ha heg hpo hbg hbd hsd (by omega) (by omega) (by omega) jbg jpo ents_0 (by omega) jbd jeg (by omega)) (fun oc G2 h => by rcases h with ⟨_, _, _, _, _, _, h, _⟩ | ⟨_, _, _, _, _, _, h, _⟩ <;> exact ⟨_, h⟩) (by omega) m_ST_keptState ml_ST_145 im_ST_keptState se_ST_keptState c_ST ha.2.2 (Nat.le_of_ble_eq_true rfl) d_ST_firstState_95 rfl ?_
            intro v G332 hq
            rcases hq with ⟨v333, ct2334, EG2335, PO2336, BG2337, BD2338, hv, hfk, hlk, hsk, hNa, hNeg, hNpo, hNbg, hNbd, hq339, hq340, hq341, hq342, hq343, hq344, hq345⟩ | ⟨v346, ct2347, EG2348, PO2349, BG2350, BD2351, hv, hfk, hlk, hsk, hNa, hNeg, hNpo, hNbg, hNbd, hq352, hq353, hq354, hq355, hq356, hq357, hq358⟩
            · cases hv
              have hsd := hfk.get hsd (by decide)
              have hse_ := hfk.get hse_ (by decide)
              have hq := hfk.get hq (by simp only [List.mem_cons, List.not_mem_nil, or_false]; omega)
              have hs := hfk.get hs (by decide)
              have hby_ := hfk.get hby_ (by decide)
              have hfr := hfr.tr hfk (by decide)
              have hlen := hlk.trans hlen
              have hsl := hsk.trans hsl
              have ha := hNa
              have heg := hNeg
              have hpo := hNpo
              have hbg := hNbg
              have hbd := hNbd
              change ab_W _ _ _ G332 98 [some (vR a), some (vR s), some (vz p), some (vz 3)] [vz v333] _
              refine zz_iret rfl d_ST_firstState_98 ?_
              rw [hQ]; exact ⟨_, _, _, _, _, _, _, _, _, _, rfl, hfr, hlen, hsl, ha, heg, hpo, hbg, hbd, hsd, hse_, (by omega), (by exact hq340), (by exact hq341), (by exact hq342), (by exact hq343), (by omega), (by rfl), (by exact (rgs_up jse (by omega))), (by exact edO_ks jed hq344), (by exact ⟨fun y => by rw [hq344.2.2.2 y]; exact ⟨fun ⟨i, i0, i1, _⟩ => by omega, fun q => by omega⟩, fun _ => by rw [hq344.2.2.1]; exact ⟨by omega, ⟨fun _ => hq241, fun _ => by decide⟩, ⟨fun q => absurd q (by decide), fun q => absurd q hq246⟩⟩⟩)⟩
            · cases hv
              have hsd := hfk.get hsd (by decide)
              have hse_ := hfk.get hse_ (by decide)
              have hq := hfk.get hq (by simp only [List.mem_cons, List.not_mem_nil, or_false]; omega)
              have hs := hfk.get hs (by decide)
              have hby_ := hfk.get hby_ (by decide)
              have hfr := hfr.tr hfk (by decide)
              have hlen := hlk.trans hlen
              have hsl := hsk.trans hsl
              have ha := hNa
              have heg := hNeg
              have hpo := hNpo
              have hbg := hNbg
              have hbd := hNbd
              change ab_W _ _ _ G332 98 [some (vR a), some (vR s), some (vz p), some (vz 3)] [vz v346] _
              refine zz_iret rfl d_ST_firstState_98 ?_
              rw [hQ]; exact ⟨_, _, _, _, _, _, _, _, _, _, rfl, hfr, hlen, hsl, ha, heg, hpo, hbg, hbd, hsd, hse_, (by omega), (by exact hq353), (by exact hq354), (by exact hq355), (by exact hq356), (by omega), (by rfl), (by exact (rgs_up jse (by omega))), (by exact edO_ks jed hq357), (by exact ⟨fun y => by rw [hq357.2.2.2 y]; exact ⟨fun ⟨i, i0, i1, _⟩ => by omega, fun q => by omega⟩, fun _ => by rw [hq357.2.2.1]; exact ⟨by omega, ⟨fun _ => hq241, fun _ => by decide⟩, ⟨fun q => absurd q (by decide), fun q => absurd q hq246⟩⟩⟩)⟩
      · cases hv
        rw [hGe]
        change ab_W _ _ _ G2 51 [some (vR a), some (vR s), some (vz p), some (vz 1)] [vz 0, vz 1] _
        refine zz_if_eq (tgt := 58) d_ST_firstState_51 (by decide) (by decide) (fun c359 => ?_) (fun c359 => absurd c359 (by decide))
        refine zz_iconst d_ST_firstState_58 ?_
        refine zz_iorL (r := 1) d_ST_firstState_59 (by decide) ?_
        refine ab_istore_n d_ST_firstState_60 (Nat.le_of_ble_eq_true rfl) (Nat.le_of_ble_eq_true rfl) rfl ?_
        change ab_W _ _ _ G2 61 [some (vR a), some (vR s), some (vz p), some (vz 1)] [] _
        refine ab_iload_n d_ST_firstState_61 rfl ?_
        refine ab_aload_n d_ST_firstState_62 rfl ?_
        refine ab_iload_n d_ST_firstState_63 rfl ?_
        refine zz_iconst d_ST_firstState_64 ?_
        refine zz_isub d_ST_firstState_65 ?_
        refine ab_callV (d' := d - 1) (as := [vz (p - 1)]) (st := [vz 1]) (r := _) (z_SU_isWordByte (o := o) (s := s) (ls := 26) (by_ := by_) (lby := 27) (m := m) (f := f) (n := n) (co := co) (re := re) (ho := ho) (p := (p - 1)) hs hby_ (by omega) hb (by omega)) (fun oc G2 h => by rcases h with ⟨h, _⟩ | ⟨h, _⟩ <;> exact ⟨_, h⟩) (by omega) m_SU_isWordByte ml_ST_139 im_SU_isWordByte se_SU_isWordByte c_SU hs.2.2 (Nat.le_of_ble_eq_true rfl) d_ST_firstState_66 rfl ?_
        intro v G360 hq
        rcases hq with ⟨hv, hGe, hq361⟩ | ⟨hv, hGe, hq362⟩
        · cases hv
          rw [hGe]
          change ab_W _ _ _ G2 69 [some (vR a), some (vR s), some (vz p), some (vz 1)] [vz 1, vz 1] _
          refine zz_if_eq (tgt := 76) d_ST_firstState_69 (by decide) (by decide) (fun c363 => absurd c363 (by decide)) (fun c363 => ?_)
          refine zz_iconst d_ST_firstState_72 ?_
          refine ab_goto (tgt := 77) d_ST_firstState_73 (by decide) ?_
          refine zz_iorL (r := 5) d_ST_firstState_77 (by decide) ?_
          refine ab_istore_n d_ST_firstState_78 (Nat.le_of_ble_eq_true rfl) (Nat.le_of_ble_eq_true rfl) rfl ?_
          change ab_W _ _ _ G2 79 [some (vR a), some (vR s), some (vz p), some (vz 5)] [] _
          refine ab_aload_n d_ST_firstState_79 rfl ?_
          refine ab_aload_n d_ST_firstState_80 rfl ?_
          refine ab_getf (fs := [vz mst, vR q, vz vr, vz ro, vR cu, vz cn, vR eg, vR po, vR bg, vR bd, vz ct, vR sd, vz 0, vR se_, vz (sta + 1), vR stk, vz arv, vj stp]) f_ST_74 d_ST_firstState_81 ha.2.2 rfl ?_
          refine ab_getf (fs := [vR ki, vR ne, vR ot, vz cnt, vz fi, vz la, vR ra, vz ru, vz gr, vz wi, vz sz, vz fl, vz ve, vz mi, vR na, vR nl]) f_ST_142 d_ST_firstState_84 hq.2.2 rfl ?_
          refine zz_if_eq (tgt := 94) d_ST_firstState_87 (by decide) (by omega) (fun c364 => ?_) (fun c364 => ?_)
          · refine zz_iconst d_ST_firstState_94 ?_
            refine ab_callV (d' := d - 1) (as := [vz 0]) (st := []) (r := _) (z_ST_keptState (o := o) (a := a) (cu := cu) (eg := eg) (po := po) (bg := bg) (bd := bd) (sd := sd) (se_ := se_) (stk := stk) (mst := mst) (q0 := vR q) (vr := vr) (ro := ro) (cn := cn) (ct := ct) (sc := 0) (sta := (sta + 1)) (arv := arv) (stp := stp) (EG := EG) (PO := PO) (BG := BG) (BD := BD) (SD := SD) (cnt := cnt) (ah := 0) ha heg hpo hbg hbd hsd (by omega) (by omega) (by omega) jbg jpo ents_0 (by omega) jbd jeg (by omega)) (fun oc G2 h => by rcases h with ⟨_, _, _, _, _, _, h, _⟩ | ⟨_, _, _, _, _, _, h, _⟩ <;> exact ⟨_, h⟩) (by omega) m_ST_keptState ml_ST_145 im_ST_keptState se_ST_keptState c_ST ha.2.2 (Nat.le_of_ble_eq_true rfl) d_ST_firstState_95 rfl ?_
            intro v G365 hq
            rcases hq with ⟨v366, ct2367, EG2368, PO2369, BG2370, BD2371, hv, hfk, hlk, hsk, hNa, hNeg, hNpo, hNbg, hNbd, hq372, hq373, hq374, hq375, hq376, hq377, hq378⟩ | ⟨v379, ct2380, EG2381, PO2382, BG2383, BD2384, hv, hfk, hlk, hsk, hNa, hNeg, hNpo, hNbg, hNbd, hq385, hq386, hq387, hq388, hq389, hq390, hq391⟩
            · cases hv
              have hsd := hfk.get hsd (by decide)
              have hse_ := hfk.get hse_ (by decide)
              have hq := hfk.get hq (by simp only [List.mem_cons, List.not_mem_nil, or_false]; omega)
              have hs := hfk.get hs (by decide)
              have hby_ := hfk.get hby_ (by decide)
              have hfr := hfr.tr hfk (by decide)
              have hlen := hlk.trans hlen
              have hsl := hsk.trans hsl
              have ha := hNa
              have heg := hNeg
              have hpo := hNpo
              have hbg := hNbg
              have hbd := hNbd
              change ab_W _ _ _ G365 98 [some (vR a), some (vR s), some (vz p), some (vz 5)] [vz v366] _
              refine zz_iret rfl d_ST_firstState_98 ?_
              rw [hQ]; exact ⟨_, _, _, _, _, _, _, _, _, _, rfl, hfr, hlen, hsl, ha, heg, hpo, hbg, hbd, hsd, hse_, (by omega), (by exact hq373), (by exact hq374), (by exact hq375), (by exact hq376), (by omega), (by rfl), (by exact (rgs_up jse (by omega))), (by exact edO_ks jed hq377), (by exact ⟨fun y => by rw [hq377.2.2.2 y]; exact ⟨fun ⟨i, i0, i1, _⟩ => by omega, fun q => by omega⟩, fun q => by omega⟩)⟩
            · cases hv
              have hsd := hfk.get hsd (by decide)
              have hse_ := hfk.get hse_ (by decide)
              have hq := hfk.get hq (by simp only [List.mem_cons, List.not_mem_nil, or_false]; omega)
              have hs := hfk.get hs (by decide)
              have hby_ := hfk.get hby_ (by decide)
              have hfr := hfr.tr hfk (by decide)
              have hlen := hlk.trans hlen
              have hsl := hsk.trans hsl
              have ha := hNa
              have heg := hNeg
              have hpo := hNpo
              have hbg := hNbg
              have hbd := hNbd
              change ab_W _ _ _ G365 98 [some (vR a), some (vR s), some (vz p), some (vz 5)] [vz v379] _
              refine zz_iret rfl d_ST_firstState_98 ?_
              rw [hQ]; exact ⟨_, _, _, _, _, _, _, _, _, _, rfl, hfr, hlen, hsl, ha, heg, hpo, hbg, hbd, hsd, hse_, (by omega), (by exact hq386), (by exact hq387), (by exact hq388), (by exact hq389), (by omega), (by rfl), (by exact (rgs_up jse (by omega))), (by exact edO_ks jed hq390), (by exact ⟨fun y => by rw [hq390.2.2.2 y]; exact ⟨fun ⟨i, i0, i1, _⟩ => by omega, fun q => by omega⟩, fun q => by omega⟩)⟩
          · refine ab_iload_n d_ST_firstState_90 rfl ?_
            refine ab_goto (tgt := 95) d_ST_firstState_91 (by decide) ?_
            refine ab_callV (d' := d - 1) (as := [vz 5]) (st := []) (r := _) (z_ST_keptState (o := o) (a := a) (cu := cu) (eg := eg) (po := po) (bg := bg) (bd := bd) (sd := sd) (se_ := se_) (stk := stk) (mst := mst) (q0 := vR q) (vr := vr) (ro := ro) (cn := cn) (ct := ct) (sc := 0) (sta := (sta + 1)) (arv := arv) (stp := stp) (EG := EG) (PO := PO) (BG := BG) (BD := BD) (SD := SD) (cnt := cnt) (ah := 5) ha heg hpo hbg hbd hsd (by omega) (by omega) (by omega) jbg jpo ents_0 (by omega) jbd jeg (by omega)) (fun oc G2 h => by rcases h with ⟨_, _, _, _, _, _, h, _⟩ | ⟨_, _, _, _, _, _, h, _⟩ <;> exact ⟨_, h⟩) (by omega) m_ST_keptState ml_ST_145 im_ST_keptState se_ST_keptState c_ST ha.2.2 (Nat.le_of_ble_eq_true rfl) d_ST_firstState_95 rfl ?_
            intro v G392 hq
            rcases hq with ⟨v393, ct2394, EG2395, PO2396, BG2397, BD2398, hv, hfk, hlk, hsk, hNa, hNeg, hNpo, hNbg, hNbd, hq399, hq400, hq401, hq402, hq403, hq404, hq405⟩ | ⟨v406, ct2407, EG2408, PO2409, BG2410, BD2411, hv, hfk, hlk, hsk, hNa, hNeg, hNpo, hNbg, hNbd, hq412, hq413, hq414, hq415, hq416, hq417, hq418⟩
            · cases hv
              have hsd := hfk.get hsd (by decide)
              have hse_ := hfk.get hse_ (by decide)
              have hq := hfk.get hq (by simp only [List.mem_cons, List.not_mem_nil, or_false]; omega)
              have hs := hfk.get hs (by decide)
              have hby_ := hfk.get hby_ (by decide)
              have hfr := hfr.tr hfk (by decide)
              have hlen := hlk.trans hlen
              have hsl := hsk.trans hsl
              have ha := hNa
              have heg := hNeg
              have hpo := hNpo
              have hbg := hNbg
              have hbd := hNbd
              change ab_W _ _ _ G392 98 [some (vR a), some (vR s), some (vz p), some (vz 5)] [vz v393] _
              refine zz_iret rfl d_ST_firstState_98 ?_
              rw [hQ]; exact ⟨_, _, _, _, _, _, _, _, _, _, rfl, hfr, hlen, hsl, ha, heg, hpo, hbg, hbd, hsd, hse_, (by omega), (by exact hq400), (by exact hq401), (by exact hq402), (by exact hq403), (by omega), (by rfl), (by exact (rgs_up jse (by omega))), (by exact edO_ks jed hq404), (by exact ⟨fun y => by rw [hq404.2.2.2 y]; exact ⟨fun ⟨i, i0, i1, _⟩ => by omega, fun q => by omega⟩, fun _ => by rw [hq404.2.2.1]; exact ⟨by omega, ⟨fun q => absurd q (by decide), fun q => absurd q hq242⟩, ⟨fun _ => hq361, fun _ => by decide⟩⟩⟩)⟩
            · cases hv
              have hsd := hfk.get hsd (by decide)
              have hse_ := hfk.get hse_ (by decide)
              have hq := hfk.get hq (by simp only [List.mem_cons, List.not_mem_nil, or_false]; omega)
              have hs := hfk.get hs (by decide)
              have hby_ := hfk.get hby_ (by decide)
              have hfr := hfr.tr hfk (by decide)
              have hlen := hlk.trans hlen
              have hsl := hsk.trans hsl
              have ha := hNa
              have heg := hNeg
              have hpo := hNpo
              have hbg := hNbg
              have hbd := hNbd
              change ab_W _ _ _ G392 98 [some (vR a), some (vR s), some (vz p), some (vz 5)] [vz v406] _
              refine zz_iret rfl d_ST_firstState_98 ?_
              rw [hQ]; exact ⟨_, _, _, _, _, _, _, _, _, _, rfl, hfr, hlen, hsl, ha, heg, hpo, hbg, hbd, hsd, hse_, (by omega), (by exact hq413), (by exact hq414), (by exact hq415), (by exact hq416), (by omega), (by rfl), (by exact (rgs_up jse (by omega))), (by exact edO_ks jed hq417), (by exact ⟨fun y => by rw [hq417.2.2.2 y]; exact ⟨fun ⟨i, i0, i1, _⟩ => by omega, fun q => by omega⟩, fun _ => by rw [hq417.2.2.1]; exact ⟨by omega, ⟨fun q => absurd q (by decide), fun q => absurd q hq242⟩, ⟨fun _ => hq361, fun _ => by decide⟩⟩⟩)⟩
        · cases hv
          rw [hGe]
          change ab_W _ _ _ G2 69 [some (vR a), some (vR s), some (vz p), some (vz 1)] [vz 0, vz 1] _
          refine zz_if_eq (tgt := 76) d_ST_firstState_69 (by decide) (by decide) (fun c419 => ?_) (fun c419 => absurd c419 (by decide))
          refine zz_iconst d_ST_firstState_76 ?_
          refine zz_iorL (r := 1) d_ST_firstState_77 (by decide) ?_
          refine ab_istore_n d_ST_firstState_78 (Nat.le_of_ble_eq_true rfl) (Nat.le_of_ble_eq_true rfl) rfl ?_
          change ab_W _ _ _ G2 79 [some (vR a), some (vR s), some (vz p), some (vz 1)] [] _
          refine ab_aload_n d_ST_firstState_79 rfl ?_
          refine ab_aload_n d_ST_firstState_80 rfl ?_
          refine ab_getf (fs := [vz mst, vR q, vz vr, vz ro, vR cu, vz cn, vR eg, vR po, vR bg, vR bd, vz ct, vR sd, vz 0, vR se_, vz (sta + 1), vR stk, vz arv, vj stp]) f_ST_74 d_ST_firstState_81 ha.2.2 rfl ?_
          refine ab_getf (fs := [vR ki, vR ne, vR ot, vz cnt, vz fi, vz la, vR ra, vz ru, vz gr, vz wi, vz sz, vz fl, vz ve, vz mi, vR na, vR nl]) f_ST_142 d_ST_firstState_84 hq.2.2 rfl ?_
          refine zz_if_eq (tgt := 94) d_ST_firstState_87 (by decide) (by omega) (fun c420 => ?_) (fun c420 => ?_)
          · refine zz_iconst d_ST_firstState_94 ?_
            refine ab_callV (d' := d - 1) (as := [vz 0]) (st := []) (r := _) (z_ST_keptState (o := o) (a := a) (cu := cu) (eg := eg) (po := po) (bg := bg) (bd := bd) (sd := sd) (se_ := se_) (stk := stk) (mst := mst) (q0 := vR q) (vr := vr) (ro := ro) (cn := cn) (ct := ct) (sc := 0) (sta := (sta + 1)) (arv := arv) (stp := stp) (EG := EG) (PO := PO) (BG := BG) (BD := BD) (SD := SD) (cnt := cnt) (ah := 0) ha heg hpo hbg hbd hsd (by omega) (by omega) (by omega) jbg jpo ents_0 (by omega) jbd jeg (by omega)) (fun oc G2 h => by rcases h with ⟨_, _, _, _, _, _, h, _⟩ | ⟨_, _, _, _, _, _, h, _⟩ <;> exact ⟨_, h⟩) (by omega) m_ST_keptState ml_ST_145 im_ST_keptState se_ST_keptState c_ST ha.2.2 (Nat.le_of_ble_eq_true rfl) d_ST_firstState_95 rfl ?_
            intro v G421 hq
            rcases hq with ⟨v422, ct2423, EG2424, PO2425, BG2426, BD2427, hv, hfk, hlk, hsk, hNa, hNeg, hNpo, hNbg, hNbd, hq428, hq429, hq430, hq431, hq432, hq433, hq434⟩ | ⟨v435, ct2436, EG2437, PO2438, BG2439, BD2440, hv, hfk, hlk, hsk, hNa, hNeg, hNpo, hNbg, hNbd, hq441, hq442, hq443, hq444, hq445, hq446, hq447⟩
            · cases hv
              have hsd := hfk.get hsd (by decide)
              have hse_ := hfk.get hse_ (by decide)
              have hq := hfk.get hq (by simp only [List.mem_cons, List.not_mem_nil, or_false]; omega)
              have hs := hfk.get hs (by decide)
              have hby_ := hfk.get hby_ (by decide)
              have hfr := hfr.tr hfk (by decide)
              have hlen := hlk.trans hlen
              have hsl := hsk.trans hsl
              have ha := hNa
              have heg := hNeg
              have hpo := hNpo
              have hbg := hNbg
              have hbd := hNbd
              change ab_W _ _ _ G421 98 [some (vR a), some (vR s), some (vz p), some (vz 1)] [vz v422] _
              refine zz_iret rfl d_ST_firstState_98 ?_
              rw [hQ]; exact ⟨_, _, _, _, _, _, _, _, _, _, rfl, hfr, hlen, hsl, ha, heg, hpo, hbg, hbd, hsd, hse_, (by omega), (by exact hq429), (by exact hq430), (by exact hq431), (by exact hq432), (by omega), (by rfl), (by exact (rgs_up jse (by omega))), (by exact edO_ks jed hq433), (by exact ⟨fun y => by rw [hq433.2.2.2 y]; exact ⟨fun ⟨i, i0, i1, _⟩ => by omega, fun q => by omega⟩, fun q => by omega⟩)⟩
            · cases hv
              have hsd := hfk.get hsd (by decide)
              have hse_ := hfk.get hse_ (by decide)
              have hq := hfk.get hq (by simp only [List.mem_cons, List.not_mem_nil, or_false]; omega)
              have hs := hfk.get hs (by decide)
              have hby_ := hfk.get hby_ (by decide)
              have hfr := hfr.tr hfk (by decide)
              have hlen := hlk.trans hlen
              have hsl := hsk.trans hsl
              have ha := hNa
              have heg := hNeg
              have hpo := hNpo
              have hbg := hNbg
              have hbd := hNbd
              change ab_W _ _ _ G421 98 [some (vR a), some (vR s), some (vz p), some (vz 1)] [vz v435] _
              refine zz_iret rfl d_ST_firstState_98 ?_
              rw [hQ]; exact ⟨_, _, _, _, _, _, _, _, _, _, rfl, hfr, hlen, hsl, ha, heg, hpo, hbg, hbd, hsd, hse_, (by omega), (by exact hq442), (by exact hq443), (by exact hq444), (by exact hq445), (by omega), (by rfl), (by exact (rgs_up jse (by omega))), (by exact edO_ks jed hq446), (by exact ⟨fun y => by rw [hq446.2.2.2 y]; exact ⟨fun ⟨i, i0, i1, _⟩ => by omega, fun q => by omega⟩, fun q => by omega⟩)⟩
          · refine ab_iload_n d_ST_firstState_90 rfl ?_
            refine ab_goto (tgt := 95) d_ST_firstState_91 (by decide) ?_
            refine ab_callV (d' := d - 1) (as := [vz 1]) (st := []) (r := _) (z_ST_keptState (o := o) (a := a) (cu := cu) (eg := eg) (po := po) (bg := bg) (bd := bd) (sd := sd) (se_ := se_) (stk := stk) (mst := mst) (q0 := vR q) (vr := vr) (ro := ro) (cn := cn) (ct := ct) (sc := 0) (sta := (sta + 1)) (arv := arv) (stp := stp) (EG := EG) (PO := PO) (BG := BG) (BD := BD) (SD := SD) (cnt := cnt) (ah := 1) ha heg hpo hbg hbd hsd (by omega) (by omega) (by omega) jbg jpo ents_0 (by omega) jbd jeg (by omega)) (fun oc G2 h => by rcases h with ⟨_, _, _, _, _, _, h, _⟩ | ⟨_, _, _, _, _, _, h, _⟩ <;> exact ⟨_, h⟩) (by omega) m_ST_keptState ml_ST_145 im_ST_keptState se_ST_keptState c_ST ha.2.2 (Nat.le_of_ble_eq_true rfl) d_ST_firstState_95 rfl ?_
            intro v G448 hq
            rcases hq with ⟨v449, ct2450, EG2451, PO2452, BG2453, BD2454, hv, hfk, hlk, hsk, hNa, hNeg, hNpo, hNbg, hNbd, hq455, hq456, hq457, hq458, hq459, hq460, hq461⟩ | ⟨v462, ct2463, EG2464, PO2465, BG2466, BD2467, hv, hfk, hlk, hsk, hNa, hNeg, hNpo, hNbg, hNbd, hq468, hq469, hq470, hq471, hq472, hq473, hq474⟩
            · cases hv
              have hsd := hfk.get hsd (by decide)
              have hse_ := hfk.get hse_ (by decide)
              have hq := hfk.get hq (by simp only [List.mem_cons, List.not_mem_nil, or_false]; omega)
              have hs := hfk.get hs (by decide)
              have hby_ := hfk.get hby_ (by decide)
              have hfr := hfr.tr hfk (by decide)
              have hlen := hlk.trans hlen
              have hsl := hsk.trans hsl
              have ha := hNa
              have heg := hNeg
              have hpo := hNpo
              have hbg := hNbg
              have hbd := hNbd
              change ab_W _ _ _ G448 98 [some (vR a), some (vR s), some (vz p), some (vz 1)] [vz v449] _
              refine zz_iret rfl d_ST_firstState_98 ?_
              rw [hQ]; exact ⟨_, _, _, _, _, _, _, _, _, _, rfl, hfr, hlen, hsl, ha, heg, hpo, hbg, hbd, hsd, hse_, (by omega), (by exact hq456), (by exact hq457), (by exact hq458), (by exact hq459), (by omega), (by rfl), (by exact (rgs_up jse (by omega))), (by exact edO_ks jed hq460), (by exact ⟨fun y => by rw [hq460.2.2.2 y]; exact ⟨fun ⟨i, i0, i1, _⟩ => by omega, fun q => by omega⟩, fun _ => by rw [hq460.2.2.1]; exact ⟨by omega, ⟨fun q => absurd q (by decide), fun q => absurd q hq242⟩, ⟨fun q => absurd q (by decide), fun q => absurd q hq362⟩⟩⟩)⟩
            · cases hv
              have hsd := hfk.get hsd (by decide)
              have hse_ := hfk.get hse_ (by decide)
              have hq := hfk.get hq (by simp only [List.mem_cons, List.not_mem_nil, or_false]; omega)
              have hs := hfk.get hs (by decide)
              have hby_ := hfk.get hby_ (by decide)
              have hfr := hfr.tr hfk (by decide)
              have hlen := hlk.trans hlen
              have hsl := hsk.trans hsl
              have ha := hNa
              have heg := hNeg
              have hpo := hNpo
              have hbg := hNbg
              have hbd := hNbd
              change ab_W _ _ _ G448 98 [some (vR a), some (vR s), some (vz p), some (vz 1)] [vz v462] _
              refine zz_iret rfl d_ST_firstState_98 ?_
              rw [hQ]; exact ⟨_, _, _, _, _, _, _, _, _, _, rfl, hfr, hlen, hsl, ha, heg, hpo, hbg, hbd, hsd, hse_, (by omega), (by exact hq469), (by exact hq470), (by exact hq471), (by exact hq472), (by omega), (by rfl), (by exact (rgs_up jse (by omega))), (by exact edO_ks jed hq473), (by exact ⟨fun y => by rw [hq473.2.2.2 y]; exact ⟨fun ⟨i, i0, i1, _⟩ => by omega, fun q => by omega⟩, fun _ => by rw [hq473.2.2.1]; exact ⟨by omega, ⟨fun q => absurd q (by decide), fun q => absurd q hq242⟩, ⟨fun q => absurd q (by decide), fun q => absurd q hq362⟩⟩⟩)⟩
  · refine ab_aload_n d_ST_firstState_22 rfl ?_
    refine ab_aload_n d_ST_firstState_23 rfl ?_
    refine ab_getf (fs := [vz mst, vR q, vz vr, vz ro, vR cu, vz cn, vR eg, vR po, vR bg, vR bd, vz ct, vR sd, vz 0, vR se_, vz (sta + 1), vR stk, vz arv, vj stp]) f_ST_74 d_ST_firstState_24 ha.2.2 rfl ?_
    refine ab_getf (fs := [vR ki, vR ne, vR ot, vz cnt, vz fi, vz la, vR ra, vz ru, vz gr, vz wi, vz sz, vz fl, vz ve, vz mi, vR na, vR nl]) f_ST_129 d_ST_firstState_27 hq.2.2 rfl ?_
    refine ab_callV (d' := d - 1) (as := [vz fi]) (st := []) (r := _) (z_ST_addSeed (o := o) (a := a) (cu := cu) (eg := eg) (po := po) (bg := bg) (bd := bd) (sd := sd) (se_ := se_) (stk := stk) (mst := mst) (q0 := vR q) (vr := vr) (ro := ro) (cn := cn) (ct := ct) (sc := 0) (sta := (sta + 1)) (arv := arv) (stp := stp) (SD := SD) (SE := SE) (e_ := fi) (cnt := cnt) ha hsd hse_ (by omega) (by omega) ents_0 (by omega) (rgs_up jse (by omega)) (sdQ_0 jse)) (fun oc G2 h => by rcases h with ⟨_, _, _, h, _⟩ <;> exact ⟨_, h⟩) (by omega) m_ST_addSeed ml_ST_132 im_ST_addSeed se_ST_addSeed c_ST ha.2.2 (Nat.le_of_ble_eq_true rfl) d_ST_firstState_30 rfl ?_
    intro v G475 hq
    rcases hq with ⟨sc2476, SD2477, SE2478, hv, hfk, hlk, hsk, hNa, hNsd, hNse_, hq479, hq480, hq481, hq482, hq483, hq484⟩
    cases hv
    have heg := hfk.get heg (by decide)
    have hpo := hfk.get hpo (by decide)
    have hbg := hfk.get hbg (by decide)
    have hbd := hfk.get hbd (by decide)
    have hq := hfk.get hq (by simp only [List.mem_cons, List.not_mem_nil, or_false]; omega)
    have hs := hfk.get hs (by decide)
    have hby_ := hfk.get hby_ (by decide)
    have hfr := hfr.tr hfk (by decide)
    have hlen := hlk.trans hlen
    have hsl := hsk.trans hsl
    have ha := hNa
    have hsd := hNsd
    have hse_ := hNse_
    change ab_W _ _ _ G475 33 [some (vR a), some (vR s), some (vz p), none] [] _
    refine ab_iload_n d_ST_firstState_33 rfl ?_
    refine zz_if_ne (tgt := 41) d_ST_firstState_34 (by decide) (by omega) (fun c485 => ?_) (fun c485 => ?_)
    · refine zz_iconst d_ST_firstState_41 ?_
      refine ab_istore_n d_ST_firstState_42 (Nat.le_of_ble_eq_true rfl) (Nat.le_of_ble_eq_true rfl) rfl ?_
      change ab_W _ _ _ G475 43 [some (vR a), some (vR s), some (vz p), some (vz 0)] [] _
      refine ab_iload_n d_ST_firstState_43 rfl ?_
      refine ab_aload_n d_ST_firstState_44 rfl ?_
      refine ab_iload_n d_ST_firstState_45 rfl ?_
      refine zz_iconst d_ST_firstState_46 ?_
      refine zz_isub d_ST_firstState_47 ?_
      refine ab_callV (d' := d - 1) (as := [vz (p - 1)]) (st := [vz 0]) (r := _) (z_SU_isLineFeed (o := o) (s := s) (ls := 26) (by_ := by_) (lby := 27) (m := m) (f := f) (n := n) (co := co) (re := re) (ho := ho) (p := (p - 1)) hs hby_ (by omega) hb) (fun oc G2 h => by rcases h with ⟨h, _⟩ | ⟨h, _⟩ <;> exact ⟨_, h⟩) (by omega) m_SU_isLineFeed ml_ST_135 im_SU_isLineFeed se_SU_isLineFeed c_SU hs.2.2 (Nat.le_of_ble_eq_true rfl) d_ST_firstState_48 rfl ?_
      intro v G486 hq
      rcases hq with ⟨hv, hGe, hq487⟩ | ⟨hv, hGe, hq488⟩
      · cases hv
        rw [hGe]
        change ab_W _ _ _ G475 51 [some (vR a), some (vR s), some (vz p), some (vz 0)] [vz 1, vz 0] _
        refine zz_if_eq (tgt := 58) d_ST_firstState_51 (by decide) (by decide) (fun c489 => absurd c489 (by decide)) (fun c489 => ?_)
        refine zz_iconst d_ST_firstState_54 ?_
        refine ab_goto (tgt := 59) d_ST_firstState_55 (by decide) ?_
        refine zz_iorL (r := 2) d_ST_firstState_59 (by decide) ?_
        refine ab_istore_n d_ST_firstState_60 (Nat.le_of_ble_eq_true rfl) (Nat.le_of_ble_eq_true rfl) rfl ?_
        change ab_W _ _ _ G475 61 [some (vR a), some (vR s), some (vz p), some (vz 2)] [] _
        refine ab_iload_n d_ST_firstState_61 rfl ?_
        refine ab_aload_n d_ST_firstState_62 rfl ?_
        refine ab_iload_n d_ST_firstState_63 rfl ?_
        refine zz_iconst d_ST_firstState_64 ?_
        refine zz_isub d_ST_firstState_65 ?_
        refine ab_callV (d' := d - 1) (as := [vz (p - 1)]) (st := [vz 2]) (r := _) (z_SU_isWordByte (o := o) (s := s) (ls := 26) (by_ := by_) (lby := 27) (m := m) (f := f) (n := n) (co := co) (re := re) (ho := ho) (p := (p - 1)) hs hby_ (by omega) hb (by omega)) (fun oc G2 h => by rcases h with ⟨h, _⟩ | ⟨h, _⟩ <;> exact ⟨_, h⟩) (by omega) m_SU_isWordByte ml_ST_139 im_SU_isWordByte se_SU_isWordByte c_SU hs.2.2 (Nat.le_of_ble_eq_true rfl) d_ST_firstState_66 rfl ?_
        intro v G490 hq
        rcases hq with ⟨hv, hGe, hq491⟩ | ⟨hv, hGe, hq492⟩
        · cases hv
          rw [hGe]
          change ab_W _ _ _ G475 69 [some (vR a), some (vR s), some (vz p), some (vz 2)] [vz 1, vz 2] _
          refine zz_if_eq (tgt := 76) d_ST_firstState_69 (by decide) (by decide) (fun c493 => absurd c493 (by decide)) (fun c493 => ?_)
          refine zz_iconst d_ST_firstState_72 ?_
          refine ab_goto (tgt := 77) d_ST_firstState_73 (by decide) ?_
          refine zz_iorL (r := 6) d_ST_firstState_77 (by decide) ?_
          refine ab_istore_n d_ST_firstState_78 (Nat.le_of_ble_eq_true rfl) (Nat.le_of_ble_eq_true rfl) rfl ?_
          change ab_W _ _ _ G475 79 [some (vR a), some (vR s), some (vz p), some (vz 6)] [] _
          refine ab_aload_n d_ST_firstState_79 rfl ?_
          refine ab_aload_n d_ST_firstState_80 rfl ?_
          refine ab_getf (fs := [vz mst, vR q, vz vr, vz ro, vR cu, vz cn, vR eg, vR po, vR bg, vR bd, vz ct, vR sd, vz sc2476, vR se_, vz (sta + 1), vR stk, vz arv, vj stp]) f_ST_74 d_ST_firstState_81 ha.2.2 rfl ?_
          refine ab_getf (fs := [vR ki, vR ne, vR ot, vz cnt, vz fi, vz la, vR ra, vz ru, vz gr, vz wi, vz sz, vz fl, vz ve, vz mi, vR na, vR nl]) f_ST_142 d_ST_firstState_84 hq.2.2 rfl ?_
          refine zz_if_eq (tgt := 94) d_ST_firstState_87 (by decide) (by omega) (fun c494 => ?_) (fun c494 => ?_)
          · refine zz_iconst d_ST_firstState_94 ?_
            refine ab_callV (d' := d - 1) (as := [vz 0]) (st := []) (r := _) (z_ST_keptState (o := o) (a := a) (cu := cu) (eg := eg) (po := po) (bg := bg) (bd := bd) (sd := sd) (se_ := se_) (stk := stk) (mst := mst) (q0 := vR q) (vr := vr) (ro := ro) (cn := cn) (ct := ct) (sc := sc2476) (sta := (sta + 1)) (arv := arv) (stp := stp) (EG := EG) (PO := PO) (BG := BG) (BD := BD) (SD := SD2477) (cnt := cnt) (ah := 0) ha heg hpo hbg hbd hsd (by omega) (by omega) (by omega) jbg jpo hq480 (by omega) jbd jeg (by omega)) (fun oc G2 h => by rcases h with ⟨_, _, _, _, _, _, h, _⟩ | ⟨_, _, _, _, _, _, h, _⟩ <;> exact ⟨_, h⟩) (by omega) m_ST_keptState ml_ST_145 im_ST_keptState se_ST_keptState c_ST ha.2.2 (Nat.le_of_ble_eq_true rfl) d_ST_firstState_95 rfl ?_
            intro v G495 hq
            rcases hq with ⟨v496, ct2497, EG2498, PO2499, BG2500, BD2501, hv, hfk, hlk, hsk, hNa, hNeg, hNpo, hNbg, hNbd, hq502, hq503, hq504, hq505, hq506, hq507, hq508⟩ | ⟨v509, ct2510, EG2511, PO2512, BG2513, BD2514, hv, hfk, hlk, hsk, hNa, hNeg, hNpo, hNbg, hNbd, hq515, hq516, hq517, hq518, hq519, hq520, hq521⟩
            · cases hv
              have hsd := hfk.get hsd (by decide)
              have hse_ := hfk.get hse_ (by decide)
              have hq := hfk.get hq (by simp only [List.mem_cons, List.not_mem_nil, or_false]; omega)
              have hs := hfk.get hs (by decide)
              have hby_ := hfk.get hby_ (by decide)
              have hfr := hfr.tr hfk (by decide)
              have hlen := hlk.trans hlen
              have hsl := hsk.trans hsl
              have ha := hNa
              have heg := hNeg
              have hpo := hNpo
              have hbg := hNbg
              have hbd := hNbd
              change ab_W _ _ _ G495 98 [some (vR a), some (vR s), some (vz p), some (vz 6)] [vz v496] _
              refine zz_iret rfl d_ST_firstState_98 ?_
              rw [hQ]; exact ⟨_, _, _, _, _, _, _, _, _, _, rfl, hfr, hlen, hsl, ha, heg, hpo, hbg, hbd, hsd, hse_, (by omega), (by exact hq503), (by exact hq504), (by exact hq505), (by exact hq506), (by omega), (by rfl), (by exact hq481), (by exact edO_ks jed hq507), (by exact ⟨fun y => by rw [hq507.2.2.2 y, hq483.1 y]; exact ⟨fun q => q.elim (fun ⟨i, i0, i1, _⟩ => by omega) (fun q => ⟨by omega, q⟩), fun q => Or.inr q.2⟩, fun q => by omega⟩)⟩
            · cases hv
              have hsd := hfk.get hsd (by decide)
              have hse_ := hfk.get hse_ (by decide)
              have hq := hfk.get hq (by simp only [List.mem_cons, List.not_mem_nil, or_false]; omega)
              have hs := hfk.get hs (by decide)
              have hby_ := hfk.get hby_ (by decide)
              have hfr := hfr.tr hfk (by decide)
              have hlen := hlk.trans hlen
              have hsl := hsk.trans hsl
              have ha := hNa
              have heg := hNeg
              have hpo := hNpo
              have hbg := hNbg
              have hbd := hNbd
              change ab_W _ _ _ G495 98 [some (vR a), some (vR s), some (vz p), some (vz 6)] [vz v509] _
              refine zz_iret rfl d_ST_firstState_98 ?_
              rw [hQ]; exact ⟨_, _, _, _, _, _, _, _, _, _, rfl, hfr, hlen, hsl, ha, heg, hpo, hbg, hbd, hsd, hse_, (by omega), (by exact hq516), (by exact hq517), (by exact hq518), (by exact hq519), (by omega), (by rfl), (by exact hq481), (by exact edO_ks jed hq520), (by exact ⟨fun y => by rw [hq520.2.2.2 y, hq483.1 y]; exact ⟨fun q => q.elim (fun ⟨i, i0, i1, _⟩ => by omega) (fun q => ⟨by omega, q⟩), fun q => Or.inr q.2⟩, fun q => by omega⟩)⟩
          · refine ab_iload_n d_ST_firstState_90 rfl ?_
            refine ab_goto (tgt := 95) d_ST_firstState_91 (by decide) ?_
            refine ab_callV (d' := d - 1) (as := [vz 6]) (st := []) (r := _) (z_ST_keptState (o := o) (a := a) (cu := cu) (eg := eg) (po := po) (bg := bg) (bd := bd) (sd := sd) (se_ := se_) (stk := stk) (mst := mst) (q0 := vR q) (vr := vr) (ro := ro) (cn := cn) (ct := ct) (sc := sc2476) (sta := (sta + 1)) (arv := arv) (stp := stp) (EG := EG) (PO := PO) (BG := BG) (BD := BD) (SD := SD2477) (cnt := cnt) (ah := 6) ha heg hpo hbg hbd hsd (by omega) (by omega) (by omega) jbg jpo hq480 (by omega) jbd jeg (by omega)) (fun oc G2 h => by rcases h with ⟨_, _, _, _, _, _, h, _⟩ | ⟨_, _, _, _, _, _, h, _⟩ <;> exact ⟨_, h⟩) (by omega) m_ST_keptState ml_ST_145 im_ST_keptState se_ST_keptState c_ST ha.2.2 (Nat.le_of_ble_eq_true rfl) d_ST_firstState_95 rfl ?_
            intro v G522 hq
            rcases hq with ⟨v523, ct2524, EG2525, PO2526, BG2527, BD2528, hv, hfk, hlk, hsk, hNa, hNeg, hNpo, hNbg, hNbd, hq529, hq530, hq531, hq532, hq533, hq534, hq535⟩ | ⟨v536, ct2537, EG2538, PO2539, BG2540, BD2541, hv, hfk, hlk, hsk, hNa, hNeg, hNpo, hNbg, hNbd, hq542, hq543, hq544, hq545, hq546, hq547, hq548⟩
            · cases hv
              have hsd := hfk.get hsd (by decide)
              have hse_ := hfk.get hse_ (by decide)
              have hq := hfk.get hq (by simp only [List.mem_cons, List.not_mem_nil, or_false]; omega)
              have hs := hfk.get hs (by decide)
              have hby_ := hfk.get hby_ (by decide)
              have hfr := hfr.tr hfk (by decide)
              have hlen := hlk.trans hlen
              have hsl := hsk.trans hsl
              have ha := hNa
              have heg := hNeg
              have hpo := hNpo
              have hbg := hNbg
              have hbd := hNbd
              change ab_W _ _ _ G522 98 [some (vR a), some (vR s), some (vz p), some (vz 6)] [vz v523] _
              refine zz_iret rfl d_ST_firstState_98 ?_
              rw [hQ]; exact ⟨_, _, _, _, _, _, _, _, _, _, rfl, hfr, hlen, hsl, ha, heg, hpo, hbg, hbd, hsd, hse_, (by omega), (by exact hq530), (by exact hq531), (by exact hq532), (by exact hq533), (by omega), (by rfl), (by exact hq481), (by exact edO_ks jed hq534), (by exact ⟨fun y => by rw [hq534.2.2.2 y, hq483.1 y]; exact ⟨fun q => q.elim (fun ⟨i, i0, i1, _⟩ => by omega) (fun q => ⟨by omega, q⟩), fun q => Or.inr q.2⟩, fun _ => by rw [hq534.2.2.1]; exact ⟨by omega, ⟨fun _ => hq487, fun _ => by decide⟩, ⟨fun _ => hq491, fun _ => by decide⟩⟩⟩)⟩
            · cases hv
              have hsd := hfk.get hsd (by decide)
              have hse_ := hfk.get hse_ (by decide)
              have hq := hfk.get hq (by simp only [List.mem_cons, List.not_mem_nil, or_false]; omega)
              have hs := hfk.get hs (by decide)
              have hby_ := hfk.get hby_ (by decide)
              have hfr := hfr.tr hfk (by decide)
              have hlen := hlk.trans hlen
              have hsl := hsk.trans hsl
              have ha := hNa
              have heg := hNeg
              have hpo := hNpo
              have hbg := hNbg
              have hbd := hNbd
              change ab_W _ _ _ G522 98 [some (vR a), some (vR s), some (vz p), some (vz 6)] [vz v536] _
              refine zz_iret rfl d_ST_firstState_98 ?_
              rw [hQ]; exact ⟨_, _, _, _, _, _, _, _, _, _, rfl, hfr, hlen, hsl, ha, heg, hpo, hbg, hbd, hsd, hse_, (by omega), (by exact hq543), (by exact hq544), (by exact hq545), (by exact hq546), (by omega), (by rfl), (by exact hq481), (by exact edO_ks jed hq547), (by exact ⟨fun y => by rw [hq547.2.2.2 y, hq483.1 y]; exact ⟨fun q => q.elim (fun ⟨i, i0, i1, _⟩ => by omega) (fun q => ⟨by omega, q⟩), fun q => Or.inr q.2⟩, fun _ => by rw [hq547.2.2.1]; exact ⟨by omega, ⟨fun _ => hq487, fun _ => by decide⟩, ⟨fun _ => hq491, fun _ => by decide⟩⟩⟩)⟩
        · cases hv
          rw [hGe]
          change ab_W _ _ _ G475 69 [some (vR a), some (vR s), some (vz p), some (vz 2)] [vz 0, vz 2] _
          refine zz_if_eq (tgt := 76) d_ST_firstState_69 (by decide) (by decide) (fun c549 => ?_) (fun c549 => absurd c549 (by decide))
          refine zz_iconst d_ST_firstState_76 ?_
          refine zz_iorL (r := 2) d_ST_firstState_77 (by decide) ?_
          refine ab_istore_n d_ST_firstState_78 (Nat.le_of_ble_eq_true rfl) (Nat.le_of_ble_eq_true rfl) rfl ?_
          change ab_W _ _ _ G475 79 [some (vR a), some (vR s), some (vz p), some (vz 2)] [] _
          refine ab_aload_n d_ST_firstState_79 rfl ?_
          refine ab_aload_n d_ST_firstState_80 rfl ?_
          refine ab_getf (fs := [vz mst, vR q, vz vr, vz ro, vR cu, vz cn, vR eg, vR po, vR bg, vR bd, vz ct, vR sd, vz sc2476, vR se_, vz (sta + 1), vR stk, vz arv, vj stp]) f_ST_74 d_ST_firstState_81 ha.2.2 rfl ?_
          refine ab_getf (fs := [vR ki, vR ne, vR ot, vz cnt, vz fi, vz la, vR ra, vz ru, vz gr, vz wi, vz sz, vz fl, vz ve, vz mi, vR na, vR nl]) f_ST_142 d_ST_firstState_84 hq.2.2 rfl ?_
          refine zz_if_eq (tgt := 94) d_ST_firstState_87 (by decide) (by omega) (fun c550 => ?_) (fun c550 => ?_)
          · refine zz_iconst d_ST_firstState_94 ?_
            refine ab_callV (d' := d - 1) (as := [vz 0]) (st := []) (r := _) (z_ST_keptState (o := o) (a := a) (cu := cu) (eg := eg) (po := po) (bg := bg) (bd := bd) (sd := sd) (se_ := se_) (stk := stk) (mst := mst) (q0 := vR q) (vr := vr) (ro := ro) (cn := cn) (ct := ct) (sc := sc2476) (sta := (sta + 1)) (arv := arv) (stp := stp) (EG := EG) (PO := PO) (BG := BG) (BD := BD) (SD := SD2477) (cnt := cnt) (ah := 0) ha heg hpo hbg hbd hsd (by omega) (by omega) (by omega) jbg jpo hq480 (by omega) jbd jeg (by omega)) (fun oc G2 h => by rcases h with ⟨_, _, _, _, _, _, h, _⟩ | ⟨_, _, _, _, _, _, h, _⟩ <;> exact ⟨_, h⟩) (by omega) m_ST_keptState ml_ST_145 im_ST_keptState se_ST_keptState c_ST ha.2.2 (Nat.le_of_ble_eq_true rfl) d_ST_firstState_95 rfl ?_
            intro v G551 hq
            rcases hq with ⟨v552, ct2553, EG2554, PO2555, BG2556, BD2557, hv, hfk, hlk, hsk, hNa, hNeg, hNpo, hNbg, hNbd, hq558, hq559, hq560, hq561, hq562, hq563, hq564⟩ | ⟨v565, ct2566, EG2567, PO2568, BG2569, BD2570, hv, hfk, hlk, hsk, hNa, hNeg, hNpo, hNbg, hNbd, hq571, hq572, hq573, hq574, hq575, hq576, hq577⟩
            · cases hv
              have hsd := hfk.get hsd (by decide)
              have hse_ := hfk.get hse_ (by decide)
              have hq := hfk.get hq (by simp only [List.mem_cons, List.not_mem_nil, or_false]; omega)
              have hs := hfk.get hs (by decide)
              have hby_ := hfk.get hby_ (by decide)
              have hfr := hfr.tr hfk (by decide)
              have hlen := hlk.trans hlen
              have hsl := hsk.trans hsl
              have ha := hNa
              have heg := hNeg
              have hpo := hNpo
              have hbg := hNbg
              have hbd := hNbd
              change ab_W _ _ _ G551 98 [some (vR a), some (vR s), some (vz p), some (vz 2)] [vz v552] _
              refine zz_iret rfl d_ST_firstState_98 ?_
              rw [hQ]; exact ⟨_, _, _, _, _, _, _, _, _, _, rfl, hfr, hlen, hsl, ha, heg, hpo, hbg, hbd, hsd, hse_, (by omega), (by exact hq559), (by exact hq560), (by exact hq561), (by exact hq562), (by omega), (by rfl), (by exact hq481), (by exact edO_ks jed hq563), (by exact ⟨fun y => by rw [hq563.2.2.2 y, hq483.1 y]; exact ⟨fun q => q.elim (fun ⟨i, i0, i1, _⟩ => by omega) (fun q => ⟨by omega, q⟩), fun q => Or.inr q.2⟩, fun q => by omega⟩)⟩
            · cases hv
              have hsd := hfk.get hsd (by decide)
              have hse_ := hfk.get hse_ (by decide)
              have hq := hfk.get hq (by simp only [List.mem_cons, List.not_mem_nil, or_false]; omega)
              have hs := hfk.get hs (by decide)
              have hby_ := hfk.get hby_ (by decide)
              have hfr := hfr.tr hfk (by decide)
              have hlen := hlk.trans hlen
              have hsl := hsk.trans hsl
              have ha := hNa
              have heg := hNeg
              have hpo := hNpo
              have hbg := hNbg
              have hbd := hNbd
              change ab_W _ _ _ G551 98 [some (vR a), some (vR s), some (vz p), some (vz 2)] [vz v565] _
              refine zz_iret rfl d_ST_firstState_98 ?_
              rw [hQ]; exact ⟨_, _, _, _, _, _, _, _, _, _, rfl, hfr, hlen, hsl, ha, heg, hpo, hbg, hbd, hsd, hse_, (by omega), (by exact hq572), (by exact hq573), (by exact hq574), (by exact hq575), (by omega), (by rfl), (by exact hq481), (by exact edO_ks jed hq576), (by exact ⟨fun y => by rw [hq576.2.2.2 y, hq483.1 y]; exact ⟨fun q => q.elim (fun ⟨i, i0, i1, _⟩ => by omega) (fun q => ⟨by omega, q⟩), fun q => Or.inr q.2⟩, fun q => by omega⟩)⟩
          · refine ab_iload_n d_ST_firstState_90 rfl ?_
            refine ab_goto (tgt := 95) d_ST_firstState_91 (by decide) ?_
            refine ab_callV (d' := d - 1) (as := [vz 2]) (st := []) (r := _) (z_ST_keptState (o := o) (a := a) (cu := cu) (eg := eg) (po := po) (bg := bg) (bd := bd) (sd := sd) (se_ := se_) (stk := stk) (mst := mst) (q0 := vR q) (vr := vr) (ro := ro) (cn := cn) (ct := ct) (sc := sc2476) (sta := (sta + 1)) (arv := arv) (stp := stp) (EG := EG) (PO := PO) (BG := BG) (BD := BD) (SD := SD2477) (cnt := cnt) (ah := 2) ha heg hpo hbg hbd hsd (by omega) (by omega) (by omega) jbg jpo hq480 (by omega) jbd jeg (by omega)) (fun oc G2 h => by rcases h with ⟨_, _, _, _, _, _, h, _⟩ | ⟨_, _, _, _, _, _, h, _⟩ <;> exact ⟨_, h⟩) (by omega) m_ST_keptState ml_ST_145 im_ST_keptState se_ST_keptState c_ST ha.2.2 (Nat.le_of_ble_eq_true rfl) d_ST_firstState_95 rfl ?_
            intro v G578 hq
            rcases hq with ⟨v579, ct2580, EG2581, PO2582, BG2583, BD2584, hv, hfk, hlk, hsk, hNa, hNeg, hNpo, hNbg, hNbd, hq585, hq586, hq587, hq588, hq589, hq590, hq591⟩ | ⟨v592, ct2593, EG2594, PO2595, BG2596, BD2597, hv, hfk, hlk, hsk, hNa, hNeg, hNpo, hNbg, hNbd, hq598, hq599, hq600, hq601, hq602, hq603, hq604⟩
            · cases hv
              have hsd := hfk.get hsd (by decide)
              have hse_ := hfk.get hse_ (by decide)
              have hq := hfk.get hq (by simp only [List.mem_cons, List.not_mem_nil, or_false]; omega)
              have hs := hfk.get hs (by decide)
              have hby_ := hfk.get hby_ (by decide)
              have hfr := hfr.tr hfk (by decide)
              have hlen := hlk.trans hlen
              have hsl := hsk.trans hsl
              have ha := hNa
              have heg := hNeg
              have hpo := hNpo
              have hbg := hNbg
              have hbd := hNbd
              change ab_W _ _ _ G578 98 [some (vR a), some (vR s), some (vz p), some (vz 2)] [vz v579] _
              refine zz_iret rfl d_ST_firstState_98 ?_
              rw [hQ]; exact ⟨_, _, _, _, _, _, _, _, _, _, rfl, hfr, hlen, hsl, ha, heg, hpo, hbg, hbd, hsd, hse_, (by omega), (by exact hq586), (by exact hq587), (by exact hq588), (by exact hq589), (by omega), (by rfl), (by exact hq481), (by exact edO_ks jed hq590), (by exact ⟨fun y => by rw [hq590.2.2.2 y, hq483.1 y]; exact ⟨fun q => q.elim (fun ⟨i, i0, i1, _⟩ => by omega) (fun q => ⟨by omega, q⟩), fun q => Or.inr q.2⟩, fun _ => by rw [hq590.2.2.1]; exact ⟨by omega, ⟨fun _ => hq487, fun _ => by decide⟩, ⟨fun q => absurd q (by decide), fun q => absurd q hq492⟩⟩⟩)⟩
            · cases hv
              have hsd := hfk.get hsd (by decide)
              have hse_ := hfk.get hse_ (by decide)
              have hq := hfk.get hq (by simp only [List.mem_cons, List.not_mem_nil, or_false]; omega)
              have hs := hfk.get hs (by decide)
              have hby_ := hfk.get hby_ (by decide)
              have hfr := hfr.tr hfk (by decide)
              have hlen := hlk.trans hlen
              have hsl := hsk.trans hsl
              have ha := hNa
              have heg := hNeg
              have hpo := hNpo
              have hbg := hNbg
              have hbd := hNbd
              change ab_W _ _ _ G578 98 [some (vR a), some (vR s), some (vz p), some (vz 2)] [vz v592] _
              refine zz_iret rfl d_ST_firstState_98 ?_
              rw [hQ]; exact ⟨_, _, _, _, _, _, _, _, _, _, rfl, hfr, hlen, hsl, ha, heg, hpo, hbg, hbd, hsd, hse_, (by omega), (by exact hq599), (by exact hq600), (by exact hq601), (by exact hq602), (by omega), (by rfl), (by exact hq481), (by exact edO_ks jed hq603), (by exact ⟨fun y => by rw [hq603.2.2.2 y, hq483.1 y]; exact ⟨fun q => q.elim (fun ⟨i, i0, i1, _⟩ => by omega) (fun q => ⟨by omega, q⟩), fun q => Or.inr q.2⟩, fun _ => by rw [hq603.2.2.1]; exact ⟨by omega, ⟨fun _ => hq487, fun _ => by decide⟩, ⟨fun q => absurd q (by decide), fun q => absurd q hq492⟩⟩⟩)⟩
      · cases hv
        rw [hGe]
        change ab_W _ _ _ G475 51 [some (vR a), some (vR s), some (vz p), some (vz 0)] [vz 0, vz 0] _
        refine zz_if_eq (tgt := 58) d_ST_firstState_51 (by decide) (by decide) (fun c605 => ?_) (fun c605 => absurd c605 (by decide))
        refine zz_iconst d_ST_firstState_58 ?_
        refine zz_iorL (r := 0) d_ST_firstState_59 (by decide) ?_
        refine ab_istore_n d_ST_firstState_60 (Nat.le_of_ble_eq_true rfl) (Nat.le_of_ble_eq_true rfl) rfl ?_
        change ab_W _ _ _ G475 61 [some (vR a), some (vR s), some (vz p), some (vz 0)] [] _
        refine ab_iload_n d_ST_firstState_61 rfl ?_
        refine ab_aload_n d_ST_firstState_62 rfl ?_
        refine ab_iload_n d_ST_firstState_63 rfl ?_
        refine zz_iconst d_ST_firstState_64 ?_
        refine zz_isub d_ST_firstState_65 ?_
        refine ab_callV (d' := d - 1) (as := [vz (p - 1)]) (st := [vz 0]) (r := _) (z_SU_isWordByte (o := o) (s := s) (ls := 26) (by_ := by_) (lby := 27) (m := m) (f := f) (n := n) (co := co) (re := re) (ho := ho) (p := (p - 1)) hs hby_ (by omega) hb (by omega)) (fun oc G2 h => by rcases h with ⟨h, _⟩ | ⟨h, _⟩ <;> exact ⟨_, h⟩) (by omega) m_SU_isWordByte ml_ST_139 im_SU_isWordByte se_SU_isWordByte c_SU hs.2.2 (Nat.le_of_ble_eq_true rfl) d_ST_firstState_66 rfl ?_
        intro v G606 hq
        rcases hq with ⟨hv, hGe, hq607⟩ | ⟨hv, hGe, hq608⟩
        · cases hv
          rw [hGe]
          change ab_W _ _ _ G475 69 [some (vR a), some (vR s), some (vz p), some (vz 0)] [vz 1, vz 0] _
          refine zz_if_eq (tgt := 76) d_ST_firstState_69 (by decide) (by decide) (fun c609 => absurd c609 (by decide)) (fun c609 => ?_)
          refine zz_iconst d_ST_firstState_72 ?_
          refine ab_goto (tgt := 77) d_ST_firstState_73 (by decide) ?_
          refine zz_iorL (r := 4) d_ST_firstState_77 (by decide) ?_
          refine ab_istore_n d_ST_firstState_78 (Nat.le_of_ble_eq_true rfl) (Nat.le_of_ble_eq_true rfl) rfl ?_
          change ab_W _ _ _ G475 79 [some (vR a), some (vR s), some (vz p), some (vz 4)] [] _
          refine ab_aload_n d_ST_firstState_79 rfl ?_
          refine ab_aload_n d_ST_firstState_80 rfl ?_
          refine ab_getf (fs := [vz mst, vR q, vz vr, vz ro, vR cu, vz cn, vR eg, vR po, vR bg, vR bd, vz ct, vR sd, vz sc2476, vR se_, vz (sta + 1), vR stk, vz arv, vj stp]) f_ST_74 d_ST_firstState_81 ha.2.2 rfl ?_
          refine ab_getf (fs := [vR ki, vR ne, vR ot, vz cnt, vz fi, vz la, vR ra, vz ru, vz gr, vz wi, vz sz, vz fl, vz ve, vz mi, vR na, vR nl]) f_ST_142 d_ST_firstState_84 hq.2.2 rfl ?_
          refine zz_if_eq (tgt := 94) d_ST_firstState_87 (by decide) (by omega) (fun c610 => ?_) (fun c610 => ?_)
          · refine zz_iconst d_ST_firstState_94 ?_
            refine ab_callV (d' := d - 1) (as := [vz 0]) (st := []) (r := _) (z_ST_keptState (o := o) (a := a) (cu := cu) (eg := eg) (po := po) (bg := bg) (bd := bd) (sd := sd) (se_ := se_) (stk := stk) (mst := mst) (q0 := vR q) (vr := vr) (ro := ro) (cn := cn) (ct := ct) (sc := sc2476) (sta := (sta + 1)) (arv := arv) (stp := stp) (EG := EG) (PO := PO) (BG := BG) (BD := BD) (SD := SD2477) (cnt := cnt) (ah := 0) ha heg hpo hbg hbd hsd (by omega) (by omega) (by omega) jbg jpo hq480 (by omega) jbd jeg (by omega)) (fun oc G2 h => by rcases h with ⟨_, _, _, _, _, _, h, _⟩ | ⟨_, _, _, _, _, _, h, _⟩ <;> exact ⟨_, h⟩) (by omega) m_ST_keptState ml_ST_145 im_ST_keptState se_ST_keptState c_ST ha.2.2 (Nat.le_of_ble_eq_true rfl) d_ST_firstState_95 rfl ?_
            intro v G611 hq
            rcases hq with ⟨v612, ct2613, EG2614, PO2615, BG2616, BD2617, hv, hfk, hlk, hsk, hNa, hNeg, hNpo, hNbg, hNbd, hq618, hq619, hq620, hq621, hq622, hq623, hq624⟩ | ⟨v625, ct2626, EG2627, PO2628, BG2629, BD2630, hv, hfk, hlk, hsk, hNa, hNeg, hNpo, hNbg, hNbd, hq631, hq632, hq633, hq634, hq635, hq636, hq637⟩
            · cases hv
              have hsd := hfk.get hsd (by decide)
              have hse_ := hfk.get hse_ (by decide)
              have hq := hfk.get hq (by simp only [List.mem_cons, List.not_mem_nil, or_false]; omega)
              have hs := hfk.get hs (by decide)
              have hby_ := hfk.get hby_ (by decide)
              have hfr := hfr.tr hfk (by decide)
              have hlen := hlk.trans hlen
              have hsl := hsk.trans hsl
              have ha := hNa
              have heg := hNeg
              have hpo := hNpo
              have hbg := hNbg
              have hbd := hNbd
              change ab_W _ _ _ G611 98 [some (vR a), some (vR s), some (vz p), some (vz 4)] [vz v612] _
              refine zz_iret rfl d_ST_firstState_98 ?_
              rw [hQ]; exact ⟨_, _, _, _, _, _, _, _, _, _, rfl, hfr, hlen, hsl, ha, heg, hpo, hbg, hbd, hsd, hse_, (by omega), (by exact hq619), (by exact hq620), (by exact hq621), (by exact hq622), (by omega), (by rfl), (by exact hq481), (by exact edO_ks jed hq623), (by exact ⟨fun y => by rw [hq623.2.2.2 y, hq483.1 y]; exact ⟨fun q => q.elim (fun ⟨i, i0, i1, _⟩ => by omega) (fun q => ⟨by omega, q⟩), fun q => Or.inr q.2⟩, fun q => by omega⟩)⟩
            · cases hv
              have hsd := hfk.get hsd (by decide)
              have hse_ := hfk.get hse_ (by decide)
              have hq := hfk.get hq (by simp only [List.mem_cons, List.not_mem_nil, or_false]; omega)
              have hs := hfk.get hs (by decide)
              have hby_ := hfk.get hby_ (by decide)
              have hfr := hfr.tr hfk (by decide)
              have hlen := hlk.trans hlen
              have hsl := hsk.trans hsl
              have ha := hNa
              have heg := hNeg
              have hpo := hNpo
              have hbg := hNbg
              have hbd := hNbd
              change ab_W _ _ _ G611 98 [some (vR a), some (vR s), some (vz p), some (vz 4)] [vz v625] _
              refine zz_iret rfl d_ST_firstState_98 ?_
              rw [hQ]; exact ⟨_, _, _, _, _, _, _, _, _, _, rfl, hfr, hlen, hsl, ha, heg, hpo, hbg, hbd, hsd, hse_, (by omega), (by exact hq632), (by exact hq633), (by exact hq634), (by exact hq635), (by omega), (by rfl), (by exact hq481), (by exact edO_ks jed hq636), (by exact ⟨fun y => by rw [hq636.2.2.2 y, hq483.1 y]; exact ⟨fun q => q.elim (fun ⟨i, i0, i1, _⟩ => by omega) (fun q => ⟨by omega, q⟩), fun q => Or.inr q.2⟩, fun q => by omega⟩)⟩
          · refine ab_iload_n d_ST_firstState_90 rfl ?_
            refine ab_goto (tgt := 95) d_ST_firstState_91 (by decide) ?_
            refine ab_callV (d' := d - 1) (as := [vz 4]) (st := []) (r := _) (z_ST_keptState (o := o) (a := a) (cu := cu) (eg := eg) (po := po) (bg := bg) (bd := bd) (sd := sd) (se_ := se_) (stk := stk) (mst := mst) (q0 := vR q) (vr := vr) (ro := ro) (cn := cn) (ct := ct) (sc := sc2476) (sta := (sta + 1)) (arv := arv) (stp := stp) (EG := EG) (PO := PO) (BG := BG) (BD := BD) (SD := SD2477) (cnt := cnt) (ah := 4) ha heg hpo hbg hbd hsd (by omega) (by omega) (by omega) jbg jpo hq480 (by omega) jbd jeg (by omega)) (fun oc G2 h => by rcases h with ⟨_, _, _, _, _, _, h, _⟩ | ⟨_, _, _, _, _, _, h, _⟩ <;> exact ⟨_, h⟩) (by omega) m_ST_keptState ml_ST_145 im_ST_keptState se_ST_keptState c_ST ha.2.2 (Nat.le_of_ble_eq_true rfl) d_ST_firstState_95 rfl ?_
            intro v G638 hq
            rcases hq with ⟨v639, ct2640, EG2641, PO2642, BG2643, BD2644, hv, hfk, hlk, hsk, hNa, hNeg, hNpo, hNbg, hNbd, hq645, hq646, hq647, hq648, hq649, hq650, hq651⟩ | ⟨v652, ct2653, EG2654, PO2655, BG2656, BD2657, hv, hfk, hlk, hsk, hNa, hNeg, hNpo, hNbg, hNbd, hq658, hq659, hq660, hq661, hq662, hq663, hq664⟩
            · cases hv
              have hsd := hfk.get hsd (by decide)
              have hse_ := hfk.get hse_ (by decide)
              have hq := hfk.get hq (by simp only [List.mem_cons, List.not_mem_nil, or_false]; omega)
              have hs := hfk.get hs (by decide)
              have hby_ := hfk.get hby_ (by decide)
              have hfr := hfr.tr hfk (by decide)
              have hlen := hlk.trans hlen
              have hsl := hsk.trans hsl
              have ha := hNa
              have heg := hNeg
              have hpo := hNpo
              have hbg := hNbg
              have hbd := hNbd
              change ab_W _ _ _ G638 98 [some (vR a), some (vR s), some (vz p), some (vz 4)] [vz v639] _
              refine zz_iret rfl d_ST_firstState_98 ?_
              rw [hQ]; exact ⟨_, _, _, _, _, _, _, _, _, _, rfl, hfr, hlen, hsl, ha, heg, hpo, hbg, hbd, hsd, hse_, (by omega), (by exact hq646), (by exact hq647), (by exact hq648), (by exact hq649), (by omega), (by rfl), (by exact hq481), (by exact edO_ks jed hq650), (by exact ⟨fun y => by rw [hq650.2.2.2 y, hq483.1 y]; exact ⟨fun q => q.elim (fun ⟨i, i0, i1, _⟩ => by omega) (fun q => ⟨by omega, q⟩), fun q => Or.inr q.2⟩, fun _ => by rw [hq650.2.2.1]; exact ⟨by omega, ⟨fun q => absurd q (by decide), fun q => absurd q hq488⟩, ⟨fun _ => hq607, fun _ => by decide⟩⟩⟩)⟩
            · cases hv
              have hsd := hfk.get hsd (by decide)
              have hse_ := hfk.get hse_ (by decide)
              have hq := hfk.get hq (by simp only [List.mem_cons, List.not_mem_nil, or_false]; omega)
              have hs := hfk.get hs (by decide)
              have hby_ := hfk.get hby_ (by decide)
              have hfr := hfr.tr hfk (by decide)
              have hlen := hlk.trans hlen
              have hsl := hsk.trans hsl
              have ha := hNa
              have heg := hNeg
              have hpo := hNpo
              have hbg := hNbg
              have hbd := hNbd
              change ab_W _ _ _ G638 98 [some (vR a), some (vR s), some (vz p), some (vz 4)] [vz v652] _
              refine zz_iret rfl d_ST_firstState_98 ?_
              rw [hQ]; exact ⟨_, _, _, _, _, _, _, _, _, _, rfl, hfr, hlen, hsl, ha, heg, hpo, hbg, hbd, hsd, hse_, (by omega), (by exact hq659), (by exact hq660), (by exact hq661), (by exact hq662), (by omega), (by rfl), (by exact hq481), (by exact edO_ks jed hq663), (by exact ⟨fun y => by rw [hq663.2.2.2 y, hq483.1 y]; exact ⟨fun q => q.elim (fun ⟨i, i0, i1, _⟩ => by omega) (fun q => ⟨by omega, q⟩), fun q => Or.inr q.2⟩, fun _ => by rw [hq663.2.2.1]; exact ⟨by omega, ⟨fun q => absurd q (by decide), fun q => absurd q hq488⟩, ⟨fun _ => hq607, fun _ => by decide⟩⟩⟩)⟩
        · cases hv
          rw [hGe]
          change ab_W _ _ _ G475 69 [some (vR a), some (vR s), some (vz p), some (vz 0)] [vz 0, vz 0] _
          refine zz_if_eq (tgt := 76) d_ST_firstState_69 (by decide) (by decide) (fun c665 => ?_) (fun c665 => absurd c665 (by decide))
          refine zz_iconst d_ST_firstState_76 ?_
          refine zz_iorL (r := 0) d_ST_firstState_77 (by decide) ?_
          refine ab_istore_n d_ST_firstState_78 (Nat.le_of_ble_eq_true rfl) (Nat.le_of_ble_eq_true rfl) rfl ?_
          change ab_W _ _ _ G475 79 [some (vR a), some (vR s), some (vz p), some (vz 0)] [] _
          refine ab_aload_n d_ST_firstState_79 rfl ?_
          refine ab_aload_n d_ST_firstState_80 rfl ?_
          refine ab_getf (fs := [vz mst, vR q, vz vr, vz ro, vR cu, vz cn, vR eg, vR po, vR bg, vR bd, vz ct, vR sd, vz sc2476, vR se_, vz (sta + 1), vR stk, vz arv, vj stp]) f_ST_74 d_ST_firstState_81 ha.2.2 rfl ?_
          refine ab_getf (fs := [vR ki, vR ne, vR ot, vz cnt, vz fi, vz la, vR ra, vz ru, vz gr, vz wi, vz sz, vz fl, vz ve, vz mi, vR na, vR nl]) f_ST_142 d_ST_firstState_84 hq.2.2 rfl ?_
          refine zz_if_eq (tgt := 94) d_ST_firstState_87 (by decide) (by omega) (fun c666 => ?_) (fun c666 => ?_)
          · refine zz_iconst d_ST_firstState_94 ?_
            refine ab_callV (d' := d - 1) (as := [vz 0]) (st := []) (r := _) (z_ST_keptState (o := o) (a := a) (cu := cu) (eg := eg) (po := po) (bg := bg) (bd := bd) (sd := sd) (se_ := se_) (stk := stk) (mst := mst) (q0 := vR q) (vr := vr) (ro := ro) (cn := cn) (ct := ct) (sc := sc2476) (sta := (sta + 1)) (arv := arv) (stp := stp) (EG := EG) (PO := PO) (BG := BG) (BD := BD) (SD := SD2477) (cnt := cnt) (ah := 0) ha heg hpo hbg hbd hsd (by omega) (by omega) (by omega) jbg jpo hq480 (by omega) jbd jeg (by omega)) (fun oc G2 h => by rcases h with ⟨_, _, _, _, _, _, h, _⟩ | ⟨_, _, _, _, _, _, h, _⟩ <;> exact ⟨_, h⟩) (by omega) m_ST_keptState ml_ST_145 im_ST_keptState se_ST_keptState c_ST ha.2.2 (Nat.le_of_ble_eq_true rfl) d_ST_firstState_95 rfl ?_
            intro v G667 hq
            rcases hq with ⟨v668, ct2669, EG2670, PO2671, BG2672, BD2673, hv, hfk, hlk, hsk, hNa, hNeg, hNpo, hNbg, hNbd, hq674, hq675, hq676, hq677, hq678, hq679, hq680⟩ | ⟨v681, ct2682, EG2683, PO2684, BG2685, BD2686, hv, hfk, hlk, hsk, hNa, hNeg, hNpo, hNbg, hNbd, hq687, hq688, hq689, hq690, hq691, hq692, hq693⟩
            · cases hv
              have hsd := hfk.get hsd (by decide)
              have hse_ := hfk.get hse_ (by decide)
              have hq := hfk.get hq (by simp only [List.mem_cons, List.not_mem_nil, or_false]; omega)
              have hs := hfk.get hs (by decide)
              have hby_ := hfk.get hby_ (by decide)
              have hfr := hfr.tr hfk (by decide)
              have hlen := hlk.trans hlen
              have hsl := hsk.trans hsl
              have ha := hNa
              have heg := hNeg
              have hpo := hNpo
              have hbg := hNbg
              have hbd := hNbd
              change ab_W _ _ _ G667 98 [some (vR a), some (vR s), some (vz p), some (vz 0)] [vz v668] _
              refine zz_iret rfl d_ST_firstState_98 ?_
              rw [hQ]; exact ⟨_, _, _, _, _, _, _, _, _, _, rfl, hfr, hlen, hsl, ha, heg, hpo, hbg, hbd, hsd, hse_, (by omega), (by exact hq675), (by exact hq676), (by exact hq677), (by exact hq678), (by omega), (by rfl), (by exact hq481), (by exact edO_ks jed hq679), (by exact ⟨fun y => by rw [hq679.2.2.2 y, hq483.1 y]; exact ⟨fun q => q.elim (fun ⟨i, i0, i1, _⟩ => by omega) (fun q => ⟨by omega, q⟩), fun q => Or.inr q.2⟩, fun q => by omega⟩)⟩
            · cases hv
              have hsd := hfk.get hsd (by decide)
              have hse_ := hfk.get hse_ (by decide)
              have hq := hfk.get hq (by simp only [List.mem_cons, List.not_mem_nil, or_false]; omega)
              have hs := hfk.get hs (by decide)
              have hby_ := hfk.get hby_ (by decide)
              have hfr := hfr.tr hfk (by decide)
              have hlen := hlk.trans hlen
              have hsl := hsk.trans hsl
              have ha := hNa
              have heg := hNeg
              have hpo := hNpo
              have hbg := hNbg
              have hbd := hNbd
              change ab_W _ _ _ G667 98 [some (vR a), some (vR s), some (vz p), some (vz 0)] [vz v681] _
              refine zz_iret rfl d_ST_firstState_98 ?_
              rw [hQ]; exact ⟨_, _, _, _, _, _, _, _, _, _, rfl, hfr, hlen, hsl, ha, heg, hpo, hbg, hbd, hsd, hse_, (by omega), (by exact hq688), (by exact hq689), (by exact hq690), (by exact hq691), (by omega), (by rfl), (by exact hq481), (by exact edO_ks jed hq692), (by exact ⟨fun y => by rw [hq692.2.2.2 y, hq483.1 y]; exact ⟨fun q => q.elim (fun ⟨i, i0, i1, _⟩ => by omega) (fun q => ⟨by omega, q⟩), fun q => Or.inr q.2⟩, fun q => by omega⟩)⟩
          · refine ab_iload_n d_ST_firstState_90 rfl ?_
            refine ab_goto (tgt := 95) d_ST_firstState_91 (by decide) ?_
            refine ab_callV (d' := d - 1) (as := [vz 0]) (st := []) (r := _) (z_ST_keptState (o := o) (a := a) (cu := cu) (eg := eg) (po := po) (bg := bg) (bd := bd) (sd := sd) (se_ := se_) (stk := stk) (mst := mst) (q0 := vR q) (vr := vr) (ro := ro) (cn := cn) (ct := ct) (sc := sc2476) (sta := (sta + 1)) (arv := arv) (stp := stp) (EG := EG) (PO := PO) (BG := BG) (BD := BD) (SD := SD2477) (cnt := cnt) (ah := 0) ha heg hpo hbg hbd hsd (by omega) (by omega) (by omega) jbg jpo hq480 (by omega) jbd jeg (by omega)) (fun oc G2 h => by rcases h with ⟨_, _, _, _, _, _, h, _⟩ | ⟨_, _, _, _, _, _, h, _⟩ <;> exact ⟨_, h⟩) (by omega) m_ST_keptState ml_ST_145 im_ST_keptState se_ST_keptState c_ST ha.2.2 (Nat.le_of_ble_eq_true rfl) d_ST_firstState_95 rfl ?_
            intro v G694 hq
            rcases hq with ⟨v695, ct2696, EG2697, PO2698, BG2699, BD2700, hv, hfk, hlk, hsk, hNa, hNeg, hNpo, hNbg, hNbd, hq701, hq702, hq703, hq704, hq705, hq706, hq707⟩ | ⟨v708, ct2709, EG2710, PO2711, BG2712, BD2713, hv, hfk, hlk, hsk, hNa, hNeg, hNpo, hNbg, hNbd, hq714, hq715, hq716, hq717, hq718, hq719, hq720⟩
            · cases hv
              have hsd := hfk.get hsd (by decide)
              have hse_ := hfk.get hse_ (by decide)
              have hq := hfk.get hq (by simp only [List.mem_cons, List.not_mem_nil, or_false]; omega)
              have hs := hfk.get hs (by decide)
              have hby_ := hfk.get hby_ (by decide)
              have hfr := hfr.tr hfk (by decide)
              have hlen := hlk.trans hlen
              have hsl := hsk.trans hsl
              have ha := hNa
              have heg := hNeg
              have hpo := hNpo
              have hbg := hNbg
              have hbd := hNbd
              change ab_W _ _ _ G694 98 [some (vR a), some (vR s), some (vz p), some (vz 0)] [vz v695] _
              refine zz_iret rfl d_ST_firstState_98 ?_
              rw [hQ]; exact ⟨_, _, _, _, _, _, _, _, _, _, rfl, hfr, hlen, hsl, ha, heg, hpo, hbg, hbd, hsd, hse_, (by omega), (by exact hq702), (by exact hq703), (by exact hq704), (by exact hq705), (by omega), (by rfl), (by exact hq481), (by exact edO_ks jed hq706), (by exact ⟨fun y => by rw [hq706.2.2.2 y, hq483.1 y]; exact ⟨fun q => q.elim (fun ⟨i, i0, i1, _⟩ => by omega) (fun q => ⟨by omega, q⟩), fun q => Or.inr q.2⟩, fun _ => by rw [hq706.2.2.1]; exact ⟨by omega, ⟨fun q => absurd q (by decide), fun q => absurd q hq488⟩, ⟨fun q => absurd q (by decide), fun q => absurd q hq608⟩⟩⟩)⟩
            · cases hv
              have hsd := hfk.get hsd (by decide)
              have hse_ := hfk.get hse_ (by decide)
              have hq := hfk.get hq (by simp only [List.mem_cons, List.not_mem_nil, or_false]; omega)
              have hs := hfk.get hs (by decide)
              have hby_ := hfk.get hby_ (by decide)
              have hfr := hfr.tr hfk (by decide)
              have hlen := hlk.trans hlen
              have hsl := hsk.trans hsl
              have ha := hNa
              have heg := hNeg
              have hpo := hNpo
              have hbg := hNbg
              have hbd := hNbd
              change ab_W _ _ _ G694 98 [some (vR a), some (vR s), some (vz p), some (vz 0)] [vz v708] _
              refine zz_iret rfl d_ST_firstState_98 ?_
              rw [hQ]; exact ⟨_, _, _, _, _, _, _, _, _, _, rfl, hfr, hlen, hsl, ha, heg, hpo, hbg, hbd, hsd, hse_, (by omega), (by exact hq715), (by exact hq716), (by exact hq717), (by exact hq718), (by omega), (by rfl), (by exact hq481), (by exact edO_ks jed hq719), (by exact ⟨fun y => by rw [hq719.2.2.2 y, hq483.1 y]; exact ⟨fun q => q.elim (fun ⟨i, i0, i1, _⟩ => by omega) (fun q => ⟨by omega, q⟩), fun q => Or.inr q.2⟩, fun _ => by rw [hq719.2.2.1]; exact ⟨by omega, ⟨fun q => absurd q (by decide), fun q => absurd q hq488⟩, ⟨fun q => absurd q (by decide), fun q => absurd q hq608⟩⟩⟩)⟩
    · refine zz_iconst d_ST_firstState_37 ?_
      refine ab_goto (tgt := 42) d_ST_firstState_38 (by decide) ?_
      refine ab_istore_n d_ST_firstState_42 (Nat.le_of_ble_eq_true rfl) (Nat.le_of_ble_eq_true rfl) rfl ?_
      change ab_W _ _ _ G475 43 [some (vR a), some (vR s), some (vz p), some (vz 1)] [] _
      refine ab_iload_n d_ST_firstState_43 rfl ?_
      refine ab_aload_n d_ST_firstState_44 rfl ?_
      refine ab_iload_n d_ST_firstState_45 rfl ?_
      refine zz_iconst d_ST_firstState_46 ?_
      refine zz_isub d_ST_firstState_47 ?_
      refine ab_callV (d' := d - 1) (as := [vz (p - 1)]) (st := [vz 1]) (r := _) (z_SU_isLineFeed (o := o) (s := s) (ls := 26) (by_ := by_) (lby := 27) (m := m) (f := f) (n := n) (co := co) (re := re) (ho := ho) (p := (p - 1)) hs hby_ (by omega) hb) (fun oc G2 h => by rcases h with ⟨h, _⟩ | ⟨h, _⟩ <;> exact ⟨_, h⟩) (by omega) m_SU_isLineFeed ml_ST_135 im_SU_isLineFeed se_SU_isLineFeed c_SU hs.2.2 (Nat.le_of_ble_eq_true rfl) d_ST_firstState_48 rfl ?_
      intro v G721 hq
      rcases hq with ⟨hv, hGe, hq722⟩ | ⟨hv, hGe, hq723⟩
      · cases hv
        rw [hGe]
        change ab_W _ _ _ G475 51 [some (vR a), some (vR s), some (vz p), some (vz 1)] [vz 1, vz 1] _
        refine zz_if_eq (tgt := 58) d_ST_firstState_51 (by decide) (by decide) (fun c724 => absurd c724 (by decide)) (fun c724 => ?_)
        refine zz_iconst d_ST_firstState_54 ?_
        refine ab_goto (tgt := 59) d_ST_firstState_55 (by decide) ?_
        refine zz_iorL (r := 3) d_ST_firstState_59 (by decide) ?_
        refine ab_istore_n d_ST_firstState_60 (Nat.le_of_ble_eq_true rfl) (Nat.le_of_ble_eq_true rfl) rfl ?_
        change ab_W _ _ _ G475 61 [some (vR a), some (vR s), some (vz p), some (vz 3)] [] _
        refine ab_iload_n d_ST_firstState_61 rfl ?_
        refine ab_aload_n d_ST_firstState_62 rfl ?_
        refine ab_iload_n d_ST_firstState_63 rfl ?_
        refine zz_iconst d_ST_firstState_64 ?_
        refine zz_isub d_ST_firstState_65 ?_
        refine ab_callV (d' := d - 1) (as := [vz (p - 1)]) (st := [vz 3]) (r := _) (z_SU_isWordByte (o := o) (s := s) (ls := 26) (by_ := by_) (lby := 27) (m := m) (f := f) (n := n) (co := co) (re := re) (ho := ho) (p := (p - 1)) hs hby_ (by omega) hb (by omega)) (fun oc G2 h => by rcases h with ⟨h, _⟩ | ⟨h, _⟩ <;> exact ⟨_, h⟩) (by omega) m_SU_isWordByte ml_ST_139 im_SU_isWordByte se_SU_isWordByte c_SU hs.2.2 (Nat.le_of_ble_eq_true rfl) d_ST_firstState_66 rfl ?_
        intro v G725 hq
        rcases hq with ⟨hv, hGe, hq726⟩ | ⟨hv, hGe, hq727⟩
        · cases hv
          rw [hGe]
          change ab_W _ _ _ G475 69 [some (vR a), some (vR s), some (vz p), some (vz 3)] [vz 1, vz 3] _
          refine zz_if_eq (tgt := 76) d_ST_firstState_69 (by decide) (by decide) (fun c728 => absurd c728 (by decide)) (fun c728 => ?_)
          refine zz_iconst d_ST_firstState_72 ?_
          refine ab_goto (tgt := 77) d_ST_firstState_73 (by decide) ?_
          refine zz_iorL (r := 7) d_ST_firstState_77 (by decide) ?_
          refine ab_istore_n d_ST_firstState_78 (Nat.le_of_ble_eq_true rfl) (Nat.le_of_ble_eq_true rfl) rfl ?_
          change ab_W _ _ _ G475 79 [some (vR a), some (vR s), some (vz p), some (vz 7)] [] _
          refine ab_aload_n d_ST_firstState_79 rfl ?_
          refine ab_aload_n d_ST_firstState_80 rfl ?_
          refine ab_getf (fs := [vz mst, vR q, vz vr, vz ro, vR cu, vz cn, vR eg, vR po, vR bg, vR bd, vz ct, vR sd, vz sc2476, vR se_, vz (sta + 1), vR stk, vz arv, vj stp]) f_ST_74 d_ST_firstState_81 ha.2.2 rfl ?_
          refine ab_getf (fs := [vR ki, vR ne, vR ot, vz cnt, vz fi, vz la, vR ra, vz ru, vz gr, vz wi, vz sz, vz fl, vz ve, vz mi, vR na, vR nl]) f_ST_142 d_ST_firstState_84 hq.2.2 rfl ?_
          refine zz_if_eq (tgt := 94) d_ST_firstState_87 (by decide) (by omega) (fun c729 => ?_) (fun c729 => ?_)
          · refine zz_iconst d_ST_firstState_94 ?_
            refine ab_callV (d' := d - 1) (as := [vz 0]) (st := []) (r := _) (z_ST_keptState (o := o) (a := a) (cu := cu) (eg := eg) (po := po) (bg := bg) (bd := bd) (sd := sd) (se_ := se_) (stk := stk) (mst := mst) (q0 := vR q) (vr := vr) (ro := ro) (cn := cn) (ct := ct) (sc := sc2476) (sta := (sta + 1)) (arv := arv) (stp := stp) (EG := EG) (PO := PO) (BG := BG) (BD := BD) (SD := SD2477) (cnt := cnt) (ah := 0) ha heg hpo hbg hbd hsd (by omega) (by omega) (by omega) jbg jpo hq480 (by omega) jbd jeg (by omega)) (fun oc G2 h => by rcases h with ⟨_, _, _, _, _, _, h, _⟩ | ⟨_, _, _, _, _, _, h, _⟩ <;> exact ⟨_, h⟩) (by omega) m_ST_keptState ml_ST_145 im_ST_keptState se_ST_keptState c_ST ha.2.2 (Nat.le_of_ble_eq_true rfl) d_ST_firstState_95 rfl ?_
            intro v G730 hq
            rcases hq with ⟨v731, ct2732, EG2733, PO2734, BG2735, BD2736, hv, hfk, hlk, hsk, hNa, hNeg, hNpo, hNbg, hNbd, hq737, hq738, hq739, hq740, hq741, hq742, hq743⟩ | ⟨v744, ct2745, EG2746, PO2747, BG2748, BD2749, hv, hfk, hlk, hsk, hNa, hNeg, hNpo, hNbg, hNbd, hq750, hq751, hq752, hq753, hq754, hq755, hq756⟩
            · cases hv
              have hsd := hfk.get hsd (by decide)
              have hse_ := hfk.get hse_ (by decide)
              have hq := hfk.get hq (by simp only [List.mem_cons, List.not_mem_nil, or_false]; omega)
              have hs := hfk.get hs (by decide)
              have hby_ := hfk.get hby_ (by decide)
              have hfr := hfr.tr hfk (by decide)
              have hlen := hlk.trans hlen
              have hsl := hsk.trans hsl
              have ha := hNa
              have heg := hNeg
              have hpo := hNpo
              have hbg := hNbg
              have hbd := hNbd
              change ab_W _ _ _ G730 98 [some (vR a), some (vR s), some (vz p), some (vz 7)] [vz v731] _
              refine zz_iret rfl d_ST_firstState_98 ?_
              rw [hQ]; exact ⟨_, _, _, _, _, _, _, _, _, _, rfl, hfr, hlen, hsl, ha, heg, hpo, hbg, hbd, hsd, hse_, (by omega), (by exact hq738), (by exact hq739), (by exact hq740), (by exact hq741), (by omega), (by rfl), (by exact hq481), (by exact edO_ks jed hq742), (by exact ⟨fun y => by rw [hq742.2.2.2 y, hq483.1 y]; exact ⟨fun q => q.elim (fun ⟨i, i0, i1, _⟩ => by omega) (fun q => ⟨by omega, q⟩), fun q => Or.inr q.2⟩, fun q => by omega⟩)⟩
            · cases hv
              have hsd := hfk.get hsd (by decide)
              have hse_ := hfk.get hse_ (by decide)
              have hq := hfk.get hq (by simp only [List.mem_cons, List.not_mem_nil, or_false]; omega)
              have hs := hfk.get hs (by decide)
              have hby_ := hfk.get hby_ (by decide)
              have hfr := hfr.tr hfk (by decide)
              have hlen := hlk.trans hlen
              have hsl := hsk.trans hsl
              have ha := hNa
              have heg := hNeg
              have hpo := hNpo
              have hbg := hNbg
              have hbd := hNbd
              change ab_W _ _ _ G730 98 [some (vR a), some (vR s), some (vz p), some (vz 7)] [vz v744] _
              refine zz_iret rfl d_ST_firstState_98 ?_
              rw [hQ]; exact ⟨_, _, _, _, _, _, _, _, _, _, rfl, hfr, hlen, hsl, ha, heg, hpo, hbg, hbd, hsd, hse_, (by omega), (by exact hq751), (by exact hq752), (by exact hq753), (by exact hq754), (by omega), (by rfl), (by exact hq481), (by exact edO_ks jed hq755), (by exact ⟨fun y => by rw [hq755.2.2.2 y, hq483.1 y]; exact ⟨fun q => q.elim (fun ⟨i, i0, i1, _⟩ => by omega) (fun q => ⟨by omega, q⟩), fun q => Or.inr q.2⟩, fun q => by omega⟩)⟩
          · refine ab_iload_n d_ST_firstState_90 rfl ?_
            refine ab_goto (tgt := 95) d_ST_firstState_91 (by decide) ?_
            refine ab_callV (d' := d - 1) (as := [vz 7]) (st := []) (r := _) (z_ST_keptState (o := o) (a := a) (cu := cu) (eg := eg) (po := po) (bg := bg) (bd := bd) (sd := sd) (se_ := se_) (stk := stk) (mst := mst) (q0 := vR q) (vr := vr) (ro := ro) (cn := cn) (ct := ct) (sc := sc2476) (sta := (sta + 1)) (arv := arv) (stp := stp) (EG := EG) (PO := PO) (BG := BG) (BD := BD) (SD := SD2477) (cnt := cnt) (ah := 7) ha heg hpo hbg hbd hsd (by omega) (by omega) (by omega) jbg jpo hq480 (by omega) jbd jeg (by omega)) (fun oc G2 h => by rcases h with ⟨_, _, _, _, _, _, h, _⟩ | ⟨_, _, _, _, _, _, h, _⟩ <;> exact ⟨_, h⟩) (by omega) m_ST_keptState ml_ST_145 im_ST_keptState se_ST_keptState c_ST ha.2.2 (Nat.le_of_ble_eq_true rfl) d_ST_firstState_95 rfl ?_
            intro v G757 hq
            rcases hq with ⟨v758, ct2759, EG2760, PO2761, BG2762, BD2763, hv, hfk, hlk, hsk, hNa, hNeg, hNpo, hNbg, hNbd, hq764, hq765, hq766, hq767, hq768, hq769, hq770⟩ | ⟨v771, ct2772, EG2773, PO2774, BG2775, BD2776, hv, hfk, hlk, hsk, hNa, hNeg, hNpo, hNbg, hNbd, hq777, hq778, hq779, hq780, hq781, hq782, hq783⟩
            · cases hv
              have hsd := hfk.get hsd (by decide)
              have hse_ := hfk.get hse_ (by decide)
              have hq := hfk.get hq (by simp only [List.mem_cons, List.not_mem_nil, or_false]; omega)
              have hs := hfk.get hs (by decide)
              have hby_ := hfk.get hby_ (by decide)
              have hfr := hfr.tr hfk (by decide)
              have hlen := hlk.trans hlen
              have hsl := hsk.trans hsl
              have ha := hNa
              have heg := hNeg
              have hpo := hNpo
              have hbg := hNbg
              have hbd := hNbd
              change ab_W _ _ _ G757 98 [some (vR a), some (vR s), some (vz p), some (vz 7)] [vz v758] _
              refine zz_iret rfl d_ST_firstState_98 ?_
              rw [hQ]; exact ⟨_, _, _, _, _, _, _, _, _, _, rfl, hfr, hlen, hsl, ha, heg, hpo, hbg, hbd, hsd, hse_, (by omega), (by exact hq765), (by exact hq766), (by exact hq767), (by exact hq768), (by omega), (by rfl), (by exact hq481), (by exact edO_ks jed hq769), (by exact ⟨fun y => by rw [hq769.2.2.2 y, hq483.1 y]; exact ⟨fun q => q.elim (fun ⟨i, i0, i1, _⟩ => by omega) (fun q => ⟨by omega, q⟩), fun q => Or.inr q.2⟩, fun _ => by rw [hq769.2.2.1]; exact ⟨by omega, ⟨fun _ => hq722, fun _ => by decide⟩, ⟨fun _ => hq726, fun _ => by decide⟩⟩⟩)⟩
            · cases hv
              have hsd := hfk.get hsd (by decide)
              have hse_ := hfk.get hse_ (by decide)
              have hq := hfk.get hq (by simp only [List.mem_cons, List.not_mem_nil, or_false]; omega)
              have hs := hfk.get hs (by decide)
              have hby_ := hfk.get hby_ (by decide)
              have hfr := hfr.tr hfk (by decide)
              have hlen := hlk.trans hlen
              have hsl := hsk.trans hsl
              have ha := hNa
              have heg := hNeg
              have hpo := hNpo
              have hbg := hNbg
              have hbd := hNbd
              change ab_W _ _ _ G757 98 [some (vR a), some (vR s), some (vz p), some (vz 7)] [vz v771] _
              refine zz_iret rfl d_ST_firstState_98 ?_
              rw [hQ]; exact ⟨_, _, _, _, _, _, _, _, _, _, rfl, hfr, hlen, hsl, ha, heg, hpo, hbg, hbd, hsd, hse_, (by omega), (by exact hq778), (by exact hq779), (by exact hq780), (by exact hq781), (by omega), (by rfl), (by exact hq481), (by exact edO_ks jed hq782), (by exact ⟨fun y => by rw [hq782.2.2.2 y, hq483.1 y]; exact ⟨fun q => q.elim (fun ⟨i, i0, i1, _⟩ => by omega) (fun q => ⟨by omega, q⟩), fun q => Or.inr q.2⟩, fun _ => by rw [hq782.2.2.1]; exact ⟨by omega, ⟨fun _ => hq722, fun _ => by decide⟩, ⟨fun _ => hq726, fun _ => by decide⟩⟩⟩)⟩
        · cases hv
          rw [hGe]
          change ab_W _ _ _ G475 69 [some (vR a), some (vR s), some (vz p), some (vz 3)] [vz 0, vz 3] _
          refine zz_if_eq (tgt := 76) d_ST_firstState_69 (by decide) (by decide) (fun c784 => ?_) (fun c784 => absurd c784 (by decide))
          refine zz_iconst d_ST_firstState_76 ?_
          refine zz_iorL (r := 3) d_ST_firstState_77 (by decide) ?_
          refine ab_istore_n d_ST_firstState_78 (Nat.le_of_ble_eq_true rfl) (Nat.le_of_ble_eq_true rfl) rfl ?_
          change ab_W _ _ _ G475 79 [some (vR a), some (vR s), some (vz p), some (vz 3)] [] _
          refine ab_aload_n d_ST_firstState_79 rfl ?_
          refine ab_aload_n d_ST_firstState_80 rfl ?_
          refine ab_getf (fs := [vz mst, vR q, vz vr, vz ro, vR cu, vz cn, vR eg, vR po, vR bg, vR bd, vz ct, vR sd, vz sc2476, vR se_, vz (sta + 1), vR stk, vz arv, vj stp]) f_ST_74 d_ST_firstState_81 ha.2.2 rfl ?_
          refine ab_getf (fs := [vR ki, vR ne, vR ot, vz cnt, vz fi, vz la, vR ra, vz ru, vz gr, vz wi, vz sz, vz fl, vz ve, vz mi, vR na, vR nl]) f_ST_142 d_ST_firstState_84 hq.2.2 rfl ?_
          refine zz_if_eq (tgt := 94) d_ST_firstState_87 (by decide) (by omega) (fun c785 => ?_) (fun c785 => ?_)
          · refine zz_iconst d_ST_firstState_94 ?_
            refine ab_callV (d' := d - 1) (as := [vz 0]) (st := []) (r := _) (z_ST_keptState (o := o) (a := a) (cu := cu) (eg := eg) (po := po) (bg := bg) (bd := bd) (sd := sd) (se_ := se_) (stk := stk) (mst := mst) (q0 := vR q) (vr := vr) (ro := ro) (cn := cn) (ct := ct) (sc := sc2476) (sta := (sta + 1)) (arv := arv) (stp := stp) (EG := EG) (PO := PO) (BG := BG) (BD := BD) (SD := SD2477) (cnt := cnt) (ah := 0) ha heg hpo hbg hbd hsd (by omega) (by omega) (by omega) jbg jpo hq480 (by omega) jbd jeg (by omega)) (fun oc G2 h => by rcases h with ⟨_, _, _, _, _, _, h, _⟩ | ⟨_, _, _, _, _, _, h, _⟩ <;> exact ⟨_, h⟩) (by omega) m_ST_keptState ml_ST_145 im_ST_keptState se_ST_keptState c_ST ha.2.2 (Nat.le_of_ble_eq_true rfl) d_ST_firstState_95 rfl ?_
            intro v G786 hq
            rcases hq with ⟨v787, ct2788, EG2789, PO2790, BG2791, BD2792, hv, hfk, hlk, hsk, hNa, hNeg, hNpo, hNbg, hNbd, hq793, hq794, hq795, hq796, hq797, hq798, hq799⟩ | ⟨v800, ct2801, EG2802, PO2803, BG2804, BD2805, hv, hfk, hlk, hsk, hNa, hNeg, hNpo, hNbg, hNbd, hq806, hq807, hq808, hq809, hq810, hq811, hq812⟩
            · cases hv
              have hsd := hfk.get hsd (by decide)
              have hse_ := hfk.get hse_ (by decide)
              have hq := hfk.get hq (by simp only [List.mem_cons, List.not_mem_nil, or_false]; omega)
              have hs := hfk.get hs (by decide)
              have hby_ := hfk.get hby_ (by decide)
              have hfr := hfr.tr hfk (by decide)
              have hlen := hlk.trans hlen
              have hsl := hsk.trans hsl
              have ha := hNa
              have heg := hNeg
              have hpo := hNpo
              have hbg := hNbg
              have hbd := hNbd
              change ab_W _ _ _ G786 98 [some (vR a), some (vR s), some (vz p), some (vz 3)] [vz v787] _
              refine zz_iret rfl d_ST_firstState_98 ?_
              rw [hQ]; exact ⟨_, _, _, _, _, _, _, _, _, _, rfl, hfr, hlen, hsl, ha, heg, hpo, hbg, hbd, hsd, hse_, (by omega), (by exact hq794), (by exact hq795), (by exact hq796), (by exact hq797), (by omega), (by rfl), (by exact hq481), (by exact edO_ks jed hq798), (by exact ⟨fun y => by rw [hq798.2.2.2 y, hq483.1 y]; exact ⟨fun q => q.elim (fun ⟨i, i0, i1, _⟩ => by omega) (fun q => ⟨by omega, q⟩), fun q => Or.inr q.2⟩, fun q => by omega⟩)⟩
            · cases hv
              have hsd := hfk.get hsd (by decide)
              have hse_ := hfk.get hse_ (by decide)
              have hq := hfk.get hq (by simp only [List.mem_cons, List.not_mem_nil, or_false]; omega)
              have hs := hfk.get hs (by decide)
              have hby_ := hfk.get hby_ (by decide)
              have hfr := hfr.tr hfk (by decide)
              have hlen := hlk.trans hlen
              have hsl := hsk.trans hsl
              have ha := hNa
              have heg := hNeg
              have hpo := hNpo
              have hbg := hNbg
              have hbd := hNbd
              change ab_W _ _ _ G786 98 [some (vR a), some (vR s), some (vz p), some (vz 3)] [vz v800] _
              refine zz_iret rfl d_ST_firstState_98 ?_
              rw [hQ]; exact ⟨_, _, _, _, _, _, _, _, _, _, rfl, hfr, hlen, hsl, ha, heg, hpo, hbg, hbd, hsd, hse_, (by omega), (by exact hq807), (by exact hq808), (by exact hq809), (by exact hq810), (by omega), (by rfl), (by exact hq481), (by exact edO_ks jed hq811), (by exact ⟨fun y => by rw [hq811.2.2.2 y, hq483.1 y]; exact ⟨fun q => q.elim (fun ⟨i, i0, i1, _⟩ => by omega) (fun q => ⟨by omega, q⟩), fun q => Or.inr q.2⟩, fun q => by omega⟩)⟩
          · refine ab_iload_n d_ST_firstState_90 rfl ?_
            refine ab_goto (tgt := 95) d_ST_firstState_91 (by decide) ?_
            refine ab_callV (d' := d - 1) (as := [vz 3]) (st := []) (r := _) (z_ST_keptState (o := o) (a := a) (cu := cu) (eg := eg) (po := po) (bg := bg) (bd := bd) (sd := sd) (se_ := se_) (stk := stk) (mst := mst) (q0 := vR q) (vr := vr) (ro := ro) (cn := cn) (ct := ct) (sc := sc2476) (sta := (sta + 1)) (arv := arv) (stp := stp) (EG := EG) (PO := PO) (BG := BG) (BD := BD) (SD := SD2477) (cnt := cnt) (ah := 3) ha heg hpo hbg hbd hsd (by omega) (by omega) (by omega) jbg jpo hq480 (by omega) jbd jeg (by omega)) (fun oc G2 h => by rcases h with ⟨_, _, _, _, _, _, h, _⟩ | ⟨_, _, _, _, _, _, h, _⟩ <;> exact ⟨_, h⟩) (by omega) m_ST_keptState ml_ST_145 im_ST_keptState se_ST_keptState c_ST ha.2.2 (Nat.le_of_ble_eq_true rfl) d_ST_firstState_95 rfl ?_
            intro v G813 hq
            rcases hq with ⟨v814, ct2815, EG2816, PO2817, BG2818, BD2819, hv, hfk, hlk, hsk, hNa, hNeg, hNpo, hNbg, hNbd, hq820, hq821, hq822, hq823, hq824, hq825, hq826⟩ | ⟨v827, ct2828, EG2829, PO2830, BG2831, BD2832, hv, hfk, hlk, hsk, hNa, hNeg, hNpo, hNbg, hNbd, hq833, hq834, hq835, hq836, hq837, hq838, hq839⟩
            · cases hv
              have hsd := hfk.get hsd (by decide)
              have hse_ := hfk.get hse_ (by decide)
              have hq := hfk.get hq (by simp only [List.mem_cons, List.not_mem_nil, or_false]; omega)
              have hs := hfk.get hs (by decide)
              have hby_ := hfk.get hby_ (by decide)
              have hfr := hfr.tr hfk (by decide)
              have hlen := hlk.trans hlen
              have hsl := hsk.trans hsl
              have ha := hNa
              have heg := hNeg
              have hpo := hNpo
              have hbg := hNbg
              have hbd := hNbd
              change ab_W _ _ _ G813 98 [some (vR a), some (vR s), some (vz p), some (vz 3)] [vz v814] _
              refine zz_iret rfl d_ST_firstState_98 ?_
              rw [hQ]; exact ⟨_, _, _, _, _, _, _, _, _, _, rfl, hfr, hlen, hsl, ha, heg, hpo, hbg, hbd, hsd, hse_, (by omega), (by exact hq821), (by exact hq822), (by exact hq823), (by exact hq824), (by omega), (by rfl), (by exact hq481), (by exact edO_ks jed hq825), (by exact ⟨fun y => by rw [hq825.2.2.2 y, hq483.1 y]; exact ⟨fun q => q.elim (fun ⟨i, i0, i1, _⟩ => by omega) (fun q => ⟨by omega, q⟩), fun q => Or.inr q.2⟩, fun _ => by rw [hq825.2.2.1]; exact ⟨by omega, ⟨fun _ => hq722, fun _ => by decide⟩, ⟨fun q => absurd q (by decide), fun q => absurd q hq727⟩⟩⟩)⟩
            · cases hv
              have hsd := hfk.get hsd (by decide)
              have hse_ := hfk.get hse_ (by decide)
              have hq := hfk.get hq (by simp only [List.mem_cons, List.not_mem_nil, or_false]; omega)
              have hs := hfk.get hs (by decide)
              have hby_ := hfk.get hby_ (by decide)
              have hfr := hfr.tr hfk (by decide)
              have hlen := hlk.trans hlen
              have hsl := hsk.trans hsl
              have ha := hNa
              have heg := hNeg
              have hpo := hNpo
              have hbg := hNbg
              have hbd := hNbd
              change ab_W _ _ _ G813 98 [some (vR a), some (vR s), some (vz p), some (vz 3)] [vz v827] _
              refine zz_iret rfl d_ST_firstState_98 ?_
              rw [hQ]; exact ⟨_, _, _, _, _, _, _, _, _, _, rfl, hfr, hlen, hsl, ha, heg, hpo, hbg, hbd, hsd, hse_, (by omega), (by exact hq834), (by exact hq835), (by exact hq836), (by exact hq837), (by omega), (by rfl), (by exact hq481), (by exact edO_ks jed hq838), (by exact ⟨fun y => by rw [hq838.2.2.2 y, hq483.1 y]; exact ⟨fun q => q.elim (fun ⟨i, i0, i1, _⟩ => by omega) (fun q => ⟨by omega, q⟩), fun q => Or.inr q.2⟩, fun _ => by rw [hq838.2.2.1]; exact ⟨by omega, ⟨fun _ => hq722, fun _ => by decide⟩, ⟨fun q => absurd q (by decide), fun q => absurd q hq727⟩⟩⟩)⟩
      · cases hv
        rw [hGe]
        change ab_W _ _ _ G475 51 [some (vR a), some (vR s), some (vz p), some (vz 1)] [vz 0, vz 1] _
        refine zz_if_eq (tgt := 58) d_ST_firstState_51 (by decide) (by decide) (fun c840 => ?_) (fun c840 => absurd c840 (by decide))
        refine zz_iconst d_ST_firstState_58 ?_
        refine zz_iorL (r := 1) d_ST_firstState_59 (by decide) ?_
        refine ab_istore_n d_ST_firstState_60 (Nat.le_of_ble_eq_true rfl) (Nat.le_of_ble_eq_true rfl) rfl ?_
        change ab_W _ _ _ G475 61 [some (vR a), some (vR s), some (vz p), some (vz 1)] [] _
        refine ab_iload_n d_ST_firstState_61 rfl ?_
        refine ab_aload_n d_ST_firstState_62 rfl ?_
        refine ab_iload_n d_ST_firstState_63 rfl ?_
        refine zz_iconst d_ST_firstState_64 ?_
        refine zz_isub d_ST_firstState_65 ?_
        refine ab_callV (d' := d - 1) (as := [vz (p - 1)]) (st := [vz 1]) (r := _) (z_SU_isWordByte (o := o) (s := s) (ls := 26) (by_ := by_) (lby := 27) (m := m) (f := f) (n := n) (co := co) (re := re) (ho := ho) (p := (p - 1)) hs hby_ (by omega) hb (by omega)) (fun oc G2 h => by rcases h with ⟨h, _⟩ | ⟨h, _⟩ <;> exact ⟨_, h⟩) (by omega) m_SU_isWordByte ml_ST_139 im_SU_isWordByte se_SU_isWordByte c_SU hs.2.2 (Nat.le_of_ble_eq_true rfl) d_ST_firstState_66 rfl ?_
        intro v G841 hq
        rcases hq with ⟨hv, hGe, hq842⟩ | ⟨hv, hGe, hq843⟩
        · cases hv
          rw [hGe]
          change ab_W _ _ _ G475 69 [some (vR a), some (vR s), some (vz p), some (vz 1)] [vz 1, vz 1] _
          refine zz_if_eq (tgt := 76) d_ST_firstState_69 (by decide) (by decide) (fun c844 => absurd c844 (by decide)) (fun c844 => ?_)
          refine zz_iconst d_ST_firstState_72 ?_
          refine ab_goto (tgt := 77) d_ST_firstState_73 (by decide) ?_
          refine zz_iorL (r := 5) d_ST_firstState_77 (by decide) ?_
          refine ab_istore_n d_ST_firstState_78 (Nat.le_of_ble_eq_true rfl) (Nat.le_of_ble_eq_true rfl) rfl ?_
          change ab_W _ _ _ G475 79 [some (vR a), some (vR s), some (vz p), some (vz 5)] [] _
          refine ab_aload_n d_ST_firstState_79 rfl ?_
          refine ab_aload_n d_ST_firstState_80 rfl ?_
          refine ab_getf (fs := [vz mst, vR q, vz vr, vz ro, vR cu, vz cn, vR eg, vR po, vR bg, vR bd, vz ct, vR sd, vz sc2476, vR se_, vz (sta + 1), vR stk, vz arv, vj stp]) f_ST_74 d_ST_firstState_81 ha.2.2 rfl ?_
          refine ab_getf (fs := [vR ki, vR ne, vR ot, vz cnt, vz fi, vz la, vR ra, vz ru, vz gr, vz wi, vz sz, vz fl, vz ve, vz mi, vR na, vR nl]) f_ST_142 d_ST_firstState_84 hq.2.2 rfl ?_
          refine zz_if_eq (tgt := 94) d_ST_firstState_87 (by decide) (by omega) (fun c845 => ?_) (fun c845 => ?_)
          · refine zz_iconst d_ST_firstState_94 ?_
            refine ab_callV (d' := d - 1) (as := [vz 0]) (st := []) (r := _) (z_ST_keptState (o := o) (a := a) (cu := cu) (eg := eg) (po := po) (bg := bg) (bd := bd) (sd := sd) (se_ := se_) (stk := stk) (mst := mst) (q0 := vR q) (vr := vr) (ro := ro) (cn := cn) (ct := ct) (sc := sc2476) (sta := (sta + 1)) (arv := arv) (stp := stp) (EG := EG) (PO := PO) (BG := BG) (BD := BD) (SD := SD2477) (cnt := cnt) (ah := 0) ha heg hpo hbg hbd hsd (by omega) (by omega) (by omega) jbg jpo hq480 (by omega) jbd jeg (by omega)) (fun oc G2 h => by rcases h with ⟨_, _, _, _, _, _, h, _⟩ | ⟨_, _, _, _, _, _, h, _⟩ <;> exact ⟨_, h⟩) (by omega) m_ST_keptState ml_ST_145 im_ST_keptState se_ST_keptState c_ST ha.2.2 (Nat.le_of_ble_eq_true rfl) d_ST_firstState_95 rfl ?_
            intro v G846 hq
            rcases hq with ⟨v847, ct2848, EG2849, PO2850, BG2851, BD2852, hv, hfk, hlk, hsk, hNa, hNeg, hNpo, hNbg, hNbd, hq853, hq854, hq855, hq856, hq857, hq858, hq859⟩ | ⟨v860, ct2861, EG2862, PO2863, BG2864, BD2865, hv, hfk, hlk, hsk, hNa, hNeg, hNpo, hNbg, hNbd, hq866, hq867, hq868, hq869, hq870, hq871, hq872⟩
            · cases hv
              have hsd := hfk.get hsd (by decide)
              have hse_ := hfk.get hse_ (by decide)
              have hq := hfk.get hq (by simp only [List.mem_cons, List.not_mem_nil, or_false]; omega)
              have hs := hfk.get hs (by decide)
              have hby_ := hfk.get hby_ (by decide)
              have hfr := hfr.tr hfk (by decide)
              have hlen := hlk.trans hlen
              have hsl := hsk.trans hsl
              have ha := hNa
              have heg := hNeg
              have hpo := hNpo
              have hbg := hNbg
              have hbd := hNbd
              change ab_W _ _ _ G846 98 [some (vR a), some (vR s), some (vz p), some (vz 5)] [vz v847] _
              refine zz_iret rfl d_ST_firstState_98 ?_
              rw [hQ]; exact ⟨_, _, _, _, _, _, _, _, _, _, rfl, hfr, hlen, hsl, ha, heg, hpo, hbg, hbd, hsd, hse_, (by omega), (by exact hq854), (by exact hq855), (by exact hq856), (by exact hq857), (by omega), (by rfl), (by exact hq481), (by exact edO_ks jed hq858), (by exact ⟨fun y => by rw [hq858.2.2.2 y, hq483.1 y]; exact ⟨fun q => q.elim (fun ⟨i, i0, i1, _⟩ => by omega) (fun q => ⟨by omega, q⟩), fun q => Or.inr q.2⟩, fun q => by omega⟩)⟩
            · cases hv
              have hsd := hfk.get hsd (by decide)
              have hse_ := hfk.get hse_ (by decide)
              have hq := hfk.get hq (by simp only [List.mem_cons, List.not_mem_nil, or_false]; omega)
              have hs := hfk.get hs (by decide)
              have hby_ := hfk.get hby_ (by decide)
              have hfr := hfr.tr hfk (by decide)
              have hlen := hlk.trans hlen
              have hsl := hsk.trans hsl
              have ha := hNa
              have heg := hNeg
              have hpo := hNpo
              have hbg := hNbg
              have hbd := hNbd
              change ab_W _ _ _ G846 98 [some (vR a), some (vR s), some (vz p), some (vz 5)] [vz v860] _
              refine zz_iret rfl d_ST_firstState_98 ?_
              rw [hQ]; exact ⟨_, _, _, _, _, _, _, _, _, _, rfl, hfr, hlen, hsl, ha, heg, hpo, hbg, hbd, hsd, hse_, (by omega), (by exact hq867), (by exact hq868), (by exact hq869), (by exact hq870), (by omega), (by rfl), (by exact hq481), (by exact edO_ks jed hq871), (by exact ⟨fun y => by rw [hq871.2.2.2 y, hq483.1 y]; exact ⟨fun q => q.elim (fun ⟨i, i0, i1, _⟩ => by omega) (fun q => ⟨by omega, q⟩), fun q => Or.inr q.2⟩, fun q => by omega⟩)⟩
          · refine ab_iload_n d_ST_firstState_90 rfl ?_
            refine ab_goto (tgt := 95) d_ST_firstState_91 (by decide) ?_
            refine ab_callV (d' := d - 1) (as := [vz 5]) (st := []) (r := _) (z_ST_keptState (o := o) (a := a) (cu := cu) (eg := eg) (po := po) (bg := bg) (bd := bd) (sd := sd) (se_ := se_) (stk := stk) (mst := mst) (q0 := vR q) (vr := vr) (ro := ro) (cn := cn) (ct := ct) (sc := sc2476) (sta := (sta + 1)) (arv := arv) (stp := stp) (EG := EG) (PO := PO) (BG := BG) (BD := BD) (SD := SD2477) (cnt := cnt) (ah := 5) ha heg hpo hbg hbd hsd (by omega) (by omega) (by omega) jbg jpo hq480 (by omega) jbd jeg (by omega)) (fun oc G2 h => by rcases h with ⟨_, _, _, _, _, _, h, _⟩ | ⟨_, _, _, _, _, _, h, _⟩ <;> exact ⟨_, h⟩) (by omega) m_ST_keptState ml_ST_145 im_ST_keptState se_ST_keptState c_ST ha.2.2 (Nat.le_of_ble_eq_true rfl) d_ST_firstState_95 rfl ?_
            intro v G873 hq
            rcases hq with ⟨v874, ct2875, EG2876, PO2877, BG2878, BD2879, hv, hfk, hlk, hsk, hNa, hNeg, hNpo, hNbg, hNbd, hq880, hq881, hq882, hq883, hq884, hq885, hq886⟩ | ⟨v887, ct2888, EG2889, PO2890, BG2891, BD2892, hv, hfk, hlk, hsk, hNa, hNeg, hNpo, hNbg, hNbd, hq893, hq894, hq895, hq896, hq897, hq898, hq899⟩
            · cases hv
              have hsd := hfk.get hsd (by decide)
              have hse_ := hfk.get hse_ (by decide)
              have hq := hfk.get hq (by simp only [List.mem_cons, List.not_mem_nil, or_false]; omega)
              have hs := hfk.get hs (by decide)
              have hby_ := hfk.get hby_ (by decide)
              have hfr := hfr.tr hfk (by decide)
              have hlen := hlk.trans hlen
              have hsl := hsk.trans hsl
              have ha := hNa
              have heg := hNeg
              have hpo := hNpo
              have hbg := hNbg
              have hbd := hNbd
              change ab_W _ _ _ G873 98 [some (vR a), some (vR s), some (vz p), some (vz 5)] [vz v874] _
              refine zz_iret rfl d_ST_firstState_98 ?_
              rw [hQ]; exact ⟨_, _, _, _, _, _, _, _, _, _, rfl, hfr, hlen, hsl, ha, heg, hpo, hbg, hbd, hsd, hse_, (by omega), (by exact hq881), (by exact hq882), (by exact hq883), (by exact hq884), (by omega), (by rfl), (by exact hq481), (by exact edO_ks jed hq885), (by exact ⟨fun y => by rw [hq885.2.2.2 y, hq483.1 y]; exact ⟨fun q => q.elim (fun ⟨i, i0, i1, _⟩ => by omega) (fun q => ⟨by omega, q⟩), fun q => Or.inr q.2⟩, fun _ => by rw [hq885.2.2.1]; exact ⟨by omega, ⟨fun q => absurd q (by decide), fun q => absurd q hq723⟩, ⟨fun _ => hq842, fun _ => by decide⟩⟩⟩)⟩
            · cases hv
              have hsd := hfk.get hsd (by decide)
              have hse_ := hfk.get hse_ (by decide)
              have hq := hfk.get hq (by simp only [List.mem_cons, List.not_mem_nil, or_false]; omega)
              have hs := hfk.get hs (by decide)
              have hby_ := hfk.get hby_ (by decide)
              have hfr := hfr.tr hfk (by decide)
              have hlen := hlk.trans hlen
              have hsl := hsk.trans hsl
              have ha := hNa
              have heg := hNeg
              have hpo := hNpo
              have hbg := hNbg
              have hbd := hNbd
              change ab_W _ _ _ G873 98 [some (vR a), some (vR s), some (vz p), some (vz 5)] [vz v887] _
              refine zz_iret rfl d_ST_firstState_98 ?_
              rw [hQ]; exact ⟨_, _, _, _, _, _, _, _, _, _, rfl, hfr, hlen, hsl, ha, heg, hpo, hbg, hbd, hsd, hse_, (by omega), (by exact hq894), (by exact hq895), (by exact hq896), (by exact hq897), (by omega), (by rfl), (by exact hq481), (by exact edO_ks jed hq898), (by exact ⟨fun y => by rw [hq898.2.2.2 y, hq483.1 y]; exact ⟨fun q => q.elim (fun ⟨i, i0, i1, _⟩ => by omega) (fun q => ⟨by omega, q⟩), fun q => Or.inr q.2⟩, fun _ => by rw [hq898.2.2.1]; exact ⟨by omega, ⟨fun q => absurd q (by decide), fun q => absurd q hq723⟩, ⟨fun _ => hq842, fun _ => by decide⟩⟩⟩)⟩
        · cases hv
          rw [hGe]
          change ab_W _ _ _ G475 69 [some (vR a), some (vR s), some (vz p), some (vz 1)] [vz 0, vz 1] _
          refine zz_if_eq (tgt := 76) d_ST_firstState_69 (by decide) (by decide) (fun c900 => ?_) (fun c900 => absurd c900 (by decide))
          refine zz_iconst d_ST_firstState_76 ?_
          refine zz_iorL (r := 1) d_ST_firstState_77 (by decide) ?_
          refine ab_istore_n d_ST_firstState_78 (Nat.le_of_ble_eq_true rfl) (Nat.le_of_ble_eq_true rfl) rfl ?_
          change ab_W _ _ _ G475 79 [some (vR a), some (vR s), some (vz p), some (vz 1)] [] _
          refine ab_aload_n d_ST_firstState_79 rfl ?_
          refine ab_aload_n d_ST_firstState_80 rfl ?_
          refine ab_getf (fs := [vz mst, vR q, vz vr, vz ro, vR cu, vz cn, vR eg, vR po, vR bg, vR bd, vz ct, vR sd, vz sc2476, vR se_, vz (sta + 1), vR stk, vz arv, vj stp]) f_ST_74 d_ST_firstState_81 ha.2.2 rfl ?_
          refine ab_getf (fs := [vR ki, vR ne, vR ot, vz cnt, vz fi, vz la, vR ra, vz ru, vz gr, vz wi, vz sz, vz fl, vz ve, vz mi, vR na, vR nl]) f_ST_142 d_ST_firstState_84 hq.2.2 rfl ?_
          refine zz_if_eq (tgt := 94) d_ST_firstState_87 (by decide) (by omega) (fun c901 => ?_) (fun c901 => ?_)
          · refine zz_iconst d_ST_firstState_94 ?_
            refine ab_callV (d' := d - 1) (as := [vz 0]) (st := []) (r := _) (z_ST_keptState (o := o) (a := a) (cu := cu) (eg := eg) (po := po) (bg := bg) (bd := bd) (sd := sd) (se_ := se_) (stk := stk) (mst := mst) (q0 := vR q) (vr := vr) (ro := ro) (cn := cn) (ct := ct) (sc := sc2476) (sta := (sta + 1)) (arv := arv) (stp := stp) (EG := EG) (PO := PO) (BG := BG) (BD := BD) (SD := SD2477) (cnt := cnt) (ah := 0) ha heg hpo hbg hbd hsd (by omega) (by omega) (by omega) jbg jpo hq480 (by omega) jbd jeg (by omega)) (fun oc G2 h => by rcases h with ⟨_, _, _, _, _, _, h, _⟩ | ⟨_, _, _, _, _, _, h, _⟩ <;> exact ⟨_, h⟩) (by omega) m_ST_keptState ml_ST_145 im_ST_keptState se_ST_keptState c_ST ha.2.2 (Nat.le_of_ble_eq_true rfl) d_ST_firstState_95 rfl ?_
            intro v G902 hq
            rcases hq with ⟨v903, ct2904, EG2905, PO2906, BG2907, BD2908, hv, hfk, hlk, hsk, hNa, hNeg, hNpo, hNbg, hNbd, hq909, hq910, hq911, hq912, hq913, hq914, hq915⟩ | ⟨v916, ct2917, EG2918, PO2919, BG2920, BD2921, hv, hfk, hlk, hsk, hNa, hNeg, hNpo, hNbg, hNbd, hq922, hq923, hq924, hq925, hq926, hq927, hq928⟩
            · cases hv
              have hsd := hfk.get hsd (by decide)
              have hse_ := hfk.get hse_ (by decide)
              have hq := hfk.get hq (by simp only [List.mem_cons, List.not_mem_nil, or_false]; omega)
              have hs := hfk.get hs (by decide)
              have hby_ := hfk.get hby_ (by decide)
              have hfr := hfr.tr hfk (by decide)
              have hlen := hlk.trans hlen
              have hsl := hsk.trans hsl
              have ha := hNa
              have heg := hNeg
              have hpo := hNpo
              have hbg := hNbg
              have hbd := hNbd
              change ab_W _ _ _ G902 98 [some (vR a), some (vR s), some (vz p), some (vz 1)] [vz v903] _
              refine zz_iret rfl d_ST_firstState_98 ?_
              rw [hQ]; exact ⟨_, _, _, _, _, _, _, _, _, _, rfl, hfr, hlen, hsl, ha, heg, hpo, hbg, hbd, hsd, hse_, (by omega), (by exact hq910), (by exact hq911), (by exact hq912), (by exact hq913), (by omega), (by rfl), (by exact hq481), (by exact edO_ks jed hq914), (by exact ⟨fun y => by rw [hq914.2.2.2 y, hq483.1 y]; exact ⟨fun q => q.elim (fun ⟨i, i0, i1, _⟩ => by omega) (fun q => ⟨by omega, q⟩), fun q => Or.inr q.2⟩, fun q => by omega⟩)⟩
            · cases hv
              have hsd := hfk.get hsd (by decide)
              have hse_ := hfk.get hse_ (by decide)
              have hq := hfk.get hq (by simp only [List.mem_cons, List.not_mem_nil, or_false]; omega)
              have hs := hfk.get hs (by decide)
              have hby_ := hfk.get hby_ (by decide)
              have hfr := hfr.tr hfk (by decide)
              have hlen := hlk.trans hlen
              have hsl := hsk.trans hsl
              have ha := hNa
              have heg := hNeg
              have hpo := hNpo
              have hbg := hNbg
              have hbd := hNbd
              change ab_W _ _ _ G902 98 [some (vR a), some (vR s), some (vz p), some (vz 1)] [vz v916] _
              refine zz_iret rfl d_ST_firstState_98 ?_
              rw [hQ]; exact ⟨_, _, _, _, _, _, _, _, _, _, rfl, hfr, hlen, hsl, ha, heg, hpo, hbg, hbd, hsd, hse_, (by omega), (by exact hq923), (by exact hq924), (by exact hq925), (by exact hq926), (by omega), (by rfl), (by exact hq481), (by exact edO_ks jed hq927), (by exact ⟨fun y => by rw [hq927.2.2.2 y, hq483.1 y]; exact ⟨fun q => q.elim (fun ⟨i, i0, i1, _⟩ => by omega) (fun q => ⟨by omega, q⟩), fun q => Or.inr q.2⟩, fun q => by omega⟩)⟩
          · refine ab_iload_n d_ST_firstState_90 rfl ?_
            refine ab_goto (tgt := 95) d_ST_firstState_91 (by decide) ?_
            refine ab_callV (d' := d - 1) (as := [vz 1]) (st := []) (r := _) (z_ST_keptState (o := o) (a := a) (cu := cu) (eg := eg) (po := po) (bg := bg) (bd := bd) (sd := sd) (se_ := se_) (stk := stk) (mst := mst) (q0 := vR q) (vr := vr) (ro := ro) (cn := cn) (ct := ct) (sc := sc2476) (sta := (sta + 1)) (arv := arv) (stp := stp) (EG := EG) (PO := PO) (BG := BG) (BD := BD) (SD := SD2477) (cnt := cnt) (ah := 1) ha heg hpo hbg hbd hsd (by omega) (by omega) (by omega) jbg jpo hq480 (by omega) jbd jeg (by omega)) (fun oc G2 h => by rcases h with ⟨_, _, _, _, _, _, h, _⟩ | ⟨_, _, _, _, _, _, h, _⟩ <;> exact ⟨_, h⟩) (by omega) m_ST_keptState ml_ST_145 im_ST_keptState se_ST_keptState c_ST ha.2.2 (Nat.le_of_ble_eq_true rfl) d_ST_firstState_95 rfl ?_
            intro v G929 hq
            rcases hq with ⟨v930, ct2931, EG2932, PO2933, BG2934, BD2935, hv, hfk, hlk, hsk, hNa, hNeg, hNpo, hNbg, hNbd, hq936, hq937, hq938, hq939, hq940, hq941, hq942⟩ | ⟨v943, ct2944, EG2945, PO2946, BG2947, BD2948, hv, hfk, hlk, hsk, hNa, hNeg, hNpo, hNbg, hNbd, hq949, hq950, hq951, hq952, hq953, hq954, hq955⟩
            · cases hv
              have hsd := hfk.get hsd (by decide)
              have hse_ := hfk.get hse_ (by decide)
              have hq := hfk.get hq (by simp only [List.mem_cons, List.not_mem_nil, or_false]; omega)
              have hs := hfk.get hs (by decide)
              have hby_ := hfk.get hby_ (by decide)
              have hfr := hfr.tr hfk (by decide)
              have hlen := hlk.trans hlen
              have hsl := hsk.trans hsl
              have ha := hNa
              have heg := hNeg
              have hpo := hNpo
              have hbg := hNbg
              have hbd := hNbd
              change ab_W _ _ _ G929 98 [some (vR a), some (vR s), some (vz p), some (vz 1)] [vz v930] _
              refine zz_iret rfl d_ST_firstState_98 ?_
              rw [hQ]; exact ⟨_, _, _, _, _, _, _, _, _, _, rfl, hfr, hlen, hsl, ha, heg, hpo, hbg, hbd, hsd, hse_, (by omega), (by exact hq937), (by exact hq938), (by exact hq939), (by exact hq940), (by omega), (by rfl), (by exact hq481), (by exact edO_ks jed hq941), (by exact ⟨fun y => by rw [hq941.2.2.2 y, hq483.1 y]; exact ⟨fun q => q.elim (fun ⟨i, i0, i1, _⟩ => by omega) (fun q => ⟨by omega, q⟩), fun q => Or.inr q.2⟩, fun _ => by rw [hq941.2.2.1]; exact ⟨by omega, ⟨fun q => absurd q (by decide), fun q => absurd q hq723⟩, ⟨fun q => absurd q (by decide), fun q => absurd q hq843⟩⟩⟩)⟩
            · cases hv
              have hsd := hfk.get hsd (by decide)
              have hse_ := hfk.get hse_ (by decide)
              have hq := hfk.get hq (by simp only [List.mem_cons, List.not_mem_nil, or_false]; omega)
              have hs := hfk.get hs (by decide)
              have hby_ := hfk.get hby_ (by decide)
              have hfr := hfr.tr hfk (by decide)
              have hlen := hlk.trans hlen
              have hsl := hsk.trans hsl
              have ha := hNa
              have heg := hNeg
              have hpo := hNpo
              have hbg := hNbg
              have hbd := hNbd
              change ab_W _ _ _ G929 98 [some (vR a), some (vR s), some (vz p), some (vz 1)] [vz v943] _
              refine zz_iret rfl d_ST_firstState_98 ?_
              rw [hQ]; exact ⟨_, _, _, _, _, _, _, _, _, _, rfl, hfr, hlen, hsl, ha, heg, hpo, hbg, hbd, hsd, hse_, (by omega), (by exact hq950), (by exact hq951), (by exact hq952), (by exact hq953), (by omega), (by rfl), (by exact hq481), (by exact edO_ks jed hq954), (by exact ⟨fun y => by rw [hq954.2.2.2 y, hq483.1 y]; exact ⟨fun q => q.elim (fun ⟨i, i0, i1, _⟩ => by omega) (fun q => ⟨by omega, q⟩), fun q => Or.inr q.2⟩, fun _ => by rw [hq954.2.2.1]; exact ⟨by omega, ⟨fun q => absurd q (by decide), fun q => absurd q hq723⟩, ⟨fun q => absurd q (by decide), fun q => absurd q hq843⟩⟩⟩)⟩
set_option maxRecDepth 100000 in
set_option maxHeartbeats 4000000 in
theorem y_ST_makeEdge_27 {X : ab_X} {d : Nat} {Q : Outcome → ab_G → Prop} {o : Nat → Nat} {G0 : ab_G} {a : Nat} {cu : Nat} {eg : Nat} {po : Nat} {bg : Nat} {bd : Nat} {sd : Nat} {se_ : Nat} {stk : Nat} {mst : Int} {vr : Int} {ro : Int} {cn : Int} {ct : Int} {sta : Int} {CU : Int → Int} {PO : Int → Int} {BG : Int → Int} {BD : Int → Int} {q : Nat} {lq : Nat} {ki : Nat} {ne : Nat} {ot : Nat} {cnt : Int} {fi : Int} {la : Int} {ra : Nat} {ru : Int} {gr : Int} {wi : Int} {sz : Int} {fl : Int} {ve : Int} {mi : Int} {na : Nat} {nl : Nat} {K : Int → Int} {N : Int → Int} {O : Int → Int} {RR : Int → Int} {nr : Nat} {KT : Int → Int} {NT : Int → Int} {OT : Int → Int} {RT : Int → Int} {sg : Int} {s_ : Int} {st0 : Int} {SE0 : Int → Int} (cc0 : 0 ≤ cn ∧ cn ≤ 120) (jcu : rgs CU 120 0 1114112) (csg : 0 ≤ sg ∧ sg ≤ cn + 4) (cq : 100 ≤ lq ∧ 0 ≤ cnt ∧ cnt ≤ 808 ∧ ↑nr ≤ (100000 : Int)) (hp : prok K N O RR cnt ↑nr wi) (hr : ∀ k : Int, 0 ≤ k → k < ↑nr → 0 ≤ RR k ∧ RR k ≤ 1114111) (cfi : 0 ≤ fi ∧ fi < cnt ∧ 0 ≤ la ∧ la ≤ 1) (jpo : ents PO (BG ct) cnt) (jbg : bgo BG ct) (jbd : rgs BD 64 0 7) (cms : 4 ≤ mst ∧ mst ≤ 64 ∧ 0 ≤ ct ∧ ct ≤ mst) (cs1 : 0 ≤ s_ ∧ s_ < ct) (hT : trQ K N O RR cnt ru KT NT OT RT) (hpu : prok K N O RR cnt ru wi) (ck9 : K 0 = 9) (jb : 0 ≤ BG s_ ∧ BG s_ ≤ BG (s_ + 1) ∧ BG (s_ + 1) ≤ BG s_ + 2048 ∧ BG (s_ + 1) ≤ 8192 ∧ BG (s_ + 1) ≤ BG ct) (csta : 0 ≤ sta ∧ sta ≤ 2000000000) (hd : 5 ≤ d) : ∀ (mz : Nat) {G : ab_G} {sc : Int} {arv : Int} {stp : Int} {SD : Int → Int} {SE : Int → Int} {SK : Int → Int} {i_ : Int}, (cc o G a 60 (ab_ob 8 [vz mst, vR q, vz vr, vz ro, vR cu, vz cn, vR eg, vR po, vR bg, vR bd, vz ct, vR sd, vz sc, vR se_, vz sta, vR stk, vz arv, vj stp])) → (cc o G cu 61 (za 120 CU)) → (cc o G sd 66 (za 2048 SD)) → (cc o G se_ 67 (za 3072 SE)) → (cc o G stk 68 (za 809 SK)) → (cc o G po 63 (za 8192 PO)) → (cc o G bg 64 (za 65 BG)) → (cc o G bd 65 (za 64 BD)) → (cc o G q lq (ab_ob 5 [vR ki, vR ne, vR ot, vz cnt, vz fi, vz la, vR ra, vz ru, vz gr, vz wi, vz sz, vz fl, vz ve, vz mi, vR na, vR nl])) → (cc o G ki (lq + 1) (za 808 K)) → (cc o G ne (lq + 2) (za 808 N)) → (cc o G ot (lq + 3) (za 808 O)) → (cc o G ra (lq + 4) (za nr RR)) → (BG s_ ≤ i_ ∧ i_ ≤ BG (s_ + 1)) → (0 ≤ sc ∧ sc ≤ 2048) → (ents SD sc cnt) → (0 ≤ arv ∧ arv ≤ 1) → (rgs SE 3072 0 sta) → (sdQ SE sta SD sc) → (meJ KT NT OT RT CU sg (BD s_) PO (BG s_) i_ SE SK SD sta sc arv) → (st0 ≤ stp ∧ stp + scw SE0 sta ≤ st0 + scw SE sta) → (fx o o [60, 66, 67, 68] G0 G) → (G.length = G0.length) → (ab_slots G = ab_slots G0) → (Int.toNat (BG (s_ + 1) - i_) < mz) → (∀ (G2 : ab_G) (sc2 : Int) (st2 : Int) (ar2 : Int) (SD2 : Int → Int) (SE2 : Int → Int) (SK2 : Int → Int), (cc o G2 a 60 (ab_ob 8 [vz mst, vR q, vz vr, vz ro, vR cu, vz cn, vR eg, vR po, vR bg, vR bd, vz ct, vR sd, vz sc2, vR se_, vz sta, vR stk, vz ar2, vj st2])) → (cc o G2 sd 66 (za 2048 SD2)) → (cc o G2 se_ 67 (za 3072 SE2)) → (cc o G2 stk 68 (za 809 SK2)) → (0 ≤ sc2 ∧ sc2 ≤ 2048 ∧ 0 ≤ ar2 ∧ ar2 ≤ 1) → (ents SD2 sc2 cnt) → (rgs SE2 3072 0 sta) → (sdQ SE2 sta SD2 sc2) → (meJ KT NT OT RT CU sg (BD s_) PO (BG s_) (BG (s_ + 1)) SE2 SK2 SD2 sta sc2 ar2) → (st0 ≤ st2 ∧ st2 + scw SE0 sta ≤ st0 + scw SE2 sta) → (fx o o [60, 66, 67, 68] G0 G2) → (G2.length = G0.length) → (ab_slots G2 = ab_slots G0) → ab_W X (ab_pl y_ST_makeEdge b_ST_makeEdge 6 (some (.int))) d G2 113 [some (vR a), some (vz s_), some (vz sg), none, none, none] [] Q) → ab_W X (ab_pl y_ST_makeEdge b_ST_makeEdge 6 (some (.int))) d G 27 [some (vR a), some (vz s_), some (vz sg), some (vz i_), none, none] [] Q := by
  intro mz
  induction mz with
  | zero => intro G sc arv stp SD SE SK i_ ha hcu hsd hse_ hstk hpo hbg hbd hq hki hne hot hra ci csc jsd car jse jsq jme hst9 hfr hlen hsl hm hk0; exact absurd hm (Nat.not_lt_zero _)
  | succ mz ih =>
    intro G sc arv stp SD SE SK i_ ha hcu hsd hse_ hstk hpo hbg hbd hq hki hne hot hra ci csc jsd car jse jsq jme hst9 hfr hlen hsl hm hk0
    refine ab_iload_n d_ST_makeEdge_27 rfl ?_
    refine ab_aload_n d_ST_makeEdge_28 rfl ?_
    refine ab_getf (fs := [vz mst, vR q, vz vr, vz ro, vR cu, vz cn, vR eg, vR po, vR bg, vR bd, vz ct, vR sd, vz sc, vR se_, vz sta, vR stk, vz arv, vj stp]) f_ST_25 d_ST_makeEdge_29 ha.2.2 rfl ?_
    refine ab_iload_n d_ST_makeEdge_32 rfl ?_
    refine zz_iconst d_ST_makeEdge_33 ?_
    refine zz_iadd d_ST_makeEdge_34 ?_
    refine zz_iald d_ST_makeEdge_35 hbg (by omega) ?_
    refine zz_icmp_ge (tgt := 113) d_ST_makeEdge_36 (by decide) (by omega) (by omega) (fun c1 => ?_) (fun c1 => ?_)
    · refine ab_less (L' := [some (vR a), some (vz s_), some (vz sg), none, none, none]) (fun i v h => by rcases i with _ | _ | _ | _ | _ | _ | i <;> first | exact h | (simp at h)) ?_
      exact hk0 _ _ _ _ _ _ _ ha hsd hse_ hstk (by omega) (by exact jsd) (by exact jse) (by exact jsq) (by exact (show i_ = BG (s_ + 1) by omega) ▸ jme) (by omega) hfr hlen hsl
    · refine ab_aload_n d_ST_makeEdge_39 rfl ?_
      refine ab_getf (fs := [vz mst, vR q, vz vr, vz ro, vR cu, vz cn, vR eg, vR po, vR bg, vR bd, vz ct, vR sd, vz sc, vR se_, vz sta, vR stk, vz arv, vj stp]) f_ST_22 d_ST_makeEdge_40 ha.2.2 rfl ?_
      refine ab_iload_n d_ST_makeEdge_43 rfl ?_
      refine zz_iald d_ST_makeEdge_44 hpo (by omega) ?_
      have hq2 := jpo i_ (by omega) (by omega)
      refine zz_sipush d_ST_makeEdge_45 (by decide) ?_
      refine zz_icmp_ge (tgt := 71) d_ST_makeEdge_48 (by decide) (by omega) (by decide) (fun c3 => ?_) (fun c3 => ?_)
      · refine ab_aload_n d_ST_makeEdge_71 rfl ?_
        refine ab_iload_n d_ST_makeEdge_72 rfl ?_
        refine zz_iconst d_ST_makeEdge_73 ?_
        refine zz_icmp_ne (tgt := 98) d_ST_makeEdge_74 (by decide) (by omega) (by decide) (fun c4 => ?_) (fun c4 => ?_)
        · refine ab_aload_n d_ST_makeEdge_98 rfl ?_
          refine ab_getf (fs := [vz mst, vR q, vz vr, vz ro, vR cu, vz cn, vR eg, vR po, vR bg, vR bd, vz ct, vR sd, vz sc, vR se_, vz sta, vR stk, vz arv, vj stp]) f_ST_22 d_ST_makeEdge_99 ha.2.2 rfl ?_
          refine ab_iload_n d_ST_makeEdge_102 rfl ?_
          refine zz_iald d_ST_makeEdge_103 hpo (by omega) ?_
          have hq5 := jpo i_ (by omega) (by omega)
          refine ab_callV (d' := d - 1) (as := [vz (PO i_)]) (st := []) (r := _) (z_ST_addSeed (o := o) (a := a) (cu := cu) (eg := eg) (po := po) (bg := bg) (bd := bd) (sd := sd) (se_ := se_) (stk := stk) (mst := mst) (q0 := vR q) (vr := vr) (ro := ro) (cn := cn) (ct := ct) (sc := sc) (sta := sta) (arv := arv) (stp := stp) (SD := SD) (SE := SE) (e_ := (PO i_)) ha hsd hse_ (by omega) (by omega) jsd (by omega) jse jsq) (fun oc G2 h => by rcases h with ⟨_, _, _, h, _⟩ <;> exact ⟨_, h⟩) (by omega) m_ST_addSeed ml_ST_132 im_ST_addSeed se_ST_addSeed c_ST ha.2.2 (Nat.le_of_ble_eq_true rfl) d_ST_makeEdge_104 rfl ?_
          intro v G6 hq
          rcases hq with ⟨sc27, SD28, SE29, hv, hfk, hlk, hsk, hNa, hNsd, hNse_, hq10, hq11, hq12, hq13, hq14, hq15⟩
          cases hv
          have hcu := hfk.get hcu (by decide)
          have hstk := hfk.get hstk (by decide)
          have hpo := hfk.get hpo (by decide)
          have hbg := hfk.get hbg (by decide)
          have hbd := hfk.get hbd (by decide)
          have hq := hfk.get hq (by simp only [List.mem_cons, List.not_mem_nil, or_false]; omega)
          have hki := hfk.get hki (by simp only [List.mem_cons, List.not_mem_nil, or_false]; omega)
          have hne := hfk.get hne (by simp only [List.mem_cons, List.not_mem_nil, or_false]; omega)
          have hot := hfk.get hot (by simp only [List.mem_cons, List.not_mem_nil, or_false]; omega)
          have hra := hfk.get hra (by simp only [List.mem_cons, List.not_mem_nil, or_false]; omega)
          have hfr := hfr.tr hfk (by decide)
          have hlen := hlk.trans hlen
          have hsl := hsk.trans hsl
          have ha := hNa
          have hsd := hNsd
          have hse_ := hNse_
          change ab_W _ _ _ G6 107 [some (vR a), some (vz s_), some (vz sg), some (vz i_), none, none] [] _
          refine zz_iinc d_ST_makeEdge_107 rfl (Nat.le_of_ble_eq_true rfl) (Nat.le_of_ble_eq_true rfl) rfl ?_
          change ab_W _ _ _ G6 110 [some (vR a), some (vz s_), some (vz sg), some (vz (i_ + 1)), none, none] [] _
          refine ab_goto (tgt := 27) d_ST_makeEdge_110 (by decide) ?_
          exact ih (sc := sc27) (arv := arv) (stp := stp) (SD := SD28) (SE := SE29) (SK := SK) (i_ := (i_ + 1)) ha hcu hsd hse_ hstk hpo hbg hbd hq hki hne hot hra (by omega) (by omega) hq11 (by omega) hq12 hq13 (meJ_w jme hq14 (by omega) (by omega) (Or.inr ⟨by omega, rfl⟩)) (by omega) hfr hlen hsl (by omega) hk0
        · refine ab_aload_n d_ST_makeEdge_77 rfl ?_
          refine ab_getf (fs := [vz mst, vR q, vz vr, vz ro, vR cu, vz cn, vR eg, vR po, vR bg, vR bd, vz ct, vR sd, vz sc, vR se_, vz sta, vR stk, vz arv, vj stp]) f_ST_74 d_ST_makeEdge_78 ha.2.2 rfl ?_
          refine ab_getf (fs := [vR ki, vR ne, vR ot, vz cnt, vz fi, vz la, vR ra, vz ru, vz gr, vz wi, vz sz, vz fl, vz ve, vz mi, vR na, vR nl]) f_ST_155 d_ST_makeEdge_81 hq.2.2 rfl ?_
          refine ab_aload_n d_ST_makeEdge_84 rfl ?_
          refine ab_getf (fs := [vz mst, vR q, vz vr, vz ro, vR cu, vz cn, vR eg, vR po, vR bg, vR bd, vz ct, vR sd, vz sc, vR se_, vz sta, vR stk, vz arv, vj stp]) f_ST_22 d_ST_makeEdge_85 ha.2.2 rfl ?_
          refine ab_iload_n d_ST_makeEdge_88 rfl ?_
          refine zz_iald d_ST_makeEdge_89 hpo (by omega) ?_
          have hq16 := jpo i_ (by omega) (by omega)
          refine zz_sipush d_ST_makeEdge_90 (by decide) ?_
          refine zz_isub d_ST_makeEdge_93 ?_
          refine zz_iald d_ST_makeEdge_94 hne (by omega) ?_
          have hq17 := hp.n ((PO i_) - 1024) (by omega) (by omega)
          refine ab_goto (tgt := 104) d_ST_makeEdge_95 (by decide) ?_
          refine ab_callV (d' := d - 1) (as := [vz (N ((PO i_) - 1024))]) (st := []) (r := _) (z_ST_addSeed (o := o) (a := a) (cu := cu) (eg := eg) (po := po) (bg := bg) (bd := bd) (sd := sd) (se_ := se_) (stk := stk) (mst := mst) (q0 := vR q) (vr := vr) (ro := ro) (cn := cn) (ct := ct) (sc := sc) (sta := sta) (arv := arv) (stp := stp) (SD := SD) (SE := SE) (e_ := (N ((PO i_) - 1024))) ha hsd hse_ (by omega) (by omega) jsd (by omega) jse jsq) (fun oc G2 h => by rcases h with ⟨_, _, _, h, _⟩ <;> exact ⟨_, h⟩) (by omega) m_ST_addSeed ml_ST_132 im_ST_addSeed se_ST_addSeed c_ST ha.2.2 (Nat.le_of_ble_eq_true rfl) d_ST_makeEdge_104 rfl ?_
          intro v G18 hq
          rcases hq with ⟨sc219, SD220, SE221, hv, hfk, hlk, hsk, hNa, hNsd, hNse_, hq22, hq23, hq24, hq25, hq26, hq27⟩
          cases hv
          have hcu := hfk.get hcu (by decide)
          have hstk := hfk.get hstk (by decide)
          have hpo := hfk.get hpo (by decide)
          have hbg := hfk.get hbg (by decide)
          have hbd := hfk.get hbd (by decide)
          have hq := hfk.get hq (by simp only [List.mem_cons, List.not_mem_nil, or_false]; omega)
          have hki := hfk.get hki (by simp only [List.mem_cons, List.not_mem_nil, or_false]; omega)
          have hne := hfk.get hne (by simp only [List.mem_cons, List.not_mem_nil, or_false]; omega)
          have hot := hfk.get hot (by simp only [List.mem_cons, List.not_mem_nil, or_false]; omega)
          have hra := hfk.get hra (by simp only [List.mem_cons, List.not_mem_nil, or_false]; omega)
          have hfr := hfr.tr hfk (by decide)
          have hlen := hlk.trans hlen
          have hsl := hsk.trans hsl
          have ha := hNa
          have hsd := hNsd
          have hse_ := hNse_
          change ab_W _ _ _ G18 107 [some (vR a), some (vz s_), some (vz sg), some (vz i_), none, none] [] _
          refine zz_iinc d_ST_makeEdge_107 rfl (Nat.le_of_ble_eq_true rfl) (Nat.le_of_ble_eq_true rfl) rfl ?_
          change ab_W _ _ _ G18 110 [some (vR a), some (vz s_), some (vz sg), some (vz (i_ + 1)), none, none] [] _
          refine ab_goto (tgt := 27) d_ST_makeEdge_110 (by decide) ?_
          exact ih (sc := sc219) (arv := arv) (stp := stp) (SD := SD220) (SE := SE221) (SK := SK) (i_ := (i_ + 1)) ha hcu hsd hse_ hstk hpo hbg hbd hq hki hne hot hra (by omega) (by omega) hq23 (by omega) hq24 hq25 (meJ_w jme hq26 (by omega) (by omega) (Or.inl ⟨by omega, (hT.n (by omega)).symm⟩)) (by omega) hfr hlen hsl (by omega) hk0
      · refine ab_aload_n d_ST_makeEdge_51 rfl ?_
        refine ab_aload_n d_ST_makeEdge_52 rfl ?_
        refine ab_getf (fs := [vz mst, vR q, vz vr, vz ro, vR cu, vz cn, vR eg, vR po, vR bg, vR bd, vz ct, vR sd, vz sc, vR se_, vz sta, vR stk, vz arv, vj stp]) f_ST_22 d_ST_makeEdge_53 ha.2.2 rfl ?_
        refine ab_iload_n d_ST_makeEdge_56 rfl ?_
        refine zz_iald d_ST_makeEdge_57 hpo (by omega) ?_
        have hq28 := jpo i_ (by omega) (by omega)
        refine ab_aload_n d_ST_makeEdge_58 rfl ?_
        refine ab_getf (fs := [vz mst, vR q, vz vr, vz ro, vR cu, vz cn, vR eg, vR po, vR bg, vR bd, vz ct, vR sd, vz sc, vR se_, vz sta, vR stk, vz arv, vj stp]) f_ST_28 d_ST_makeEdge_59 ha.2.2 rfl ?_
        refine ab_iload_n d_ST_makeEdge_62 rfl ?_
        refine zz_iald d_ST_makeEdge_63 hbd (by omega) ?_
        have hq29 := jbd s_ (by omega) (by omega)
        refine ab_iload_n d_ST_makeEdge_64 rfl ?_
        refine ab_callV (d' := d - 1) (as := [vz (PO i_), vz (BD s_), vz sg]) (st := []) (r := _) (z_ST_follow (o := o) (a := a) (cu := cu) (eg := eg) (po := po) (bg := bg) (bd := bd) (sd := sd) (se_ := se_) (stk := stk) (mst := mst) (vr := vr) (ro := ro) (cn := cn) (ct := ct) (sc := sc) (sta := sta) (arv := arv) (stp := stp) (CU := CU) (SD := SD) (SE := SE) (SK := SK) (q := q) (lq := lq) (ki := ki) (ne := ne) (ot := ot) (cnt := cnt) (fi := fi) (la := la) (ra := ra) (ru := ru) (gr := gr) (wi := wi) (sz := sz) (fl := fl) (ve := ve) (mi := mi) (na := na) (nl := nl) (K := K) (N := N) (O := O) (RR := RR) (nr := nr) (KT := KT) (NT := NT) (OT := OT) (RT := RT) (sg := sg) (ah := (BD s_)) (b_ := (PO i_)) (Pr := (mPr PO (BG s_) i_)) (Z0 := (mZ0 NT sg PO (BG s_) i_)) ha hcu hsd hse_ hstk hq hki hne hot hra (by omega) jcu (by omega) (by omega) hp hr (by omega) hT hpu (by omega) (by omega) (by omega) (by omega) jsd (by omega) jse jsq jme (by omega)) (fun oc G2 h => by rcases h with ⟨_, _, _, _, _, _, h, _⟩ <;> exact ⟨_, h⟩) (by omega) m_ST_follow ml_ST_151 im_ST_follow se_ST_follow c_ST ha.2.2 (Nat.le_of_ble_eq_true rfl) d_ST_makeEdge_65 rfl ?_
        intro v G30 hq
        rcases hq with ⟨sc231, st232, ar233, SD234, SE235, SK236, hv, hfk, hlk, hsk, hNa, hNsd, hNse_, hNstk, hq37, hq38, hq39, hq40, hq41, hq42⟩
        cases hv
        have hcu := hfk.get hcu (by decide)
        have hpo := hfk.get hpo (by decide)
        have hbg := hfk.get hbg (by decide)
        have hbd := hfk.get hbd (by decide)
        have hq := hfk.get hq (by simp only [List.mem_cons, List.not_mem_nil, or_false]; omega)
        have hki := hfk.get hki (by simp only [List.mem_cons, List.not_mem_nil, or_false]; omega)
        have hne := hfk.get hne (by simp only [List.mem_cons, List.not_mem_nil, or_false]; omega)
        have hot := hfk.get hot (by simp only [List.mem_cons, List.not_mem_nil, or_false]; omega)
        have hra := hfk.get hra (by simp only [List.mem_cons, List.not_mem_nil, or_false]; omega)
        have hfr := hfr.tr hfk (by decide)
        have hlen := hlk.trans hlen
        have hsl := hsk.trans hsl
        have ha := hNa
        have hsd := hNsd
        have hse_ := hNse_
        have hstk := hNstk
        change ab_W _ _ _ G30 68 [some (vR a), some (vz s_), some (vz sg), some (vz i_), none, none] [] _
        refine ab_goto (tgt := 107) d_ST_makeEdge_68 (by decide) ?_
        refine zz_iinc d_ST_makeEdge_107 rfl (Nat.le_of_ble_eq_true rfl) (Nat.le_of_ble_eq_true rfl) rfl ?_
        change ab_W _ _ _ G30 110 [some (vR a), some (vz s_), some (vz sg), some (vz (i_ + 1)), none, none] [] _
        refine ab_goto (tgt := 27) d_ST_makeEdge_110 (by decide) ?_
        exact ih (sc := sc231) (arv := ar233) (stp := st232) (SD := SD234) (SE := SE235) (SK := SK236) (i_ := (i_ + 1)) ha hcu hsd hse_ hstk hpo hbg hbd hq hki hne hot hra (by omega) (by omega) hq38 (by omega) hq39 hq40 (meJ_f hq41 (by omega) (by omega)) (by omega) hfr hlen hsl (by omega) hk0
set_option maxRecDepth 100000 in
set_option maxHeartbeats 4000000 in
theorem z_ST_makeEdge {X : ab_X} {d : Nat} {o : Nat → Nat} {G : ab_G} {a : Nat} {cu : Nat} {eg : Nat} {po : Nat} {bg : Nat} {bd : Nat} {sd : Nat} {se_ : Nat} {stk : Nat} {mst : Int} {vr : Int} {ro : Int} {cn : Int} {ct : Int} {sc : Int} {sta : Int} {arv : Int} {stp : Int} {CU : Int → Int} {EG : Int → Int} {PO : Int → Int} {BG : Int → Int} {BD : Int → Int} {SD : Int → Int} {SE : Int → Int} {SK : Int → Int} {q : Nat} {lq : Nat} {ki : Nat} {ne : Nat} {ot : Nat} {cnt : Int} {fi : Int} {la : Int} {ra : Nat} {ru : Int} {gr : Int} {wi : Int} {sz : Int} {fl : Int} {ve : Int} {mi : Int} {na : Nat} {nl : Nat} {K : Int → Int} {N : Int → Int} {O : Int → Int} {RR : Int → Int} {nr : Nat} {KT : Int → Int} {NT : Int → Int} {OT : Int → Int} {RT : Int → Int} {sg : Int} {s_ : Int} (ha : cc o G a 60 (ab_ob 8 [vz mst, vR q, vz vr, vz ro, vR cu, vz cn, vR eg, vR po, vR bg, vR bd, vz ct, vR sd, vz sc, vR se_, vz sta, vR stk, vz arv, vj stp])) (hcu : cc o G cu 61 (za 120 CU)) (hsd : cc o G sd 66 (za 2048 SD)) (hse_ : cc o G se_ 67 (za 3072 SE)) (hstk : cc o G stk 68 (za 809 SK)) (hpo : cc o G po 63 (za 8192 PO)) (hbg : cc o G bg 64 (za 65 BG)) (hbd : cc o G bd 65 (za 64 BD)) (hq : cc o G q lq (ab_ob 5 [vR ki, vR ne, vR ot, vz cnt, vz fi, vz la, vR ra, vz ru, vz gr, vz wi, vz sz, vz fl, vz ve, vz mi, vR na, vR nl])) (hki : cc o G ki (lq + 1) (za 808 K)) (hne : cc o G ne (lq + 2) (za 808 N)) (hot : cc o G ot (lq + 3) (za 808 O)) (hra : cc o G ra (lq + 4) (za nr RR)) (heg : cc o G eg 62 (za 8000 EG)) (cc0 : 0 ≤ cn ∧ cn ≤ 120) (jcu : rgs CU 120 0 1114112) (csg : 0 ≤ sg ∧ sg ≤ cn + 4) (cq : 100 ≤ lq ∧ 0 ≤ cnt ∧ cnt ≤ 808 ∧ ↑nr ≤ (100000 : Int)) (hp : prok K N O RR cnt ↑nr wi) (hr : ∀ k : Int, 0 ≤ k → k < ↑nr → 0 ≤ RR k ∧ RR k ≤ 1114111) (cfi : 0 ≤ fi ∧ fi < cnt ∧ 0 ≤ la ∧ la ≤ 1) (jpo : ents PO (BG ct) cnt) (jbg : bgo BG ct) (jbd : rgs BD 64 0 7) (cms : 4 ≤ mst ∧ mst ≤ 64 ∧ 0 ≤ ct ∧ ct ≤ mst) (cs1 : 0 ≤ s_ ∧ s_ < ct) (hT : trQ K N O RR cnt ru KT NT OT RT) (hpu : prok K N O RR cnt ru wi) (ck9 : K 0 = 9) (jeg : ego EG ct (cn + 5)) (cro : 0 ≤ ro ∧ ro ≤ 1) (csta : 0 ≤ sta ∧ sta ≤ 1900000000) (jse : rgs SE 3072 0 sta) (jed : edO KT NT OT RT fi la ro CU PO BG BD EG cn ct) (hd : 6 ≤ d) : ab_F X d y_ST_makeEdge (.code y_ST_makeEdge b_ST_makeEdge 6 (some (.int))) [vR a, vz s_, vz sg] G (fun oc G2 => ∃ v : Int, ∃ ct2 : Int, ∃ sc2 : Int, ∃ sta2 : Int, ∃ st2 : Int, ∃ ar2 : Int, ∃ EG2 : Int → Int, ∃ PO2 : Int → Int, ∃ BG2 : Int → Int, ∃ BD2 : Int → Int, ∃ SD2 : Int → Int, ∃ SE2 : Int → Int, ∃ SK2 : Int → Int, oc = .returned (some (vz v)) ∧ fx o o [60, 62, 63, 64, 65, 66, 67, 68] G G2 ∧ G2.length = G.length ∧ ab_slots G2 = ab_slots G ∧ cc o G2 a 60 (ab_ob 8 [vz mst, vR q, vz vr, vz ro, vR cu, vz cn, vR eg, vR po, vR bg, vR bd, vz ct2, vR sd, vz sc2, vR se_, vz sta2, vR stk, vz ar2, vj st2]) ∧ cc o G2 eg 62 (za 8000 EG2) ∧ cc o G2 po 63 (za 8192 PO2) ∧ cc o G2 bg 64 (za 65 BG2) ∧ cc o G2 bd 65 (za 64 BD2) ∧ cc o G2 sd 66 (za 2048 SD2) ∧ cc o G2 se_ 67 (za 3072 SE2) ∧ cc o G2 stk 68 (za 809 SK2) ∧ (2 ≤ v ∧ v / 2 ≤ ct2 ∧ 1 ≤ ct2 ∧ ct2 ≤ mst ∧ 0 ≤ ar2 ∧ ar2 ≤ 1) ∧ (bgo BG2 ct2) ∧ (ents PO2 (BG2 ct2) cnt) ∧ (ego EG2 ct2 (cn + 5)) ∧ (rgs BD2 64 0 7) ∧ (0 ≤ sc2 ∧ sc2 ≤ 2048) ∧ (sta2 = sta + 1) ∧ (rgs SE2 3072 0 sta2) ∧ (edV KT NT OT RT fi la ro CU (kpS PO BG s_) (BD s_) sg v PO2 BG2 BD2 ct2) ∧ (edO KT NT OT RT fi la ro CU PO2 BG2 BD2 EG2 cn ct2) ∧ (stp ≤ st2 ∧ st2 ≤ stp + 3072)) := by
  refine ab_F_of (by decide +kernel) (Nat.le_of_ble_eq_true rfl) ?_
  obtain ⟨Q, hQ⟩ : ∃ z : Outcome → ab_G → Prop, z = (fun oc G2 => ∃ v : Int, ∃ ct2 : Int, ∃ sc2 : Int, ∃ sta2 : Int, ∃ st2 : Int, ∃ ar2 : Int, ∃ EG2 : Int → Int, ∃ PO2 : Int → Int, ∃ BG2 : Int → Int, ∃ BD2 : Int → Int, ∃ SD2 : Int → Int, ∃ SE2 : Int → Int, ∃ SK2 : Int → Int, oc = .returned (some (vz v)) ∧ fx o o [60, 62, 63, 64, 65, 66, 67, 68] G G2 ∧ G2.length = G.length ∧ ab_slots G2 = ab_slots G ∧ cc o G2 a 60 (ab_ob 8 [vz mst, vR q, vz vr, vz ro, vR cu, vz cn, vR eg, vR po, vR bg, vR bd, vz ct2, vR sd, vz sc2, vR se_, vz sta2, vR stk, vz ar2, vj st2]) ∧ cc o G2 eg 62 (za 8000 EG2) ∧ cc o G2 po 63 (za 8192 PO2) ∧ cc o G2 bg 64 (za 65 BG2) ∧ cc o G2 bd 65 (za 64 BD2) ∧ cc o G2 sd 66 (za 2048 SD2) ∧ cc o G2 se_ 67 (za 3072 SE2) ∧ cc o G2 stk 68 (za 809 SK2) ∧ (2 ≤ v ∧ v / 2 ≤ ct2 ∧ 1 ≤ ct2 ∧ ct2 ≤ mst ∧ 0 ≤ ar2 ∧ ar2 ≤ 1) ∧ (bgo BG2 ct2) ∧ (ents PO2 (BG2 ct2) cnt) ∧ (ego EG2 ct2 (cn + 5)) ∧ (rgs BD2 64 0 7) ∧ (0 ≤ sc2 ∧ sc2 ≤ 2048) ∧ (sta2 = sta + 1) ∧ (rgs SE2 3072 0 sta2) ∧ (edV KT NT OT RT fi la ro CU (kpS PO BG s_) (BD s_) sg v PO2 BG2 BD2 ct2) ∧ (edO KT NT OT RT fi la ro CU PO2 BG2 BD2 EG2 cn ct2) ∧ (stp ≤ st2 ∧ st2 ≤ stp + 3072)) := ⟨_, rfl⟩
  rw [← hQ]
  change ab_W X (ab_pl y_ST_makeEdge b_ST_makeEdge 6 (some (.int))) d G 0 [some (vR a), some (vz s_), some (vz sg), none, none, none] [] Q
  have hfr : fx o o [60, 62, 63, 64, 65, 66, 67, 68] G G := fx.rf
  have hlen : G.length = G.length := rfl
  have hsl : ab_slots G = ab_slots G := rfl
  have jb := jbg.st s_ (by omega) (by omega)
  refine ab_aload_n d_ST_makeEdge_0 rfl ?_
  refine zz_iconst d_ST_makeEdge_1 ?_
  refine ab_putf (fs := [vz mst, vR q, vz vr, vz ro, vR cu, vz cn, vR eg, vR po, vR bg, vR bd, vz ct, vR sd, vz sc, vR se_, vz sta, vR stk, vz arv, vj stp]) f_ST_148 (Or.inl rfl) d_ST_makeEdge_2 ha.2.2 (Nat.le_of_ble_eq_true rfl) (ab_fbz (by decide)) (ha.2.1 (by decide)) ?_
  obtain ⟨G1, eG1⟩ : ∃ z : ab_G, z = List.set G a (ab_ob 8 [vz mst, vR q, vz vr, vz ro, vR cu, vz cn, vR eg, vR po, vR bg, vR bd, vz ct, vR sd, vz sc, vR se_, vz sta, vR stk, vz 0, vj stp]) := ⟨_, rfl⟩
  have hcu := hcu.keep ha eG1 (by decide)
  have hsd := hsd.keep ha eG1 (by decide)
  have hse_ := hse_.keep ha eG1 (by decide)
  have hstk := hstk.keep ha eG1 (by decide)
  have hpo := hpo.keep ha eG1 (by decide)
  have hbg := hbg.keep ha eG1 (by decide)
  have hbd := hbd.keep ha eG1 (by decide)
  have hq := hq.keep ha eG1 (by omega)
  have hki := hki.keep ha eG1 (by omega)
  have hne := hne.keep ha eG1 (by omega)
  have hot := hot.keep ha eG1 (by omega)
  have hra := hra.keep ha eG1 (by omega)
  have heg := heg.keep ha eG1 (by decide)
  have hlen := (z_len eG1).trans hlen
  have hsl := (z_sl ha eG1 rfl).trans hsl
  have hfr := hfr.wr ha eG1 (by decide)
  have ha := ha.kept eG1
  change ab_W _ _ _ (List.set G a (ab_ob 8 [vz mst, vR q, vz vr, vz ro, vR cu, vz cn, vR eg, vR po, vR bg, vR bd, vz ct, vR sd, vz sc, vR se_, vz sta, vR stk, vz 0, vj stp])) 5 [some (vR a), some (vz s_), some (vz sg), none, none, none] [] _
  rw [← eG1]
  refine ab_aload_n d_ST_makeEdge_5 rfl ?_
  refine ab_dup d_ST_makeEdge_6 rfl ?_
  refine ab_getf (fs := [vz mst, vR q, vz vr, vz ro, vR cu, vz cn, vR eg, vR po, vR bg, vR bd, vz ct, vR sd, vz sc, vR se_, vz sta, vR stk, vz 0, vj stp]) f_ST_123 d_ST_makeEdge_7 ha.2.2 rfl ?_
  refine zz_iconst d_ST_makeEdge_10 ?_
  refine zz_iadd d_ST_makeEdge_11 ?_
  refine ab_putf (fs := [vz mst, vR q, vz vr, vz ro, vR cu, vz cn, vR eg, vR po, vR bg, vR bd, vz ct, vR sd, vz sc, vR se_, vz sta, vR stk, vz 0, vj stp]) f_ST_123 (Or.inl rfl) d_ST_makeEdge_12 ha.2.2 (Nat.le_of_ble_eq_true rfl) (fun _ => ⟨rfl, rfl⟩) (ha.2.1 (by decide)) ?_
  obtain ⟨G2, eG2⟩ : ∃ z : ab_G, z = List.set G1 a (ab_ob 8 [vz mst, vR q, vz vr, vz ro, vR cu, vz cn, vR eg, vR po, vR bg, vR bd, vz ct, vR sd, vz sc, vR se_, vz (sta + 1), vR stk, vz 0, vj stp]) := ⟨_, rfl⟩
  have hcu := hcu.keep ha eG2 (by decide)
  have hsd := hsd.keep ha eG2 (by decide)
  have hse_ := hse_.keep ha eG2 (by decide)
  have hstk := hstk.keep ha eG2 (by decide)
  have hpo := hpo.keep ha eG2 (by decide)
  have hbg := hbg.keep ha eG2 (by decide)
  have hbd := hbd.keep ha eG2 (by decide)
  have hq := hq.keep ha eG2 (by omega)
  have hki := hki.keep ha eG2 (by omega)
  have hne := hne.keep ha eG2 (by omega)
  have hot := hot.keep ha eG2 (by omega)
  have hra := hra.keep ha eG2 (by omega)
  have heg := heg.keep ha eG2 (by decide)
  have hlen := (z_len eG2).trans hlen
  have hsl := (z_sl ha eG2 rfl).trans hsl
  have hfr := hfr.wr ha eG2 (by decide)
  have ha := ha.kept eG2
  change ab_W _ _ _ (List.set G1 a (ab_ob 8 [vz mst, vR q, vz vr, vz ro, vR cu, vz cn, vR eg, vR po, vR bg, vR bd, vz ct, vR sd, vz sc, vR se_, vz (sta + 1), vR stk, vz 0, vj stp])) 15 [some (vR a), some (vz s_), some (vz sg), none, none, none] [] _
  rw [← eG2]
  refine ab_aload_n d_ST_makeEdge_15 rfl ?_
  refine zz_iconst d_ST_makeEdge_16 ?_
  refine ab_putf (fs := [vz mst, vR q, vz vr, vz ro, vR cu, vz cn, vR eg, vR po, vR bg, vR bd, vz ct, vR sd, vz sc, vR se_, vz (sta + 1), vR stk, vz 0, vj stp]) f_ST_126 (Or.inl rfl) d_ST_makeEdge_17 ha.2.2 (Nat.le_of_ble_eq_true rfl) (fun _ => ⟨rfl, rfl⟩) (ha.2.1 (by decide)) ?_
  obtain ⟨G3, eG3⟩ : ∃ z : ab_G, z = List.set G2 a (ab_ob 8 [vz mst, vR q, vz vr, vz ro, vR cu, vz cn, vR eg, vR po, vR bg, vR bd, vz ct, vR sd, vz 0, vR se_, vz (sta + 1), vR stk, vz 0, vj stp]) := ⟨_, rfl⟩
  have hcu := hcu.keep ha eG3 (by decide)
  have hsd := hsd.keep ha eG3 (by decide)
  have hse_ := hse_.keep ha eG3 (by decide)
  have hstk := hstk.keep ha eG3 (by decide)
  have hpo := hpo.keep ha eG3 (by decide)
  have hbg := hbg.keep ha eG3 (by decide)
  have hbd := hbd.keep ha eG3 (by decide)
  have hq := hq.keep ha eG3 (by omega)
  have hki := hki.keep ha eG3 (by omega)
  have hne := hne.keep ha eG3 (by omega)
  have hot := hot.keep ha eG3 (by omega)
  have hra := hra.keep ha eG3 (by omega)
  have heg := heg.keep ha eG3 (by decide)
  have hlen := (z_len eG3).trans hlen
  have hsl := (z_sl ha eG3 rfl).trans hsl
  have hfr := hfr.wr ha eG3 (by decide)
  have ha := ha.kept eG3
  change ab_W _ _ _ (List.set G2 a (ab_ob 8 [vz mst, vR q, vz vr, vz ro, vR cu, vz cn, vR eg, vR po, vR bg, vR bd, vz ct, vR sd, vz 0, vR se_, vz (sta + 1), vR stk, vz 0, vj stp])) 20 [some (vR a), some (vz s_), some (vz sg), none, none, none] [] _
  rw [← eG3]
  refine ab_aload_n d_ST_makeEdge_20 rfl ?_
  refine ab_getf (fs := [vz mst, vR q, vz vr, vz ro, vR cu, vz cn, vR eg, vR po, vR bg, vR bd, vz ct, vR sd, vz 0, vR se_, vz (sta + 1), vR stk, vz 0, vj stp]) f_ST_25 d_ST_makeEdge_21 ha.2.2 rfl ?_
  refine ab_iload_n d_ST_makeEdge_24 rfl ?_
  refine zz_iald d_ST_makeEdge_25 hbg (by omega) ?_
  refine ab_istore_n d_ST_makeEdge_26 (Nat.le_of_ble_eq_true rfl) (Nat.le_of_ble_eq_true rfl) rfl ?_
  change ab_W _ _ _ G3 27 [some (vR a), some (vz s_), some (vz sg), some (vz (BG s_)), none, none] [] _
  refine y_ST_makeEdge_27 (a := a) (cu := cu) (eg := eg) (po := po) (bg := bg) (bd := bd) (sd := sd) (se_ := se_) (stk := stk) (mst := mst) (vr := vr) (ro := ro) (cn := cn) (ct := ct) (sta := (sta + 1)) (CU := CU) (PO := PO) (BG := BG) (BD := BD) (q := q) (lq := lq) (ki := ki) (ne := ne) (ot := ot) (cnt := cnt) (fi := fi) (la := la) (ra := ra) (ru := ru) (gr := gr) (wi := wi) (sz := sz) (fl := fl) (ve := ve) (mi := mi) (na := na) (nl := nl) (K := K) (N := N) (O := O) (RR := RR) (nr := nr) (KT := KT) (NT := NT) (OT := OT) (RT := RT) (sg := sg) (s_ := s_) (st0 := stp) (SE0 := SE) (G0 := G3) (sc := 0) (arv := 0) (stp := stp) (SD := SD) (SE := SE) (SK := SK) (i_ := (BG s_)) (by omega) jcu (by omega) (by omega) hp hr (by omega) jpo jbg jbd (by omega) (by omega) hT hpu (by omega) (by omega) (by omega) (by omega) (Int.toNat (BG (s_ + 1) - (BG s_)) + 1) ha hcu hsd hse_ hstk hpo hbg hbd hq hki hne hot hra (by omega) (by omega) ents_0 (by omega) (rgs_up jse (by omega)) (sdQ_0 jse) (meJ_0 jse rfl) (by omega) fx.rf rfl rfl (by omega) (fun G4 sc25 st26 ar27 SD28 SE29 SK210 hNa hNsd hNse_ hNstk hq11 hq12 hq13 hq14 hq15 hq16 hfk hlk hsk => ?_)
  · have hcu := hfk.get hcu (by decide)
    have hpo := hfk.get hpo (by decide)
    have hbg := hfk.get hbg (by decide)
    have hbd := hfk.get hbd (by decide)
    have hq := hfk.get hq (by simp only [List.mem_cons, List.not_mem_nil, or_false]; omega)
    have hki := hfk.get hki (by simp only [List.mem_cons, List.not_mem_nil, or_false]; omega)
    have hne := hfk.get hne (by simp only [List.mem_cons, List.not_mem_nil, or_false]; omega)
    have hot := hfk.get hot (by simp only [List.mem_cons, List.not_mem_nil, or_false]; omega)
    have hra := hfk.get hra (by simp only [List.mem_cons, List.not_mem_nil, or_false]; omega)
    have heg := hfk.get heg (by decide)
    have hfr := hfr.tr hfk (by decide)
    have hlen := hlk.trans hlen
    have hsl := hsk.trans hsl
    have ha := hNa
    have hsd := hNsd
    have hse_ := hNse_
    have hstk := hNstk
    change ab_W _ _ _ G4 113 [some (vR a), some (vz s_), some (vz sg), none, none, none] [] _
    refine ab_aload_n d_ST_makeEdge_113 rfl ?_
    refine ab_getf (fs := [vz mst, vR q, vz vr, vz ro, vR cu, vz cn, vR eg, vR po, vR bg, vR bd, vz ct, vR sd, vz sc25, vR se_, vz (sta + 1), vR stk, vz ar27, vj st26]) f_ST_70 d_ST_makeEdge_114 ha.2.2 rfl ?_
    refine zz_if_eq (tgt := 138) d_ST_makeEdge_117 (by decide) (by omega) (fun c17 => ?_) (fun c17 => ?_)
    · have hmk_ : mkX KT NT OT RT CU fi ro sg (BD s_) (kpS PO BG s_) SD28 sc25 ar27 := mkX_0 hq15 rfl (by omega)
      refine ab_aload_n d_ST_makeEdge_138 rfl ?_
      refine ab_getf (fs := [vz mst, vR q, vz vr, vz ro, vR cu, vz cn, vR eg, vR po, vR bg, vR bd, vz ct, vR sd, vz sc25, vR se_, vz (sta + 1), vR stk, vz ar27, vj st26]) f_ST_40 d_ST_makeEdge_139 ha.2.2 rfl ?_
      refine ab_istore_n d_ST_makeEdge_142 (Nat.le_of_ble_eq_true rfl) (Nat.le_of_ble_eq_true rfl) rfl ?_
      change ab_W _ _ _ G4 143 [some (vR a), some (vz s_), some (vz sg), some (vz ct), none, none] [] _
      refine ab_iload_n d_ST_makeEdge_143 rfl ?_
      refine zz_if_ne (tgt := 151) d_ST_makeEdge_144 (by decide) (by omega) (fun c18 => ?_) (fun c18 => ?_)
      · refine ab_aload_n d_ST_makeEdge_151 rfl ?_
        refine ab_aload_n d_ST_makeEdge_152 rfl ?_
        refine ab_iload_n d_ST_makeEdge_153 rfl ?_
        refine ab_callV (d' := d - 1) (as := [vz sg]) (st := [vR a]) (r := _) (z_ST_aheadOf (o := o) (a := a) (cu := cu) (eg := eg) (po := po) (bg := bg) (bd := bd) (sd := sd) (se_ := se_) (stk := stk) (mst := mst) (vr := vr) (ro := ro) (cn := cn) (ct := ct) (sc := sc25) (sta := (sta + 1)) (arv := ar27) (stp := st26) (CU := CU) (q := q) (lq := lq) (ki := ki) (ne := ne) (ot := ot) (cnt := cnt) (fi := fi) (la := la) (ra := ra) (ru := ru) (gr := gr) (wi := wi) (sz := sz) (fl := fl) (ve := ve) (mi := mi) (na := na) (nl := nl) (sg := sg) ha hcu hq (by omega) jcu (by omega) (by omega) (by omega)) (fun oc G2 h => by rcases h with ⟨_, h, _⟩ <;> exact ⟨_, h⟩) (by omega) m_ST_aheadOf ml_ST_158 im_ST_aheadOf se_ST_aheadOf c_ST ha.2.2 (Nat.le_of_ble_eq_true rfl) d_ST_makeEdge_154 rfl ?_
        intro v G19 hq
        rcases hq with ⟨v20, hv, hGe, hq21, hq22⟩
        cases hv
        rw [hGe]
        change ab_W _ _ _ G4 157 [some (vR a), some (vz s_), some (vz sg), some (vz ct), none, none] [vz v20, vR a] _
        refine ab_callV (d' := d - 1) (as := [vz v20]) (st := []) (r := _) (z_ST_keptState (o := o) (a := a) (cu := cu) (eg := eg) (po := po) (bg := bg) (bd := bd) (sd := sd) (se_ := se_) (stk := stk) (mst := mst) (q0 := vR q) (vr := vr) (ro := ro) (cn := cn) (ct := ct) (sc := sc25) (sta := (sta + 1)) (arv := ar27) (stp := st26) (EG := EG) (PO := PO) (BG := BG) (BD := BD) (SD := SD28) (ah := v20) ha heg hpo hbg hbd hsd (by omega) (by omega) (by omega) jbg jpo hq12 (by omega) jbd jeg (by omega)) (fun oc G2 h => by rcases h with ⟨_, _, _, _, _, _, h, _⟩ | ⟨_, _, _, _, _, _, h, _⟩ <;> exact ⟨_, h⟩) (by omega) m_ST_keptState ml_ST_145 im_ST_keptState se_ST_keptState c_ST ha.2.2 (Nat.le_of_ble_eq_true rfl) d_ST_makeEdge_157 rfl ?_
        intro v G23 hq
        rcases hq with ⟨v24, ct225, EG226, PO227, BG228, BD229, hv, hfk, hlk, hsk, hNa, hNeg, hNpo, hNbg, hNbd, hq30, hq31, hq32, hq33, hq34, hq35, hq36⟩ | ⟨v37, ct238, EG239, PO240, BG241, BD242, hv, hfk, hlk, hsk, hNa, hNeg, hNpo, hNbg, hNbd, hq43, hq44, hq45, hq46, hq47, hq48, hq49⟩
        · cases hv
          have hcu := hfk.get hcu (by decide)
          have hsd := hfk.get hsd (by decide)
          have hse_ := hfk.get hse_ (by decide)
          have hstk := hfk.get hstk (by decide)
          have hq := hfk.get hq (by simp only [List.mem_cons, List.not_mem_nil, or_false]; omega)
          have hki := hfk.get hki (by simp only [List.mem_cons, List.not_mem_nil, or_false]; omega)
          have hne := hfk.get hne (by simp only [List.mem_cons, List.not_mem_nil, or_false]; omega)
          have hot := hfk.get hot (by simp only [List.mem_cons, List.not_mem_nil, or_false]; omega)
          have hra := hfk.get hra (by simp only [List.mem_cons, List.not_mem_nil, or_false]; omega)
          have hfr := hfr.tr hfk (by decide)
          have hlen := hlk.trans hlen
          have hsl := hsk.trans hsl
          have ha := hNa
          have heg := hNeg
          have hpo := hNpo
          have hbg := hNbg
          have hbd := hNbd
          change ab_W _ _ _ G23 160 [some (vR a), some (vz s_), some (vz sg), some (vz ct), none, none] [vz v24] _
          refine ab_istore d_ST_makeEdge_160 (Nat.le_of_ble_eq_true rfl) (Nat.le_of_ble_eq_true rfl) rfl ?_
          change ab_W _ _ _ G23 162 [some (vR a), some (vz s_), some (vz sg), some (vz ct), some (vz v24), none] [] _
          refine zz_iconst d_ST_makeEdge_162 ?_
          refine ab_iload d_ST_makeEdge_163 rfl ?_
          refine zz_iconst d_ST_makeEdge_165 ?_
          refine zz_iadd d_ST_makeEdge_166 ?_
          refine zz_imul d_ST_makeEdge_167 ?_
          refine ab_aload_n d_ST_makeEdge_168 rfl ?_
          refine ab_getf (fs := [vz mst, vR q, vz vr, vz ro, vR cu, vz cn, vR eg, vR po, vR bg, vR bd, vz ct225, vR sd, vz sc25, vR se_, vz (sta + 1), vR stk, vz ar27, vj st26]) f_ST_148 d_ST_makeEdge_169 ha.2.2 rfl ?_
          refine zz_if_eq (tgt := 179) d_ST_makeEdge_172 (by decide) (by omega) (fun c50 => ?_) (fun c50 => ?_)
          · refine zz_iconst d_ST_makeEdge_179 ?_
            refine zz_iadd d_ST_makeEdge_180 ?_
            refine ab_istore d_ST_makeEdge_181 (Nat.le_of_ble_eq_true rfl) (Nat.le_of_ble_eq_true rfl) rfl ?_
            change ab_W _ _ _ G23 183 [some (vR a), some (vz s_), some (vz sg), some (vz ct), some (vz v24), some (vz ((2 * (v24 + 1)) + 0))] [] _
            have hev_ : edV KT NT OT RT fi la ro CU (kpS PO BG s_) (BD s_) sg ((2 * (v24 + 1)) + 0) PO227 BG228 BD229 ct225 := edV_mk hmk_ (t := v24) (by omega) (by omega) (by omega) (fun _ => ⟨hq35.2.2.2, by rw [hq35.2.2.1]; exact hq22⟩)
            refine ab_aload_n d_ST_makeEdge_183 rfl ?_
            refine ab_getf (fs := [vz mst, vR q, vz vr, vz ro, vR cu, vz cn, vR eg, vR po, vR bg, vR bd, vz ct225, vR sd, vz sc25, vR se_, vz (sta + 1), vR stk, vz ar27, vj st26]) f_ST_40 d_ST_makeEdge_184 ha.2.2 rfl ?_
            refine ab_iload_n d_ST_makeEdge_187 rfl ?_
            refine zz_icmp_lt (tgt := 208) d_ST_makeEdge_188 (by decide) (by omega) (by omega) (fun c51 => absurd c51 (by omega)) (fun c51 => ?_)
            refine ab_aload_n d_ST_makeEdge_191 rfl ?_
            refine ab_getf (fs := [vz mst, vR q, vz vr, vz ro, vR cu, vz cn, vR eg, vR po, vR bg, vR bd, vz ct225, vR sd, vz sc25, vR se_, vz (sta + 1), vR stk, vz ar27, vj st26]) f_ST_19 d_ST_makeEdge_192 ha.2.2 rfl ?_
            refine ab_iload_n d_ST_makeEdge_195 rfl ?_
            refine ab_aload_n d_ST_makeEdge_196 rfl ?_
            refine ab_getf (fs := [vz mst, vR q, vz vr, vz ro, vR cu, vz cn, vR eg, vR po, vR bg, vR bd, vz ct225, vR sd, vz sc25, vR se_, vz (sta + 1), vR stk, vz ar27, vj st26]) f_ST_63 d_ST_makeEdge_197 ha.2.2 rfl ?_
            refine zz_iconst d_ST_makeEdge_200 ?_
            refine zz_iadd d_ST_makeEdge_201 ?_
            refine zz_imul d_ST_makeEdge_202 ?_
            obtain ⟨v52, hv52⟩ : ∃ z : Int, z = s_ * (cn + 5) := ⟨_, rfl⟩
            rw [← hv52]
            have hv52b := z_mulb (a := s_) (b := (cn + 5)) (A := 64) (B := 125) (by omega) (by omega)
            rw [← hv52] at hv52b
            change ab_W _ _ _ G23 203 [some (vR a), some (vz s_), some (vz sg), some (vz ct), some (vz v24), some (vz ((2 * (v24 + 1)) + 0))] [vz v52, vR eg] _
            have hm3 : (s_ + 1) * (cn + 5) ≤ 64 * 125 := Int.mul_le_mul (by omega) (by omega) (by omega) (by omega)
            have hm4 : (s_ + 1) * (cn + 5) = s_ * (cn + 5) + (cn + 5) := by rw [Int.add_mul, Int.one_mul]
            refine ab_iload_n d_ST_makeEdge_203 rfl ?_
            refine zz_iadd d_ST_makeEdge_204 ?_
            refine ab_iload d_ST_makeEdge_205 rfl ?_
            refine zz_iast d_ST_makeEdge_207 heg (by omega) (heg.2.1 (by decide)) ?_
            obtain ⟨G53, eG53⟩ : ∃ z : ab_G, z = List.set G23 eg (za 8000 (zu EG226 (v52 + sg) ((2 * (v24 + 1)) + 0))) := ⟨_, rfl⟩
            have ha := ha.keep heg eG53 (by decide)
            have hcu := hcu.keep heg eG53 (by decide)
            have hsd := hsd.keep heg eG53 (by decide)
            have hse_ := hse_.keep heg eG53 (by decide)
            have hstk := hstk.keep heg eG53 (by decide)
            have hpo := hpo.keep heg eG53 (by decide)
            have hbg := hbg.keep heg eG53 (by decide)
            have hbd := hbd.keep heg eG53 (by decide)
            have hq := hq.keep heg eG53 (by omega)
            have hki := hki.keep heg eG53 (by omega)
            have hne := hne.keep heg eG53 (by omega)
            have hot := hot.keep heg eG53 (by omega)
            have hra := hra.keep heg eG53 (by omega)
            have hlen := (z_len eG53).trans hlen
            have hsl := (z_sl heg eG53 rfl).trans hsl
            have hfr := hfr.wr heg eG53 (by decide)
            have heg := heg.kept eG53
            change ab_W _ _ _ (List.set G23 eg (za 8000 (zu EG226 (v52 + sg) ((2 * (v24 + 1)) + 0)))) 208 [some (vR a), some (vz s_), some (vz sg), some (vz ct), some (vz v24), some (vz ((2 * (v24 + 1)) + 0))] [] _
            rw [← eG53]
            refine ab_iload d_ST_makeEdge_208 rfl ?_
            refine zz_iret rfl d_ST_makeEdge_210 ?_
            rw [hQ]; exact ⟨_, _, _, _, _, _, _, _, _, _, _, _, _, rfl, hfr, hlen, hsl, ha, heg, hpo, hbg, hbd, hsd, hse_, hstk, (by omega), (by exact hq31), (by exact hq32), (by exact ego_set (s0 := s_) (t0 := sg) hq33 (by rw [hv52]) (by omega)), (by exact hq34), (by omega), (by rfl), (by exact hq13), (by exact hev_), (by exact edO_set (edO_ks jed hq35) (by rw [hv52]) (by omega) (edR_v hev_ (fun h => absurd h (by omega)) (hq35.2.1 (by omega) s_ (by omega) (by omega)))), (by have b1 := scw_b SE (sta + 1); have b2 := scw_b SE29 (sta + 1); omega)⟩
          · refine zz_iconst d_ST_makeEdge_175 ?_
            refine ab_goto (tgt := 180) d_ST_makeEdge_176 (by decide) ?_
            refine zz_iadd d_ST_makeEdge_180 ?_
            refine ab_istore d_ST_makeEdge_181 (Nat.le_of_ble_eq_true rfl) (Nat.le_of_ble_eq_true rfl) rfl ?_
            change ab_W _ _ _ G23 183 [some (vR a), some (vz s_), some (vz sg), some (vz ct), some (vz v24), some (vz ((2 * (v24 + 1)) + 1))] [] _
            have hev_ : edV KT NT OT RT fi la ro CU (kpS PO BG s_) (BD s_) sg ((2 * (v24 + 1)) + 1) PO227 BG228 BD229 ct225 := edV_mk hmk_ (t := v24) (by omega) (by omega) (by omega) (fun _ => ⟨hq35.2.2.2, by rw [hq35.2.2.1]; exact hq22⟩)
            refine ab_aload_n d_ST_makeEdge_183 rfl ?_
            refine ab_getf (fs := [vz mst, vR q, vz vr, vz ro, vR cu, vz cn, vR eg, vR po, vR bg, vR bd, vz ct225, vR sd, vz sc25, vR se_, vz (sta + 1), vR stk, vz ar27, vj st26]) f_ST_40 d_ST_makeEdge_184 ha.2.2 rfl ?_
            refine ab_iload_n d_ST_makeEdge_187 rfl ?_
            refine zz_icmp_lt (tgt := 208) d_ST_makeEdge_188 (by decide) (by omega) (by omega) (fun c54 => absurd c54 (by omega)) (fun c54 => ?_)
            refine ab_aload_n d_ST_makeEdge_191 rfl ?_
            refine ab_getf (fs := [vz mst, vR q, vz vr, vz ro, vR cu, vz cn, vR eg, vR po, vR bg, vR bd, vz ct225, vR sd, vz sc25, vR se_, vz (sta + 1), vR stk, vz ar27, vj st26]) f_ST_19 d_ST_makeEdge_192 ha.2.2 rfl ?_
            refine ab_iload_n d_ST_makeEdge_195 rfl ?_
            refine ab_aload_n d_ST_makeEdge_196 rfl ?_
            refine ab_getf (fs := [vz mst, vR q, vz vr, vz ro, vR cu, vz cn, vR eg, vR po, vR bg, vR bd, vz ct225, vR sd, vz sc25, vR se_, vz (sta + 1), vR stk, vz ar27, vj st26]) f_ST_63 d_ST_makeEdge_197 ha.2.2 rfl ?_
            refine zz_iconst d_ST_makeEdge_200 ?_
            refine zz_iadd d_ST_makeEdge_201 ?_
            refine zz_imul d_ST_makeEdge_202 ?_
            obtain ⟨v55, hv55⟩ : ∃ z : Int, z = s_ * (cn + 5) := ⟨_, rfl⟩
            rw [← hv55]
            have hv55b := z_mulb (a := s_) (b := (cn + 5)) (A := 64) (B := 125) (by omega) (by omega)
            rw [← hv55] at hv55b
            change ab_W _ _ _ G23 203 [some (vR a), some (vz s_), some (vz sg), some (vz ct), some (vz v24), some (vz ((2 * (v24 + 1)) + 1))] [vz v55, vR eg] _
            have hm3 : (s_ + 1) * (cn + 5) ≤ 64 * 125 := Int.mul_le_mul (by omega) (by omega) (by omega) (by omega)
            have hm4 : (s_ + 1) * (cn + 5) = s_ * (cn + 5) + (cn + 5) := by rw [Int.add_mul, Int.one_mul]
            refine ab_iload_n d_ST_makeEdge_203 rfl ?_
            refine zz_iadd d_ST_makeEdge_204 ?_
            refine ab_iload d_ST_makeEdge_205 rfl ?_
            refine zz_iast d_ST_makeEdge_207 heg (by omega) (heg.2.1 (by decide)) ?_
            obtain ⟨G56, eG56⟩ : ∃ z : ab_G, z = List.set G23 eg (za 8000 (zu EG226 (v55 + sg) ((2 * (v24 + 1)) + 1))) := ⟨_, rfl⟩
            have ha := ha.keep heg eG56 (by decide)
            have hcu := hcu.keep heg eG56 (by decide)
            have hsd := hsd.keep heg eG56 (by decide)
            have hse_ := hse_.keep heg eG56 (by decide)
            have hstk := hstk.keep heg eG56 (by decide)
            have hpo := hpo.keep heg eG56 (by decide)
            have hbg := hbg.keep heg eG56 (by decide)
            have hbd := hbd.keep heg eG56 (by decide)
            have hq := hq.keep heg eG56 (by omega)
            have hki := hki.keep heg eG56 (by omega)
            have hne := hne.keep heg eG56 (by omega)
            have hot := hot.keep heg eG56 (by omega)
            have hra := hra.keep heg eG56 (by omega)
            have hlen := (z_len eG56).trans hlen
            have hsl := (z_sl heg eG56 rfl).trans hsl
            have hfr := hfr.wr heg eG56 (by decide)
            have heg := heg.kept eG56
            change ab_W _ _ _ (List.set G23 eg (za 8000 (zu EG226 (v55 + sg) ((2 * (v24 + 1)) + 1)))) 208 [some (vR a), some (vz s_), some (vz sg), some (vz ct), some (vz v24), some (vz ((2 * (v24 + 1)) + 1))] [] _
            rw [← eG56]
            refine ab_iload d_ST_makeEdge_208 rfl ?_
            refine zz_iret rfl d_ST_makeEdge_210 ?_
            rw [hQ]; exact ⟨_, _, _, _, _, _, _, _, _, _, _, _, _, rfl, hfr, hlen, hsl, ha, heg, hpo, hbg, hbd, hsd, hse_, hstk, (by omega), (by exact hq31), (by exact hq32), (by exact ego_set (s0 := s_) (t0 := sg) hq33 (by rw [hv55]) (by omega)), (by exact hq34), (by omega), (by rfl), (by exact hq13), (by exact hev_), (by exact edO_set (edO_ks jed hq35) (by rw [hv55]) (by omega) (edR_v hev_ (fun h => absurd h (by omega)) (hq35.2.1 (by omega) s_ (by omega) (by omega)))), (by have b1 := scw_b SE (sta + 1); have b2 := scw_b SE29 (sta + 1); omega)⟩
        · cases hv
          have hcu := hfk.get hcu (by decide)
          have hsd := hfk.get hsd (by decide)
          have hse_ := hfk.get hse_ (by decide)
          have hstk := hfk.get hstk (by decide)
          have hq := hfk.get hq (by simp only [List.mem_cons, List.not_mem_nil, or_false]; omega)
          have hki := hfk.get hki (by simp only [List.mem_cons, List.not_mem_nil, or_false]; omega)
          have hne := hfk.get hne (by simp only [List.mem_cons, List.not_mem_nil, or_false]; omega)
          have hot := hfk.get hot (by simp only [List.mem_cons, List.not_mem_nil, or_false]; omega)
          have hra := hfk.get hra (by simp only [List.mem_cons, List.not_mem_nil, or_false]; omega)
          have hfr := hfr.tr hfk (by decide)
          have hlen := hlk.trans hlen
          have hsl := hsk.trans hsl
          have ha := hNa
          have heg := hNeg
          have hpo := hNpo
          have hbg := hNbg
          have hbd := hNbd
          change ab_W _ _ _ G23 160 [some (vR a), some (vz s_), some (vz sg), some (vz ct), none, none] [vz v37] _
          refine ab_istore d_ST_makeEdge_160 (Nat.le_of_ble_eq_true rfl) (Nat.le_of_ble_eq_true rfl) rfl ?_
          change ab_W _ _ _ G23 162 [some (vR a), some (vz s_), some (vz sg), some (vz ct), some (vz v37), none] [] _
          refine zz_iconst d_ST_makeEdge_162 ?_
          refine ab_iload d_ST_makeEdge_163 rfl ?_
          refine zz_iconst d_ST_makeEdge_165 ?_
          refine zz_iadd d_ST_makeEdge_166 ?_
          refine zz_imul d_ST_makeEdge_167 ?_
          refine ab_aload_n d_ST_makeEdge_168 rfl ?_
          refine ab_getf (fs := [vz mst, vR q, vz vr, vz ro, vR cu, vz cn, vR eg, vR po, vR bg, vR bd, vz ct238, vR sd, vz sc25, vR se_, vz (sta + 1), vR stk, vz ar27, vj st26]) f_ST_148 d_ST_makeEdge_169 ha.2.2 rfl ?_
          refine zz_if_eq (tgt := 179) d_ST_makeEdge_172 (by decide) (by omega) (fun c57 => ?_) (fun c57 => ?_)
          · refine zz_iconst d_ST_makeEdge_179 ?_
            refine zz_iadd d_ST_makeEdge_180 ?_
            refine ab_istore d_ST_makeEdge_181 (Nat.le_of_ble_eq_true rfl) (Nat.le_of_ble_eq_true rfl) rfl ?_
            change ab_W _ _ _ G23 183 [some (vR a), some (vz s_), some (vz sg), some (vz ct), some (vz v37), some (vz ((2 * (v37 + 1)) + 0))] [] _
            have hev_ : edV KT NT OT RT fi la ro CU (kpS PO BG s_) (BD s_) sg ((2 * (v37 + 1)) + 0) PO240 BG241 BD242 ct238 := edV_mk hmk_ (t := v37) (by omega) (by omega) (by omega) (fun _ => ⟨hq48.2.2.2, by rw [hq48.2.2.1]; exact hq22⟩)
            refine ab_aload_n d_ST_makeEdge_183 rfl ?_
            refine ab_getf (fs := [vz mst, vR q, vz vr, vz ro, vR cu, vz cn, vR eg, vR po, vR bg, vR bd, vz ct238, vR sd, vz sc25, vR se_, vz (sta + 1), vR stk, vz ar27, vj st26]) f_ST_40 d_ST_makeEdge_184 ha.2.2 rfl ?_
            refine ab_iload_n d_ST_makeEdge_187 rfl ?_
            refine zz_icmp_lt (tgt := 208) d_ST_makeEdge_188 (by decide) (by omega) (by omega) (fun c58 => ?_) (fun c58 => absurd c58 (by omega))
            refine ab_iload d_ST_makeEdge_208 rfl ?_
            refine zz_iret rfl d_ST_makeEdge_210 ?_
            rw [hQ]; exact ⟨_, _, _, _, _, _, _, _, _, _, _, _, _, rfl, hfr, hlen, hsl, ha, heg, hpo, hbg, hbd, hsd, hse_, hstk, (by omega), (by exact hq44), (by exact hq45), (by exact hq46), (by exact hq47), (by omega), (by rfl), (by exact hq13), (by exact hev_), (by exact edO_ks jed hq48), (by have b1 := scw_b SE (sta + 1); have b2 := scw_b SE29 (sta + 1); omega)⟩
          · refine zz_iconst d_ST_makeEdge_175 ?_
            refine ab_goto (tgt := 180) d_ST_makeEdge_176 (by decide) ?_
            refine zz_iadd d_ST_makeEdge_180 ?_
            refine ab_istore d_ST_makeEdge_181 (Nat.le_of_ble_eq_true rfl) (Nat.le_of_ble_eq_true rfl) rfl ?_
            change ab_W _ _ _ G23 183 [some (vR a), some (vz s_), some (vz sg), some (vz ct), some (vz v37), some (vz ((2 * (v37 + 1)) + 1))] [] _
            have hev_ : edV KT NT OT RT fi la ro CU (kpS PO BG s_) (BD s_) sg ((2 * (v37 + 1)) + 1) PO240 BG241 BD242 ct238 := edV_mk hmk_ (t := v37) (by omega) (by omega) (by omega) (fun _ => ⟨hq48.2.2.2, by rw [hq48.2.2.1]; exact hq22⟩)
            refine ab_aload_n d_ST_makeEdge_183 rfl ?_
            refine ab_getf (fs := [vz mst, vR q, vz vr, vz ro, vR cu, vz cn, vR eg, vR po, vR bg, vR bd, vz ct238, vR sd, vz sc25, vR se_, vz (sta + 1), vR stk, vz ar27, vj st26]) f_ST_40 d_ST_makeEdge_184 ha.2.2 rfl ?_
            refine ab_iload_n d_ST_makeEdge_187 rfl ?_
            refine zz_icmp_lt (tgt := 208) d_ST_makeEdge_188 (by decide) (by omega) (by omega) (fun c59 => ?_) (fun c59 => absurd c59 (by omega))
            refine ab_iload d_ST_makeEdge_208 rfl ?_
            refine zz_iret rfl d_ST_makeEdge_210 ?_
            rw [hQ]; exact ⟨_, _, _, _, _, _, _, _, _, _, _, _, _, rfl, hfr, hlen, hsl, ha, heg, hpo, hbg, hbd, hsd, hse_, hstk, (by omega), (by exact hq44), (by exact hq45), (by exact hq46), (by exact hq47), (by omega), (by rfl), (by exact hq13), (by exact hev_), (by exact edO_ks jed hq48), (by have b1 := scw_b SE (sta + 1); have b2 := scw_b SE29 (sta + 1); omega)⟩
      · refine ab_iload_n d_ST_makeEdge_147 rfl ?_
        refine ab_goto (tgt := 160) d_ST_makeEdge_148 (by decide) ?_
        refine ab_istore d_ST_makeEdge_160 (Nat.le_of_ble_eq_true rfl) (Nat.le_of_ble_eq_true rfl) rfl ?_
        change ab_W _ _ _ G4 162 [some (vR a), some (vz s_), some (vz sg), some (vz ct), some (vz s_), none] [] _
        refine zz_iconst d_ST_makeEdge_162 ?_
        refine ab_iload d_ST_makeEdge_163 rfl ?_
        refine zz_iconst d_ST_makeEdge_165 ?_
        refine zz_iadd d_ST_makeEdge_166 ?_
        refine zz_imul d_ST_makeEdge_167 ?_
        refine ab_aload_n d_ST_makeEdge_168 rfl ?_
        refine ab_getf (fs := [vz mst, vR q, vz vr, vz ro, vR cu, vz cn, vR eg, vR po, vR bg, vR bd, vz ct, vR sd, vz sc25, vR se_, vz (sta + 1), vR stk, vz ar27, vj st26]) f_ST_148 d_ST_makeEdge_169 ha.2.2 rfl ?_
        refine zz_if_eq (tgt := 179) d_ST_makeEdge_172 (by decide) (by omega) (fun c60 => ?_) (fun c60 => ?_)
        · refine zz_iconst d_ST_makeEdge_179 ?_
          refine zz_iadd d_ST_makeEdge_180 ?_
          refine ab_istore d_ST_makeEdge_181 (Nat.le_of_ble_eq_true rfl) (Nat.le_of_ble_eq_true rfl) rfl ?_
          change ab_W _ _ _ G4 183 [some (vR a), some (vz s_), some (vz sg), some (vz ct), some (vz s_), some (vz ((2 * (s_ + 1)) + 0))] [] _
          have hev_ : edV KT NT OT RT fi la ro CU (kpS PO BG s_) (BD s_) sg ((2 * (s_ + 1)) + 0) PO BG BD ct := edV_mk hmk_ (t := s_) (by omega) (by omega) (by omega) (fun h => absurd (show sg = 0 by omega) h)
          refine ab_aload_n d_ST_makeEdge_183 rfl ?_
          refine ab_getf (fs := [vz mst, vR q, vz vr, vz ro, vR cu, vz cn, vR eg, vR po, vR bg, vR bd, vz ct, vR sd, vz sc25, vR se_, vz (sta + 1), vR stk, vz ar27, vj st26]) f_ST_40 d_ST_makeEdge_184 ha.2.2 rfl ?_
          refine ab_iload_n d_ST_makeEdge_187 rfl ?_
          refine zz_icmp_lt (tgt := 208) d_ST_makeEdge_188 (by decide) (by omega) (by omega) (fun c61 => absurd c61 (by omega)) (fun c61 => ?_)
          refine ab_aload_n d_ST_makeEdge_191 rfl ?_
          refine ab_getf (fs := [vz mst, vR q, vz vr, vz ro, vR cu, vz cn, vR eg, vR po, vR bg, vR bd, vz ct, vR sd, vz sc25, vR se_, vz (sta + 1), vR stk, vz ar27, vj st26]) f_ST_19 d_ST_makeEdge_192 ha.2.2 rfl ?_
          refine ab_iload_n d_ST_makeEdge_195 rfl ?_
          refine ab_aload_n d_ST_makeEdge_196 rfl ?_
          refine ab_getf (fs := [vz mst, vR q, vz vr, vz ro, vR cu, vz cn, vR eg, vR po, vR bg, vR bd, vz ct, vR sd, vz sc25, vR se_, vz (sta + 1), vR stk, vz ar27, vj st26]) f_ST_63 d_ST_makeEdge_197 ha.2.2 rfl ?_
          refine zz_iconst d_ST_makeEdge_200 ?_
          refine zz_iadd d_ST_makeEdge_201 ?_
          refine zz_imul d_ST_makeEdge_202 ?_
          obtain ⟨v62, hv62⟩ : ∃ z : Int, z = s_ * (cn + 5) := ⟨_, rfl⟩
          rw [← hv62]
          have hv62b := z_mulb (a := s_) (b := (cn + 5)) (A := 64) (B := 125) (by omega) (by omega)
          rw [← hv62] at hv62b
          change ab_W _ _ _ G4 203 [some (vR a), some (vz s_), some (vz sg), some (vz ct), some (vz s_), some (vz ((2 * (s_ + 1)) + 0))] [vz v62, vR eg] _
          have hm3 : (s_ + 1) * (cn + 5) ≤ 64 * 125 := Int.mul_le_mul (by omega) (by omega) (by omega) (by omega)
          have hm4 : (s_ + 1) * (cn + 5) = s_ * (cn + 5) + (cn + 5) := by rw [Int.add_mul, Int.one_mul]
          refine ab_iload_n d_ST_makeEdge_203 rfl ?_
          refine zz_iadd d_ST_makeEdge_204 ?_
          refine ab_iload d_ST_makeEdge_205 rfl ?_
          refine zz_iast d_ST_makeEdge_207 heg (by omega) (heg.2.1 (by decide)) ?_
          obtain ⟨G63, eG63⟩ : ∃ z : ab_G, z = List.set G4 eg (za 8000 (zu EG (v62 + sg) ((2 * (s_ + 1)) + 0))) := ⟨_, rfl⟩
          have ha := ha.keep heg eG63 (by decide)
          have hcu := hcu.keep heg eG63 (by decide)
          have hsd := hsd.keep heg eG63 (by decide)
          have hse_ := hse_.keep heg eG63 (by decide)
          have hstk := hstk.keep heg eG63 (by decide)
          have hpo := hpo.keep heg eG63 (by decide)
          have hbg := hbg.keep heg eG63 (by decide)
          have hbd := hbd.keep heg eG63 (by decide)
          have hq := hq.keep heg eG63 (by omega)
          have hki := hki.keep heg eG63 (by omega)
          have hne := hne.keep heg eG63 (by omega)
          have hot := hot.keep heg eG63 (by omega)
          have hra := hra.keep heg eG63 (by omega)
          have hlen := (z_len eG63).trans hlen
          have hsl := (z_sl heg eG63 rfl).trans hsl
          have hfr := hfr.wr heg eG63 (by decide)
          have heg := heg.kept eG63
          change ab_W _ _ _ (List.set G4 eg (za 8000 (zu EG (v62 + sg) ((2 * (s_ + 1)) + 0)))) 208 [some (vR a), some (vz s_), some (vz sg), some (vz ct), some (vz s_), some (vz ((2 * (s_ + 1)) + 0))] [] _
          rw [← eG63]
          refine ab_iload d_ST_makeEdge_208 rfl ?_
          refine zz_iret rfl d_ST_makeEdge_210 ?_
          rw [hQ]; exact ⟨_, _, _, _, _, _, _, _, _, _, _, _, _, rfl, hfr, hlen, hsl, ha, heg, hpo, hbg, hbd, hsd, hse_, hstk, (by omega), (by exact jbg), (by exact jpo), (by exact ego_set (s0 := s_) (t0 := sg) jeg (by rw [hv62]) (by omega)), (by exact jbd), (by omega), (by rfl), (by exact hq13), (by exact hev_), (by exact edO_set jed (by rw [hv62]) (by omega) (edR_v hev_ (fun h => by omega) ⟨rfl, fun _ => Iff.rfl⟩)), (by have b1 := scw_b SE (sta + 1); have b2 := scw_b SE29 (sta + 1); omega)⟩
        · refine zz_iconst d_ST_makeEdge_175 ?_
          refine ab_goto (tgt := 180) d_ST_makeEdge_176 (by decide) ?_
          refine zz_iadd d_ST_makeEdge_180 ?_
          refine ab_istore d_ST_makeEdge_181 (Nat.le_of_ble_eq_true rfl) (Nat.le_of_ble_eq_true rfl) rfl ?_
          change ab_W _ _ _ G4 183 [some (vR a), some (vz s_), some (vz sg), some (vz ct), some (vz s_), some (vz ((2 * (s_ + 1)) + 1))] [] _
          have hev_ : edV KT NT OT RT fi la ro CU (kpS PO BG s_) (BD s_) sg ((2 * (s_ + 1)) + 1) PO BG BD ct := edV_mk hmk_ (t := s_) (by omega) (by omega) (by omega) (fun h => absurd (show sg = 0 by omega) h)
          refine ab_aload_n d_ST_makeEdge_183 rfl ?_
          refine ab_getf (fs := [vz mst, vR q, vz vr, vz ro, vR cu, vz cn, vR eg, vR po, vR bg, vR bd, vz ct, vR sd, vz sc25, vR se_, vz (sta + 1), vR stk, vz ar27, vj st26]) f_ST_40 d_ST_makeEdge_184 ha.2.2 rfl ?_
          refine ab_iload_n d_ST_makeEdge_187 rfl ?_
          refine zz_icmp_lt (tgt := 208) d_ST_makeEdge_188 (by decide) (by omega) (by omega) (fun c64 => absurd c64 (by omega)) (fun c64 => ?_)
          refine ab_aload_n d_ST_makeEdge_191 rfl ?_
          refine ab_getf (fs := [vz mst, vR q, vz vr, vz ro, vR cu, vz cn, vR eg, vR po, vR bg, vR bd, vz ct, vR sd, vz sc25, vR se_, vz (sta + 1), vR stk, vz ar27, vj st26]) f_ST_19 d_ST_makeEdge_192 ha.2.2 rfl ?_
          refine ab_iload_n d_ST_makeEdge_195 rfl ?_
          refine ab_aload_n d_ST_makeEdge_196 rfl ?_
          refine ab_getf (fs := [vz mst, vR q, vz vr, vz ro, vR cu, vz cn, vR eg, vR po, vR bg, vR bd, vz ct, vR sd, vz sc25, vR se_, vz (sta + 1), vR stk, vz ar27, vj st26]) f_ST_63 d_ST_makeEdge_197 ha.2.2 rfl ?_
          refine zz_iconst d_ST_makeEdge_200 ?_
          refine zz_iadd d_ST_makeEdge_201 ?_
          refine zz_imul d_ST_makeEdge_202 ?_
          obtain ⟨v65, hv65⟩ : ∃ z : Int, z = s_ * (cn + 5) := ⟨_, rfl⟩
          rw [← hv65]
          have hv65b := z_mulb (a := s_) (b := (cn + 5)) (A := 64) (B := 125) (by omega) (by omega)
          rw [← hv65] at hv65b
          change ab_W _ _ _ G4 203 [some (vR a), some (vz s_), some (vz sg), some (vz ct), some (vz s_), some (vz ((2 * (s_ + 1)) + 1))] [vz v65, vR eg] _
          have hm3 : (s_ + 1) * (cn + 5) ≤ 64 * 125 := Int.mul_le_mul (by omega) (by omega) (by omega) (by omega)
          have hm4 : (s_ + 1) * (cn + 5) = s_ * (cn + 5) + (cn + 5) := by rw [Int.add_mul, Int.one_mul]
          refine ab_iload_n d_ST_makeEdge_203 rfl ?_
          refine zz_iadd d_ST_makeEdge_204 ?_
          refine ab_iload d_ST_makeEdge_205 rfl ?_
          refine zz_iast d_ST_makeEdge_207 heg (by omega) (heg.2.1 (by decide)) ?_
          obtain ⟨G66, eG66⟩ : ∃ z : ab_G, z = List.set G4 eg (za 8000 (zu EG (v65 + sg) ((2 * (s_ + 1)) + 1))) := ⟨_, rfl⟩
          have ha := ha.keep heg eG66 (by decide)
          have hcu := hcu.keep heg eG66 (by decide)
          have hsd := hsd.keep heg eG66 (by decide)
          have hse_ := hse_.keep heg eG66 (by decide)
          have hstk := hstk.keep heg eG66 (by decide)
          have hpo := hpo.keep heg eG66 (by decide)
          have hbg := hbg.keep heg eG66 (by decide)
          have hbd := hbd.keep heg eG66 (by decide)
          have hq := hq.keep heg eG66 (by omega)
          have hki := hki.keep heg eG66 (by omega)
          have hne := hne.keep heg eG66 (by omega)
          have hot := hot.keep heg eG66 (by omega)
          have hra := hra.keep heg eG66 (by omega)
          have hlen := (z_len eG66).trans hlen
          have hsl := (z_sl heg eG66 rfl).trans hsl
          have hfr := hfr.wr heg eG66 (by decide)
          have heg := heg.kept eG66
          change ab_W _ _ _ (List.set G4 eg (za 8000 (zu EG (v65 + sg) ((2 * (s_ + 1)) + 1)))) 208 [some (vR a), some (vz s_), some (vz sg), some (vz ct), some (vz s_), some (vz ((2 * (s_ + 1)) + 1))] [] _
          rw [← eG66]
          refine ab_iload d_ST_makeEdge_208 rfl ?_
          refine zz_iret rfl d_ST_makeEdge_210 ?_
          rw [hQ]; exact ⟨_, _, _, _, _, _, _, _, _, _, _, _, _, rfl, hfr, hlen, hsl, ha, heg, hpo, hbg, hbd, hsd, hse_, hstk, (by omega), (by exact jbg), (by exact jpo), (by exact ego_set (s0 := s_) (t0 := sg) jeg (by rw [hv65]) (by omega)), (by exact jbd), (by omega), (by rfl), (by exact hq13), (by exact hev_), (by exact edO_set jed (by rw [hv65]) (by omega) (edR_v hev_ (fun h => by omega) ⟨rfl, fun _ => Iff.rfl⟩)), (by have b1 := scw_b SE (sta + 1); have b2 := scw_b SE29 (sta + 1); omega)⟩
    · refine ab_aload_n d_ST_makeEdge_120 rfl ?_
      refine ab_aload_n d_ST_makeEdge_121 rfl ?_
      refine ab_getf (fs := [vz mst, vR q, vz vr, vz ro, vR cu, vz cn, vR eg, vR po, vR bg, vR bd, vz ct, vR sd, vz sc25, vR se_, vz (sta + 1), vR stk, vz ar27, vj st26]) f_ST_74 d_ST_makeEdge_122 ha.2.2 rfl ?_
      refine ab_getf (fs := [vR ki, vR ne, vR ot, vz cnt, vz fi, vz la, vR ra, vz ru, vz gr, vz wi, vz sz, vz fl, vz ve, vz mi, vR na, vR nl]) f_ST_129 d_ST_makeEdge_125 hq.2.2 rfl ?_
      refine ab_aload_n d_ST_makeEdge_128 rfl ?_
      refine ab_getf (fs := [vz mst, vR q, vz vr, vz ro, vR cu, vz cn, vR eg, vR po, vR bg, vR bd, vz ct, vR sd, vz sc25, vR se_, vz (sta + 1), vR stk, vz ar27, vj st26]) f_ST_28 d_ST_makeEdge_129 ha.2.2 rfl ?_
      refine ab_iload_n d_ST_makeEdge_132 rfl ?_
      refine zz_iald d_ST_makeEdge_133 hbd (by omega) ?_
      have hq67 := jbd s_ (by omega) (by omega)
      refine ab_iload_n d_ST_makeEdge_134 rfl ?_
      refine ab_callV (d' := d - 1) (as := [vz fi, vz (BD s_), vz sg]) (st := []) (r := _) (z_ST_follow (o := o) (a := a) (cu := cu) (eg := eg) (po := po) (bg := bg) (bd := bd) (sd := sd) (se_ := se_) (stk := stk) (mst := mst) (vr := vr) (ro := ro) (cn := cn) (ct := ct) (sc := sc25) (sta := (sta + 1)) (arv := ar27) (stp := st26) (CU := CU) (SD := SD28) (SE := SE29) (SK := SK210) (q := q) (lq := lq) (ki := ki) (ne := ne) (ot := ot) (cnt := cnt) (fi := fi) (la := la) (ra := ra) (ru := ru) (gr := gr) (wi := wi) (sz := sz) (fl := fl) (ve := ve) (mi := mi) (na := na) (nl := nl) (K := K) (N := N) (O := O) (RR := RR) (nr := nr) (KT := KT) (NT := NT) (OT := OT) (RT := RT) (sg := sg) (ah := (BD s_)) (b_ := fi) (Pr := (mPr PO (BG s_) (BG (s_ + 1)))) (Z0 := (mZ0 NT sg PO (BG s_) (BG (s_ + 1)))) ha hcu hsd hse_ hstk hq hki hne hot hra (by omega) jcu (by omega) (by omega) hp hr (by omega) hT hpu (by omega) (by omega) (by omega) (by omega) hq12 (by omega) hq13 hq14 hq15 (by omega)) (fun oc G2 h => by rcases h with ⟨_, _, _, _, _, _, h, _⟩ <;> exact ⟨_, h⟩) (by omega) m_ST_follow ml_ST_151 im_ST_follow se_ST_follow c_ST ha.2.2 (Nat.le_of_ble_eq_true rfl) d_ST_makeEdge_135 rfl ?_
      intro v G68 hq
      rcases hq with ⟨sc269, st270, ar271, SD272, SE273, SK274, hv, hfk, hlk, hsk, hNa, hNsd, hNse_, hNstk, hq75, hq76, hq77, hq78, hq79, hq80⟩
      cases hv
      have hcu := hfk.get hcu (by decide)
      have hpo := hfk.get hpo (by decide)
      have hbg := hfk.get hbg (by decide)
      have hbd := hfk.get hbd (by decide)
      have hq := hfk.get hq (by simp only [List.mem_cons, List.not_mem_nil, or_false]; omega)
      have hki := hfk.get hki (by simp only [List.mem_cons, List.not_mem_nil, or_false]; omega)
      have hne := hfk.get hne (by simp only [List.mem_cons, List.not_mem_nil, or_false]; omega)
      have hot := hfk.get hot (by simp only [List.mem_cons, List.not_mem_nil, or_false]; omega)
      have hra := hfk.get hra (by simp only [List.mem_cons, List.not_mem_nil, or_false]; omega)
      have heg := hfk.get heg (by decide)
      have hfr := hfr.tr hfk (by decide)
      have hlen := hlk.trans hlen
      have hsl := hsk.trans hsl
      have ha := hNa
      have hsd := hNsd
      have hse_ := hNse_
      have hstk := hNstk
      change ab_W _ _ _ G68 138 [some (vR a), some (vz s_), some (vz sg), none, none, none] [] _
      have hmk_ : mkX KT NT OT RT CU fi ro sg (BD s_) (kpS PO BG s_) SD272 sc269 ar271 := mkX_1 hq79 rfl (by omega)
      refine ab_aload_n d_ST_makeEdge_138 rfl ?_
      refine ab_getf (fs := [vz mst, vR q, vz vr, vz ro, vR cu, vz cn, vR eg, vR po, vR bg, vR bd, vz ct, vR sd, vz sc269, vR se_, vz (sta + 1), vR stk, vz ar271, vj st270]) f_ST_40 d_ST_makeEdge_139 ha.2.2 rfl ?_
      refine ab_istore_n d_ST_makeEdge_142 (Nat.le_of_ble_eq_true rfl) (Nat.le_of_ble_eq_true rfl) rfl ?_
      change ab_W _ _ _ G68 143 [some (vR a), some (vz s_), some (vz sg), some (vz ct), none, none] [] _
      refine ab_iload_n d_ST_makeEdge_143 rfl ?_
      refine zz_if_ne (tgt := 151) d_ST_makeEdge_144 (by decide) (by omega) (fun c81 => ?_) (fun c81 => ?_)
      · refine ab_aload_n d_ST_makeEdge_151 rfl ?_
        refine ab_aload_n d_ST_makeEdge_152 rfl ?_
        refine ab_iload_n d_ST_makeEdge_153 rfl ?_
        refine ab_callV (d' := d - 1) (as := [vz sg]) (st := [vR a]) (r := _) (z_ST_aheadOf (o := o) (a := a) (cu := cu) (eg := eg) (po := po) (bg := bg) (bd := bd) (sd := sd) (se_ := se_) (stk := stk) (mst := mst) (vr := vr) (ro := ro) (cn := cn) (ct := ct) (sc := sc269) (sta := (sta + 1)) (arv := ar271) (stp := st270) (CU := CU) (q := q) (lq := lq) (ki := ki) (ne := ne) (ot := ot) (cnt := cnt) (fi := fi) (la := la) (ra := ra) (ru := ru) (gr := gr) (wi := wi) (sz := sz) (fl := fl) (ve := ve) (mi := mi) (na := na) (nl := nl) (sg := sg) ha hcu hq (by omega) jcu (by omega) (by omega) (by omega)) (fun oc G2 h => by rcases h with ⟨_, h, _⟩ <;> exact ⟨_, h⟩) (by omega) m_ST_aheadOf ml_ST_158 im_ST_aheadOf se_ST_aheadOf c_ST ha.2.2 (Nat.le_of_ble_eq_true rfl) d_ST_makeEdge_154 rfl ?_
        intro v G82 hq
        rcases hq with ⟨v83, hv, hGe, hq84, hq85⟩
        cases hv
        rw [hGe]
        change ab_W _ _ _ G68 157 [some (vR a), some (vz s_), some (vz sg), some (vz ct), none, none] [vz v83, vR a] _
        refine ab_callV (d' := d - 1) (as := [vz v83]) (st := []) (r := _) (z_ST_keptState (o := o) (a := a) (cu := cu) (eg := eg) (po := po) (bg := bg) (bd := bd) (sd := sd) (se_ := se_) (stk := stk) (mst := mst) (q0 := vR q) (vr := vr) (ro := ro) (cn := cn) (ct := ct) (sc := sc269) (sta := (sta + 1)) (arv := ar271) (stp := st270) (EG := EG) (PO := PO) (BG := BG) (BD := BD) (SD := SD272) (ah := v83) ha heg hpo hbg hbd hsd (by omega) (by omega) (by omega) jbg jpo hq76 (by omega) jbd jeg (by omega)) (fun oc G2 h => by rcases h with ⟨_, _, _, _, _, _, h, _⟩ | ⟨_, _, _, _, _, _, h, _⟩ <;> exact ⟨_, h⟩) (by omega) m_ST_keptState ml_ST_145 im_ST_keptState se_ST_keptState c_ST ha.2.2 (Nat.le_of_ble_eq_true rfl) d_ST_makeEdge_157 rfl ?_
        intro v G86 hq
        rcases hq with ⟨v87, ct288, EG289, PO290, BG291, BD292, hv, hfk, hlk, hsk, hNa, hNeg, hNpo, hNbg, hNbd, hq93, hq94, hq95, hq96, hq97, hq98, hq99⟩ | ⟨v100, ct2101, EG2102, PO2103, BG2104, BD2105, hv, hfk, hlk, hsk, hNa, hNeg, hNpo, hNbg, hNbd, hq106, hq107, hq108, hq109, hq110, hq111, hq112⟩
        · cases hv
          have hcu := hfk.get hcu (by decide)
          have hsd := hfk.get hsd (by decide)
          have hse_ := hfk.get hse_ (by decide)
          have hstk := hfk.get hstk (by decide)
          have hq := hfk.get hq (by simp only [List.mem_cons, List.not_mem_nil, or_false]; omega)
          have hki := hfk.get hki (by simp only [List.mem_cons, List.not_mem_nil, or_false]; omega)
          have hne := hfk.get hne (by simp only [List.mem_cons, List.not_mem_nil, or_false]; omega)
          have hot := hfk.get hot (by simp only [List.mem_cons, List.not_mem_nil, or_false]; omega)
          have hra := hfk.get hra (by simp only [List.mem_cons, List.not_mem_nil, or_false]; omega)
          have hfr := hfr.tr hfk (by decide)
          have hlen := hlk.trans hlen
          have hsl := hsk.trans hsl
          have ha := hNa
          have heg := hNeg
          have hpo := hNpo
          have hbg := hNbg
          have hbd := hNbd
          change ab_W _ _ _ G86 160 [some (vR a), some (vz s_), some (vz sg), some (vz ct), none, none] [vz v87] _
          refine ab_istore d_ST_makeEdge_160 (Nat.le_of_ble_eq_true rfl) (Nat.le_of_ble_eq_true rfl) rfl ?_
          change ab_W _ _ _ G86 162 [some (vR a), some (vz s_), some (vz sg), some (vz ct), some (vz v87), none] [] _
          refine zz_iconst d_ST_makeEdge_162 ?_
          refine ab_iload d_ST_makeEdge_163 rfl ?_
          refine zz_iconst d_ST_makeEdge_165 ?_
          refine zz_iadd d_ST_makeEdge_166 ?_
          refine zz_imul d_ST_makeEdge_167 ?_
          refine ab_aload_n d_ST_makeEdge_168 rfl ?_
          refine ab_getf (fs := [vz mst, vR q, vz vr, vz ro, vR cu, vz cn, vR eg, vR po, vR bg, vR bd, vz ct288, vR sd, vz sc269, vR se_, vz (sta + 1), vR stk, vz ar271, vj st270]) f_ST_148 d_ST_makeEdge_169 ha.2.2 rfl ?_
          refine zz_if_eq (tgt := 179) d_ST_makeEdge_172 (by decide) (by omega) (fun c113 => ?_) (fun c113 => ?_)
          · refine zz_iconst d_ST_makeEdge_179 ?_
            refine zz_iadd d_ST_makeEdge_180 ?_
            refine ab_istore d_ST_makeEdge_181 (Nat.le_of_ble_eq_true rfl) (Nat.le_of_ble_eq_true rfl) rfl ?_
            change ab_W _ _ _ G86 183 [some (vR a), some (vz s_), some (vz sg), some (vz ct), some (vz v87), some (vz ((2 * (v87 + 1)) + 0))] [] _
            have hev_ : edV KT NT OT RT fi la ro CU (kpS PO BG s_) (BD s_) sg ((2 * (v87 + 1)) + 0) PO290 BG291 BD292 ct288 := edV_mk hmk_ (t := v87) (by omega) (by omega) (by omega) (fun _ => ⟨hq98.2.2.2, by rw [hq98.2.2.1]; exact hq85⟩)
            refine ab_aload_n d_ST_makeEdge_183 rfl ?_
            refine ab_getf (fs := [vz mst, vR q, vz vr, vz ro, vR cu, vz cn, vR eg, vR po, vR bg, vR bd, vz ct288, vR sd, vz sc269, vR se_, vz (sta + 1), vR stk, vz ar271, vj st270]) f_ST_40 d_ST_makeEdge_184 ha.2.2 rfl ?_
            refine ab_iload_n d_ST_makeEdge_187 rfl ?_
            refine zz_icmp_lt (tgt := 208) d_ST_makeEdge_188 (by decide) (by omega) (by omega) (fun c114 => absurd c114 (by omega)) (fun c114 => ?_)
            refine ab_aload_n d_ST_makeEdge_191 rfl ?_
            refine ab_getf (fs := [vz mst, vR q, vz vr, vz ro, vR cu, vz cn, vR eg, vR po, vR bg, vR bd, vz ct288, vR sd, vz sc269, vR se_, vz (sta + 1), vR stk, vz ar271, vj st270]) f_ST_19 d_ST_makeEdge_192 ha.2.2 rfl ?_
            refine ab_iload_n d_ST_makeEdge_195 rfl ?_
            refine ab_aload_n d_ST_makeEdge_196 rfl ?_
            refine ab_getf (fs := [vz mst, vR q, vz vr, vz ro, vR cu, vz cn, vR eg, vR po, vR bg, vR bd, vz ct288, vR sd, vz sc269, vR se_, vz (sta + 1), vR stk, vz ar271, vj st270]) f_ST_63 d_ST_makeEdge_197 ha.2.2 rfl ?_
            refine zz_iconst d_ST_makeEdge_200 ?_
            refine zz_iadd d_ST_makeEdge_201 ?_
            refine zz_imul d_ST_makeEdge_202 ?_
            obtain ⟨v115, hv115⟩ : ∃ z : Int, z = s_ * (cn + 5) := ⟨_, rfl⟩
            rw [← hv115]
            have hv115b := z_mulb (a := s_) (b := (cn + 5)) (A := 64) (B := 125) (by omega) (by omega)
            rw [← hv115] at hv115b
            change ab_W _ _ _ G86 203 [some (vR a), some (vz s_), some (vz sg), some (vz ct), some (vz v87), some (vz ((2 * (v87 + 1)) + 0))] [vz v115, vR eg] _
            have hm3 : (s_ + 1) * (cn + 5) ≤ 64 * 125 := Int.mul_le_mul (by omega) (by omega) (by omega) (by omega)
            have hm4 : (s_ + 1) * (cn + 5) = s_ * (cn + 5) + (cn + 5) := by rw [Int.add_mul, Int.one_mul]
            refine ab_iload_n d_ST_makeEdge_203 rfl ?_
            refine zz_iadd d_ST_makeEdge_204 ?_
            refine ab_iload d_ST_makeEdge_205 rfl ?_
            refine zz_iast d_ST_makeEdge_207 heg (by omega) (heg.2.1 (by decide)) ?_
            obtain ⟨G116, eG116⟩ : ∃ z : ab_G, z = List.set G86 eg (za 8000 (zu EG289 (v115 + sg) ((2 * (v87 + 1)) + 0))) := ⟨_, rfl⟩
            have ha := ha.keep heg eG116 (by decide)
            have hcu := hcu.keep heg eG116 (by decide)
            have hsd := hsd.keep heg eG116 (by decide)
            have hse_ := hse_.keep heg eG116 (by decide)
            have hstk := hstk.keep heg eG116 (by decide)
            have hpo := hpo.keep heg eG116 (by decide)
            have hbg := hbg.keep heg eG116 (by decide)
            have hbd := hbd.keep heg eG116 (by decide)
            have hq := hq.keep heg eG116 (by omega)
            have hki := hki.keep heg eG116 (by omega)
            have hne := hne.keep heg eG116 (by omega)
            have hot := hot.keep heg eG116 (by omega)
            have hra := hra.keep heg eG116 (by omega)
            have hlen := (z_len eG116).trans hlen
            have hsl := (z_sl heg eG116 rfl).trans hsl
            have hfr := hfr.wr heg eG116 (by decide)
            have heg := heg.kept eG116
            change ab_W _ _ _ (List.set G86 eg (za 8000 (zu EG289 (v115 + sg) ((2 * (v87 + 1)) + 0)))) 208 [some (vR a), some (vz s_), some (vz sg), some (vz ct), some (vz v87), some (vz ((2 * (v87 + 1)) + 0))] [] _
            rw [← eG116]
            refine ab_iload d_ST_makeEdge_208 rfl ?_
            refine zz_iret rfl d_ST_makeEdge_210 ?_
            rw [hQ]; exact ⟨_, _, _, _, _, _, _, _, _, _, _, _, _, rfl, hfr, hlen, hsl, ha, heg, hpo, hbg, hbd, hsd, hse_, hstk, (by omega), (by exact hq94), (by exact hq95), (by exact ego_set (s0 := s_) (t0 := sg) hq96 (by rw [hv115]) (by omega)), (by exact hq97), (by omega), (by rfl), (by exact hq77), (by exact hev_), (by exact edO_set (edO_ks jed hq98) (by rw [hv115]) (by omega) (edR_v hev_ (fun h => absurd h (by omega)) (hq98.2.1 (by omega) s_ (by omega) (by omega)))), (by have b1 := scw_b SE (sta + 1); have b2 := scw_b SE273 (sta + 1); omega)⟩
          · refine zz_iconst d_ST_makeEdge_175 ?_
            refine ab_goto (tgt := 180) d_ST_makeEdge_176 (by decide) ?_
            refine zz_iadd d_ST_makeEdge_180 ?_
            refine ab_istore d_ST_makeEdge_181 (Nat.le_of_ble_eq_true rfl) (Nat.le_of_ble_eq_true rfl) rfl ?_
            change ab_W _ _ _ G86 183 [some (vR a), some (vz s_), some (vz sg), some (vz ct), some (vz v87), some (vz ((2 * (v87 + 1)) + 1))] [] _
            have hev_ : edV KT NT OT RT fi la ro CU (kpS PO BG s_) (BD s_) sg ((2 * (v87 + 1)) + 1) PO290 BG291 BD292 ct288 := edV_mk hmk_ (t := v87) (by omega) (by omega) (by omega) (fun _ => ⟨hq98.2.2.2, by rw [hq98.2.2.1]; exact hq85⟩)
            refine ab_aload_n d_ST_makeEdge_183 rfl ?_
            refine ab_getf (fs := [vz mst, vR q, vz vr, vz ro, vR cu, vz cn, vR eg, vR po, vR bg, vR bd, vz ct288, vR sd, vz sc269, vR se_, vz (sta + 1), vR stk, vz ar271, vj st270]) f_ST_40 d_ST_makeEdge_184 ha.2.2 rfl ?_
            refine ab_iload_n d_ST_makeEdge_187 rfl ?_
            refine zz_icmp_lt (tgt := 208) d_ST_makeEdge_188 (by decide) (by omega) (by omega) (fun c117 => absurd c117 (by omega)) (fun c117 => ?_)
            refine ab_aload_n d_ST_makeEdge_191 rfl ?_
            refine ab_getf (fs := [vz mst, vR q, vz vr, vz ro, vR cu, vz cn, vR eg, vR po, vR bg, vR bd, vz ct288, vR sd, vz sc269, vR se_, vz (sta + 1), vR stk, vz ar271, vj st270]) f_ST_19 d_ST_makeEdge_192 ha.2.2 rfl ?_
            refine ab_iload_n d_ST_makeEdge_195 rfl ?_
            refine ab_aload_n d_ST_makeEdge_196 rfl ?_
            refine ab_getf (fs := [vz mst, vR q, vz vr, vz ro, vR cu, vz cn, vR eg, vR po, vR bg, vR bd, vz ct288, vR sd, vz sc269, vR se_, vz (sta + 1), vR stk, vz ar271, vj st270]) f_ST_63 d_ST_makeEdge_197 ha.2.2 rfl ?_
            refine zz_iconst d_ST_makeEdge_200 ?_
            refine zz_iadd d_ST_makeEdge_201 ?_
            refine zz_imul d_ST_makeEdge_202 ?_
            obtain ⟨v118, hv118⟩ : ∃ z : Int, z = s_ * (cn + 5) := ⟨_, rfl⟩
            rw [← hv118]
            have hv118b := z_mulb (a := s_) (b := (cn + 5)) (A := 64) (B := 125) (by omega) (by omega)
            rw [← hv118] at hv118b
            change ab_W _ _ _ G86 203 [some (vR a), some (vz s_), some (vz sg), some (vz ct), some (vz v87), some (vz ((2 * (v87 + 1)) + 1))] [vz v118, vR eg] _
            have hm3 : (s_ + 1) * (cn + 5) ≤ 64 * 125 := Int.mul_le_mul (by omega) (by omega) (by omega) (by omega)
            have hm4 : (s_ + 1) * (cn + 5) = s_ * (cn + 5) + (cn + 5) := by rw [Int.add_mul, Int.one_mul]
            refine ab_iload_n d_ST_makeEdge_203 rfl ?_
            refine zz_iadd d_ST_makeEdge_204 ?_
            refine ab_iload d_ST_makeEdge_205 rfl ?_
            refine zz_iast d_ST_makeEdge_207 heg (by omega) (heg.2.1 (by decide)) ?_
            obtain ⟨G119, eG119⟩ : ∃ z : ab_G, z = List.set G86 eg (za 8000 (zu EG289 (v118 + sg) ((2 * (v87 + 1)) + 1))) := ⟨_, rfl⟩
            have ha := ha.keep heg eG119 (by decide)
            have hcu := hcu.keep heg eG119 (by decide)
            have hsd := hsd.keep heg eG119 (by decide)
            have hse_ := hse_.keep heg eG119 (by decide)
            have hstk := hstk.keep heg eG119 (by decide)
            have hpo := hpo.keep heg eG119 (by decide)
            have hbg := hbg.keep heg eG119 (by decide)
            have hbd := hbd.keep heg eG119 (by decide)
            have hq := hq.keep heg eG119 (by omega)
            have hki := hki.keep heg eG119 (by omega)
            have hne := hne.keep heg eG119 (by omega)
            have hot := hot.keep heg eG119 (by omega)
            have hra := hra.keep heg eG119 (by omega)
            have hlen := (z_len eG119).trans hlen
            have hsl := (z_sl heg eG119 rfl).trans hsl
            have hfr := hfr.wr heg eG119 (by decide)
            have heg := heg.kept eG119
            change ab_W _ _ _ (List.set G86 eg (za 8000 (zu EG289 (v118 + sg) ((2 * (v87 + 1)) + 1)))) 208 [some (vR a), some (vz s_), some (vz sg), some (vz ct), some (vz v87), some (vz ((2 * (v87 + 1)) + 1))] [] _
            rw [← eG119]
            refine ab_iload d_ST_makeEdge_208 rfl ?_
            refine zz_iret rfl d_ST_makeEdge_210 ?_
            rw [hQ]; exact ⟨_, _, _, _, _, _, _, _, _, _, _, _, _, rfl, hfr, hlen, hsl, ha, heg, hpo, hbg, hbd, hsd, hse_, hstk, (by omega), (by exact hq94), (by exact hq95), (by exact ego_set (s0 := s_) (t0 := sg) hq96 (by rw [hv118]) (by omega)), (by exact hq97), (by omega), (by rfl), (by exact hq77), (by exact hev_), (by exact edO_set (edO_ks jed hq98) (by rw [hv118]) (by omega) (edR_v hev_ (fun h => absurd h (by omega)) (hq98.2.1 (by omega) s_ (by omega) (by omega)))), (by have b1 := scw_b SE (sta + 1); have b2 := scw_b SE273 (sta + 1); omega)⟩
        · cases hv
          have hcu := hfk.get hcu (by decide)
          have hsd := hfk.get hsd (by decide)
          have hse_ := hfk.get hse_ (by decide)
          have hstk := hfk.get hstk (by decide)
          have hq := hfk.get hq (by simp only [List.mem_cons, List.not_mem_nil, or_false]; omega)
          have hki := hfk.get hki (by simp only [List.mem_cons, List.not_mem_nil, or_false]; omega)
          have hne := hfk.get hne (by simp only [List.mem_cons, List.not_mem_nil, or_false]; omega)
          have hot := hfk.get hot (by simp only [List.mem_cons, List.not_mem_nil, or_false]; omega)
          have hra := hfk.get hra (by simp only [List.mem_cons, List.not_mem_nil, or_false]; omega)
          have hfr := hfr.tr hfk (by decide)
          have hlen := hlk.trans hlen
          have hsl := hsk.trans hsl
          have ha := hNa
          have heg := hNeg
          have hpo := hNpo
          have hbg := hNbg
          have hbd := hNbd
          change ab_W _ _ _ G86 160 [some (vR a), some (vz s_), some (vz sg), some (vz ct), none, none] [vz v100] _
          refine ab_istore d_ST_makeEdge_160 (Nat.le_of_ble_eq_true rfl) (Nat.le_of_ble_eq_true rfl) rfl ?_
          change ab_W _ _ _ G86 162 [some (vR a), some (vz s_), some (vz sg), some (vz ct), some (vz v100), none] [] _
          refine zz_iconst d_ST_makeEdge_162 ?_
          refine ab_iload d_ST_makeEdge_163 rfl ?_
          refine zz_iconst d_ST_makeEdge_165 ?_
          refine zz_iadd d_ST_makeEdge_166 ?_
          refine zz_imul d_ST_makeEdge_167 ?_
          refine ab_aload_n d_ST_makeEdge_168 rfl ?_
          refine ab_getf (fs := [vz mst, vR q, vz vr, vz ro, vR cu, vz cn, vR eg, vR po, vR bg, vR bd, vz ct2101, vR sd, vz sc269, vR se_, vz (sta + 1), vR stk, vz ar271, vj st270]) f_ST_148 d_ST_makeEdge_169 ha.2.2 rfl ?_
          refine zz_if_eq (tgt := 179) d_ST_makeEdge_172 (by decide) (by omega) (fun c120 => ?_) (fun c120 => ?_)
          · refine zz_iconst d_ST_makeEdge_179 ?_
            refine zz_iadd d_ST_makeEdge_180 ?_
            refine ab_istore d_ST_makeEdge_181 (Nat.le_of_ble_eq_true rfl) (Nat.le_of_ble_eq_true rfl) rfl ?_
            change ab_W _ _ _ G86 183 [some (vR a), some (vz s_), some (vz sg), some (vz ct), some (vz v100), some (vz ((2 * (v100 + 1)) + 0))] [] _
            have hev_ : edV KT NT OT RT fi la ro CU (kpS PO BG s_) (BD s_) sg ((2 * (v100 + 1)) + 0) PO2103 BG2104 BD2105 ct2101 := edV_mk hmk_ (t := v100) (by omega) (by omega) (by omega) (fun _ => ⟨hq111.2.2.2, by rw [hq111.2.2.1]; exact hq85⟩)
            refine ab_aload_n d_ST_makeEdge_183 rfl ?_
            refine ab_getf (fs := [vz mst, vR q, vz vr, vz ro, vR cu, vz cn, vR eg, vR po, vR bg, vR bd, vz ct2101, vR sd, vz sc269, vR se_, vz (sta + 1), vR stk, vz ar271, vj st270]) f_ST_40 d_ST_makeEdge_184 ha.2.2 rfl ?_
            refine ab_iload_n d_ST_makeEdge_187 rfl ?_
            refine zz_icmp_lt (tgt := 208) d_ST_makeEdge_188 (by decide) (by omega) (by omega) (fun c121 => ?_) (fun c121 => absurd c121 (by omega))
            refine ab_iload d_ST_makeEdge_208 rfl ?_
            refine zz_iret rfl d_ST_makeEdge_210 ?_
            rw [hQ]; exact ⟨_, _, _, _, _, _, _, _, _, _, _, _, _, rfl, hfr, hlen, hsl, ha, heg, hpo, hbg, hbd, hsd, hse_, hstk, (by omega), (by exact hq107), (by exact hq108), (by exact hq109), (by exact hq110), (by omega), (by rfl), (by exact hq77), (by exact hev_), (by exact edO_ks jed hq111), (by have b1 := scw_b SE (sta + 1); have b2 := scw_b SE273 (sta + 1); omega)⟩
          · refine zz_iconst d_ST_makeEdge_175 ?_
            refine ab_goto (tgt := 180) d_ST_makeEdge_176 (by decide) ?_
            refine zz_iadd d_ST_makeEdge_180 ?_
            refine ab_istore d_ST_makeEdge_181 (Nat.le_of_ble_eq_true rfl) (Nat.le_of_ble_eq_true rfl) rfl ?_
            change ab_W _ _ _ G86 183 [some (vR a), some (vz s_), some (vz sg), some (vz ct), some (vz v100), some (vz ((2 * (v100 + 1)) + 1))] [] _
            have hev_ : edV KT NT OT RT fi la ro CU (kpS PO BG s_) (BD s_) sg ((2 * (v100 + 1)) + 1) PO2103 BG2104 BD2105 ct2101 := edV_mk hmk_ (t := v100) (by omega) (by omega) (by omega) (fun _ => ⟨hq111.2.2.2, by rw [hq111.2.2.1]; exact hq85⟩)
            refine ab_aload_n d_ST_makeEdge_183 rfl ?_
            refine ab_getf (fs := [vz mst, vR q, vz vr, vz ro, vR cu, vz cn, vR eg, vR po, vR bg, vR bd, vz ct2101, vR sd, vz sc269, vR se_, vz (sta + 1), vR stk, vz ar271, vj st270]) f_ST_40 d_ST_makeEdge_184 ha.2.2 rfl ?_
            refine ab_iload_n d_ST_makeEdge_187 rfl ?_
            refine zz_icmp_lt (tgt := 208) d_ST_makeEdge_188 (by decide) (by omega) (by omega) (fun c122 => ?_) (fun c122 => absurd c122 (by omega))
            refine ab_iload d_ST_makeEdge_208 rfl ?_
            refine zz_iret rfl d_ST_makeEdge_210 ?_
            rw [hQ]; exact ⟨_, _, _, _, _, _, _, _, _, _, _, _, _, rfl, hfr, hlen, hsl, ha, heg, hpo, hbg, hbd, hsd, hse_, hstk, (by omega), (by exact hq107), (by exact hq108), (by exact hq109), (by exact hq110), (by omega), (by rfl), (by exact hq77), (by exact hev_), (by exact edO_ks jed hq111), (by have b1 := scw_b SE (sta + 1); have b2 := scw_b SE273 (sta + 1); omega)⟩
      · refine ab_iload_n d_ST_makeEdge_147 rfl ?_
        refine ab_goto (tgt := 160) d_ST_makeEdge_148 (by decide) ?_
        refine ab_istore d_ST_makeEdge_160 (Nat.le_of_ble_eq_true rfl) (Nat.le_of_ble_eq_true rfl) rfl ?_
        change ab_W _ _ _ G68 162 [some (vR a), some (vz s_), some (vz sg), some (vz ct), some (vz s_), none] [] _
        refine zz_iconst d_ST_makeEdge_162 ?_
        refine ab_iload d_ST_makeEdge_163 rfl ?_
        refine zz_iconst d_ST_makeEdge_165 ?_
        refine zz_iadd d_ST_makeEdge_166 ?_
        refine zz_imul d_ST_makeEdge_167 ?_
        refine ab_aload_n d_ST_makeEdge_168 rfl ?_
        refine ab_getf (fs := [vz mst, vR q, vz vr, vz ro, vR cu, vz cn, vR eg, vR po, vR bg, vR bd, vz ct, vR sd, vz sc269, vR se_, vz (sta + 1), vR stk, vz ar271, vj st270]) f_ST_148 d_ST_makeEdge_169 ha.2.2 rfl ?_
        refine zz_if_eq (tgt := 179) d_ST_makeEdge_172 (by decide) (by omega) (fun c123 => ?_) (fun c123 => ?_)
        · refine zz_iconst d_ST_makeEdge_179 ?_
          refine zz_iadd d_ST_makeEdge_180 ?_
          refine ab_istore d_ST_makeEdge_181 (Nat.le_of_ble_eq_true rfl) (Nat.le_of_ble_eq_true rfl) rfl ?_
          change ab_W _ _ _ G68 183 [some (vR a), some (vz s_), some (vz sg), some (vz ct), some (vz s_), some (vz ((2 * (s_ + 1)) + 0))] [] _
          have hev_ : edV KT NT OT RT fi la ro CU (kpS PO BG s_) (BD s_) sg ((2 * (s_ + 1)) + 0) PO BG BD ct := edV_mk hmk_ (t := s_) (by omega) (by omega) (by omega) (fun h => absurd (show sg = 0 by omega) h)
          refine ab_aload_n d_ST_makeEdge_183 rfl ?_
          refine ab_getf (fs := [vz mst, vR q, vz vr, vz ro, vR cu, vz cn, vR eg, vR po, vR bg, vR bd, vz ct, vR sd, vz sc269, vR se_, vz (sta + 1), vR stk, vz ar271, vj st270]) f_ST_40 d_ST_makeEdge_184 ha.2.2 rfl ?_
          refine ab_iload_n d_ST_makeEdge_187 rfl ?_
          refine zz_icmp_lt (tgt := 208) d_ST_makeEdge_188 (by decide) (by omega) (by omega) (fun c124 => absurd c124 (by omega)) (fun c124 => ?_)
          refine ab_aload_n d_ST_makeEdge_191 rfl ?_
          refine ab_getf (fs := [vz mst, vR q, vz vr, vz ro, vR cu, vz cn, vR eg, vR po, vR bg, vR bd, vz ct, vR sd, vz sc269, vR se_, vz (sta + 1), vR stk, vz ar271, vj st270]) f_ST_19 d_ST_makeEdge_192 ha.2.2 rfl ?_
          refine ab_iload_n d_ST_makeEdge_195 rfl ?_
          refine ab_aload_n d_ST_makeEdge_196 rfl ?_
          refine ab_getf (fs := [vz mst, vR q, vz vr, vz ro, vR cu, vz cn, vR eg, vR po, vR bg, vR bd, vz ct, vR sd, vz sc269, vR se_, vz (sta + 1), vR stk, vz ar271, vj st270]) f_ST_63 d_ST_makeEdge_197 ha.2.2 rfl ?_
          refine zz_iconst d_ST_makeEdge_200 ?_
          refine zz_iadd d_ST_makeEdge_201 ?_
          refine zz_imul d_ST_makeEdge_202 ?_
          obtain ⟨v125, hv125⟩ : ∃ z : Int, z = s_ * (cn + 5) := ⟨_, rfl⟩
          rw [← hv125]
          have hv125b := z_mulb (a := s_) (b := (cn + 5)) (A := 64) (B := 125) (by omega) (by omega)
          rw [← hv125] at hv125b
          change ab_W _ _ _ G68 203 [some (vR a), some (vz s_), some (vz sg), some (vz ct), some (vz s_), some (vz ((2 * (s_ + 1)) + 0))] [vz v125, vR eg] _
          have hm3 : (s_ + 1) * (cn + 5) ≤ 64 * 125 := Int.mul_le_mul (by omega) (by omega) (by omega) (by omega)
          have hm4 : (s_ + 1) * (cn + 5) = s_ * (cn + 5) + (cn + 5) := by rw [Int.add_mul, Int.one_mul]
          refine ab_iload_n d_ST_makeEdge_203 rfl ?_
          refine zz_iadd d_ST_makeEdge_204 ?_
          refine ab_iload d_ST_makeEdge_205 rfl ?_
          refine zz_iast d_ST_makeEdge_207 heg (by omega) (heg.2.1 (by decide)) ?_
          obtain ⟨G126, eG126⟩ : ∃ z : ab_G, z = List.set G68 eg (za 8000 (zu EG (v125 + sg) ((2 * (s_ + 1)) + 0))) := ⟨_, rfl⟩
          have ha := ha.keep heg eG126 (by decide)
          have hcu := hcu.keep heg eG126 (by decide)
          have hsd := hsd.keep heg eG126 (by decide)
          have hse_ := hse_.keep heg eG126 (by decide)
          have hstk := hstk.keep heg eG126 (by decide)
          have hpo := hpo.keep heg eG126 (by decide)
          have hbg := hbg.keep heg eG126 (by decide)
          have hbd := hbd.keep heg eG126 (by decide)
          have hq := hq.keep heg eG126 (by omega)
          have hki := hki.keep heg eG126 (by omega)
          have hne := hne.keep heg eG126 (by omega)
          have hot := hot.keep heg eG126 (by omega)
          have hra := hra.keep heg eG126 (by omega)
          have hlen := (z_len eG126).trans hlen
          have hsl := (z_sl heg eG126 rfl).trans hsl
          have hfr := hfr.wr heg eG126 (by decide)
          have heg := heg.kept eG126
          change ab_W _ _ _ (List.set G68 eg (za 8000 (zu EG (v125 + sg) ((2 * (s_ + 1)) + 0)))) 208 [some (vR a), some (vz s_), some (vz sg), some (vz ct), some (vz s_), some (vz ((2 * (s_ + 1)) + 0))] [] _
          rw [← eG126]
          refine ab_iload d_ST_makeEdge_208 rfl ?_
          refine zz_iret rfl d_ST_makeEdge_210 ?_
          rw [hQ]; exact ⟨_, _, _, _, _, _, _, _, _, _, _, _, _, rfl, hfr, hlen, hsl, ha, heg, hpo, hbg, hbd, hsd, hse_, hstk, (by omega), (by exact jbg), (by exact jpo), (by exact ego_set (s0 := s_) (t0 := sg) jeg (by rw [hv125]) (by omega)), (by exact jbd), (by omega), (by rfl), (by exact hq77), (by exact hev_), (by exact edO_set jed (by rw [hv125]) (by omega) (edR_v hev_ (fun h => by omega) ⟨rfl, fun _ => Iff.rfl⟩)), (by have b1 := scw_b SE (sta + 1); have b2 := scw_b SE273 (sta + 1); omega)⟩
        · refine zz_iconst d_ST_makeEdge_175 ?_
          refine ab_goto (tgt := 180) d_ST_makeEdge_176 (by decide) ?_
          refine zz_iadd d_ST_makeEdge_180 ?_
          refine ab_istore d_ST_makeEdge_181 (Nat.le_of_ble_eq_true rfl) (Nat.le_of_ble_eq_true rfl) rfl ?_
          change ab_W _ _ _ G68 183 [some (vR a), some (vz s_), some (vz sg), some (vz ct), some (vz s_), some (vz ((2 * (s_ + 1)) + 1))] [] _
          have hev_ : edV KT NT OT RT fi la ro CU (kpS PO BG s_) (BD s_) sg ((2 * (s_ + 1)) + 1) PO BG BD ct := edV_mk hmk_ (t := s_) (by omega) (by omega) (by omega) (fun h => absurd (show sg = 0 by omega) h)
          refine ab_aload_n d_ST_makeEdge_183 rfl ?_
          refine ab_getf (fs := [vz mst, vR q, vz vr, vz ro, vR cu, vz cn, vR eg, vR po, vR bg, vR bd, vz ct, vR sd, vz sc269, vR se_, vz (sta + 1), vR stk, vz ar271, vj st270]) f_ST_40 d_ST_makeEdge_184 ha.2.2 rfl ?_
          refine ab_iload_n d_ST_makeEdge_187 rfl ?_
          refine zz_icmp_lt (tgt := 208) d_ST_makeEdge_188 (by decide) (by omega) (by omega) (fun c127 => absurd c127 (by omega)) (fun c127 => ?_)
          refine ab_aload_n d_ST_makeEdge_191 rfl ?_
          refine ab_getf (fs := [vz mst, vR q, vz vr, vz ro, vR cu, vz cn, vR eg, vR po, vR bg, vR bd, vz ct, vR sd, vz sc269, vR se_, vz (sta + 1), vR stk, vz ar271, vj st270]) f_ST_19 d_ST_makeEdge_192 ha.2.2 rfl ?_
          refine ab_iload_n d_ST_makeEdge_195 rfl ?_
          refine ab_aload_n d_ST_makeEdge_196 rfl ?_
          refine ab_getf (fs := [vz mst, vR q, vz vr, vz ro, vR cu, vz cn, vR eg, vR po, vR bg, vR bd, vz ct, vR sd, vz sc269, vR se_, vz (sta + 1), vR stk, vz ar271, vj st270]) f_ST_63 d_ST_makeEdge_197 ha.2.2 rfl ?_
          refine zz_iconst d_ST_makeEdge_200 ?_
          refine zz_iadd d_ST_makeEdge_201 ?_
          refine zz_imul d_ST_makeEdge_202 ?_
          obtain ⟨v128, hv128⟩ : ∃ z : Int, z = s_ * (cn + 5) := ⟨_, rfl⟩
          rw [← hv128]
          have hv128b := z_mulb (a := s_) (b := (cn + 5)) (A := 64) (B := 125) (by omega) (by omega)
          rw [← hv128] at hv128b
          change ab_W _ _ _ G68 203 [some (vR a), some (vz s_), some (vz sg), some (vz ct), some (vz s_), some (vz ((2 * (s_ + 1)) + 1))] [vz v128, vR eg] _
          have hm3 : (s_ + 1) * (cn + 5) ≤ 64 * 125 := Int.mul_le_mul (by omega) (by omega) (by omega) (by omega)
          have hm4 : (s_ + 1) * (cn + 5) = s_ * (cn + 5) + (cn + 5) := by rw [Int.add_mul, Int.one_mul]
          refine ab_iload_n d_ST_makeEdge_203 rfl ?_
          refine zz_iadd d_ST_makeEdge_204 ?_
          refine ab_iload d_ST_makeEdge_205 rfl ?_
          refine zz_iast d_ST_makeEdge_207 heg (by omega) (heg.2.1 (by decide)) ?_
          obtain ⟨G129, eG129⟩ : ∃ z : ab_G, z = List.set G68 eg (za 8000 (zu EG (v128 + sg) ((2 * (s_ + 1)) + 1))) := ⟨_, rfl⟩
          have ha := ha.keep heg eG129 (by decide)
          have hcu := hcu.keep heg eG129 (by decide)
          have hsd := hsd.keep heg eG129 (by decide)
          have hse_ := hse_.keep heg eG129 (by decide)
          have hstk := hstk.keep heg eG129 (by decide)
          have hpo := hpo.keep heg eG129 (by decide)
          have hbg := hbg.keep heg eG129 (by decide)
          have hbd := hbd.keep heg eG129 (by decide)
          have hq := hq.keep heg eG129 (by omega)
          have hki := hki.keep heg eG129 (by omega)
          have hne := hne.keep heg eG129 (by omega)
          have hot := hot.keep heg eG129 (by omega)
          have hra := hra.keep heg eG129 (by omega)
          have hlen := (z_len eG129).trans hlen
          have hsl := (z_sl heg eG129 rfl).trans hsl
          have hfr := hfr.wr heg eG129 (by decide)
          have heg := heg.kept eG129
          change ab_W _ _ _ (List.set G68 eg (za 8000 (zu EG (v128 + sg) ((2 * (s_ + 1)) + 1)))) 208 [some (vR a), some (vz s_), some (vz sg), some (vz ct), some (vz s_), some (vz ((2 * (s_ + 1)) + 1))] [] _
          rw [← eG129]
          refine ab_iload d_ST_makeEdge_208 rfl ?_
          refine zz_iret rfl d_ST_makeEdge_210 ?_
          rw [hQ]; exact ⟨_, _, _, _, _, _, _, _, _, _, _, _, _, rfl, hfr, hlen, hsl, ha, heg, hpo, hbg, hbd, hsd, hse_, hstk, (by omega), (by exact jbg), (by exact jpo), (by exact ego_set (s0 := s_) (t0 := sg) jeg (by rw [hv128]) (by omega)), (by exact jbd), (by omega), (by rfl), (by exact hq77), (by exact hev_), (by exact edO_set jed (by rw [hv128]) (by omega) (edR_v hev_ (fun h => by omega) ⟨rfl, fun _ => Iff.rfl⟩)), (by have b1 := scw_b SE (sta + 1); have b2 := scw_b SE273 (sta + 1); omega)⟩
