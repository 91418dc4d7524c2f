set_option maxRecDepth 100000 in
set_option maxHeartbeats 4000000 in
theorem z_ST_holdAtMost {X : ab_X} {d : Nat} {o : Nat → Nat} {G : ab_G} {a : Nat} {cu : Nat} {eg : Nat} {po : Nat} {bg : Nat} {bd : Nat} {sd : Nat} {se_ : Nat} {stk : Nat} {mst : Int} {q0 : Value} {vr : Int} {ro : Int} {cn : Int} {ct : Int} {sc : Int} {sta : Int} {arv : Int} {stp : Int} {mm : Int} (ha : cc o G a 60 (ab_ob 8 [vz mst, q0, vz vr, vz ro, vR cu, vz cn, vR eg, vR po, vR bg, vR bd, vz ct, vR sd, vz sc, vR se_, vz sta, vR stk, vz arv, vj stp])) : ab_F X d y_ST_holdAtMost (.code y_ST_holdAtMost b_ST_holdAtMost 2 none) [vR a, vz mm] G (fun oc G2 => oc = .returned none ∧ fx o o [60] G G2 ∧ G2.length = G.length ∧ ab_slots G2 = ab_slots G ∧ cc o G2 a 60 (ab_ob 8 [vz mm, q0, vz vr, vz ro, vR cu, vz cn, vR eg, vR po, vR bg, vR bd, vz 0, vR sd, vz sc, vR se_, vz sta, vR stk, vz arv, vj stp])) := by
  refine ab_F_of (by decide +kernel) (Nat.le_of_ble_eq_true rfl) ?_
  obtain ⟨Q, hQ⟩ : ∃ z : Outcome → ab_G → Prop, z = (fun oc G2 => oc = .returned none ∧ fx o o [60] G G2 ∧ G2.length = G.length ∧ ab_slots G2 = ab_slots G ∧ cc o G2 a 60 (ab_ob 8 [vz mm, q0, vz vr, vz ro, vR cu, vz cn, vR eg, vR po, vR bg, vR bd, vz 0, vR sd, vz sc, vR se_, vz sta, vR stk, vz arv, vj stp])) := ⟨_, rfl⟩
  rw [← hQ]
  change ab_W X (ab_pl y_ST_holdAtMost b_ST_holdAtMost 2 none) d G 0 [some (vR a), some (vz mm)] [] Q
  have hfr : fx o o [60] G G := fx.rf
  have hlen : G.length = G.length := rfl
  have hsl : ab_slots G = ab_slots G := rfl
  refine ab_aload_n d_ST_holdAtMost_0 rfl ?_
  refine ab_iload_n d_ST_holdAtMost_1 rfl ?_
  refine ab_putf (fs := [vz mst, q0, vz vr, vz ro, vR cu, vz cn, vR eg, vR po, vR bg, vR bd, vz ct, vR sd, vz sc, vR se_, vz sta, vR stk, vz arv, vj stp]) f_ST_9 (Or.inl rfl) d_ST_holdAtMost_2 ha.2.2 (Nat.le_of_ble_eq_true rfl) (fun _ => ⟨rfl, rfl⟩) (ha.2.1 (by decide)) ?_
  obtain ⟨G1, eG1⟩ : ∃ z : ab_G, z = List.set G a (ab_ob 8 [vz mm, q0, vz vr, vz ro, vR cu, vz cn, vR eg, vR po, vR bg, vR bd, vz ct, vR sd, vz sc, vR se_, vz sta, vR stk, vz arv, vj stp]) := ⟨_, rfl⟩
  have hlen := (z_len eG1).trans hlen
  have hsl := (z_sl ha eG1 rfl).trans hsl
  have hfr := hfr.wr ha eG1 (by decide)
  have ha := ha.kept eG1
  change ab_W _ _ _ (List.set G a (ab_ob 8 [vz mm, q0, vz vr, vz ro, vR cu, vz cn, vR eg, vR po, vR bg, vR bd, vz ct, vR sd, vz sc, vR se_, vz sta, vR stk, vz arv, vj stp])) 5 [some (vR a), some (vz mm)] [] _
  rw [← eG1]
  refine ab_aload_n d_ST_holdAtMost_5 rfl ?_
  refine zz_iconst d_ST_holdAtMost_6 ?_
  refine ab_putf (fs := [vz mm, q0, vz vr, vz ro, vR cu, vz cn, vR eg, vR po, vR bg, vR bd, vz ct, vR sd, vz sc, vR se_, vz sta, vR stk, vz arv, vj stp]) f_ST_40 (Or.inl rfl) d_ST_holdAtMost_7 ha.2.2 (Nat.le_of_ble_eq_true rfl) (fun _ => ⟨rfl, rfl⟩) (ha.2.1 (by decide)) ?_
  obtain ⟨G2, eG2⟩ : ∃ z : ab_G, z = List.set G1 a (ab_ob 8 [vz mm, q0, vz vr, vz ro, vR cu, vz cn, vR eg, vR po, vR bg, vR bd, vz 0, vR sd, vz sc, vR se_, vz sta, vR stk, vz arv, vj stp]) := ⟨_, rfl⟩
  have hlen := (z_len eG2).trans hlen
  have hsl := (z_sl ha eG2 rfl).trans hsl
  have hfr := hfr.wr ha eG2 (by decide)
  have ha := ha.kept eG2
  change ab_W _ _ _ (List.set G1 a (ab_ob 8 [vz mm, q0, vz vr, vz ro, vR cu, vz cn, vR eg, vR po, vR bg, vR bd, vz 0, vR sd, vz sc, vR se_, vz sta, vR stk, vz arv, vj stp])) 10 [some (vR a), some (vz mm)] [] _
  rw [← eG2]
  refine ab_vret rfl d_ST_holdAtMost_10 ?_
  rw [hQ]; exact ⟨rfl, hfr, hlen, hsl, ha⟩
set_option maxRecDepth 100000 in
set_option maxHeartbeats 4000000 in
theorem z_ST_prepare {X : ab_X} {d : Nat} {o : Nat → Nat} {G : ab_G} {a : Nat} {cu : Nat} {eg : Nat} {po : Nat} {bg : Nat} {bd : Nat} {sd : Nat} {se_ : Nat} {stk : Nat} {mst : Int} {q0 : Value} {vr : Int} {ro : Int} {cn : Int} {ct : Int} {sc : Int} {sta : Int} {arv : Int} {stp : Int} {CU : Int → Int} {EG : Int → Int} {PO : Int → Int} {BG : Int → Int} {BD : Int → Int} {q : Nat} {lq : Nat} {ki : Nat} {ne : Nat} {ot : Nat} {cnt : Int} {fi : Int} {la : Int} {ra : Nat} {ru : Int} {gr : Int} {wi : Int} {sz : Int} {fl : Int} {ve : Int} {mi : Int} {na : Nat} {nl : Nat} {K : Int → Int} {N : Int → Int} {O : Int → Int} {RR : Int → Int} {nr : Nat} {KT : Int → Int} {NT : Int → Int} {OT : Int → Int} {RT : Int → Int} {rb : Int} {vc : Int} (ha : cc o G a 60 (ab_ob 8 [vz mst, q0, vz vr, vz ro, vR cu, vz cn, vR eg, vR po, vR bg, vR bd, vz ct, vR sd, vz sc, vR se_, vz sta, vR stk, vz arv, vj stp])) (hcu : cc o G cu 61 (za 120 CU)) (h17 : cc o G 17 17 (za 12 zFC)) (hq : cc o G q lq (ab_ob 5 [vR ki, vR ne, vR ot, vz cnt, vz fi, vz la, vR ra, vz ru, vz gr, vz wi, vz sz, vz fl, vz ve, vz mi, vR na, vR nl])) (hki : cc o G ki (lq + 1) (za 808 K)) (hne : cc o G ne (lq + 2) (za 808 N)) (hot : cc o G ot (lq + 3) (za 808 O)) (hra : cc o G ra (lq + 4) (za nr RR)) (cq : 100 ≤ lq ∧ 0 ≤ cnt ∧ cnt ≤ 808 ∧ ↑nr ≤ (100000 : Int)) (hp : prok K N O RR cnt ↑nr wi) (hr : ∀ k : Int, 0 ≤ k → k < ↑nr → 0 ≤ RR k ∧ RR k ≤ 1114111) (hru : 0 ≤ ru ∧ ru ≤ ↑nr) (hch : rch RR ru) (jcu : rgs CU 120 0 1114112) (ccn : 0 ≤ cn ∧ cn ≤ 121) (cms : 4 ≤ mst ∧ mst ≤ 64 ∧ 0 ≤ ct ∧ ct ≤ mst) (cv : 0 ≤ vr ∧ vr ≤ 100000 ∧ 0 ≤ ve ∧ ve ≤ 100000) (hvc : vr = ve → vc = cnt) (jbg : bgo BG ct) (jpo : ents PO (BG ct) vc) (jeg : ego EG ct (cn + 5)) (cro : 0 ≤ ro ∧ ro ≤ 1) (crb : 0 ≤ rb ∧ rb ≤ 1) (hT : trQ K N O RR cnt ru KT NT OT RT) (hpu : prok K N O RR cnt ru wi) (hq0 : vr = ve → stQR KT NT OT RT fi la ro cnt CU cn PO BG BD EG ct) (hd : 6 ≤ d) : ab_F X d y_ST_prepare (.code y_ST_prepare b_ST_prepare 3 (some (.boolean))) [vR a, vR q, vz rb] G (fun oc G2 => (∃ vr2 : Int, ∃ cn2 : Int, ∃ ct2 : Int, ∃ ro2 : Int, ∃ CU2 : Int → Int, oc = .returned (some (vz 0)) ∧ fx o o [60, 61] G G2 ∧ G2.length = G.length ∧ ab_slots G2 = ab_slots G ∧ cc o G2 a 60 (ab_ob 8 [vz mst, vR q, vz vr2, vz ro2, vR cu, vz cn2, vR eg, vR po, vR bg, vR bd, vz ct2, vR sd, vz sc, vR se_, vz sta, vR stk, vz arv, vj stp]) ∧ cc o G2 cu 61 (za 120 CU2) ∧ (0 ≤ cn2 ∧ cn2 ≤ 121 ∧ 0 ≤ ct2 ∧ ct2 ≤ mst ∧ 0 ≤ ro2 ∧ ro2 ≤ 1 ∧ vr2 = ve) ∧ (rgs CU2 120 0 1114112) ∧ (bgo BG ct2) ∧ (ents PO (BG ct2) cnt) ∧ (ego EG ct2 (cn2 + 5)) ∧ (stQR KT NT OT RT fi la ro2 cnt CU2 cn2 PO BG BD EG ct2)) ∨ (∃ vr2 : Int, ∃ cn2 : Int, ∃ ct2 : Int, ∃ ro2 : Int, ∃ CU2 : Int → Int, oc = .returned (some (vz 1)) ∧ fx o o [60, 61] G G2 ∧ G2.length = G.length ∧ ab_slots G2 = ab_slots G ∧ cc o G2 a 60 (ab_ob 8 [vz mst, vR q, vz vr2, vz ro2, vR cu, vz cn2, vR eg, vR po, vR bg, vR bd, vz ct2, vR sd, vz sc, vR se_, vz sta, vR stk, vz arv, vj stp]) ∧ cc o G2 cu 61 (za 120 CU2) ∧ (0 ≤ cn2 ∧ cn2 ≤ 120 ∧ 0 ≤ ct2 ∧ ct2 ≤ mst ∧ 0 ≤ ro2 ∧ ro2 ≤ 1 ∧ vr2 = ve) ∧ (rgs CU2 120 0 1114112) ∧ (bgo BG ct2) ∧ (ents PO (BG ct2) cnt) ∧ (ego EG ct2 (cn2 + 5)) ∧ (stQR KT NT OT RT fi la ro2 cnt CU2 cn2 PO BG BD EG ct2) ∧ (ro2 = rb))) := by
  refine ab_F_of (by decide +kernel) (Nat.le_of_ble_eq_true rfl) ?_
  obtain ⟨Q, hQ⟩ : ∃ z : Outcome → ab_G → Prop, z = (fun oc G2 => (∃ vr2 : Int, ∃ cn2 : Int, ∃ ct2 : Int, ∃ ro2 : Int, ∃ CU2 : Int → Int, oc = .returned (some (vz 0)) ∧ fx o o [60, 61] G G2 ∧ G2.length = G.length ∧ ab_slots G2 = ab_slots G ∧ cc o G2 a 60 (ab_ob 8 [vz mst, vR q, vz vr2, vz ro2, vR cu, vz cn2, vR eg, vR po, vR bg, vR bd, vz ct2, vR sd, vz sc, vR se_, vz sta, vR stk, vz arv, vj stp]) ∧ cc o G2 cu 61 (za 120 CU2) ∧ (0 ≤ cn2 ∧ cn2 ≤ 121 ∧ 0 ≤ ct2 ∧ ct2 ≤ mst ∧ 0 ≤ ro2 ∧ ro2 ≤ 1 ∧ vr2 = ve) ∧ (rgs CU2 120 0 1114112) ∧ (bgo BG ct2) ∧ (ents PO (BG ct2) cnt) ∧ (ego EG ct2 (cn2 + 5)) ∧ (stQR KT NT OT RT fi la ro2 cnt CU2 cn2 PO BG BD EG ct2)) ∨ (∃ vr2 : Int, ∃ cn2 : Int, ∃ ct2 : Int, ∃ ro2 : Int, ∃ CU2 : Int → Int, oc = .returned (some (vz 1)) ∧ fx o o [60, 61] G G2 ∧ G2.length = G.length ∧ ab_slots G2 = ab_slots G ∧ cc o G2 a 60 (ab_ob 8 [vz mst, vR q, vz vr2, vz ro2, vR cu, vz cn2, vR eg, vR po, vR bg, vR bd, vz ct2, vR sd, vz sc, vR se_, vz sta, vR stk, vz arv, vj stp]) ∧ cc o G2 cu 61 (za 120 CU2) ∧ (0 ≤ cn2 ∧ cn2 ≤ 120 ∧ 0 ≤ ct2 ∧ ct2 ≤ mst ∧ 0 ≤ ro2 ∧ ro2 ≤ 1 ∧ vr2 = ve) ∧ (rgs CU2 120 0 1114112) ∧ (bgo BG ct2) ∧ (ents PO (BG ct2) cnt) ∧ (ego EG ct2 (cn2 + 5)) ∧ (stQR KT NT OT RT fi la ro2 cnt CU2 cn2 PO BG BD EG ct2) ∧ (ro2 = rb))) := ⟨_, rfl⟩
  rw [← hQ]
  change ab_W X (ab_pl y_ST_prepare b_ST_prepare 3 (some (.boolean))) d G 0 [some (vR a), some (vR q), some (vz rb)] [] Q
  have hfr : fx o o [60, 61] G G := fx.rf
  have hlen : G.length = G.length := rfl
  have hsl : ab_slots G = ab_slots G := rfl
  refine ab_aload_n d_ST_prepare_0 rfl ?_
  refine ab_aload_n d_ST_prepare_1 rfl ?_
  refine ab_putf (fs := [vz mst, q0, vz vr, vz ro, vR cu, vz cn, vR eg, vR po, vR bg, vR bd, vz ct, vR sd, vz sc, vR se_, vz sta, vR stk, vz arv, vj stp]) f_ST_74 (Or.inl rfl) d_ST_prepare_2 ha.2.2 (Nat.le_of_ble_eq_true rfl) (fun _ => ⟨rfl, rfl⟩) (ha.2.1 (by decide)) ?_
  obtain ⟨G1, eG1⟩ : ∃ z : ab_G, z = List.set G a (ab_ob 8 [vz mst, vR q, vz vr, vz ro, vR cu, vz cn, vR eg, vR po, vR bg, vR bd, vz ct, vR sd, vz sc, vR se_, vz sta, vR stk, vz arv, vj stp]) := ⟨_, rfl⟩
  have hcu := hcu.keep ha eG1 (by decide)
  have h17 := h17.keep ha eG1 (by decide)
  have hq := hq.keep ha eG1 (by omega)
  have hki := hki.keep ha eG1 (by omega)
  have hne := hne.keep ha eG1 (by omega)
  have hot := hot.keep ha eG1 (by omega)
  have hra := hra.keep ha eG1 (by omega)
  have hlen := (z_len eG1).trans hlen
  have hsl := (z_sl ha eG1 rfl).trans hsl
  have hfr := hfr.wr ha eG1 (by decide)
  have ha := ha.kept eG1
  change ab_W _ _ _ (List.set G a (ab_ob 8 [vz mst, vR q, vz vr, vz ro, vR cu, vz cn, vR eg, vR po, vR bg, vR bd, vz ct, vR sd, vz sc, vR se_, vz sta, vR stk, vz arv, vj stp])) 5 [some (vR a), some (vR q), some (vz rb)] [] _
  rw [← eG1]
  refine ab_aload_n d_ST_prepare_5 rfl ?_
  refine ab_getf (fs := [vz mst, vR q, vz vr, vz ro, vR cu, vz cn, vR eg, vR po, vR bg, vR bd, vz ct, vR sd, vz sc, vR se_, vz sta, vR stk, vz arv, vj stp]) f_ST_78 d_ST_prepare_6 ha.2.2 rfl ?_
  refine ab_aload_n d_ST_prepare_9 rfl ?_
  refine ab_getf (fs := [vR ki, vR ne, vR ot, vz cnt, vz fi, vz la, vR ra, vz ru, vz gr, vz wi, vz sz, vz fl, vz ve, vz mi, vR na, vR nl]) f_ST_81 d_ST_prepare_10 hq.2.2 rfl ?_
  refine zz_icmp_eq (tgt := 33) d_ST_prepare_13 (by decide) (by omega) (by omega) (fun c2 => ?_) (fun c2 => ?_)
  · refine ab_aload_n d_ST_prepare_33 rfl ?_
    refine ab_getf (fs := [vz mst, vR q, vz vr, vz ro, vR cu, vz cn, vR eg, vR po, vR bg, vR bd, vz ct, vR sd, vz sc, vR se_, vz sta, vR stk, vz arv, vj stp]) f_ST_63 d_ST_prepare_34 ha.2.2 rfl ?_
    refine zz_bipush d_ST_prepare_37 (by decide) ?_
    refine zz_icmp_le (tgt := 44) d_ST_prepare_39 (by decide) (by omega) (by decide) (fun c3 => ?_) (fun c3 => ?_)
    · refine ab_aload_n d_ST_prepare_44 rfl ?_
      refine ab_getf (fs := [vz mst, vR q, vz vr, vz ro, vR cu, vz cn, vR eg, vR po, vR bg, vR bd, vz ct, vR sd, vz sc, vR se_, vz sta, vR stk, vz arv, vj stp]) f_ST_70 d_ST_prepare_45 ha.2.2 rfl ?_
      refine ab_iload_n d_ST_prepare_48 rfl ?_
      refine zz_icmp_eq (tgt := 62) d_ST_prepare_49 (by decide) (by omega) (by omega) (fun c4 => ?_) (fun c4 => ?_)
      · refine zz_iconst d_ST_prepare_62 ?_
        refine zz_bret rfl (by decide) d_ST_prepare_63 ?_
        rw [hQ]; exact (Or.inr ⟨_, _, _, _, _, rfl, hfr, hlen, hsl, ha, hcu, (by omega), (by exact jcu), (by exact jbg), (by exact (hvc (by omega)) ▸ jpo), (by exact jeg), (by exact hq0 (by omega)), (by omega)⟩)
      · refine ab_aload_n d_ST_prepare_52 rfl ?_
        refine ab_iload_n d_ST_prepare_53 rfl ?_
        refine ab_putf (fs := [vz mst, vR q, vz vr, vz ro, vR cu, vz cn, vR eg, vR po, vR bg, vR bd, vz ct, vR sd, vz sc, vR se_, vz sta, vR stk, vz arv, vj stp]) f_ST_70 (Or.inl rfl) d_ST_prepare_54 ha.2.2 (Nat.le_of_ble_eq_true rfl) (ab_fbz (by omega)) (ha.2.1 (by decide)) ?_
        obtain ⟨G5, eG5⟩ : ∃ z : ab_G, z = List.set G1 a (ab_ob 8 [vz mst, vR q, vz vr, vz rb, vR cu, vz cn, vR eg, vR po, vR bg, vR bd, vz ct, vR sd, vz sc, vR se_, vz sta, vR stk, vz arv, vj stp]) := ⟨_, rfl⟩
        have hcu := hcu.keep ha eG5 (by decide)
        have h17 := h17.keep ha eG5 (by decide)
        have hq := hq.keep ha eG5 (by omega)
        have hki := hki.keep ha eG5 (by omega)
        have hne := hne.keep ha eG5 (by omega)
        have hot := hot.keep ha eG5 (by omega)
        have hra := hra.keep ha eG5 (by omega)
        have hlen := (z_len eG5).trans hlen
        have hsl := (z_sl ha eG5 rfl).trans hsl
        have hfr := hfr.wr ha eG5 (by decide)
        have ha := ha.kept eG5
        change ab_W _ _ _ (List.set G1 a (ab_ob 8 [vz mst, vR q, vz vr, vz rb, vR cu, vz cn, vR eg, vR po, vR bg, vR bd, vz ct, vR sd, vz sc, vR se_, vz sta, vR stk, vz arv, vj stp])) 57 [some (vR a), some (vR q), some (vz rb)] [] _
        rw [← eG5]
        refine ab_aload_n d_ST_prepare_57 rfl ?_
        refine zz_iconst d_ST_prepare_58 ?_
        refine ab_putf (fs := [vz mst, vR q, vz vr, vz rb, vR cu, vz cn, vR eg, vR po, vR bg, vR bd, vz ct, vR sd, vz sc, vR se_, vz sta, vR stk, vz arv, vj stp]) f_ST_40 (Or.inl rfl) d_ST_prepare_59 ha.2.2 (Nat.le_of_ble_eq_true rfl) (fun _ => ⟨rfl, rfl⟩) (ha.2.1 (by decide)) ?_
        obtain ⟨G6, eG6⟩ : ∃ z : ab_G, z = List.set G5 a (ab_ob 8 [vz mst, vR q, vz vr, vz rb, vR cu, vz cn, vR eg, vR po, vR bg, vR bd, vz 0, vR sd, vz sc, vR se_, vz sta, vR stk, vz arv, vj stp]) := ⟨_, rfl⟩
        have hcu := hcu.keep ha eG6 (by decide)
        have h17 := h17.keep ha eG6 (by decide)
        have hq := hq.keep ha eG6 (by omega)
        have hki := hki.keep ha eG6 (by omega)
        have hne := hne.keep ha eG6 (by omega)
        have hot := hot.keep ha eG6 (by omega)
        have hra := hra.keep ha eG6 (by omega)
        have hlen := (z_len eG6).trans hlen
        have hsl := (z_sl ha eG6 rfl).trans hsl
        have hfr := hfr.wr ha eG6 (by decide)
        have ha := ha.kept eG6
        change ab_W _ _ _ (List.set G5 a (ab_ob 8 [vz mst, vR q, vz vr, vz rb, vR cu, vz cn, vR eg, vR po, vR bg, vR bd, vz 0, vR sd, vz sc, vR se_, vz sta, vR stk, vz arv, vj stp])) 62 [some (vR a), some (vR q), some (vz rb)] [] _
        rw [← eG6]
        refine zz_iconst d_ST_prepare_62 ?_
        refine zz_bret rfl (by decide) d_ST_prepare_63 ?_
        rw [hQ]; exact (Or.inr ⟨_, _, _, _, _, rfl, hfr, hlen, hsl, ha, hcu, (by omega), (by exact jcu), (by exact bgo_0 jbg), (by rw [jbg.1]; exact ents_0), (by exact ego_0), (by exact stQR_z (hq0 (by omega))), (by omega)⟩)
    · refine zz_iconst d_ST_prepare_42 ?_
      refine zz_bret rfl (by decide) d_ST_prepare_43 ?_
      rw [hQ]; exact (Or.inl ⟨_, _, _, _, _, rfl, hfr, hlen, hsl, ha, hcu, (by omega), (by exact jcu), (by exact jbg), (by exact (hvc (by omega)) ▸ jpo), (by exact jeg), (by exact hq0 (by omega))⟩)
  · refine ab_aload_n d_ST_prepare_16 rfl ?_
    refine ab_aload_n d_ST_prepare_17 rfl ?_
    refine ab_getf (fs := [vR ki, vR ne, vR ot, vz cnt, vz fi, vz la, vR ra, vz ru, vz gr, vz wi, vz sz, vz fl, vz ve, vz mi, vR na, vR nl]) f_ST_81 d_ST_prepare_18 hq.2.2 rfl ?_
    refine ab_putf (fs := [vz mst, vR q, vz vr, vz ro, vR cu, vz cn, vR eg, vR po, vR bg, vR bd, vz ct, vR sd, vz sc, vR se_, vz sta, vR stk, vz arv, vj stp]) f_ST_78 (Or.inl rfl) d_ST_prepare_21 ha.2.2 (Nat.le_of_ble_eq_true rfl) (fun _ => ⟨rfl, rfl⟩) (ha.2.1 (by decide)) ?_
    obtain ⟨G7, eG7⟩ : ∃ z : ab_G, z = List.set G1 a (ab_ob 8 [vz mst, vR q, vz ve, vz ro, vR cu, vz cn, vR eg, vR po, vR bg, vR bd, vz ct, vR sd, vz sc, vR se_, vz sta, vR stk, vz arv, vj stp]) := ⟨_, rfl⟩
    have hcu := hcu.keep ha eG7 (by decide)
    have h17 := h17.keep ha eG7 (by decide)
    have hq := hq.keep ha eG7 (by omega)
    have hki := hki.keep ha eG7 (by omega)
    have hne := hne.keep ha eG7 (by omega)
    have hot := hot.keep ha eG7 (by omega)
    have hra := hra.keep ha eG7 (by omega)
    have hlen := (z_len eG7).trans hlen
    have hsl := (z_sl ha eG7 rfl).trans hsl
    have hfr := hfr.wr ha eG7 (by decide)
    have ha := ha.kept eG7
    change ab_W _ _ _ (List.set G1 a (ab_ob 8 [vz mst, vR q, vz ve, vz ro, vR cu, vz cn, vR eg, vR po, vR bg, vR bd, vz ct, vR sd, vz sc, vR se_, vz sta, vR stk, vz arv, vj stp])) 24 [some (vR a), some (vR q), some (vz rb)] [] _
    rw [← eG7]
    refine ab_aload_n d_ST_prepare_24 rfl ?_
    refine ab_callV (d' := d - 1) (as := []) (st := []) (r := _) (z_ST_findCuts (o := o) (a := a) (cu := cu) (eg := eg) (po := po) (bg := bg) (bd := bd) (sd := sd) (se_ := se_) (stk := stk) (mst := mst) (vr := ve) (ro := ro) (cn := cn) (ct := ct) (sc := sc) (sta := sta) (arv := arv) (stp := stp) (CU := CU) (q := q) (lq := lq) (ki := ki) (ne := ne) (ot := ot) (cnt := cnt) (fi := fi) (la := la) (ra := ra) (ru := ru) (gr := gr) (wi := wi) (sz := sz) (fl := fl) (ve := ve) (mi := mi) (na := na) (nl := nl) (K := K) (O := O) (RR := RR) (nr := nr) ha hcu h17 hq hki hot hra (by omega) hp hr (by omega) hch jcu (by omega)) (fun oc G2 h => by rcases h with ⟨_, _, h, _⟩ <;> exact ⟨_, h⟩) (by omega) m_ST_findCuts ml_ST_84 im_ST_findCuts se_ST_findCuts c_ST ha.2.2 (Nat.le_of_ble_eq_true rfl) d_ST_prepare_25 rfl ?_
    intro v G8 hq
    rcases hq with ⟨cn29, CU210, hv, hfk, hlk, hsk, hNa, hNcu, hq11, hq12, hq13⟩
    cases hv
    have h17 := hfk.get h17 (by decide)
    have hq := hfk.get hq (by simp only [List.mem_cons, List.not_mem_nil, or_false]; omega)
    have hki := hfk.get hki (by simp only [List.mem_cons, List.not_mem_nil, or_false]; omega)
    have hne := hfk.get hne (by simp only [List.mem_cons, List.not_mem_nil, or_false]; omega)
    have hot := hfk.get hot (by simp only [List.mem_cons, List.not_mem_nil, or_false]; omega)
    have hra := hfk.get hra (by simp only [List.mem_cons, List.not_mem_nil, or_false]; omega)
    have hfr := hfr.tr hfk (by decide)
    have hlen := hlk.trans hlen
    have hsl := hsk.trans hsl
    have ha := hNa
    have hcu := hNcu
    change ab_W _ _ _ G8 28 [some (vR a), some (vR q), some (vz rb)] [] _
    refine ab_aload_n d_ST_prepare_28 rfl ?_
    refine zz_iconst d_ST_prepare_29 ?_
    refine ab_putf (fs := [vz mst, vR q, vz ve, vz ro, vR cu, vz cn29, vR eg, vR po, vR bg, vR bd, vz ct, vR sd, vz sc, vR se_, vz sta, vR stk, vz arv, vj stp]) f_ST_40 (Or.inl rfl) d_ST_prepare_30 ha.2.2 (Nat.le_of_ble_eq_true rfl) (fun _ => ⟨rfl, rfl⟩) (ha.2.1 (by decide)) ?_
    obtain ⟨G14, eG14⟩ : ∃ z : ab_G, z = List.set G8 a (ab_ob 8 [vz mst, vR q, vz ve, vz ro, vR cu, vz cn29, vR eg, vR po, vR bg, vR bd, vz 0, vR sd, vz sc, vR se_, vz sta, vR stk, vz arv, vj stp]) := ⟨_, rfl⟩
    have hcu := hcu.keep ha eG14 (by decide)
    have h17 := h17.keep ha eG14 (by decide)
    have hq := hq.keep ha eG14 (by omega)
    have hki := hki.keep ha eG14 (by omega)
    have hne := hne.keep ha eG14 (by omega)
    have hot := hot.keep ha eG14 (by omega)
    have hra := hra.keep ha eG14 (by omega)
    have hlen := (z_len eG14).trans hlen
    have hsl := (z_sl ha eG14 rfl).trans hsl
    have hfr := hfr.wr ha eG14 (by decide)
    have ha := ha.kept eG14
    change ab_W _ _ _ (List.set G8 a (ab_ob 8 [vz mst, vR q, vz ve, vz ro, vR cu, vz cn29, vR eg, vR po, vR bg, vR bd, vz 0, vR sd, vz sc, vR se_, vz sta, vR stk, vz arv, vj stp])) 33 [some (vR a), some (vR q), some (vz rb)] [] _
    rw [← eG14]
    refine ab_aload_n d_ST_prepare_33 rfl ?_
    refine ab_getf (fs := [vz mst, vR q, vz ve, vz ro, vR cu, vz cn29, vR eg, vR po, vR bg, vR bd, vz 0, vR sd, vz sc, vR se_, vz sta, vR stk, vz arv, vj stp]) f_ST_63 d_ST_prepare_34 ha.2.2 rfl ?_
    refine zz_bipush d_ST_prepare_37 (by decide) ?_
    refine zz_icmp_le (tgt := 44) d_ST_prepare_39 (by decide) (by omega) (by decide) (fun c15 => ?_) (fun c15 => ?_)
    · refine ab_aload_n d_ST_prepare_44 rfl ?_
      refine ab_getf (fs := [vz mst, vR q, vz ve, vz ro, vR cu, vz cn29, vR eg, vR po, vR bg, vR bd, vz 0, vR sd, vz sc, vR se_, vz sta, vR stk, vz arv, vj stp]) f_ST_70 d_ST_prepare_45 ha.2.2 rfl ?_
      refine ab_iload_n d_ST_prepare_48 rfl ?_
      refine zz_icmp_eq (tgt := 62) d_ST_prepare_49 (by decide) (by omega) (by omega) (fun c16 => ?_) (fun c16 => ?_)
      · refine zz_iconst d_ST_prepare_62 ?_
        refine zz_bret rfl (by decide) d_ST_prepare_63 ?_
        rw [hQ]; exact (Or.inr ⟨_, _, _, _, _, rfl, hfr, hlen, hsl, ha, hcu, (by omega), (by exact hq12), (by exact bgo_0 jbg), (by rw [jbg.1]; exact ents_0), (by exact ego_0), (by exact stQR_f hq13 (Int.le_refl _) hpu hT), (by omega)⟩)
      · refine ab_aload_n d_ST_prepare_52 rfl ?_
        refine ab_iload_n d_ST_prepare_53 rfl ?_
        refine ab_putf (fs := [vz mst, vR q, vz ve, vz ro, vR cu, vz cn29, vR eg, vR po, vR bg, vR bd, vz 0, vR sd, vz sc, vR se_, vz sta, vR stk, vz arv, vj stp]) f_ST_70 (Or.inl rfl) d_ST_prepare_54 ha.2.2 (Nat.le_of_ble_eq_true rfl) (ab_fbz (by omega)) (ha.2.1 (by decide)) ?_
        obtain ⟨G17, eG17⟩ : ∃ z : ab_G, z = List.set G14 a (ab_ob 8 [vz mst, vR q, vz ve, vz rb, vR cu, vz cn29, vR eg, vR po, vR bg, vR bd, vz 0, vR sd, vz sc, vR se_, vz sta, vR stk, vz arv, vj stp]) := ⟨_, rfl⟩
        have hcu := hcu.keep ha eG17 (by decide)
        have h17 := h17.keep ha eG17 (by decide)
        have hq := hq.keep ha eG17 (by omega)
        have hki := hki.keep ha eG17 (by omega)
        have hne := hne.keep ha eG17 (by omega)
        have hot := hot.keep ha eG17 (by omega)
        have hra := hra.keep ha eG17 (by omega)
        have hlen := (z_len eG17).trans hlen
        have hsl := (z_sl ha eG17 rfl).trans hsl
        have hfr := hfr.wr ha eG17 (by decide)
        have ha := ha.kept eG17
        change ab_W _ _ _ (List.set G14 a (ab_ob 8 [vz mst, vR q, vz ve, vz rb, vR cu, vz cn29, vR eg, vR po, vR bg, vR bd, vz 0, vR sd, vz sc, vR se_, vz sta, vR stk, vz arv, vj stp])) 57 [some (vR a), some (vR q), some (vz rb)] [] _
        rw [← eG17]
        refine ab_aload_n d_ST_prepare_57 rfl ?_
        refine zz_iconst d_ST_prepare_58 ?_
        refine ab_putf (fs := [vz mst, vR q, vz ve, vz rb, vR cu, vz cn29, vR eg, vR po, vR bg, vR bd, vz 0, vR sd, vz sc, vR se_, vz sta, vR stk, vz arv, vj stp]) f_ST_40 (Or.inl rfl) d_ST_prepare_59 ha.2.2 (Nat.le_of_ble_eq_true rfl) (fun _ => ⟨rfl, rfl⟩) (ha.2.1 (by decide)) ?_
        obtain ⟨G18, eG18⟩ : ∃ z : ab_G, z = List.set G17 a (ab_ob 8 [vz mst, vR q, vz ve, vz rb, vR cu, vz cn29, vR eg, vR po, vR bg, vR bd, vz 0, vR sd, vz sc, vR se_, vz sta, vR stk, vz arv, vj stp]) := ⟨_, rfl⟩
        have hcu := hcu.keep ha eG18 (by decide)
        have h17 := h17.keep ha eG18 (by decide)
        have hq := hq.keep ha eG18 (by omega)
        have hki := hki.keep ha eG18 (by omega)
        have hne := hne.keep ha eG18 (by omega)
        have hot := hot.keep ha eG18 (by omega)
        have hra := hra.keep ha eG18 (by omega)
        have hlen := (z_len eG18).trans hlen
        have hsl := (z_sl ha eG18 rfl).trans hsl
        have hfr := hfr.wr ha eG18 (by decide)
        have ha := ha.kept eG18
        change ab_W _ _ _ (List.set G17 a (ab_ob 8 [vz mst, vR q, vz ve, vz rb, vR cu, vz cn29, vR eg, vR po, vR bg, vR bd, vz 0, vR sd, vz sc, vR se_, vz sta, vR stk, vz arv, vj stp])) 62 [some (vR a), some (vR q), some (vz rb)] [] _
        rw [← eG18]
        refine zz_iconst d_ST_prepare_62 ?_
        refine zz_bret rfl (by decide) d_ST_prepare_63 ?_
        rw [hQ]; exact (Or.inr ⟨_, _, _, _, _, rfl, hfr, hlen, hsl, ha, hcu, (by omega), (by exact hq12), (by exact bgo_0 jbg), (by rw [jbg.1]; exact ents_0), (by exact ego_0), (by exact stQR_f hq13 (Int.le_refl _) hpu hT), (by omega)⟩)
    · refine zz_iconst d_ST_prepare_42 ?_
      refine zz_bret rfl (by decide) d_ST_prepare_43 ?_
      rw [hQ]; exact (Or.inl ⟨_, _, _, _, _, rfl, hfr, hlen, hsl, ha, hcu, (by omega), (by exact hq12), (by exact bgo_0 jbg), (by rw [jbg.1]; exact ents_0), (by exact ego_0), (by exact stQR_f hq13 (Int.le_refl _) hpu hT)⟩)
set_option maxRecDepth 100000 in
set_option maxHeartbeats 4000000 in
theorem y_ST_tell_33 {X : ab_X} {d : Nat} {Q : Outcome → ab_G → Prop} {o : Nat → Nat} {G0 : ab_G} {a : Nat} {cu : Nat} {eg : Nat} {po : Nat} {bg : Nat} {bd : Nat} {sd : Nat} {se_ : Nat} {stk : Nat} {mst : Int} {vr : Int} {ro : Int} {cn : Int} {CU : Int → Int} {q : Nat} {lq : Nat} {ki : Nat} {ne : Nat} {ot : Nat} {cnt : Int} {fi : Int} {la : Int} {ra : Nat} {ru : Int} {gr : Int} {wi : Int} {sz : Int} {fl : Int} {ve : Int} {mi : Int} {na : Nat} {nl : Nat} {K : Int → Int} {N : Int → Int} {O : Int → Int} {RR : Int → Int} {nr : Nat} {s : Nat} {by_ : Nat} {co : Nat} {re : Nat} {ho : Nat} {n : Int} {f : Int → Int} {C : Int → Int} {Rs : Int → Int} {H : Int → Int} {m : Nat} {mc : Nat} {KT : Int → Int} {NT : Int → Int} {OT : Int → Int} {RT : Int → Int} {hw : Int} {fr9 : Int} {sb : Int} {st0 : Int} {p0 : Int} (cc0 : 0 ≤ cn ∧ cn ≤ 120) (jcu : rgs CU 120 0 1114112) (cq : 100 ≤ lq ∧ 0 ≤ cnt ∧ cnt ≤ 808 ∧ ↑nr ≤ (100000 : Int)) (hp : prok K N O RR cnt ↑nr wi) (hr : ∀ k : Int, 0 ≤ k → k < ↑nr → 0 ≤ RR k ∧ RR k ≤ 1114111) (cfi : 0 ≤ fi ∧ fi < cnt ∧ 0 ≤ la ∧ la ≤ 1) (cro : 0 ≤ ro ∧ ro ≤ 1) (csu : 0 ≤ n ∧ n ≤ ↑m ∧ 32 ≤ m ∧ m ≤ 2000 ∧ mc = m + 1) (hsu : suok f C Rs H n) (chw : 0 ≤ hw ∧ hw ≤ 2) (hT : trQ K N O RR cnt ru KT NT OT RT) (hpu : prok K N O RR cnt ru wi) (ck9 : K 0 = 9) (jcs : cuS CU cn) (jcf : cuF CU cn) (htf : tlF K N O RR KT NT OT RT CU f C Rs H cnt ru wi cn n fi la) (csb : 0 ≤ sb ∧ sb ≤ 1800000000) (hd : 7 ≤ d) : ∀ (mz : Nat) {G : ab_G} {ct : Int} {sc : Int} {sta : Int} {arv : Int} {stp : Int} {EG : Int → Int} {PO : Int → Int} {BG : Int → Int} {BD : Int → Int} {SD : Int → Int} {SE : Int → Int} {SK : Int → Int} {p : Int} {x_ : Int}, (cc o G a 60 (ab_ob 8 [vz mst, vR q, vz vr, vz ro, vR cu, vz cn, vR eg, vR po, vR bg, vR bd, vz ct, vR sd, vz sc, vR se_, vz sta, vR stk, vz arv, vj stp])) → (cc o G cu 61 (za 120 CU)) → (cc o G eg 62 (za 8000 EG)) → (cc o G po 63 (za 8192 PO)) → (cc o G bg 64 (za 65 BG)) → (cc o G bd 65 (za 64 BD)) → (cc o G sd 66 (za 2048 SD)) → (cc o G se_ 67 (za 3072 SE)) → (cc o G stk 68 (za 809 SK)) → (cc o G q lq (ab_ob 5 [vR ki, vR ne, vR ot, vz cnt, vz fi, vz la, vR ra, vz ru, vz gr, vz wi, vz sz, vz fl, vz ve, vz mi, vR na, vR nl])) → (cc o G ki (lq + 1) (za 808 K)) → (cc o G ne (lq + 2) (za 808 N)) → (cc o G ot (lq + 3) (za 808 O)) → (cc o G ra (lq + 4) (za nr RR)) → (cc o G s 26 (ab_ob 9 [vR by_, vR co, vR re, vR ho, vz n])) → (cc o G co 28 (za mc C)) → (cc o G re 29 (za mc Rs)) → (0 ≤ p ∧ p ≤ n + 1 ∧ 0 ≤ x_ ∧ x_ < ct) → (4 ≤ mst ∧ mst ≤ 64 ∧ 0 ≤ ct ∧ ct ≤ mst) → (bgo BG ct) → (ents PO (BG ct) cnt) → (rgs BD 64 0 7) → (ego EG ct (cn + 5)) → (0 ≤ arv ∧ arv ≤ 1) → (0 ≤ sc ∧ sc ≤ 2048) → (0 ≤ sta ∧ sta ≤ sb + p) → (rgs SE 3072 0 sta) → (edO KT NT OT RT fi la ro CU PO BG BD EG cn ct) → (tlW KT NT OT RT f n hw fi la ro fr9 Rs PO BG BD p x_) → (st0 ≤ stp ∧ stp ≤ st0 + 3073 * (p - p0)) → (0 ≤ p0) → (fx o o [60, 62, 63, 64, 65, 66, 67, 68] G0 G) → (G.length = G0.length) → (ab_slots G = ab_slots G0) → (Int.toNat (n + 1 - p) < mz) → (∀ (G2 : ab_G) (v : Int) (ct2 : Int) (sc2 : Int) (sta2 : Int) (st2 : Int) (ar2 : Int) (EG2 : Int → Int) (PO2 : Int → Int) (BG2 : Int → Int) (BD2 : Int → Int) (SD2 : Int → Int) (SE2 : Int → Int) (SK2 : Int → Int), (cc o G2 a 60 (ab_ob 8 [vz mst, vR q, vz vr, vz ro, vR cu, vz cn, vR eg, vR po, vR bg, vR bd, vz ct2, vR sd, vz sc2, vR se_, vz sta2, vR stk, vz ar2, vj st2])) → (cc o G2 eg 62 (za 8000 EG2)) → (cc o G2 po 63 (za 8192 PO2)) → (cc o G2 bg 64 (za 65 BG2)) → (cc o G2 bd 65 (za 64 BD2)) → (cc o G2 sd 66 (za 2048 SD2)) → (cc o G2 se_ 67 (za 3072 SE2)) → (cc o G2 stk 68 (za 809 SK2)) → (0 ≤ ct2 ∧ ct2 ≤ mst ∧ 0 ≤ ar2 ∧ ar2 ≤ 1 ∧ 0 ≤ sc2 ∧ sc2 ≤ 2048) → (bgo BG2 ct2) → (ents PO2 (BG2 ct2) cnt) → (rgs BD2 64 0 7) → (ego EG2 ct2 (cn + 5)) → (rgs SE2 3072 0 sta2) → (edO KT NT OT RT fi la ro CU PO2 BG2 BD2 EG2 cn ct2) → (0 ≤ v ∧ v ≤ 1) → (0 ≤ sta2 ∧ sta2 ≤ sb + n + 1) → (tlX KT NT OT RT f n hw fi fr9 v) → (st0 ≤ st2 ∧ st2 ≤ st0 + 3073 * (n + 1)) → (fx o o [60, 62, 63, 64, 65, 66, 67, 68] G0 G2) → (G2.length = G0.length) → (ab_slots G2 = ab_slots G0) → Q (.returned (some (vz v))) G2) → ab_W X (ab_pl y_ST_tell b_ST_tell 9 (some (.int))) d G 33 [some (vR a), none, some (vR s), some (vz hw), none, some (vz x_), some (vz p), none, none] [] Q := by
  intro mz
  induction mz with
  | zero => intro G ct sc sta arv stp EG PO BG BD SD SE SK p x_ ha hcu heg hpo hbg hbd hsd hse_ hstk hq hki hne hot hra hs hco hre ci cms jbg jpo jbd jeg car csc cst8 jse jed jtw hst9 cp0 hfr hlen hsl hm hk0; exact absurd hm (Nat.not_lt_zero _)
  | succ mz ih =>
    intro G ct sc sta arv stp EG PO BG BD SD SE SK p x_ ha hcu heg hpo hbg hbd hsd hse_ hstk hq hki hne hot hra hs hco hre ci cms jbg jpo jbd jeg car csc cst8 jse jed jtw hst9 cp0 hfr hlen hsl hm hk0
    refine ab_iload d_ST_tell_33 rfl ?_
    refine ab_aload_n d_ST_tell_35 rfl ?_
    refine ab_getf (fs := [vR by_, vR co, vR re, vR ho, vz n]) f_ST_51 d_ST_tell_36 hs.2.2 rfl ?_
    refine zz_icmp_gt (tgt := 156) d_ST_tell_39 (by decide) (by omega) (by omega) (fun c1 => ?_) (fun c1 => ?_)
    · refine zz_iconst d_ST_tell_156 ?_
      refine zz_iret rfl d_ST_tell_157 ?_
      exact hk0 _ _ _ _ _ _ _ _ _ _ _ _ _ _ ha heg hpo hbg hbd hsd hse_ hstk (by omega) (by exact jbg) (by exact jpo) (by exact jbd) (by exact jeg) (by exact jse) (by exact jed) (by omega) (by omega) (by exact jtw.xx (by omega)) (by omega) hfr hlen hsl
    · refine ab_aload_n d_ST_tell_42 rfl ?_
      refine ab_dup d_ST_tell_43 rfl ?_
      refine ab_getf (fs := [vz mst, vR q, vz vr, vz ro, vR cu, vz cn, vR eg, vR po, vR bg, vR bd, vz ct, vR sd, vz sc, vR se_, vz sta, vR stk, vz arv, vj stp]) f_ST_56 d_ST_tell_44 ha.2.2 rfl ?_
      refine zz_lconst d_ST_tell_47 ?_
      change ab_W _ _ _ G 48 [some (vR a), none, some (vR s), some (vz hw), none, some (vz x_), some (vz p), none, none] [vj 1, vj stp, vR a] _
      refine zz_ladd d_ST_tell_48 ?_
      refine ab_putf (fs := [vz mst, vR q, vz vr, vz ro, vR cu, vz cn, vR eg, vR po, vR bg, vR bd, vz ct, vR sd, vz sc, vR se_, vz sta, vR stk, vz arv, vj stp]) f_ST_56 (Or.inl rfl) d_ST_tell_49 ha.2.2 (Nat.le_of_ble_eq_true rfl) (fun _ => ⟨rfl, rfl⟩) (ha.2.1 (by decide)) ?_
      obtain ⟨G2, eG2⟩ : ∃ z : ab_G, z = List.set G a (ab_ob 8 [vz mst, vR q, vz vr, vz ro, vR cu, vz cn, vR eg, vR po, vR bg, vR bd, vz ct, vR sd, vz sc, vR se_, vz sta, vR stk, vz arv, vj (stp + 1)]) := ⟨_, rfl⟩
      have hcu := hcu.keep ha eG2 (by decide)
      have heg := heg.keep ha eG2 (by decide)
      have hpo := hpo.keep ha eG2 (by decide)
      have hbg := hbg.keep ha eG2 (by decide)
      have hbd := hbd.keep ha eG2 (by decide)
      have hsd := hsd.keep ha eG2 (by decide)
      have hse_ := hse_.keep ha eG2 (by decide)
      have hstk := hstk.keep ha eG2 (by decide)
      have hq := hq.keep ha eG2 (by omega)
      have hki := hki.keep ha eG2 (by omega)
      have hne := hne.keep ha eG2 (by omega)
      have hot := hot.keep ha eG2 (by omega)
      have hra := hra.keep ha eG2 (by omega)
      have hs := hs.keep ha eG2 (by decide)
      have hco := hco.keep ha eG2 (by decide)
      have hre := hre.keep ha eG2 (by decide)
      have hlen := (z_len eG2).trans hlen
      have hsl := (z_sl ha eG2 rfl).trans hsl
      have hfr := hfr.wr ha eG2 (by decide)
      have ha := ha.kept eG2
      change ab_W _ _ _ (List.set G a (ab_ob 8 [vz mst, vR q, vz vr, vz ro, vR cu, vz cn, vR eg, vR po, vR bg, vR bd, vz ct, vR sd, vz sc, vR se_, vz sta, vR stk, vz arv, vj (stp + 1)])) 52 [some (vR a), none, some (vR s), some (vz hw), none, some (vz x_), some (vz p), none, none] [] _
      rw [← eG2]
      refine ab_aload_n d_ST_tell_52 rfl ?_
      refine ab_aload_n d_ST_tell_53 rfl ?_
      refine ab_iload d_ST_tell_54 rfl ?_
      refine ab_callV (d' := d - 1) (as := [vR s, vz p]) (st := []) (r := _) (z_ST_signAt (o := o) (a := a) (cu := cu) (eg := eg) (po := po) (bg := bg) (bd := bd) (sd := sd) (se_ := se_) (stk := stk) (mst := mst) (q0 := vR q) (vr := vr) (ro := ro) (cn := cn) (ct := ct) (sc := sc) (sta := sta) (arv := arv) (stp := (stp + 1)) (CU := CU) (s := s) (by_ := by_) (co := co) (re := re) (ho := ho) (n := n) (C := C) (Rs := Rs) (mc := mc) (p := p) ha hcu hs hco hre (by omega) jcu (by omega) hsu (by omega) jcs jcf (by omega)) (fun oc G2 h => by rcases h with ⟨_, h, _⟩ <;> exact ⟨_, h⟩) (by omega) m_ST_signAt ml_ST_60 im_ST_signAt se_ST_signAt c_ST ha.2.2 (Nat.le_of_ble_eq_true rfl) d_ST_tell_56 rfl ?_
      intro v G3 hq
      rcases hq with ⟨v4, hv, hfk, hlk, hsk, hq5, hq6⟩
      cases hv
      have ha := hfk.get ha (by decide)
      have hcu := hfk.get hcu (by decide)
      have heg := hfk.get heg (by decide)
      have hpo := hfk.get hpo (by decide)
      have hbg := hfk.get hbg (by decide)
      have hbd := hfk.get hbd (by decide)
      have hsd := hfk.get hsd (by decide)
      have hse_ := hfk.get hse_ (by decide)
      have hstk := hfk.get hstk (by decide)
      have hq := hfk.get hq (by simp)
      have hki := hfk.get hki (by simp)
      have hne := hfk.get hne (by simp)
      have hot := hfk.get hot (by simp)
      have hra := hfk.get hra (by simp)
      have hs := hfk.get hs (by decide)
      have hco := hfk.get hco (by decide)
      have hre := hfk.get hre (by decide)
      have hfr := hfr.tr hfk (by decide)
      have hlen := hlk.trans hlen
      have hsl := hsk.trans hsl
      change ab_W _ _ _ G3 59 [some (vR a), none, some (vR s), some (vz hw), none, some (vz x_), some (vz p), none, none] [vz v4] _
      refine ab_istore d_ST_tell_59 (Nat.le_of_ble_eq_true rfl) (Nat.le_of_ble_eq_true rfl) rfl ?_
      change ab_W _ _ _ G3 61 [some (vR a), none, some (vR s), some (vz hw), none, some (vz x_), some (vz p), some (vz v4), none] [] _
      refine ab_aload_n d_ST_tell_61 rfl ?_
      refine ab_getf (fs := [vz mst, vR q, vz vr, vz ro, vR cu, vz cn, vR eg, vR po, vR bg, vR bd, vz ct, vR sd, vz sc, vR se_, vz sta, vR stk, vz arv, vj (stp + 1)]) f_ST_19 d_ST_tell_62 ha.2.2 rfl ?_
      refine ab_iload d_ST_tell_65 rfl ?_
      refine ab_aload_n d_ST_tell_67 rfl ?_
      refine ab_getf (fs := [vz mst, vR q, vz vr, vz ro, vR cu, vz cn, vR eg, vR po, vR bg, vR bd, vz ct, vR sd, vz sc, vR se_, vz sta, vR stk, vz arv, vj (stp + 1)]) f_ST_63 d_ST_tell_68 ha.2.2 rfl ?_
      refine zz_iconst d_ST_tell_71 ?_
      refine zz_iadd d_ST_tell_72 ?_
      refine zz_imul d_ST_tell_73 ?_
      obtain ⟨v7, hv7⟩ : ∃ z : Int, z = x_ * (cn + 5) := ⟨_, rfl⟩
      rw [← hv7]
      have hv7b := z_mulb (a := x_) (b := (cn + 5)) (A := 64) (B := 125) (by omega) (by omega)
      rw [← hv7] at hv7b
      change ab_W _ _ _ G3 74 [some (vR a), none, some (vR s), some (vz hw), none, some (vz x_), some (vz p), some (vz v4), none] [vz v7, vR eg] _
      have hm3 : (x_ + 1) * (cn + 5) ≤ 64 * 125 := Int.mul_le_mul (by omega) (by omega) (by omega) (by omega)
      have hm4 : (x_ + 1) * (cn + 5) = x_ * (cn + 5) + (cn + 5) := by rw [Int.add_mul, Int.one_mul]
      refine ab_iload d_ST_tell_74 rfl ?_
      refine zz_iadd d_ST_tell_76 ?_
      refine zz_iald d_ST_tell_77 heg (by omega) ?_
      have hed := jeg x_ v4 (by omega) (by omega) (by omega) (by omega)
      have hjd := jed x_ v4 (by omega) (by omega) (by omega) (by omega)
      rw [← hv7] at hed hjd
      obtain ⟨ed_, hed_⟩ : ∃ z : Int, z = EG (v7 + v4) := ⟨_, rfl⟩
      rw [← hed_] at hed hjd ⊢
      rcases hed with hed | hed
      · change ab_W _ _ _ G3 78 [some (vR a), none, some (vR s), some (vz hw), none, some (vz x_), some (vz p), some (vz v4), none] [vz ed_] _
        refine ab_istore d_ST_tell_78 (Nat.le_of_ble_eq_true rfl) (Nat.le_of_ble_eq_true rfl) rfl ?_
        change ab_W _ _ _ G3 80 [some (vR a), none, some (vR s), some (vz hw), none, some (vz x_), some (vz p), some (vz v4), some (vz ed_)] [] _
        refine ab_iload d_ST_tell_80 rfl ?_
        refine zz_if_ne (tgt := 95) d_ST_tell_82 (by decide) (by omega) (fun c8 => absurd c8 (by omega)) (fun c8 => ?_)
        refine ab_aload_n d_ST_tell_85 rfl ?_
        refine ab_iload d_ST_tell_86 rfl ?_
        refine ab_iload d_ST_tell_88 rfl ?_
        refine ab_callV (d' := d - 1) (as := [vz x_, vz v4]) (st := []) (r := _) (z_ST_makeEdge (o := o) (a := a) (cu := cu) (eg := eg) (po := po) (bg := bg) (bd := bd) (sd := sd) (se_ := se_) (stk := stk) (mst := mst) (vr := vr) (ro := ro) (cn := cn) (ct := ct) (sc := sc) (sta := sta) (arv := arv) (stp := (stp + 1)) (CU := CU) (EG := EG) (PO := PO) (BG := BG) (BD := BD) (SD := SD) (SE := SE) (SK := SK) (q := q) (lq := lq) (ki := ki) (ne := ne) (ot := ot) (cnt := cnt) (fi := fi) (la := la) (ra := ra) (ru := ru) (gr := gr) (wi := wi) (sz := sz) (fl := fl) (ve := ve) (mi := mi) (na := na) (nl := nl) (K := K) (N := N) (O := O) (RR := RR) (nr := nr) (KT := KT) (NT := NT) (OT := OT) (RT := RT) (sg := v4) (s_ := x_) ha hcu hsd hse_ hstk hpo hbg hbd hq hki hne hot hra heg (by omega) jcu (by omega) (by omega) hp hr (by omega) jpo jbg jbd (by omega) (by omega) hT hpu (by omega) jeg (by omega) (by omega) jse jed (by omega)) (fun oc G2 h => by rcases h with ⟨_, _, _, _, _, _, _, _, _, _, _, _, _, h, _⟩ <;> exact ⟨_, h⟩) (by omega) m_ST_makeEdge ml_ST_66 im_ST_makeEdge se_ST_makeEdge c_ST ha.2.2 (Nat.le_of_ble_eq_true rfl) d_ST_tell_90 rfl ?_
        intro v G9 hq
        rcases hq with ⟨v10, ct211, sc212, sta213, st214, ar215, EG216, PO217, BG218, BD219, SD220, SE221, SK222, hv, hfk, hlk, hsk, hNa, hNeg, hNpo, hNbg, hNbd, hNsd, hNse_, hNstk, hq23, hq24, hq25, hq26, hq27, hq28, hq29, hq30, hq31, hq32, hq33⟩
        cases hv
        have hcu := hfk.get hcu (by decide)
        have hq := hfk.get hq (by simp only [List.mem_cons, List.not_mem_nil, or_false]; omega)
        have hki := hfk.get hki (by simp only [List.mem_cons, List.not_mem_nil, or_false]; omega)
        have hne := hfk.get hne (by simp only [List.mem_cons, List.not_mem_nil, or_false]; omega)
        have hot := hfk.get hot (by simp only [List.mem_cons, List.not_mem_nil, or_false]; omega)
        have hra := hfk.get hra (by simp only [List.mem_cons, List.not_mem_nil, or_false]; omega)
        have hs := hfk.get hs (by decide)
        have hco := hfk.get hco (by decide)
        have hre := hfk.get hre (by decide)
        have hfr := hfr.tr hfk (by decide)
        have hlen := hlk.trans hlen
        have hsl := hsk.trans hsl
        have ha := hNa
        have heg := hNeg
        have hpo := hNpo
        have hbg := hNbg
        have hbd := hNbd
        have hsd := hNsd
        have hse_ := hNse_
        have hstk := hNstk
        change ab_W _ _ _ G9 93 [some (vR a), none, some (vR s), some (vz hw), none, some (vz x_), some (vz p), some (vz v4), some (vz ed_)] [vz v10] _
        refine ab_istore d_ST_tell_93 (Nat.le_of_ble_eq_true rfl) (Nat.le_of_ble_eq_true rfl) rfl ?_
        change ab_W _ _ _ G9 95 [some (vR a), none, some (vR s), some (vz hw), none, some (vz x_), some (vz p), some (vz v4), some (vz v10)] [] _
        refine ab_iload d_ST_tell_95 rfl ?_
        refine zz_iconst d_ST_tell_97 ?_
        refine zz_iand 1 2 d_ST_tell_98 (by decide) (by decide) (by decide) (by decide) ?_
        refine zz_if_eq (tgt := 114) d_ST_tell_99 (by decide) (by omega) (fun c34 => ?_) (fun c34 => ?_)
        · refine ab_iload d_ST_tell_114 rfl ?_
          refine zz_iconst d_ST_tell_116 ?_
          refine zz_ishr 1 2 d_ST_tell_117 (by decide) (by decide) (by decide) (by decide) (by omega) ?_
          refine zz_iconst d_ST_tell_118 ?_
          refine zz_isub d_ST_tell_119 ?_
          refine ab_istore d_ST_tell_120 (Nat.le_of_ble_eq_true rfl) (Nat.le_of_ble_eq_true rfl) rfl ?_
          change ab_W _ _ _ G9 122 [some (vR a), none, some (vR s), some (vz hw), none, some (vz ((v10 / 2) - 1)), some (vz p), some (vz v4), some (vz v10)] [] _
          have htw_ : tlW KT NT OT RT f n hw fi la ro fr9 Rs PO217 BG218 BD219 (p + 1) ((v10 / 2) - 1) := tlJ_s htf (jtw.j (by omega)) hq6 (by omega) (ents_kp jpo jbg (by omega)) hq31 (by omega)
          refine ab_aload_n d_ST_tell_122 rfl ?_
          refine ab_getf (fs := [vz mst, vR q, vz vr, vz ro, vR cu, vz cn, vR eg, vR po, vR bg, vR bd, vz ct211, vR sd, vz sc212, vR se_, vz sta213, vR stk, vz ar215, vj st214]) f_ST_70 d_ST_tell_123 ha.2.2 rfl ?_
          refine zz_if_ne (tgt := 150) d_ST_tell_126 (by decide) (by omega) (fun c35 => ?_) (fun c35 => ?_)
          · refine zz_iinc d_ST_tell_150 rfl (Nat.le_of_ble_eq_true rfl) (Nat.le_of_ble_eq_true rfl) rfl ?_
            change ab_W _ _ _ G9 153 [some (vR a), none, some (vR s), some (vz hw), none, some (vz ((v10 / 2) - 1)), some (vz (p + 1)), some (vz v4), some (vz v10)] [] _
            refine ab_goto (tgt := 33) d_ST_tell_153 (by decide) ?_
            refine ab_less (L' := [some (vR a), none, some (vR s), some (vz hw), none, some (vz ((v10 / 2) - 1)), some (vz (p + 1)), none, none]) (fun i v h => by rcases i with _ | _ | _ | _ | _ | _ | _ | _ | _ | i <;> first | exact h | (simp at h)) ?_
            exact ih (ct := ct211) (sc := sc212) (sta := sta213) (arv := ar215) (stp := st214) (EG := EG216) (PO := PO217) (BG := BG218) (BD := BD219) (SD := SD220) (SE := SE221) (SK := SK222) (p := (p + 1)) (x_ := ((v10 / 2) - 1)) ha hcu heg hpo hbg hbd hsd hse_ hstk hq hki hne hot hra hs hco hre (by omega) (by omega) hq24 hq25 hq27 hq26 (by omega) (by omega) (by omega) hq30 hq32 htw_ (by omega) (by omega) hfr hlen hsl (by omega) hk0
          · have jb := hq24.st ((v10 / 2) - 1) (by omega) (by omega)
            refine ab_aload_n d_ST_tell_129 rfl ?_
            refine ab_getf (fs := [vz mst, vR q, vz vr, vz ro, vR cu, vz cn, vR eg, vR po, vR bg, vR bd, vz ct211, vR sd, vz sc212, vR se_, vz sta213, vR stk, vz ar215, vj st214]) f_ST_25 d_ST_tell_130 ha.2.2 rfl ?_
            refine ab_iload d_ST_tell_133 rfl ?_
            refine zz_iald d_ST_tell_135 hbg (by omega) ?_
            refine ab_aload_n d_ST_tell_136 rfl ?_
            refine ab_getf (fs := [vz mst, vR q, vz vr, vz ro, vR cu, vz cn, vR eg, vR po, vR bg, vR bd, vz ct211, vR sd, vz sc212, vR se_, vz sta213, vR stk, vz ar215, vj st214]) f_ST_25 d_ST_tell_137 ha.2.2 rfl ?_
            refine ab_iload d_ST_tell_140 rfl ?_
            refine zz_iconst d_ST_tell_142 ?_
            refine zz_iadd d_ST_tell_143 ?_
            refine zz_iald d_ST_tell_144 hbg (by omega) ?_
            refine zz_icmp_ne (tgt := 150) d_ST_tell_145 (by decide) (by omega) (by omega) (fun c36 => ?_) (fun c36 => ?_)
            · refine zz_iinc d_ST_tell_150 rfl (Nat.le_of_ble_eq_true rfl) (Nat.le_of_ble_eq_true rfl) rfl ?_
              change ab_W _ _ _ G9 153 [some (vR a), none, some (vR s), some (vz hw), none, some (vz ((v10 / 2) - 1)), some (vz (p + 1)), some (vz v4), some (vz v10)] [] _
              refine ab_goto (tgt := 33) d_ST_tell_153 (by decide) ?_
              refine ab_less (L' := [some (vR a), none, some (vR s), some (vz hw), none, some (vz ((v10 / 2) - 1)), some (vz (p + 1)), none, none]) (fun i v h => by rcases i with _ | _ | _ | _ | _ | _ | _ | _ | _ | i <;> first | exact h | (simp at h)) ?_
              exact ih (ct := ct211) (sc := sc212) (sta := sta213) (arv := ar215) (stp := st214) (EG := EG216) (PO := PO217) (BG := BG218) (BD := BD219) (SD := SD220) (SE := SE221) (SK := SK222) (p := (p + 1)) (x_ := ((v10 / 2) - 1)) ha hcu heg hpo hbg hbd hsd hse_ hstk hq hki hne hot hra hs hco hre (by omega) (by omega) hq24 hq25 hq27 hq26 (by omega) (by omega) (by omega) hq30 hq32 htw_ (by omega) (by omega) hfr hlen hsl (by omega) hk0
            · refine zz_iconst d_ST_tell_148 ?_
              refine zz_iret rfl d_ST_tell_149 ?_
              exact hk0 _ _ _ _ _ _ _ _ _ _ _ _ _ _ ha heg hpo hbg hbd hsd hse_ hstk (by omega) (by exact hq24) (by exact hq25) (by exact hq27) (by exact hq26) (by exact hq30) (by exact hq32) (by omega) (by omega) (by exact tlW_e htw_ (by omega) (by omega)) (by omega) hfr hlen hsl
        · refine ab_iload_n d_ST_tell_102 rfl ?_
          refine zz_iconst d_ST_tell_103 ?_
          refine zz_icmp_ne (tgt := 112) d_ST_tell_104 (by decide) (by omega) (by decide) (fun c37 => ?_) (fun c37 => ?_)
          · refine zz_iconst d_ST_tell_112 ?_
            refine zz_iret rfl d_ST_tell_113 ?_
            exact hk0 _ _ _ _ _ _ _ _ _ _ _ _ _ _ ha heg hpo hbg hbd hsd hse_ hstk (by omega) (by exact hq24) (by exact hq25) (by exact hq27) (by exact hq26) (by exact hq30) (by exact hq32) (by omega) (by omega) (by exact tlJ_y htf (jtw.j (by omega)) hq6 (by omega) hq31 (by omega) (by omega)) (by omega) hfr hlen hsl
          · refine ab_iload d_ST_tell_107 rfl ?_
            refine zz_if_ne (tgt := 114) d_ST_tell_109 (by decide) (by omega) (fun c38 => ?_) (fun c38 => ?_)
            · refine ab_iload d_ST_tell_114 rfl ?_
              refine zz_iconst d_ST_tell_116 ?_
              refine zz_ishr 1 2 d_ST_tell_117 (by decide) (by decide) (by decide) (by decide) (by omega) ?_
              refine zz_iconst d_ST_tell_118 ?_
              refine zz_isub d_ST_tell_119 ?_
              refine ab_istore d_ST_tell_120 (Nat.le_of_ble_eq_true rfl) (Nat.le_of_ble_eq_true rfl) rfl ?_
              change ab_W _ _ _ G9 122 [some (vR a), none, some (vR s), some (vz hw), none, some (vz ((v10 / 2) - 1)), some (vz p), some (vz v4), some (vz v10)] [] _
              have htw_ : tlW KT NT OT RT f n hw fi la ro fr9 Rs PO217 BG218 BD219 (p + 1) ((v10 / 2) - 1) := tlJ_s htf (jtw.j (by omega)) hq6 (by omega) (ents_kp jpo jbg (by omega)) hq31 (by omega)
              refine ab_aload_n d_ST_tell_122 rfl ?_
              refine ab_getf (fs := [vz mst, vR q, vz vr, vz ro, vR cu, vz cn, vR eg, vR po, vR bg, vR bd, vz ct211, vR sd, vz sc212, vR se_, vz sta213, vR stk, vz ar215, vj st214]) f_ST_70 d_ST_tell_123 ha.2.2 rfl ?_
              refine zz_if_ne (tgt := 150) d_ST_tell_126 (by decide) (by omega) (fun c39 => ?_) (fun c39 => ?_)
              · refine zz_iinc d_ST_tell_150 rfl (Nat.le_of_ble_eq_true rfl) (Nat.le_of_ble_eq_true rfl) rfl ?_
                change ab_W _ _ _ G9 153 [some (vR a), none, some (vR s), some (vz hw), none, some (vz ((v10 / 2) - 1)), some (vz (p + 1)), some (vz v4), some (vz v10)] [] _
                refine ab_goto (tgt := 33) d_ST_tell_153 (by decide) ?_
                refine ab_less (L' := [some (vR a), none, some (vR s), some (vz hw), none, some (vz ((v10 / 2) - 1)), some (vz (p + 1)), none, none]) (fun i v h => by rcases i with _ | _ | _ | _ | _ | _ | _ | _ | _ | i <;> first | exact h | (simp at h)) ?_
                exact ih (ct := ct211) (sc := sc212) (sta := sta213) (arv := ar215) (stp := st214) (EG := EG216) (PO := PO217) (BG := BG218) (BD := BD219) (SD := SD220) (SE := SE221) (SK := SK222) (p := (p + 1)) (x_ := ((v10 / 2) - 1)) ha hcu heg hpo hbg hbd hsd hse_ hstk hq hki hne hot hra hs hco hre (by omega) (by omega) hq24 hq25 hq27 hq26 (by omega) (by omega) (by omega) hq30 hq32 htw_ (by omega) (by omega) hfr hlen hsl (by omega) hk0
              · have jb := hq24.st ((v10 / 2) - 1) (by omega) (by omega)
                refine ab_aload_n d_ST_tell_129 rfl ?_
                refine ab_getf (fs := [vz mst, vR q, vz vr, vz ro, vR cu, vz cn, vR eg, vR po, vR bg, vR bd, vz ct211, vR sd, vz sc212, vR se_, vz sta213, vR stk, vz ar215, vj st214]) f_ST_25 d_ST_tell_130 ha.2.2 rfl ?_
                refine ab_iload d_ST_tell_133 rfl ?_
                refine zz_iald d_ST_tell_135 hbg (by omega) ?_
                refine ab_aload_n d_ST_tell_136 rfl ?_
                refine ab_getf (fs := [vz mst, vR q, vz vr, vz ro, vR cu, vz cn, vR eg, vR po, vR bg, vR bd, vz ct211, vR sd, vz sc212, vR se_, vz sta213, vR stk, vz ar215, vj st214]) f_ST_25 d_ST_tell_137 ha.2.2 rfl ?_
                refine ab_iload d_ST_tell_140 rfl ?_
                refine zz_iconst d_ST_tell_142 ?_
                refine zz_iadd d_ST_tell_143 ?_
                refine zz_iald d_ST_tell_144 hbg (by omega) ?_
                refine zz_icmp_ne (tgt := 150) d_ST_tell_145 (by decide) (by omega) (by omega) (fun c40 => ?_) (fun c40 => ?_)
                · refine zz_iinc d_ST_tell_150 rfl (Nat.le_of_ble_eq_true rfl) (Nat.le_of_ble_eq_true rfl) rfl ?_
                  change ab_W _ _ _ G9 153 [some (vR a), none, some (vR s), some (vz hw), none, some (vz ((v10 / 2) - 1)), some (vz (p + 1)), some (vz v4), some (vz v10)] [] _
                  refine ab_goto (tgt := 33) d_ST_tell_153 (by decide) ?_
                  refine ab_less (L' := [some (vR a), none, some (vR s), some (vz hw), none, some (vz ((v10 / 2) - 1)), some (vz (p + 1)), none, none]) (fun i v h => by rcases i with _ | _ | _ | _ | _ | _ | _ | _ | _ | i <;> first | exact h | (simp at h)) ?_
                  exact ih (ct := ct211) (sc := sc212) (sta := sta213) (arv := ar215) (stp := st214) (EG := EG216) (PO := PO217) (BG := BG218) (BD := BD219) (SD := SD220) (SE := SE221) (SK := SK222) (p := (p + 1)) (x_ := ((v10 / 2) - 1)) ha hcu heg hpo hbg hbd hsd hse_ hstk hq hki hne hot hra hs hco hre (by omega) (by omega) hq24 hq25 hq27 hq26 (by omega) (by omega) (by omega) hq30 hq32 htw_ (by omega) (by omega) hfr hlen hsl (by omega) hk0
                · refine zz_iconst d_ST_tell_148 ?_
                  refine zz_iret rfl d_ST_tell_149 ?_
                  exact hk0 _ _ _ _ _ _ _ _ _ _ _ _ _ _ ha heg hpo hbg hbd hsd hse_ hstk (by omega) (by exact hq24) (by exact hq25) (by exact hq27) (by exact hq26) (by exact hq30) (by exact hq32) (by omega) (by omega) (by exact tlW_e htw_ (by omega) (by omega)) (by omega) hfr hlen hsl
            · refine zz_iconst d_ST_tell_112 ?_
              refine zz_iret rfl d_ST_tell_113 ?_
              exact hk0 _ _ _ _ _ _ _ _ _ _ _ _ _ _ ha heg hpo hbg hbd hsd hse_ hstk (by omega) (by exact hq24) (by exact hq25) (by exact hq27) (by exact hq26) (by exact hq30) (by exact hq32) (by omega) (by omega) (by exact tlJ_y htf (jtw.j (by omega)) hq6 (by omega) hq31 (by omega) (by omega)) (by omega) hfr hlen hsl
      · change ab_W _ _ _ G3 78 [some (vR a), none, some (vR s), some (vz hw), none, some (vz x_), some (vz p), some (vz v4), none] [vz ed_] _
        have hev_ : edV KT NT OT RT fi la ro CU (kpS PO BG x_) (BD x_) v4 ed_ PO BG BD ct := (hjd (by omega)).vv
        refine ab_istore d_ST_tell_78 (Nat.le_of_ble_eq_true rfl) (Nat.le_of_ble_eq_true rfl) rfl ?_
        change ab_W _ _ _ G3 80 [some (vR a), none, some (vR s), some (vz hw), none, some (vz x_), some (vz p), some (vz v4), some (vz ed_)] [] _
        refine ab_iload d_ST_tell_80 rfl ?_
        refine zz_if_ne (tgt := 95) d_ST_tell_82 (by decide) (by omega) (fun c41 => ?_) (fun c41 => absurd c41 (by omega))
        refine ab_iload d_ST_tell_95 rfl ?_
        refine zz_iconst d_ST_tell_97 ?_
        refine zz_iand 1 2 d_ST_tell_98 (by decide) (by decide) (by decide) (by decide) ?_
        refine zz_if_eq (tgt := 114) d_ST_tell_99 (by decide) (by omega) (fun c42 => ?_) (fun c42 => ?_)
        · refine ab_iload d_ST_tell_114 rfl ?_
          refine zz_iconst d_ST_tell_116 ?_
          refine zz_ishr 1 2 d_ST_tell_117 (by decide) (by decide) (by decide) (by decide) (by omega) ?_
          refine zz_iconst d_ST_tell_118 ?_
          refine zz_isub d_ST_tell_119 ?_
          refine ab_istore d_ST_tell_120 (Nat.le_of_ble_eq_true rfl) (Nat.le_of_ble_eq_true rfl) rfl ?_
          change ab_W _ _ _ G3 122 [some (vR a), none, some (vR s), some (vz hw), none, some (vz ((ed_ / 2) - 1)), some (vz p), some (vz v4), some (vz ed_)] [] _
          have htw_ : tlW KT NT OT RT f n hw fi la ro fr9 Rs PO BG BD (p + 1) ((ed_ / 2) - 1) := tlJ_s htf (jtw.j (by omega)) hq6 (by omega) (ents_kp jpo jbg (by omega)) hev_ (by omega)
          refine ab_aload_n d_ST_tell_122 rfl ?_
          refine ab_getf (fs := [vz mst, vR q, vz vr, vz ro, vR cu, vz cn, vR eg, vR po, vR bg, vR bd, vz ct, vR sd, vz sc, vR se_, vz sta, vR stk, vz arv, vj (stp + 1)]) f_ST_70 d_ST_tell_123 ha.2.2 rfl ?_
          refine zz_if_ne (tgt := 150) d_ST_tell_126 (by decide) (by omega) (fun c43 => ?_) (fun c43 => ?_)
          · refine zz_iinc d_ST_tell_150 rfl (Nat.le_of_ble_eq_true rfl) (Nat.le_of_ble_eq_true rfl) rfl ?_
            change ab_W _ _ _ G3 153 [some (vR a), none, some (vR s), some (vz hw), none, some (vz ((ed_ / 2) - 1)), some (vz (p + 1)), some (vz v4), some (vz ed_)] [] _
            refine ab_goto (tgt := 33) d_ST_tell_153 (by decide) ?_
            refine ab_less (L' := [some (vR a), none, some (vR s), some (vz hw), none, some (vz ((ed_ / 2) - 1)), some (vz (p + 1)), none, none]) (fun i v h => by rcases i with _ | _ | _ | _ | _ | _ | _ | _ | _ | i <;> first | exact h | (simp at h)) ?_
            exact ih (ct := ct) (sc := sc) (sta := sta) (arv := arv) (stp := (stp + 1)) (EG := EG) (PO := PO) (BG := BG) (BD := BD) (SD := SD) (SE := SE) (SK := SK) (p := (p + 1)) (x_ := ((ed_ / 2) - 1)) ha hcu heg hpo hbg hbd hsd hse_ hstk hq hki hne hot hra hs hco hre (by omega) (by omega) jbg jpo jbd jeg (by omega) (by omega) (by omega) jse jed htw_ (by omega) (by omega) hfr hlen hsl (by omega) hk0
          · have jb := jbg.st ((ed_ / 2) - 1) (by omega) (by omega)
            refine ab_aload_n d_ST_tell_129 rfl ?_
            refine ab_getf (fs := [vz mst, vR q, vz vr, vz ro, vR cu, vz cn, vR eg, vR po, vR bg, vR bd, vz ct, vR sd, vz sc, vR se_, vz sta, vR stk, vz arv, vj (stp + 1)]) f_ST_25 d_ST_tell_130 ha.2.2 rfl ?_
            refine ab_iload d_ST_tell_133 rfl ?_
            refine zz_iald d_ST_tell_135 hbg (by omega) ?_
            refine ab_aload_n d_ST_tell_136 rfl ?_
            refine ab_getf (fs := [vz mst, vR q, vz vr, vz ro, vR cu, vz cn, vR eg, vR po, vR bg, vR bd, vz ct, vR sd, vz sc, vR se_, vz sta, vR stk, vz arv, vj (stp + 1)]) f_ST_25 d_ST_tell_137 ha.2.2 rfl ?_
            refine ab_iload d_ST_tell_140 rfl ?_
            refine zz_iconst d_ST_tell_142 ?_
            refine zz_iadd d_ST_tell_143 ?_
            refine zz_iald d_ST_tell_144 hbg (by omega) ?_
            refine zz_icmp_ne (tgt := 150) d_ST_tell_145 (by decide) (by omega) (by omega) (fun c44 => ?_) (fun c44 => ?_)
            · refine zz_iinc d_ST_tell_150 rfl (Nat.le_of_ble_eq_true rfl) (Nat.le_of_ble_eq_true rfl) rfl ?_
              change ab_W _ _ _ G3 153 [some (vR a), none, some (vR s), some (vz hw), none, some (vz ((ed_ / 2) - 1)), some (vz (p + 1)), some (vz v4), some (vz ed_)] [] _
              refine ab_goto (tgt := 33) d_ST_tell_153 (by decide) ?_
              refine ab_less (L' := [some (vR a), none, some (vR s), some (vz hw), none, some (vz ((ed_ / 2) - 1)), some (vz (p + 1)), none, none]) (fun i v h => by rcases i with _ | _ | _ | _ | _ | _ | _ | _ | _ | i <;> first | exact h | (simp at h)) ?_
              exact ih (ct := ct) (sc := sc) (sta := sta) (arv := arv) (stp := (stp + 1)) (EG := EG) (PO := PO) (BG := BG) (BD := BD) (SD := SD) (SE := SE) (SK := SK) (p := (p + 1)) (x_ := ((ed_ / 2) - 1)) ha hcu heg hpo hbg hbd hsd hse_ hstk hq hki hne hot hra hs hco hre (by omega) (by omega) jbg jpo jbd jeg (by omega) (by omega) (by omega) jse jed htw_ (by omega) (by omega) hfr hlen hsl (by omega) hk0
            · refine zz_iconst d_ST_tell_148 ?_
              refine zz_iret rfl d_ST_tell_149 ?_
              exact hk0 _ _ _ _ _ _ _ _ _ _ _ _ _ _ ha heg hpo hbg hbd hsd hse_ hstk (by omega) (by exact jbg) (by exact jpo) (by exact jbd) (by exact jeg) (by exact jse) (by exact jed) (by omega) (by omega) (by exact tlW_e htw_ (by omega) (by omega)) (by omega) hfr hlen hsl
        · refine ab_iload_n d_ST_tell_102 rfl ?_
          refine zz_iconst d_ST_tell_103 ?_
          refine zz_icmp_ne (tgt := 112) d_ST_tell_104 (by decide) (by omega) (by decide) (fun c45 => ?_) (fun c45 => ?_)
          · refine zz_iconst d_ST_tell_112 ?_
            refine zz_iret rfl d_ST_tell_113 ?_
            exact hk0 _ _ _ _ _ _ _ _ _ _ _ _ _ _ ha heg hpo hbg hbd hsd hse_ hstk (by omega) (by exact jbg) (by exact jpo) (by exact jbd) (by exact jeg) (by exact jse) (by exact jed) (by omega) (by omega) (by exact tlJ_y htf (jtw.j (by omega)) hq6 (by omega) hev_ (by omega) (by omega)) (by omega) hfr hlen hsl
          · refine ab_iload d_ST_tell_107 rfl ?_
            refine zz_if_ne (tgt := 114) d_ST_tell_109 (by decide) (by omega) (fun c46 => ?_) (fun c46 => ?_)
            · refine ab_iload d_ST_tell_114 rfl ?_
              refine zz_iconst d_ST_tell_116 ?_
              refine zz_ishr 1 2 d_ST_tell_117 (by decide) (by decide) (by decide) (by decide) (by omega) ?_
              refine zz_iconst d_ST_tell_118 ?_
              refine zz_isub d_ST_tell_119 ?_
              refine ab_istore d_ST_tell_120 (Nat.le_of_ble_eq_true rfl) (Nat.le_of_ble_eq_true rfl) rfl ?_
              change ab_W _ _ _ G3 122 [some (vR a), none, some (vR s), some (vz hw), none, some (vz ((ed_ / 2) - 1)), some (vz p), some (vz v4), some (vz ed_)] [] _
              have htw_ : tlW KT NT OT RT f n hw fi la ro fr9 Rs PO BG BD (p + 1) ((ed_ / 2) - 1) := tlJ_s htf (jtw.j (by omega)) hq6 (by omega) (ents_kp jpo jbg (by omega)) hev_ (by omega)
              refine ab_aload_n d_ST_tell_122 rfl ?_
              refine ab_getf (fs := [vz mst, vR q, vz vr, vz ro, vR cu, vz cn, vR eg, vR po, vR bg, vR bd, vz ct, vR sd, vz sc, vR se_, vz sta, vR stk, vz arv, vj (stp + 1)]) f_ST_70 d_ST_tell_123 ha.2.2 rfl ?_
              refine zz_if_ne (tgt := 150) d_ST_tell_126 (by decide) (by omega) (fun c47 => ?_) (fun c47 => ?_)
              · refine zz_iinc d_ST_tell_150 rfl (Nat.le_of_ble_eq_true rfl) (Nat.le_of_ble_eq_true rfl) rfl ?_
                change ab_W _ _ _ G3 153 [some (vR a), none, some (vR s), some (vz hw), none, some (vz ((ed_ / 2) - 1)), some (vz (p + 1)), some (vz v4), some (vz ed_)] [] _
                refine ab_goto (tgt := 33) d_ST_tell_153 (by decide) ?_
                refine ab_less (L' := [some (vR a), none, some (vR s), some (vz hw), none, some (vz ((ed_ / 2) - 1)), some (vz (p + 1)), none, none]) (fun i v h => by rcases i with _ | _ | _ | _ | _ | _ | _ | _ | _ | i <;> first | exact h | (simp at h)) ?_
                exact ih (ct := ct) (sc := sc) (sta := sta) (arv := arv) (stp := (stp + 1)) (EG := EG) (PO := PO) (BG := BG) (BD := BD) (SD := SD) (SE := SE) (SK := SK) (p := (p + 1)) (x_ := ((ed_ / 2) - 1)) ha hcu heg hpo hbg hbd hsd hse_ hstk hq hki hne hot hra hs hco hre (by omega) (by omega) jbg jpo jbd jeg (by omega) (by omega) (by omega) jse jed htw_ (by omega) (by omega) hfr hlen hsl (by omega) hk0
              · have jb := jbg.st ((ed_ / 2) - 1) (by omega) (by omega)
                refine ab_aload_n d_ST_tell_129 rfl ?_
                refine ab_getf (fs := [vz mst, vR q, vz vr, vz ro, vR cu, vz cn, vR eg, vR po, vR bg, vR bd, vz ct, vR sd, vz sc, vR se_, vz sta, vR stk, vz arv, vj (stp + 1)]) f_ST_25 d_ST_tell_130 ha.2.2 rfl ?_
                refine ab_iload d_ST_tell_133 rfl ?_
                refine zz_iald d_ST_tell_135 hbg (by omega) ?_
                refine ab_aload_n d_ST_tell_136 rfl ?_
                refine ab_getf (fs := [vz mst, vR q, vz vr, vz ro, vR cu, vz cn, vR eg, vR po, vR bg, vR bd, vz ct, vR sd, vz sc, vR se_, vz sta, vR stk, vz arv, vj (stp + 1)]) f_ST_25 d_ST_tell_137 ha.2.2 rfl ?_
                refine ab_iload d_ST_tell_140 rfl ?_
                refine zz_iconst d_ST_tell_142 ?_
                refine zz_iadd d_ST_tell_143 ?_
                refine zz_iald d_ST_tell_144 hbg (by omega) ?_
                refine zz_icmp_ne (tgt := 150) d_ST_tell_145 (by decide) (by omega) (by omega) (fun c48 => ?_) (fun c48 => ?_)
                · refine zz_iinc d_ST_tell_150 rfl (Nat.le_of_ble_eq_true rfl) (Nat.le_of_ble_eq_true rfl) rfl ?_
                  change ab_W _ _ _ G3 153 [some (vR a), none, some (vR s), some (vz hw), none, some (vz ((ed_ / 2) - 1)), some (vz (p + 1)), some (vz v4), some (vz ed_)] [] _
                  refine ab_goto (tgt := 33) d_ST_tell_153 (by decide) ?_
                  refine ab_less (L' := [some (vR a), none, some (vR s), some (vz hw), none, some (vz ((ed_ / 2) - 1)), some (vz (p + 1)), none, none]) (fun i v h => by rcases i with _ | _ | _ | _ | _ | _ | _ | _ | _ | i <;> first | exact h | (simp at h)) ?_
                  exact ih (ct := ct) (sc := sc) (sta := sta) (arv := arv) (stp := (stp + 1)) (EG := EG) (PO := PO) (BG := BG) (BD := BD) (SD := SD) (SE := SE) (SK := SK) (p := (p + 1)) (x_ := ((ed_ / 2) - 1)) ha hcu heg hpo hbg hbd hsd hse_ hstk hq hki hne hot hra hs hco hre (by omega) (by omega) jbg jpo jbd jeg (by omega) (by omega) (by omega) jse jed htw_ (by omega) (by omega) hfr hlen hsl (by omega) hk0
                · refine zz_iconst d_ST_tell_148 ?_
                  refine zz_iret rfl d_ST_tell_149 ?_
                  exact hk0 _ _ _ _ _ _ _ _ _ _ _ _ _ _ ha heg hpo hbg hbd hsd hse_ hstk (by omega) (by exact jbg) (by exact jpo) (by exact jbd) (by exact jeg) (by exact jse) (by exact jed) (by omega) (by omega) (by exact tlW_e htw_ (by omega) (by omega)) (by omega) hfr hlen hsl
            · refine zz_iconst d_ST_tell_112 ?_
              refine zz_iret rfl d_ST_tell_113 ?_
              exact hk0 _ _ _ _ _ _ _ _ _ _ _ _ _ _ ha heg hpo hbg hbd hsd hse_ hstk (by omega) (by exact jbg) (by exact jpo) (by exact jbd) (by exact jeg) (by exact jse) (by exact jed) (by omega) (by omega) (by exact tlJ_y htf (jtw.j (by omega)) hq6 (by omega) hev_ (by omega) (by omega)) (by omega) hfr hlen hsl
set_option maxRecDepth 100000 in
set_option maxHeartbeats 4000000 in
theorem z_ST_tell {X : ab_X} {d : Nat} {o : Nat → Nat} {G : ab_G} {a : Nat} {cu : Nat} {eg : Nat} {po : Nat} {bg : Nat} {bd : Nat} {sd : Nat} {se_ : Nat} {stk : Nat} {mst : Int} {q0 : Value} {vr : Int} {ro : Int} {cn : Int} {ct : Int} {sc : Int} {sta : Int} {arv : Int} {stp : Int} {CU : Int → Int} {EG : Int → Int} {PO : Int → Int} {BG : Int → Int} {BD : Int → Int} {SD : Int → Int} {SE : Int → Int} {SK : Int → Int} {q : Nat} {lq : Nat} {ki : Nat} {ne : Nat} {ot : Nat} {cnt : Int} {fi : Int} {la : Int} {ra : Nat} {ru : Int} {gr : Int} {wi : Int} {sz : Int} {fl : Int} {ve : Int} {mi : Int} {na : Nat} {nl : Nat} {K : Int → Int} {N : Int → Int} {O : Int → Int} {RR : Int → Int} {nr : Nat} {s : Nat} {by_ : Nat} {co : Nat} {re : Nat} {ho : Nat} {n : Int} {f : Int → Int} {C : Int → Int} {Rs : Int → Int} {H : Int → Int} {m : Nat} {mc : Nat} {KT : Int → Int} {NT : Int → Int} {OT : Int → Int} {RT : Int → Int} {p : Int} {hw : Int} {vc : Int} {v9 : Sn} (ha : cc o G a 60 (ab_ob 8 [vz mst, q0, vz vr, vz ro, vR cu, vz cn, vR eg, vR po, vR bg, vR bd, vz ct, vR sd, vz sc, vR se_, vz sta, vR stk, vz arv, vj stp])) (hcu : cc o G cu 61 (za 120 CU)) (heg : cc o G eg 62 (za 8000 EG)) (hpo : cc o G po 63 (za 8192 PO)) (hbg : cc o G bg 64 (za 65 BG)) (hbd : cc o G bd 65 (za 64 BD)) (hsd : cc o G sd 66 (za 2048 SD)) (hse_ : cc o G se_ 67 (za 3072 SE)) (hstk : cc o G stk 68 (za 809 SK)) (h17 : cc o G 17 17 (za 12 zFC)) (hq : cc o G q lq (ab_ob 5 [vR ki, vR ne, vR ot, vz cnt, vz fi, vz la, vR ra, vz ru, vz gr, vz wi, vz sz, vz fl, vz ve, vz mi, vR na, vR nl])) (hki : cc o G ki (lq + 1) (za 808 K)) (hne : cc o G ne (lq + 2) (za 808 N)) (hot : cc o G ot (lq + 3) (za 808 O)) (hra : cc o G ra (lq + 4) (za nr RR)) (hs : cc o G s 26 (ab_ob 9 [vR by_, vR co, vR re, vR ho, vz n])) (hby_ : cc o G by_ 27 (za m f)) (hco : cc o G co 28 (za mc C)) (hre : cc o G re 29 (za mc Rs)) (cq : 100 ≤ lq ∧ 0 ≤ cnt ∧ cnt ≤ 808 ∧ ↑nr ≤ (100000 : Int)) (hp : prok K N O RR cnt ↑nr wi) (hr : ∀ k : Int, 0 ≤ k → k < ↑nr → 0 ≤ RR k ∧ RR k ≤ 1114111) (hru : 0 ≤ ru ∧ ru ≤ ↑nr) (hch : rch RR ru) (jcu : rgs CU 120 0 1114112) (ccn : 0 ≤ cn ∧ cn ≤ 121) (cms : 4 ≤ mst ∧ mst ≤ 64 ∧ 0 ≤ ct ∧ ct ≤ mst) (cv : 0 ≤ vr ∧ vr ≤ 100000 ∧ 0 ≤ ve ∧ ve ≤ 100000) (hvc : vr = ve → vc = cnt) (jbg : bgo BG ct) (jpo : ents PO (BG ct) vc) (jeg : ego EG ct (cn + 5)) (jbd : rgs BD 64 0 7) (cro : 0 ≤ ro ∧ ro ≤ 1) (cfi : 0 ≤ fi ∧ fi < cnt ∧ 0 ≤ la ∧ la ≤ 1) (csu : 0 ≤ n ∧ n ≤ ↑m ∧ 32 ≤ m ∧ m ≤ 2000 ∧ mc = m + 1) (hsu : suok f C Rs H n) (hb : bytes f n) (chw : 0 ≤ hw ∧ hw ≤ 2) (cp : 0 ≤ p ∧ p ≤ n) (car : 0 ≤ arv ∧ arv ≤ 1) (csc : 0 ≤ sc ∧ sc ≤ 2048) (hT : trQ K N O RR cnt ru KT NT OT RT) (hpu : prok K N O RR cnt ru wi) (hq0 : vr = ve → stQR KT NT OT RT fi la ro cnt CU cn PO BG BD EG ct) (ck9 : K 0 = 9) (csta : 0 ≤ sta ∧ sta ≤ 1700000000) (jse : rgs SE 3072 0 sta) (hla : laI la K cnt) (hpm : prM K N O RR fi v9) (hd : 8 ≤ d) : ab_F X d y_ST_tell (.code y_ST_tell b_ST_tell 9 (some (.int))) [vR a, vR q, vR s, vz hw, vz p] G (fun oc G2 => ∃ v : Int, ∃ vr2 : Int, ∃ cn2 : Int, ∃ ro2 : Int, ∃ CU2 : Int → Int, ∃ ct2 : Int, ∃ sc2 : Int, ∃ sta2 : Int, ∃ st2 : Int, ∃ ar2 : Int, ∃ EG2 : Int → Int, ∃ PO2 : Int → Int, ∃ BG2 : Int → Int, ∃ BD2 : Int → Int, ∃ SD2 : Int → Int, ∃ SE2 : Int → Int, ∃ SK2 : Int → Int, oc = .returned (some (vz v)) ∧ fx o o [60, 61, 62, 63, 64, 65, 66, 67, 68] G G2 ∧ G2.length = G.length ∧ ab_slots G2 = ab_slots G ∧ cc o G2 a 60 (ab_ob 8 [vz mst, vR q, vz vr2, vz ro2, vR cu, vz cn2, vR eg, vR po, vR bg, vR bd, vz ct2, vR sd, vz sc2, vR se_, vz sta2, vR stk, vz ar2, vj st2]) ∧ cc o G2 cu 61 (za 120 CU2) ∧ cc o G2 eg 62 (za 8000 EG2) ∧ cc o G2 po 63 (za 8192 PO2) ∧ cc o G2 bg 64 (za 65 BG2) ∧ cc o G2 bd 65 (za 64 BD2) ∧ cc o G2 sd 66 (za 2048 SD2) ∧ cc o G2 se_ 67 (za 3072 SE2) ∧ cc o G2 stk 68 (za 809 SK2) ∧ (0 ≤ ct2 ∧ ct2 ≤ mst ∧ 0 ≤ ar2 ∧ ar2 ≤ 1 ∧ 0 ≤ sc2 ∧ sc2 ≤ 2048) ∧ (bgo BG2 ct2) ∧ (ents PO2 (BG2 ct2) cnt) ∧ (rgs BD2 64 0 7) ∧ (ego EG2 ct2 (cn2 + 5)) ∧ (rgs SE2 3072 0 sta2) ∧ (0 ≤ cn2 ∧ cn2 ≤ 121 ∧ 0 ≤ ro2 ∧ ro2 ≤ 1) ∧ (rgs CU2 120 0 1114112) ∧ (-2 ≤ v ∧ v ≤ 1 ∧ vr2 = ve) ∧ (0 ≤ sta2 ∧ sta2 ≤ sta + 2003) ∧ (stQR KT NT OT RT fi la ro2 cnt CU2 cn2 PO2 BG2 BD2 EG2 ct2) ∧ (tlC v9 f n hw p v) ∧ (stp ≤ st2 ∧ st2 ≤ stp + 3073 * (n + 1))) := by
  refine ab_F_of (by decide +kernel) (Nat.le_of_ble_eq_true rfl) ?_
  obtain ⟨Q, hQ⟩ : ∃ z : Outcome → ab_G → Prop, z = (fun oc G2 => ∃ v : Int, ∃ vr2 : Int, ∃ cn2 : Int, ∃ ro2 : Int, ∃ CU2 : Int → Int, ∃ ct2 : Int, ∃ sc2 : Int, ∃ sta2 : Int, ∃ st2 : Int, ∃ ar2 : Int, ∃ EG2 : Int → Int, ∃ PO2 : Int → Int, ∃ BG2 : Int → Int, ∃ BD2 : Int → Int, ∃ SD2 : Int → Int, ∃ SE2 : Int → Int, ∃ SK2 : Int → Int, oc = .returned (some (vz v)) ∧ fx o o [60, 61, 62, 63, 64, 65, 66, 67, 68] G G2 ∧ G2.length = G.length ∧ ab_slots G2 = ab_slots G ∧ cc o G2 a 60 (ab_ob 8 [vz mst, vR q, vz vr2, vz ro2, vR cu, vz cn2, vR eg, vR po, vR bg, vR bd, vz ct2, vR sd, vz sc2, vR se_, vz sta2, vR stk, vz ar2, vj st2]) ∧ cc o G2 cu 61 (za 120 CU2) ∧ cc o G2 eg 62 (za 8000 EG2) ∧ cc o G2 po 63 (za 8192 PO2) ∧ cc o G2 bg 64 (za 65 BG2) ∧ cc o G2 bd 65 (za 64 BD2) ∧ cc o G2 sd 66 (za 2048 SD2) ∧ cc o G2 se_ 67 (za 3072 SE2) ∧ cc o G2 stk 68 (za 809 SK2) ∧ (0 ≤ ct2 ∧ ct2 ≤ mst ∧ 0 ≤ ar2 ∧ ar2 ≤ 1 ∧ 0 ≤ sc2 ∧ sc2 ≤ 2048) ∧ (bgo BG2 ct2) ∧ (ents PO2 (BG2 ct2) cnt) ∧ (rgs BD2 64 0 7) ∧ (ego EG2 ct2 (cn2 + 5)) ∧ (rgs SE2 3072 0 sta2) ∧ (0 ≤ cn2 ∧ cn2 ≤ 121 ∧ 0 ≤ ro2 ∧ ro2 ≤ 1) ∧ (rgs CU2 120 0 1114112) ∧ (-2 ≤ v ∧ v ≤ 1 ∧ vr2 = ve) ∧ (0 ≤ sta2 ∧ sta2 ≤ sta + 2003) ∧ (stQR KT NT OT RT fi la ro2 cnt CU2 cn2 PO2 BG2 BD2 EG2 ct2) ∧ (tlC v9 f n hw p v) ∧ (stp ≤ st2 ∧ st2 ≤ stp + 3073 * (n + 1))) := ⟨_, rfl⟩
  rw [← hQ]
  change ab_W X (ab_pl y_ST_tell b_ST_tell 9 (some (.int))) d G 0 [some (vR a), some (vR q), some (vR s), some (vz hw), some (vz p), none, none, none, none] [] Q
  have hfr : fx o o [60, 61, 62, 63, 64, 65, 66, 67, 68] G G := fx.rf
  have hlen : G.length = G.length := rfl
  have hsl : ab_slots G = ab_slots G := rfl
  refine ab_aload_n d_ST_tell_0 rfl ?_
  refine ab_aload_n d_ST_tell_1 rfl ?_
  refine ab_iload_n d_ST_tell_2 rfl ?_
  refine zz_if_ne (tgt := 10) d_ST_tell_3 (by decide) (by omega) (fun c1 => ?_) (fun c1 => ?_)
  · refine zz_iconst d_ST_tell_10 ?_
    refine ab_callV (d' := d - 1) (as := [vR q, vz 0]) (st := []) (r := _) (z_ST_prepare (o := o) (a := a) (cu := cu) (eg := eg) (po := po) (bg := bg) (bd := bd) (sd := sd) (se_ := se_) (stk := stk) (mst := mst) (q0 := q0) (vr := vr) (ro := ro) (cn := cn) (ct := ct) (sc := sc) (sta := sta) (arv := arv) (stp := stp) (CU := CU) (q := q) (lq := lq) (ki := ki) (ne := ne) (ot := ot) (cnt := cnt) (fi := fi) (la := la) (ra := ra) (ru := ru) (gr := gr) (wi := wi) (sz := sz) (fl := fl) (ve := ve) (mi := mi) (na := na) (nl := nl) (K := K) (N := N) (O := O) (RR := RR) (nr := nr) (KT := KT) (NT := NT) (OT := OT) (RT := RT) (rb := 0) (vc := vc) ha hcu h17 hq hki hne hot hra (by omega) hp hr (by omega) hch jcu (by omega) (by omega) (by omega) (by omega) jbg jpo jeg (by omega) (by omega) hT hpu hq0 (by omega)) (fun oc G2 h => by rcases h with ⟨_, _, _, _, _, h, _⟩ | ⟨_, _, _, _, _, h, _⟩ <;> exact ⟨_, h⟩) (by omega) m_ST_prepare ml_ST_43 im_ST_prepare se_ST_prepare c_ST ha.2.2 (Nat.le_of_ble_eq_true rfl) d_ST_tell_11 rfl ?_
    intro v G2 hq
    rcases hq with ⟨vr23, cn24, ct25, ro26, CU27, hv, hfk, hlk, hsk, hNa, hNcu, hq8, hq9, hq10, hq11, hq12, hq13⟩ | ⟨vr214, cn215, ct216, ro217, CU218, hv, hfk, hlk, hsk, hNa, hNcu, hq19, hq20, hq21, hq22, hq23, hq24, hq25⟩
    · cases hv
      have heg := hfk.get heg (by decide)
      have hpo := hfk.get hpo (by decide)
      have hbg := hfk.get hbg (by decide)
      have hbd := hfk.get hbd (by decide)
      have hsd := hfk.get hsd (by decide)
      have hse_ := hfk.get hse_ (by decide)
      have hstk := hfk.get hstk (by decide)
      have h17 := hfk.get h17 (by decide)
      have hq := hfk.get hq (by simp only [List.mem_cons, List.not_mem_nil, or_false]; omega)
      have hki := hfk.get hki (by simp only [List.mem_cons, List.not_mem_nil, or_false]; omega)
      have hne := hfk.get hne (by simp only [List.mem_cons, List.not_mem_nil, or_false]; omega)
      have hot := hfk.get hot (by simp only [List.mem_cons, List.not_mem_nil, or_false]; omega)
      have hra := hfk.get hra (by simp only [List.mem_cons, List.not_mem_nil, or_false]; omega)
      have hs := hfk.get hs (by decide)
      have hby_ := hfk.get hby_ (by decide)
      have hco := hfk.get hco (by decide)
      have hre := hfk.get hre (by decide)
      have hfr := hfr.tr hfk (by decide)
      have hlen := hlk.trans hlen
      have hsl := hsk.trans hsl
      have ha := hNa
      have hcu := hNcu
      change ab_W _ _ _ G2 14 [some (vR a), some (vR q), some (vR s), some (vz hw), some (vz p), none, none, none, none] [vz 0] _
      refine zz_if_ne (tgt := 20) d_ST_tell_14 (by decide) (by decide) (fun c26 => absurd c26 (by decide)) (fun c26 => ?_)
      refine zz_bipush d_ST_tell_17 (by decide) ?_
      refine zz_iret rfl d_ST_tell_19 ?_
      rw [hQ]; exact ⟨_, _, _, _, _, _, _, _, _, _, _, _, _, _, _, _, _, rfl, hfr, hlen, hsl, ha, hcu, heg, hpo, hbg, hbd, hsd, hse_, hstk, (by omega), (by exact hq10), (by exact hq11), (by exact jbd), (by exact hq12), (by exact jse), (by omega), (by exact hq9), (by omega), (by omega), (by exact hq13), (by exact Or.inr (Or.inr rfl)), (by omega)⟩
    · cases hv
      have heg := hfk.get heg (by decide)
      have hpo := hfk.get hpo (by decide)
      have hbg := hfk.get hbg (by decide)
      have hbd := hfk.get hbd (by decide)
      have hsd := hfk.get hsd (by decide)
      have hse_ := hfk.get hse_ (by decide)
      have hstk := hfk.get hstk (by decide)
      have h17 := hfk.get h17 (by decide)
      have hq := hfk.get hq (by simp only [List.mem_cons, List.not_mem_nil, or_false]; omega)
      have hki := hfk.get hki (by simp only [List.mem_cons, List.not_mem_nil, or_false]; omega)
      have hne := hfk.get hne (by simp only [List.mem_cons, List.not_mem_nil, or_false]; omega)
      have hot := hfk.get hot (by simp only [List.mem_cons, List.not_mem_nil, or_false]; omega)
      have hra := hfk.get hra (by simp only [List.mem_cons, List.not_mem_nil, or_false]; omega)
      have hs := hfk.get hs (by decide)
      have hby_ := hfk.get hby_ (by decide)
      have hco := hfk.get hco (by decide)
      have hre := hfk.get hre (by decide)
      have hfr := hfr.tr hfk (by decide)
      have hlen := hlk.trans hlen
      have hsl := hsk.trans hsl
      have ha := hNa
      have hcu := hNcu
      change ab_W _ _ _ G2 14 [some (vR a), some (vR q), some (vR s), some (vz hw), some (vz p), none, none, none, none] [vz 1] _
      refine zz_if_ne (tgt := 20) d_ST_tell_14 (by decide) (by decide) (fun c27 => ?_) (fun c27 => absurd c27 (by decide))
      obtain ⟨⟨hcs_, hcf_, hcp_⟩, hed0_⟩ := hq24 (by omega)
      have htf_ : tlF K N O RR KT NT OT RT CU218 f C Rs H cnt ru wi cn215 n fi la := ⟨hT, hpu, hsu, hcs_, hcf_, hcp_, laI_k hla hT, by omega⟩
      refine ab_aload_n d_ST_tell_20 rfl ?_
      refine ab_aload_n d_ST_tell_21 rfl ?_
      refine ab_iload d_ST_tell_22 rfl ?_
      refine ab_callV (d' := d - 1) (as := [vR s, vz p]) (st := []) (r := _) (z_ST_firstState (o := o) (a := a) (cu := cu) (eg := eg) (po := po) (bg := bg) (bd := bd) (sd := sd) (se_ := se_) (stk := stk) (mst := mst) (vr := vr214) (ro := ro217) (cn := cn215) (ct := ct216) (sc := sc) (sta := sta) (arv := arv) (stp := stp) (EG := EG) (PO := PO) (BG := BG) (BD := BD) (SD := SD) (SE := SE) (q := q) (lq := lq) (ki := ki) (ne := ne) (ot := ot) (cnt := cnt) (fi := fi) (la := la) (ra := ra) (ru := ru) (gr := gr) (wi := wi) (sz := sz) (fl := fl) (ve := ve) (mi := mi) (na := na) (nl := nl) (s := s) (by_ := by_) (co := co) (re := re) (ho := ho) (n := n) (f := f) (m := m) (KT := KT) (NT := NT) (OT := OT) (RT := RT) (p := p) ha heg hpo hbg hbd hsd hse_ hq hs hby_ (by omega) (by omega) hq21 hq22 jbd hq23 (by omega) (by omega) (by omega) (by omega) hb (by omega) (by omega) jse hed0_ (by omega)) (fun oc G2 h => by rcases h with ⟨_, _, _, _, _, _, _, _, _, _, h, _⟩ <;> exact ⟨_, h⟩) (by omega) m_ST_firstState ml_ST_47 im_ST_firstState se_ST_firstState c_ST ha.2.2 (Nat.le_of_ble_eq_true rfl) d_ST_tell_24 rfl ?_
      intro v G28 hq
      rcases hq with ⟨v29, ct230, sc231, sta232, EG233, PO234, BG235, BD236, SD237, SE238, hv, hfk, hlk, hsk, hNa, hNeg, hNpo, hNbg, hNbd, hNsd, hNse_, hq39, hq40, hq41, hq42, hq43, hq44, hq45, hq46, hq47, hq48⟩
      cases hv
      have hcu := hfk.get hcu (by decide)
      have hstk := hfk.get hstk (by decide)
      have h17 := hfk.get h17 (by decide)
      have hq := hfk.get hq (by simp only [List.mem_cons, List.not_mem_nil, or_false]; omega)
      have hki := hfk.get hki (by simp only [List.mem_cons, List.not_mem_nil, or_false]; omega)
      have hne := hfk.get hne (by simp only [List.mem_cons, List.not_mem_nil, or_false]; omega)
      have hot := hfk.get hot (by simp only [List.mem_cons, List.not_mem_nil, or_false]; omega)
      have hra := hfk.get hra (by simp only [List.mem_cons, List.not_mem_nil, or_false]; omega)
      have hs := hfk.get hs (by decide)
      have hby_ := hfk.get hby_ (by decide)
      have hco := hfk.get hco (by decide)
      have hre := hfk.get hre (by decide)
      have hfr := hfr.tr hfk (by decide)
      have hlen := hlk.trans hlen
      have hsl := hsk.trans hsl
      have ha := hNa
      have heg := hNeg
      have hpo := hNpo
      have hbg := hNbg
      have hbd := hNbd
      have hsd := hNsd
      have hse_ := hNse_
      change ab_W _ _ _ G28 27 [some (vR a), some (vR q), some (vR s), some (vz hw), some (vz p), none, none, none, none] [vz v29] _
      refine ab_istore d_ST_tell_27 (Nat.le_of_ble_eq_true rfl) (Nat.le_of_ble_eq_true rfl) rfl ?_
      change ab_W _ _ _ G28 29 [some (vR a), some (vR q), some (vR s), some (vz hw), some (vz p), some (vz v29), none, none, none] [] _
      refine ab_iload d_ST_tell_29 rfl ?_
      refine ab_istore d_ST_tell_31 (Nat.le_of_ble_eq_true rfl) (Nat.le_of_ble_eq_true rfl) rfl ?_
      change ab_W _ _ _ G28 33 [some (vR a), some (vR q), some (vR s), some (vz hw), some (vz p), some (vz v29), some (vz p), none, none] [] _
      refine ab_less (L' := [some (vR a), none, some (vR s), some (vz hw), none, some (vz v29), some (vz p), none, none]) (fun i v h => by rcases i with _ | _ | _ | _ | _ | _ | _ | _ | _ | i <;> first | exact h | (simp at h)) ?_
      refine y_ST_tell_33 (a := a) (cu := cu) (eg := eg) (po := po) (bg := bg) (bd := bd) (sd := sd) (se_ := se_) (stk := stk) (mst := mst) (vr := vr214) (ro := ro217) (cn := cn215) (CU := CU218) (q := q) (lq := lq) (ki := ki) (ne := ne) (ot := ot) (cnt := cnt) (fi := fi) (la := la) (ra := ra) (ru := ru) (gr := gr) (wi := wi) (sz := sz) (fl := fl) (ve := ve) (mi := mi) (na := na) (nl := nl) (K := K) (N := N) (O := O) (RR := RR) (nr := nr) (s := s) (by_ := by_) (co := co) (re := re) (ho := ho) (n := n) (C := C) (Rs := Rs) (mc := mc) (KT := KT) (NT := NT) (OT := OT) (RT := RT) (hw := hw) (fr9 := p) (sb := (sta + 1)) (st0 := stp) (p0 := p) (G0 := G28) (ct := ct230) (sc := sc231) (sta := sta232) (arv := arv) (stp := stp) (EG := EG233) (PO := PO234) (BG := BG235) (BD := BD236) (SD := SD237) (SE := SE238) (SK := SK) (p := p) (x_ := v29) (by omega) hq20 (by omega) hp hr (by omega) (by omega) (by omega) hsu (by omega) hT hpu (by omega) hcs_ hcf_ htf_ (by omega) (by omega) (Int.toNat (n + 1 - p) + 1) ha hcu heg hpo hbg hbd hsd hse_ hstk hq hki hne hot hra hs hco hre (by omega) (by omega) hq40 hq41 hq43 hq42 (by omega) (by omega) (by omega) hq46 hq47 (tlW_0 hq48 (Or.inr ⟨by omega, by omega⟩) (by omega) (by omega)) (by omega) (by omega) fx.rf rfl rfl (by omega) (fun G49 v50 ct251 sc252 sta253 st254 ar255 EG256 PO257 BG258 BD259 SD260 SE261 SK262 hNa hNeg hNpo hNbg hNbd hNsd hNse_ hNstk hq63 hq64 hq65 hq66 hq67 hq68 hq69 hq70 hq71 hq72 hq73 hfk hlk hsk => ?_)
      · have hcu := hfk.get hcu (by decide)
        have h17 := hfk.get h17 (by decide)
        have hq := hfk.get hq (by simp only [List.mem_cons, List.not_mem_nil, or_false]; omega)
        have hki := hfk.get hki (by simp only [List.mem_cons, List.not_mem_nil, or_false]; omega)
        have hne := hfk.get hne (by simp only [List.mem_cons, List.not_mem_nil, or_false]; omega)
        have hot := hfk.get hot (by simp only [List.mem_cons, List.not_mem_nil, or_false]; omega)
        have hra := hfk.get hra (by simp only [List.mem_cons, List.not_mem_nil, or_false]; omega)
        have hs := hfk.get hs (by decide)
        have hby_ := hfk.get hby_ (by decide)
        have hco := hfk.get hco (by decide)
        have hre := hfk.get hre (by decide)
        have hfr := hfr.tr hfk (by decide)
        have hlen := hlk.trans hlen
        have hsl := hsk.trans hsl
        have ha := hNa
        have heg := hNeg
        have hpo := hNpo
        have hbg := hNbg
        have hbd := hNbd
        have hsd := hNsd
        have hse_ := hNse_
        have hstk := hNstk
        rw [hQ]; exact ⟨_, _, _, _, _, _, _, _, _, _, _, _, _, _, _, _, _, rfl, hfr, hlen, hsl, ha, hcu, heg, hpo, hbg, hbd, hsd, hse_, hstk, (by omega), (by exact hq64), (by exact hq65), (by exact hq66), (by exact hq67), (by exact hq68), (by omega), (by exact hq20), (by omega), (by omega), (by exact fun h_ => ⟨(hq24 h_).1, hq69⟩), (by exact tlX_c hq72 hT hpu hpm hb (by omega) (by omega)), (by omega)⟩
  · refine zz_iconst d_ST_tell_6 ?_
    refine ab_goto (tgt := 11) d_ST_tell_7 (by decide) ?_
    refine ab_callV (d' := d - 1) (as := [vR q, vz 1]) (st := []) (r := _) (z_ST_prepare (o := o) (a := a) (cu := cu) (eg := eg) (po := po) (bg := bg) (bd := bd) (sd := sd) (se_ := se_) (stk := stk) (mst := mst) (q0 := q0) (vr := vr) (ro := ro) (cn := cn) (ct := ct) (sc := sc) (sta := sta) (arv := arv) (stp := stp) (CU := CU) (q := q) (lq := lq) (ki := ki) (ne := ne) (ot := ot) (cnt := cnt) (fi := fi) (la := la) (ra := ra) (ru := ru) (gr := gr) (wi := wi) (sz := sz) (fl := fl) (ve := ve) (mi := mi) (na := na) (nl := nl) (K := K) (N := N) (O := O) (RR := RR) (nr := nr) (KT := KT) (NT := NT) (OT := OT) (RT := RT) (rb := 1) (vc := vc) ha hcu h17 hq hki hne hot hra (by omega) hp hr (by omega) hch jcu (by omega) (by omega) (by omega) (by omega) jbg jpo jeg (by omega) (by omega) hT hpu hq0 (by omega)) (fun oc G2 h => by rcases h with ⟨_, _, _, _, _, h, _⟩ | ⟨_, _, _, _, _, h, _⟩ <;> exact ⟨_, h⟩) (by omega) m_ST_prepare ml_ST_43 im_ST_prepare se_ST_prepare c_ST ha.2.2 (Nat.le_of_ble_eq_true rfl) d_ST_tell_11 rfl ?_
    intro v G74 hq
    rcases hq with ⟨vr275, cn276, ct277, ro278, CU279, hv, hfk, hlk, hsk, hNa, hNcu, hq80, hq81, hq82, hq83, hq84, hq85⟩ | ⟨vr286, cn287, ct288, ro289, CU290, hv, hfk, hlk, hsk, hNa, hNcu, hq91, hq92, hq93, hq94, hq95, hq96, hq97⟩
    · cases hv
      have heg := hfk.get heg (by decide)
      have hpo := hfk.get hpo (by decide)
      have hbg := hfk.get hbg (by decide)
      have hbd := hfk.get hbd (by decide)
      have hsd := hfk.get hsd (by decide)
      have hse_ := hfk.get hse_ (by decide)
      have hstk := hfk.get hstk (by decide)
      have h17 := hfk.get h17 (by decide)
      have hq := hfk.get hq (by simp only [List.mem_cons, List.not_mem_nil, or_false]; omega)
      have hki := hfk.get hki (by simp only [List.mem_cons, List.not_mem_nil, or_false]; omega)
      have hne := hfk.get hne (by simp only [List.mem_cons, List.not_mem_nil, or_false]; omega)
      have hot := hfk.get hot (by simp only [List.mem_cons, List.not_mem_nil, or_false]; omega)
      have hra := hfk.get hra (by simp only [List.mem_cons, List.not_mem_nil, or_false]; omega)
      have hs := hfk.get hs (by decide)
      have hby_ := hfk.get hby_ (by decide)
      have hco := hfk.get hco (by decide)
      have hre := hfk.get hre (by decide)
      have hfr := hfr.tr hfk (by decide)
      have hlen := hlk.trans hlen
      have hsl := hsk.trans hsl
      have ha := hNa
      have hcu := hNcu
      change ab_W _ _ _ G74 14 [some (vR a), some (vR q), some (vR s), some (vz hw), some (vz p), none, none, none, none] [vz 0] _
      refine zz_if_ne (tgt := 20) d_ST_tell_14 (by decide) (by decide) (fun c98 => absurd c98 (by decide)) (fun c98 => ?_)
      refine zz_bipush d_ST_tell_17 (by decide) ?_
      refine zz_iret rfl d_ST_tell_19 ?_
      rw [hQ]; exact ⟨_, _, _, _, _, _, _, _, _, _, _, _, _, _, _, _, _, rfl, hfr, hlen, hsl, ha, hcu, heg, hpo, hbg, hbd, hsd, hse_, hstk, (by omega), (by exact hq82), (by exact hq83), (by exact jbd), (by exact hq84), (by exact jse), (by omega), (by exact hq81), (by omega), (by omega), (by exact hq85), (by exact Or.inr (Or.inr rfl)), (by omega)⟩
    · cases hv
      have heg := hfk.get heg (by decide)
      have hpo := hfk.get hpo (by decide)
      have hbg := hfk.get hbg (by decide)
      have hbd := hfk.get hbd (by decide)
      have hsd := hfk.get hsd (by decide)
      have hse_ := hfk.get hse_ (by decide)
      have hstk := hfk.get hstk (by decide)
      have h17 := hfk.get h17 (by decide)
      have hq := hfk.get hq (by simp only [List.mem_cons, List.not_mem_nil, or_false]; omega)
      have hki := hfk.get hki (by simp only [List.mem_cons, List.not_mem_nil, or_false]; omega)
      have hne := hfk.get hne (by simp only [List.mem_cons, List.not_mem_nil, or_false]; omega)
      have hot := hfk.get hot (by simp only [List.mem_cons, List.not_mem_nil, or_false]; omega)
      have hra := hfk.get hra (by simp only [List.mem_cons, List.not_mem_nil, or_false]; omega)
      have hs := hfk.get hs (by decide)
      have hby_ := hfk.get hby_ (by decide)
      have hco := hfk.get hco (by decide)
      have hre := hfk.get hre (by decide)
      have hfr := hfr.tr hfk (by decide)
      have hlen := hlk.trans hlen
      have hsl := hsk.trans hsl
      have ha := hNa
      have hcu := hNcu
      change ab_W _ _ _ G74 14 [some (vR a), some (vR q), some (vR s), some (vz hw), some (vz p), none, none, none, none] [vz 1] _
      refine zz_if_ne (tgt := 20) d_ST_tell_14 (by decide) (by decide) (fun c99 => ?_) (fun c99 => absurd c99 (by decide))
      obtain ⟨⟨hcs_, hcf_, hcp_⟩, hed0_⟩ := hq96 (by omega)
      have htf_ : tlF K N O RR KT NT OT RT CU290 f C Rs H cnt ru wi cn287 n fi la := ⟨hT, hpu, hsu, hcs_, hcf_, hcp_, laI_k hla hT, by omega⟩
      refine ab_aload_n d_ST_tell_20 rfl ?_
      refine ab_aload_n d_ST_tell_21 rfl ?_
      refine ab_iload d_ST_tell_22 rfl ?_
      refine ab_callV (d' := d - 1) (as := [vR s, vz p]) (st := []) (r := _) (z_ST_firstState (o := o) (a := a) (cu := cu) (eg := eg) (po := po) (bg := bg) (bd := bd) (sd := sd) (se_ := se_) (stk := stk) (mst := mst) (vr := vr286) (ro := ro289) (cn := cn287) (ct := ct288) (sc := sc) (sta := sta) (arv := arv) (stp := stp) (EG := EG) (PO := PO) (BG := BG) (BD := BD) (SD := SD) (SE := SE) (q := q) (lq := lq) (ki := ki) (ne := ne) (ot := ot) (cnt := cnt) (fi := fi) (la := la) (ra := ra) (ru := ru) (gr := gr) (wi := wi) (sz := sz) (fl := fl) (ve := ve) (mi := mi) (na := na) (nl := nl) (s := s) (by_ := by_) (co := co) (re := re) (ho := ho) (n := n) (f := f) (m := m) (KT := KT) (NT := NT) (OT := OT) (RT := RT) (p := p) ha heg hpo hbg hbd hsd hse_ hq hs hby_ (by omega) (by omega) hq93 hq94 jbd hq95 (by omega) (by omega) (by omega) (by omega) hb (by omega) (by omega) jse hed0_ (by omega)) (fun oc G2 h => by rcases h with ⟨_, _, _, _, _, _, _, _, _, _, h, _⟩ <;> exact ⟨_, h⟩) (by omega) m_ST_firstState ml_ST_47 im_ST_firstState se_ST_firstState c_ST ha.2.2 (Nat.le_of_ble_eq_true rfl) d_ST_tell_24 rfl ?_
      intro v G100 hq
      rcases hq with ⟨v101, ct2102, sc2103, sta2104, EG2105, PO2106, BG2107, BD2108, SD2109, SE2110, hv, hfk, hlk, hsk, hNa, hNeg, hNpo, hNbg, hNbd, hNsd, hNse_, hq111, hq112, hq113, hq114, hq115, hq116, hq117, hq118, hq119, hq120⟩
      cases hv
      have hcu := hfk.get hcu (by decide)
      have hstk := hfk.get hstk (by decide)
      have h17 := hfk.get h17 (by decide)
      have hq := hfk.get hq (by simp only [List.mem_cons, List.not_mem_nil, or_false]; omega)
      have hki := hfk.get hki (by simp only [List.mem_cons, List.not_mem_nil, or_false]; omega)
      have hne := hfk.get hne (by simp only [List.mem_cons, List.not_mem_nil, or_false]; omega)
      have hot := hfk.get hot (by simp only [List.mem_cons, List.not_mem_nil, or_false]; omega)
      have hra := hfk.get hra (by simp only [List.mem_cons, List.not_mem_nil, or_false]; omega)
      have hs := hfk.get hs (by decide)
      have hby_ := hfk.get hby_ (by decide)
      have hco := hfk.get hco (by decide)
      have hre := hfk.get hre (by decide)
      have hfr := hfr.tr hfk (by decide)
      have hlen := hlk.trans hlen
      have hsl := hsk.trans hsl
      have ha := hNa
      have heg := hNeg
      have hpo := hNpo
      have hbg := hNbg
      have hbd := hNbd
      have hsd := hNsd
      have hse_ := hNse_
      change ab_W _ _ _ G100 27 [some (vR a), some (vR q), some (vR s), some (vz hw), some (vz p), none, none, none, none] [vz v101] _
      refine ab_istore d_ST_tell_27 (Nat.le_of_ble_eq_true rfl) (Nat.le_of_ble_eq_true rfl) rfl ?_
      change ab_W _ _ _ G100 29 [some (vR a), some (vR q), some (vR s), some (vz hw), some (vz p), some (vz v101), none, none, none] [] _
      refine ab_iload d_ST_tell_29 rfl ?_
      refine ab_istore d_ST_tell_31 (Nat.le_of_ble_eq_true rfl) (Nat.le_of_ble_eq_true rfl) rfl ?_
      change ab_W _ _ _ G100 33 [some (vR a), some (vR q), some (vR s), some (vz hw), some (vz p), some (vz v101), some (vz p), none, none] [] _
      refine ab_less (L' := [some (vR a), none, some (vR s), some (vz hw), none, some (vz v101), some (vz p), none, none]) (fun i v h => by rcases i with _ | _ | _ | _ | _ | _ | _ | _ | _ | i <;> first | exact h | (simp at h)) ?_
      refine y_ST_tell_33 (a := a) (cu := cu) (eg := eg) (po := po) (bg := bg) (bd := bd) (sd := sd) (se_ := se_) (stk := stk) (mst := mst) (vr := vr286) (ro := ro289) (cn := cn287) (CU := CU290) (q := q) (lq := lq) (ki := ki) (ne := ne) (ot := ot) (cnt := cnt) (fi := fi) (la := la) (ra := ra) (ru := ru) (gr := gr) (wi := wi) (sz := sz) (fl := fl) (ve := ve) (mi := mi) (na := na) (nl := nl) (K := K) (N := N) (O := O) (RR := RR) (nr := nr) (s := s) (by_ := by_) (co := co) (re := re) (ho := ho) (n := n) (C := C) (Rs := Rs) (mc := mc) (KT := KT) (NT := NT) (OT := OT) (RT := RT) (hw := hw) (fr9 := p) (sb := (sta + 1)) (st0 := stp) (p0 := p) (G0 := G100) (ct := ct2102) (sc := sc2103) (sta := sta2104) (arv := arv) (stp := stp) (EG := EG2105) (PO := PO2106) (BG := BG2107) (BD := BD2108) (SD := SD2109) (SE := SE2110) (SK := SK) (p := p) (x_ := v101) (by omega) hq92 (by omega) hp hr (by omega) (by omega) (by omega) hsu (by omega) hT hpu (by omega) hcs_ hcf_ htf_ (by omega) (by omega) (Int.toNat (n + 1 - p) + 1) ha hcu heg hpo hbg hbd hsd hse_ hstk hq hki hne hot hra hs hco hre (by omega) (by omega) hq112 hq113 hq115 hq114 (by omega) (by omega) (by omega) hq118 hq119 (tlW_0 hq120 (Or.inl ⟨by omega, by omega⟩) (by omega) (by omega)) (by omega) (by omega) fx.rf rfl rfl (by omega) (fun G121 v122 ct2123 sc2124 sta2125 st2126 ar2127 EG2128 PO2129 BG2130 BD2131 SD2132 SE2133 SK2134 hNa hNeg hNpo hNbg hNbd hNsd hNse_ hNstk hq135 hq136 hq137 hq138 hq139 hq140 hq141 hq142 hq143 hq144 hq145 hfk hlk hsk => ?_)
      · have hcu := hfk.get hcu (by decide)
        have h17 := hfk.get h17 (by decide)
        have hq := hfk.get hq (by simp only [List.mem_cons, List.not_mem_nil, or_false]; omega)
        have hki := hfk.get hki (by simp only [List.mem_cons, List.not_mem_nil, or_false]; omega)
        have hne := hfk.get hne (by simp only [List.mem_cons, List.not_mem_nil, or_false]; omega)
        have hot := hfk.get hot (by simp only [List.mem_cons, List.not_mem_nil, or_false]; omega)
        have hra := hfk.get hra (by simp only [List.mem_cons, List.not_mem_nil, or_false]; omega)
        have hs := hfk.get hs (by decide)
        have hby_ := hfk.get hby_ (by decide)
        have hco := hfk.get hco (by decide)
        have hre := hfk.get hre (by decide)
        have hfr := hfr.tr hfk (by decide)
        have hlen := hlk.trans hlen
        have hsl := hsk.trans hsl
        have ha := hNa
        have heg := hNeg
        have hpo := hNpo
        have hbg := hNbg
        have hbd := hNbd
        have hsd := hNsd
        have hse_ := hNse_
        have hstk := hNstk
        rw [hQ]; exact ⟨_, _, _, _, _, _, _, _, _, _, _, _, _, _, _, _, _, rfl, hfr, hlen, hsl, ha, hcu, heg, hpo, hbg, hbd, hsd, hse_, hstk, (by omega), (by exact hq136), (by exact hq137), (by exact hq138), (by exact hq139), (by exact hq140), (by omega), (by exact hq92), (by omega), (by omega), (by exact fun h_ => ⟨(hq96 h_).1, hq141⟩), (by exact tlX_c hq144 hT hpu hpm hb (by omega) (by omega)), (by omega)⟩
