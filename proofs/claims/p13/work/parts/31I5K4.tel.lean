set_option maxRecDepth 100000 in
set_option maxHeartbeats 4000000 in
theorem z_ST_holdAtMost {X : ab_X} {d : Nat} {o : Nat → Nat} {G : ab_G} {a : Nat} {cu : Nat} {eg : Nat} {po : Nat} {bg : Nat} {bd : Nat} {sd : Nat} {se_ : Nat} {stk : Nat} {mst : Int} {q0 : Value} {vr : Int} {ro : Int} {cn : Int} {ct : Int} {sc : Int} {sta : Int} {arv : Int} {stp : Int} {mm : Int} (ha : cc o G a 60 (ab_ob 8 [vz mst, q0, vz vr, vz ro, vR cu, vz cn, vR eg, vR po, vR bg, vR bd, vz ct, vR sd, vz sc, vR se_, vz sta, vR stk, vz arv, vj stp])) : ab_F X d y_ST_holdAtMost (.code y_ST_holdAtMost b_ST_holdAtMost 2 none) [vR a, vz mm] G (fun oc G2 => oc = .returned none ∧ fx o o [60] G G2 ∧ G2.length = G.length ∧ ab_slots G2 = ab_slots G ∧ cc o G2 a 60 (ab_ob 8 [vz mm, q0, vz vr, vz ro, vR cu, vz cn, vR eg, vR po, vR bg, vR bd, vz 0, vR sd, vz sc, vR se_, vz sta, vR stk, vz arv, vj stp])) := by
  refine ab_F_of (by decide +kernel) (Nat.le_of_ble_eq_true rfl) ?_
  obtain ⟨Q, hQ⟩ : ∃ z : Outcome → ab_G → Prop, z = (fun oc G2 => oc = .returned none ∧ fx o o [60] G G2 ∧ G2.length = G.length ∧ ab_slots G2 = ab_slots G ∧ cc o G2 a 60 (ab_ob 8 [vz mm, q0, vz vr, vz ro, vR cu, vz cn, vR eg, vR po, vR bg, vR bd, vz 0, vR sd, vz sc, vR se_, vz sta, vR stk, vz arv, vj stp])) := ⟨_, rfl⟩
  rw [← hQ]
  change ab_W X (ab_pl y_ST_holdAtMost b_ST_holdAtMost 2 none) d G 0 [some (vR a), some (vz mm)] [] Q
  have hfr : fx o o [60] G G := fx.rf
  have hlen : G.length = G.length := rfl
  have hsl : ab_slots G = ab_slots G := rfl
  refine ab_aload_n d_ST_holdAtMost_0 rfl ?_
  refine ab_iload_n d_ST_holdAtMost_1 rfl ?_
  refine ab_putf (fs := [vz mst, q0, vz vr, vz ro, vR cu, vz cn, vR eg, vR po, vR bg, vR bd, vz ct, vR sd, vz sc, vR se_, vz sta, vR stk, vz arv, vj stp]) f_ST_9 (Or.inl rfl) d_ST_holdAtMost_2 ha.2.2 (Nat.le_of_ble_eq_true rfl) (fun _ => ⟨rfl, rfl⟩) (ha.2.1 (by decide)) ?_
  obtain ⟨G1, eG1⟩ : ∃ z : ab_G, z = List.set G a (ab_ob 8 [vz mm, q0, vz vr, vz ro, vR cu, vz cn, vR eg, vR po, vR bg, vR bd, vz ct, vR sd, vz sc, vR se_, vz sta, vR stk, vz arv, vj stp]) := ⟨_, rfl⟩
  have hlen := (z_len eG1).trans hlen
  have hsl := (z_sl ha eG1 rfl).trans hsl
  have hfr := hfr.wr ha eG1 (by decide)
  have ha := ha.kept eG1
  change ab_W _ _ _ (List.set G a (ab_ob 8 [vz mm, q0, vz vr, vz ro, vR cu, vz cn, vR eg, vR po, vR bg, vR bd, vz ct, vR sd, vz sc, vR se_, vz sta, vR stk, vz arv, vj stp])) 5 [some (vR a), some (vz mm)] [] _
  rw [← eG1]
  refine ab_aload_n d_ST_holdAtMost_5 rfl ?_
  refine zz_iconst d_ST_holdAtMost_6 ?_
  refine ab_putf (fs := [vz mm, q0, vz vr, vz ro, vR cu, vz cn, vR eg, vR po, vR bg, vR bd, vz ct, vR sd, vz sc, vR se_, vz sta, vR stk, vz arv, vj stp]) f_ST_40 (Or.inl rfl) d_ST_holdAtMost_7 ha.2.2 (Nat.le_of_ble_eq_true rfl) (fun _ => ⟨rfl, rfl⟩) (ha.2.1 (by decide)) ?_
  obtain ⟨G2, eG2⟩ : ∃ z : ab_G, z = List.set G1 a (ab_ob 8 [vz mm, q0, vz vr, vz ro, vR cu, vz cn, vR eg, vR po, vR bg, vR bd, vz 0, vR sd, vz sc, vR se_, vz sta, vR stk, vz arv, vj stp]) := ⟨_, rfl⟩
  have hlen := (z_len eG2).trans hlen
  have hsl := (z_sl ha eG2 rfl).trans hsl
  have hfr := hfr.wr ha eG2 (by decide)
  have ha := ha.kept eG2
  change ab_W _ _ _ (List.set G1 a (ab_ob 8 [vz mm, q0, vz vr, vz ro, vR cu, vz cn, vR eg, vR po, vR bg, vR bd, vz 0, vR sd, vz sc, vR se_, vz sta, vR stk, vz arv, vj stp])) 10 [some (vR a), some (vz mm)] [] _
  rw [← eG2]
  refine ab_vret rfl d_ST_holdAtMost_10 ?_
  rw [hQ]; exact ⟨rfl, hfr, hlen, hsl, ha⟩
set_option maxRecDepth 100000 in
set_option maxHeartbeats 4000000 in
theorem z_ST_prepare {X : ab_X} {d : Nat} {o : Nat → Nat} {G : ab_G} {a : Nat} {cu : Nat} {eg : Nat} {po : Nat} {bg : Nat} {bd : Nat} {sd : Nat} {se_ : Nat} {stk : Nat} {mst : Int} {q0 : Value} {vr : Int} {ro : Int} {cn : Int} {ct : Int} {sc : Int} {sta : Int} {arv : Int} {stp : Int} {CU : Int → Int} {EG : Int → Int} {PO : Int → Int} {BG : Int → Int} {q : Nat} {lq : Nat} {ki : Nat} {ne : Nat} {ot : Nat} {cnt : Int} {fi : Int} {la : Int} {ra : Nat} {ru : Int} {gr : Int} {wi : Int} {sz : Int} {fl : Int} {ve : Int} {mi : Int} {na : Nat} {nl : Nat} {K : Int → Int} {N : Int → Int} {O : Int → Int} {RR : Int → Int} {nr : Nat} {rb : Int} {vc : Int} (ha : cc o G a 60 (ab_ob 8 [vz mst, q0, vz vr, vz ro, vR cu, vz cn, vR eg, vR po, vR bg, vR bd, vz ct, vR sd, vz sc, vR se_, vz sta, vR stk, vz arv, vj stp])) (hcu : cc o G cu 61 (za 120 CU)) (h17 : cc o G 17 17 (za 12 zFC)) (hq : cc o G q lq (ab_ob 5 [vR ki, vR ne, vR ot, vz cnt, vz fi, vz la, vR ra, vz ru, vz gr, vz wi, vz sz, vz fl, vz ve, vz mi, vR na, vR nl])) (hki : cc o G ki (lq + 1) (za 808 K)) (hne : cc o G ne (lq + 2) (za 808 N)) (hot : cc o G ot (lq + 3) (za 808 O)) (hra : cc o G ra (lq + 4) (za nr RR)) (cq : 100 ≤ lq ∧ 0 ≤ cnt ∧ cnt ≤ 808 ∧ ↑nr ≤ (100000 : Int)) (hp : prok K N O RR cnt ↑nr wi) (hr : ∀ k : Int, 0 ≤ k → k < ↑nr → 0 ≤ RR k ∧ RR k ≤ 1114111) (hru : 0 ≤ ru ∧ ru ≤ ↑nr) (hch : rch RR ru) (jcu : rgs CU 120 0 1114112) (ccn : 0 ≤ cn ∧ cn ≤ 121) (cms : 4 ≤ mst ∧ mst ≤ 64 ∧ 0 ≤ ct ∧ ct ≤ mst) (cv : 0 ≤ vr ∧ vr ≤ 100000 ∧ 0 ≤ ve ∧ ve ≤ 100000) (hvc : vr = ve → vc = cnt) (jbg : bgo BG ct) (jpo : ents PO (BG ct) vc) (jeg : ego EG ct (cn + 5)) (cro : 0 ≤ ro ∧ ro ≤ 1) (crb : 0 ≤ rb ∧ rb ≤ 1) (hd : 6 ≤ d) : ab_F X d y_ST_prepare (.code y_ST_prepare b_ST_prepare 3 (some (.boolean))) [vR a, vR q, vz rb] G (fun oc G2 => (∃ vr2 : Int, ∃ cn2 : Int, ∃ ct2 : Int, ∃ ro2 : Int, ∃ CU2 : Int → Int, oc = .returned (some (vz 0)) ∧ fx o o [60, 61] G G2 ∧ G2.length = G.length ∧ ab_slots G2 = ab_slots G ∧ cc o G2 a 60 (ab_ob 8 [vz mst, vR q, vz vr2, vz ro2, vR cu, vz cn2, vR eg, vR po, vR bg, vR bd, vz ct2, vR sd, vz sc, vR se_, vz sta, vR stk, vz arv, vj stp]) ∧ cc o G2 cu 61 (za 120 CU2) ∧ (0 ≤ cn2 ∧ cn2 ≤ 121 ∧ 0 ≤ ct2 ∧ ct2 ≤ mst ∧ 0 ≤ ro2 ∧ ro2 ≤ 1 ∧ vr2 = ve) ∧ (rgs CU2 120 0 1114112) ∧ (bgo BG ct2) ∧ (ents PO (BG ct2) cnt) ∧ (ego EG ct2 (cn2 + 5))) ∨ (∃ vr2 : Int, ∃ cn2 : Int, ∃ ct2 : Int, ∃ ro2 : Int, ∃ CU2 : Int → Int, oc = .returned (some (vz 1)) ∧ fx o o [60, 61] G G2 ∧ G2.length = G.length ∧ ab_slots G2 = ab_slots G ∧ cc o G2 a 60 (ab_ob 8 [vz mst, vR q, vz vr2, vz ro2, vR cu, vz cn2, vR eg, vR po, vR bg, vR bd, vz ct2, vR sd, vz sc, vR se_, vz sta, vR stk, vz arv, vj stp]) ∧ cc o G2 cu 61 (za 120 CU2) ∧ (0 ≤ cn2 ∧ cn2 ≤ 120 ∧ 0 ≤ ct2 ∧ ct2 ≤ mst ∧ 0 ≤ ro2 ∧ ro2 ≤ 1 ∧ vr2 = ve) ∧ (rgs CU2 120 0 1114112) ∧ (bgo BG ct2) ∧ (ents PO (BG ct2) cnt) ∧ (ego EG ct2 (cn2 + 5)))) := by
  refine ab_F_of (by decide +kernel) (Nat.le_of_ble_eq_true rfl) ?_
  obtain ⟨Q, hQ⟩ : ∃ z : Outcome → ab_G → Prop, z = (fun oc G2 => (∃ vr2 : Int, ∃ cn2 : Int, ∃ ct2 : Int, ∃ ro2 : Int, ∃ CU2 : Int → Int, oc = .returned (some (vz 0)) ∧ fx o o [60, 61] G G2 ∧ G2.length = G.length ∧ ab_slots G2 = ab_slots G ∧ cc o G2 a 60 (ab_ob 8 [vz mst, vR q, vz vr2, vz ro2, vR cu, vz cn2, vR eg, vR po, vR bg, vR bd, vz ct2, vR sd, vz sc, vR se_, vz sta, vR stk, vz arv, vj stp]) ∧ cc o G2 cu 61 (za 120 CU2) ∧ (0 ≤ cn2 ∧ cn2 ≤ 121 ∧ 0 ≤ ct2 ∧ ct2 ≤ mst ∧ 0 ≤ ro2 ∧ ro2 ≤ 1 ∧ vr2 = ve) ∧ (rgs CU2 120 0 1114112) ∧ (bgo BG ct2) ∧ (ents PO (BG ct2) cnt) ∧ (ego EG ct2 (cn2 + 5))) ∨ (∃ vr2 : Int, ∃ cn2 : Int, ∃ ct2 : Int, ∃ ro2 : Int, ∃ CU2 : Int → Int, oc = .returned (some (vz 1)) ∧ fx o o [60, 61] G G2 ∧ G2.length = G.length ∧ ab_slots G2 = ab_slots G ∧ cc o G2 a 60 (ab_ob 8 [vz mst, vR q, vz vr2, vz ro2, vR cu, vz cn2, vR eg, vR po, vR bg, vR bd, vz ct2, vR sd, vz sc, vR se_, vz sta, vR stk, vz arv, vj stp]) ∧ cc o G2 cu 61 (za 120 CU2) ∧ (0 ≤ cn2 ∧ cn2 ≤ 120 ∧ 0 ≤ ct2 ∧ ct2 ≤ mst ∧ 0 ≤ ro2 ∧ ro2 ≤ 1 ∧ vr2 = ve) ∧ (rgs CU2 120 0 1114112) ∧ (bgo BG ct2) ∧ (ents PO (BG ct2) cnt) ∧ (ego EG ct2 (cn2 + 5)))) := ⟨_, rfl⟩
  rw [← hQ]
  change ab_W X (ab_pl y_ST_prepare b_ST_prepare 3 (some (.boolean))) d G 0 [some (vR a), some (vR q), some (vz rb)] [] Q
  have hfr : fx o o [60, 61] G G := fx.rf
  have hlen : G.length = G.length := rfl
  have hsl : ab_slots G = ab_slots G := rfl
  refine ab_aload_n d_ST_prepare_0 rfl ?_
  refine ab_aload_n d_ST_prepare_1 rfl ?_
  refine ab_putf (fs := [vz mst, q0, vz vr, vz ro, vR cu, vz cn, vR eg, vR po, vR bg, vR bd, vz ct, vR sd, vz sc, vR se_, vz sta, vR stk, vz arv, vj stp]) f_ST_74 (Or.inl rfl) d_ST_prepare_2 ha.2.2 (Nat.le_of_ble_eq_true rfl) (fun _ => ⟨rfl, rfl⟩) (ha.2.1 (by decide)) ?_
  obtain ⟨G1, eG1⟩ : ∃ z : ab_G, z = List.set G a (ab_ob 8 [vz mst, vR q, vz vr, vz ro, vR cu, vz cn, vR eg, vR po, vR bg, vR bd, vz ct, vR sd, vz sc, vR se_, vz sta, vR stk, vz arv, vj stp]) := ⟨_, rfl⟩
  have hcu := hcu.keep ha eG1 (by decide)
  have h17 := h17.keep ha eG1 (by decide)
  have hq := hq.keep ha eG1 (by omega)
  have hki := hki.keep ha eG1 (by omega)
  have hne := hne.keep ha eG1 (by omega)
  have hot := hot.keep ha eG1 (by omega)
  have hra := hra.keep ha eG1 (by omega)
  have hlen := (z_len eG1).trans hlen
  have hsl := (z_sl ha eG1 rfl).trans hsl
  have hfr := hfr.wr ha eG1 (by decide)
  have ha := ha.kept eG1
  change ab_W _ _ _ (List.set G a (ab_ob 8 [vz mst, vR q, vz vr, vz ro, vR cu, vz cn, vR eg, vR po, vR bg, vR bd, vz ct, vR sd, vz sc, vR se_, vz sta, vR stk, vz arv, vj stp])) 5 [some (vR a), some (vR q), some (vz rb)] [] _
  rw [← eG1]
  refine ab_aload_n d_ST_prepare_5 rfl ?_
  refine ab_getf (fs := [vz mst, vR q, vz vr, vz ro, vR cu, vz cn, vR eg, vR po, vR bg, vR bd, vz ct, vR sd, vz sc, vR se_, vz sta, vR stk, vz arv, vj stp]) f_ST_78 d_ST_prepare_6 ha.2.2 rfl ?_
  refine ab_aload_n d_ST_prepare_9 rfl ?_
  refine ab_getf (fs := [vR ki, vR ne, vR ot, vz cnt, vz fi, vz la, vR ra, vz ru, vz gr, vz wi, vz sz, vz fl, vz ve, vz mi, vR na, vR nl]) f_ST_81 d_ST_prepare_10 hq.2.2 rfl ?_
  refine zz_icmp_eq (tgt := 33) d_ST_prepare_13 (by decide) (by omega) (by omega) (fun c2 => ?_) (fun c2 => ?_)
  · refine ab_aload_n d_ST_prepare_33 rfl ?_
    refine ab_getf (fs := [vz mst, vR q, vz vr, vz ro, vR cu, vz cn, vR eg, vR po, vR bg, vR bd, vz ct, vR sd, vz sc, vR se_, vz sta, vR stk, vz arv, vj stp]) f_ST_63 d_ST_prepare_34 ha.2.2 rfl ?_
    refine zz_bipush d_ST_prepare_37 (by decide) ?_
    refine zz_icmp_le (tgt := 44) d_ST_prepare_39 (by decide) (by omega) (by decide) (fun c3 => ?_) (fun c3 => ?_)
    · refine ab_aload_n d_ST_prepare_44 rfl ?_
      refine ab_getf (fs := [vz mst, vR q, vz vr, vz ro, vR cu, vz cn, vR eg, vR po, vR bg, vR bd, vz ct, vR sd, vz sc, vR se_, vz sta, vR stk, vz arv, vj stp]) f_ST_70 d_ST_prepare_45 ha.2.2 rfl ?_
      refine ab_iload_n d_ST_prepare_48 rfl ?_
      refine zz_icmp_eq (tgt := 62) d_ST_prepare_49 (by decide) (by omega) (by omega) (fun c4 => ?_) (fun c4 => ?_)
      · refine zz_iconst d_ST_prepare_62 ?_
        refine zz_bret rfl (by decide) d_ST_prepare_63 ?_
        rw [hQ]; exact (Or.inr ⟨_, _, _, _, _, rfl, hfr, hlen, hsl, ha, hcu, (by omega), (by exact jcu), (by exact jbg), (by exact (hvc (by omega)) ▸ jpo), (by exact jeg)⟩)
      · refine ab_aload_n d_ST_prepare_52 rfl ?_
        refine ab_iload_n d_ST_prepare_53 rfl ?_
        refine ab_putf (fs := [vz mst, vR q, vz vr, vz ro, vR cu, vz cn, vR eg, vR po, vR bg, vR bd, vz ct, vR sd, vz sc, vR se_, vz sta, vR stk, vz arv, vj stp]) f_ST_70 (Or.inl rfl) d_ST_prepare_54 ha.2.2 (Nat.le_of_ble_eq_true rfl) (ab_fbz (by omega)) (ha.2.1 (by decide)) ?_
        obtain ⟨G5, eG5⟩ : ∃ z : ab_G, z = List.set G1 a (ab_ob 8 [vz mst, vR q, vz vr, vz rb, vR cu, vz cn, vR eg, vR po, vR bg, vR bd, vz ct, vR sd, vz sc, vR se_, vz sta, vR stk, vz arv, vj stp]) := ⟨_, rfl⟩
        have hcu := hcu.keep ha eG5 (by decide)
        have h17 := h17.keep ha eG5 (by decide)
        have hq := hq.keep ha eG5 (by omega)
        have hki := hki.keep ha eG5 (by omega)
        have hne := hne.keep ha eG5 (by omega)
        have hot := hot.keep ha eG5 (by omega)
        have hra := hra.keep ha eG5 (by omega)
        have hlen := (z_len eG5).trans hlen
        have hsl := (z_sl ha eG5 rfl).trans hsl
        have hfr := hfr.wr ha eG5 (by decide)
        have ha := ha.kept eG5
        change ab_W _ _ _ (List.set G1 a (ab_ob 8 [vz mst, vR q, vz vr, vz rb, vR cu, vz cn, vR eg, vR po, vR bg, vR bd, vz ct, vR sd, vz sc, vR se_, vz sta, vR stk, vz arv, vj stp])) 57 [some (vR a), some (vR q), some (vz rb)] [] _
        rw [← eG5]
        refine ab_aload_n d_ST_prepare_57 rfl ?_
        refine zz_iconst d_ST_prepare_58 ?_
        refine ab_putf (fs := [vz mst, vR q, vz vr, vz rb, vR cu, vz cn, vR eg, vR po, vR bg, vR bd, vz ct, vR sd, vz sc, vR se_, vz sta, vR stk, vz arv, vj stp]) f_ST_40 (Or.inl rfl) d_ST_prepare_59 ha.2.2 (Nat.le_of_ble_eq_true rfl) (fun _ => ⟨rfl, rfl⟩) (ha.2.1 (by decide)) ?_
        obtain ⟨G6, eG6⟩ : ∃ z : ab_G, z = List.set G5 a (ab_ob 8 [vz mst, vR q, vz vr, vz rb, vR cu, vz cn, vR eg, vR po, vR bg, vR bd, vz 0, vR sd, vz sc, vR se_, vz sta, vR stk, vz arv, vj stp]) := ⟨_, rfl⟩
        have hcu := hcu.keep ha eG6 (by decide)
        have h17 := h17.keep ha eG6 (by decide)
        have hq := hq.keep ha eG6 (by omega)
        have hki := hki.keep ha eG6 (by omega)
        have hne := hne.keep ha eG6 (by omega)
        have hot := hot.keep ha eG6 (by omega)
        have hra := hra.keep ha eG6 (by omega)
        have hlen := (z_len eG6).trans hlen
        have hsl := (z_sl ha eG6 rfl).trans hsl
        have hfr := hfr.wr ha eG6 (by decide)
        have ha := ha.kept eG6
        change ab_W _ _ _ (List.set G5 a (ab_ob 8 [vz mst, vR q, vz vr, vz rb, vR cu, vz cn, vR eg, vR po, vR bg, vR bd, vz 0, vR sd, vz sc, vR se_, vz sta, vR stk, vz arv, vj stp])) 62 [some (vR a), some (vR q), some (vz rb)] [] _
        rw [← eG6]
        refine zz_iconst d_ST_prepare_62 ?_
        refine zz_bret rfl (by decide) d_ST_prepare_63 ?_
        rw [hQ]; exact (Or.inr ⟨_, _, _, _, _, rfl, hfr, hlen, hsl, ha, hcu, (by omega), (by exact jcu), (by exact bgo_0 jbg), (by rw [jbg.1]; exact ents_0), (by exact ego_0)⟩)
    · refine zz_iconst d_ST_prepare_42 ?_
      refine zz_bret rfl (by decide) d_ST_prepare_43 ?_
      rw [hQ]; exact (Or.inl ⟨_, _, _, _, _, rfl, hfr, hlen, hsl, ha, hcu, (by omega), (by exact jcu), (by exact jbg), (by exact (hvc (by omega)) ▸ jpo), (by exact jeg)⟩)
  · refine ab_aload_n d_ST_prepare_16 rfl ?_
    refine ab_aload_n d_ST_prepare_17 rfl ?_
    refine ab_getf (fs := [vR ki, vR ne, vR ot, vz cnt, vz fi, vz la, vR ra, vz ru, vz gr, vz wi, vz sz, vz fl, vz ve, vz mi, vR na, vR nl]) f_ST_81 d_ST_prepare_18 hq.2.2 rfl ?_
    refine ab_putf (fs := [vz mst, vR q, vz vr, vz ro, vR cu, vz cn, vR eg, vR po, vR bg, vR bd, vz ct, vR sd, vz sc, vR se_, vz sta, vR stk, vz arv, vj stp]) f_ST_78 (Or.inl rfl) d_ST_prepare_21 ha.2.2 (Nat.le_of_ble_eq_true rfl) (fun _ => ⟨rfl, rfl⟩) (ha.2.1 (by decide)) ?_
    obtain ⟨G7, eG7⟩ : ∃ z : ab_G, z = List.set G1 a (ab_ob 8 [vz mst, vR q, vz ve, vz ro, vR cu, vz cn, vR eg, vR po, vR bg, vR bd, vz ct, vR sd, vz sc, vR se_, vz sta, vR stk, vz arv, vj stp]) := ⟨_, rfl⟩
    have hcu := hcu.keep ha eG7 (by decide)
    have h17 := h17.keep ha eG7 (by decide)
    have hq := hq.keep ha eG7 (by omega)
    have hki := hki.keep ha eG7 (by omega)
    have hne := hne.keep ha eG7 (by omega)
    have hot := hot.keep ha eG7 (by omega)
    have hra := hra.keep ha eG7 (by omega)
    have hlen := (z_len eG7).trans hlen
    have hsl := (z_sl ha eG7 rfl).trans hsl
    have hfr := hfr.wr ha eG7 (by decide)
    have ha := ha.kept eG7
    change ab_W _ _ _ (List.set G1 a (ab_ob 8 [vz mst, vR q, vz ve, vz ro, vR cu, vz cn, vR eg, vR po, vR bg, vR bd, vz ct, vR sd, vz sc, vR se_, vz sta, vR stk, vz arv, vj stp])) 24 [some (vR a), some (vR q), some (vz rb)] [] _
    rw [← eG7]
    refine ab_aload_n d_ST_prepare_24 rfl ?_
    refine ab_callV (d' := d - 1) (as := []) (st := []) (r := _) (z_ST_findCuts (o := o) (a := a) (cu := cu) (eg := eg) (po := po) (bg := bg) (bd := bd) (sd := sd) (se_ := se_) (stk := stk) (mst := mst) (vr := ve) (ro := ro) (cn := cn) (ct := ct) (sc := sc) (sta := sta) (arv := arv) (stp := stp) (CU := CU) (q := q) (lq := lq) (ki := ki) (ne := ne) (ot := ot) (cnt := cnt) (fi := fi) (la := la) (ra := ra) (ru := ru) (gr := gr) (wi := wi) (sz := sz) (fl := fl) (ve := ve) (mi := mi) (na := na) (nl := nl) (K := K) (O := O) (RR := RR) (nr := nr) ha hcu h17 hq hki hot hra (by omega) hp hr (by omega) hch jcu (by omega)) (fun oc G2 h => by rcases h with ⟨_, _, h, _⟩ <;> exact ⟨_, h⟩) (by omega) m_ST_findCuts ml_ST_84 im_ST_findCuts se_ST_findCuts c_ST ha.2.2 (Nat.le_of_ble_eq_true rfl) d_ST_prepare_25 rfl ?_
    intro v G8 hq
    rcases hq with ⟨cn29, CU210, hv, hfk, hlk, hsk, hNa, hNcu, hq11, hq12⟩
    cases hv
    have h17 := hfk.get h17 (by decide)
    have hq := hfk.get hq (by simp only [List.mem_cons, List.not_mem_nil, or_false]; omega)
    have hki := hfk.get hki (by simp only [List.mem_cons, List.not_mem_nil, or_false]; omega)
    have hne := hfk.get hne (by simp only [List.mem_cons, List.not_mem_nil, or_false]; omega)
    have hot := hfk.get hot (by simp only [List.mem_cons, List.not_mem_nil, or_false]; omega)
    have hra := hfk.get hra (by simp only [List.mem_cons, List.not_mem_nil, or_false]; omega)
    have hfr := hfr.tr hfk (by decide)
    have hlen := hlk.trans hlen
    have hsl := hsk.trans hsl
    have ha := hNa
    have hcu := hNcu
    change ab_W _ _ _ G8 28 [some (vR a), some (vR q), some (vz rb)] [] _
    refine ab_aload_n d_ST_prepare_28 rfl ?_
    refine zz_iconst d_ST_prepare_29 ?_
    refine ab_putf (fs := [vz mst, vR q, vz ve, vz ro, vR cu, vz cn29, vR eg, vR po, vR bg, vR bd, vz ct, vR sd, vz sc, vR se_, vz sta, vR stk, vz arv, vj stp]) f_ST_40 (Or.inl rfl) d_ST_prepare_30 ha.2.2 (Nat.le_of_ble_eq_true rfl) (fun _ => ⟨rfl, rfl⟩) (ha.2.1 (by decide)) ?_
    obtain ⟨G13, eG13⟩ : ∃ z : ab_G, z = List.set G8 a (ab_ob 8 [vz mst, vR q, vz ve, vz ro, vR cu, vz cn29, vR eg, vR po, vR bg, vR bd, vz 0, vR sd, vz sc, vR se_, vz sta, vR stk, vz arv, vj stp]) := ⟨_, rfl⟩
    have hcu := hcu.keep ha eG13 (by decide)
    have h17 := h17.keep ha eG13 (by decide)
    have hq := hq.keep ha eG13 (by omega)
    have hki := hki.keep ha eG13 (by omega)
    have hne := hne.keep ha eG13 (by omega)
    have hot := hot.keep ha eG13 (by omega)
    have hra := hra.keep ha eG13 (by omega)
    have hlen := (z_len eG13).trans hlen
    have hsl := (z_sl ha eG13 rfl).trans hsl
    have hfr := hfr.wr ha eG13 (by decide)
    have ha := ha.kept eG13
    change ab_W _ _ _ (List.set G8 a (ab_ob 8 [vz mst, vR q, vz ve, vz ro, vR cu, vz cn29, vR eg, vR po, vR bg, vR bd, vz 0, vR sd, vz sc, vR se_, vz sta, vR stk, vz arv, vj stp])) 33 [some (vR a), some (vR q), some (vz rb)] [] _
    rw [← eG13]
    refine ab_aload_n d_ST_prepare_33 rfl ?_
    refine ab_getf (fs := [vz mst, vR q, vz ve, vz ro, vR cu, vz cn29, vR eg, vR po, vR bg, vR bd, vz 0, vR sd, vz sc, vR se_, vz sta, vR stk, vz arv, vj stp]) f_ST_63 d_ST_prepare_34 ha.2.2 rfl ?_
    refine zz_bipush d_ST_prepare_37 (by decide) ?_
    refine zz_icmp_le (tgt := 44) d_ST_prepare_39 (by decide) (by omega) (by decide) (fun c14 => ?_) (fun c14 => ?_)
    · refine ab_aload_n d_ST_prepare_44 rfl ?_
      refine ab_getf (fs := [vz mst, vR q, vz ve, vz ro, vR cu, vz cn29, vR eg, vR po, vR bg, vR bd, vz 0, vR sd, vz sc, vR se_, vz sta, vR stk, vz arv, vj stp]) f_ST_70 d_ST_prepare_45 ha.2.2 rfl ?_
      refine ab_iload_n d_ST_prepare_48 rfl ?_
      refine zz_icmp_eq (tgt := 62) d_ST_prepare_49 (by decide) (by omega) (by omega) (fun c15 => ?_) (fun c15 => ?_)
      · refine zz_iconst d_ST_prepare_62 ?_
        refine zz_bret rfl (by decide) d_ST_prepare_63 ?_
        rw [hQ]; exact (Or.inr ⟨_, _, _, _, _, rfl, hfr, hlen, hsl, ha, hcu, (by omega), (by exact hq12), (by exact bgo_0 jbg), (by rw [jbg.1]; exact ents_0), (by exact ego_0)⟩)
      · refine ab_aload_n d_ST_prepare_52 rfl ?_
        refine ab_iload_n d_ST_prepare_53 rfl ?_
        refine ab_putf (fs := [vz mst, vR q, vz ve, vz ro, vR cu, vz cn29, vR eg, vR po, vR bg, vR bd, vz 0, vR sd, vz sc, vR se_, vz sta, vR stk, vz arv, vj stp]) f_ST_70 (Or.inl rfl) d_ST_prepare_54 ha.2.2 (Nat.le_of_ble_eq_true rfl) (ab_fbz (by omega)) (ha.2.1 (by decide)) ?_
        obtain ⟨G16, eG16⟩ : ∃ z : ab_G, z = List.set G13 a (ab_ob 8 [vz mst, vR q, vz ve, vz rb, vR cu, vz cn29, vR eg, vR po, vR bg, vR bd, vz 0, vR sd, vz sc, vR se_, vz sta, vR stk, vz arv, vj stp]) := ⟨_, rfl⟩
        have hcu := hcu.keep ha eG16 (by decide)
        have h17 := h17.keep ha eG16 (by decide)
        have hq := hq.keep ha eG16 (by omega)
        have hki := hki.keep ha eG16 (by omega)
        have hne := hne.keep ha eG16 (by omega)
        have hot := hot.keep ha eG16 (by omega)
        have hra := hra.keep ha eG16 (by omega)
        have hlen := (z_len eG16).trans hlen
        have hsl := (z_sl ha eG16 rfl).trans hsl
        have hfr := hfr.wr ha eG16 (by decide)
        have ha := ha.kept eG16
        change ab_W _ _ _ (List.set G13 a (ab_ob 8 [vz mst, vR q, vz ve, vz rb, vR cu, vz cn29, vR eg, vR po, vR bg, vR bd, vz 0, vR sd, vz sc, vR se_, vz sta, vR stk, vz arv, vj stp])) 57 [some (vR a), some (vR q), some (vz rb)] [] _
        rw [← eG16]
        refine ab_aload_n d_ST_prepare_57 rfl ?_
        refine zz_iconst d_ST_prepare_58 ?_
        refine ab_putf (fs := [vz mst, vR q, vz ve, vz rb, vR cu, vz cn29, vR eg, vR po, vR bg, vR bd, vz 0, vR sd, vz sc, vR se_, vz sta, vR stk, vz arv, vj stp]) f_ST_40 (Or.inl rfl) d_ST_prepare_59 ha.2.2 (Nat.le_of_ble_eq_true rfl) (fun _ => ⟨rfl, rfl⟩) (ha.2.1 (by decide)) ?_
        obtain ⟨G17, eG17⟩ : ∃ z : ab_G, z = List.set G16 a (ab_ob 8 [vz mst, vR q, vz ve, vz rb, vR cu, vz cn29, vR eg, vR po, vR bg, vR bd, vz 0, vR sd, vz sc, vR se_, vz sta, vR stk, vz arv, vj stp]) := ⟨_, rfl⟩
        have hcu := hcu.keep ha eG17 (by decide)
        have h17 := h17.keep ha eG17 (by decide)
        have hq := hq.keep ha eG17 (by omega)
        have hki := hki.keep ha eG17 (by omega)
        have hne := hne.keep ha eG17 (by omega)
        have hot := hot.keep ha eG17 (by omega)
        have hra := hra.keep ha eG17 (by omega)
        have hlen := (z_len eG17).trans hlen
        have hsl := (z_sl ha eG17 rfl).trans hsl
        have hfr := hfr.wr ha eG17 (by decide)
        have ha := ha.kept eG17
        change ab_W _ _ _ (List.set G16 a (ab_ob 8 [vz mst, vR q, vz ve, vz rb, vR cu, vz cn29, vR eg, vR po, vR bg, vR bd, vz 0, vR sd, vz sc, vR se_, vz sta, vR stk, vz arv, vj stp])) 62 [some (vR a), some (vR q), some (vz rb)] [] _
        rw [← eG17]
        refine zz_iconst d_ST_prepare_62 ?_
        refine zz_bret rfl (by decide) d_ST_prepare_63 ?_
        rw [hQ]; exact (Or.inr ⟨_, _, _, _, _, rfl, hfr, hlen, hsl, ha, hcu, (by omega), (by exact hq12), (by exact bgo_0 jbg), (by rw [jbg.1]; exact ents_0), (by exact ego_0)⟩)
    · refine zz_iconst d_ST_prepare_42 ?_
      refine zz_bret rfl (by decide) d_ST_prepare_43 ?_
      rw [hQ]; exact (Or.inl ⟨_, _, _, _, _, rfl, hfr, hlen, hsl, ha, hcu, (by omega), (by exact hq12), (by exact bgo_0 jbg), (by rw [jbg.1]; exact ents_0), (by exact ego_0)⟩)
set_option maxRecDepth 100000 in
set_option maxHeartbeats 4000000 in
theorem y_ST_tell_33 {X : ab_X} {d : Nat} {Q : Outcome → ab_G → Prop} {o : Nat → Nat} {G0 : ab_G} {a : Nat} {cu : Nat} {eg : Nat} {po : Nat} {bg : Nat} {bd : Nat} {sd : Nat} {se_ : Nat} {stk : Nat} {mst : Int} {vr : Int} {ro : Int} {cn : Int} {CU : Int → Int} {q : Nat} {lq : Nat} {ki : Nat} {ne : Nat} {ot : Nat} {cnt : Int} {fi : Int} {la : Int} {ra : Nat} {ru : Int} {gr : Int} {wi : Int} {sz : Int} {fl : Int} {ve : Int} {mi : Int} {na : Nat} {nl : Nat} {K : Int → Int} {N : Int → Int} {O : Int → Int} {RR : Int → Int} {nr : Nat} {s : Nat} {by_ : Nat} {co : Nat} {re : Nat} {ho : Nat} {n : Int} {f : Int → Int} {C : Int → Int} {Rs : Int → Int} {H : Int → Int} {m : Nat} {mc : Nat} {hw : Int} (cc0 : 0 ≤ cn ∧ cn ≤ 120) (jcu : rgs CU 120 0 1114112) (cq : 100 ≤ lq ∧ 0 ≤ cnt ∧ cnt ≤ 808 ∧ ↑nr ≤ (100000 : Int)) (hp : prok K N O RR cnt ↑nr wi) (hr : ∀ k : Int, 0 ≤ k → k < ↑nr → 0 ≤ RR k ∧ RR k ≤ 1114111) (cfi : 0 ≤ fi ∧ fi < cnt ∧ 0 ≤ la ∧ la ≤ 1) (cro : 0 ≤ ro ∧ ro ≤ 1) (csu : 0 ≤ n ∧ n ≤ ↑m ∧ 32 ≤ m ∧ m ≤ 2000 ∧ mc = m + 1) (hsu : suok f C Rs H n) (chw : 0 ≤ hw ∧ hw ≤ 2) (hd : 7 ≤ d) : ∀ (mz : Nat) {G : ab_G} {ct : Int} {sc : Int} {sta : Int} {arv : Int} {stp : Int} {EG : Int → Int} {PO : Int → Int} {BG : Int → Int} {BD : Int → Int} {SD : Int → Int} {SE : Int → Int} {SK : Int → Int} {p : Int} {x_ : Int}, (cc o G a 60 (ab_ob 8 [vz mst, vR q, vz vr, vz ro, vR cu, vz cn, vR eg, vR po, vR bg, vR bd, vz ct, vR sd, vz sc, vR se_, vz sta, vR stk, vz arv, vj stp])) → (cc o G cu 61 (za 120 CU)) → (cc o G eg 62 (za 8000 EG)) → (cc o G po 63 (za 8192 PO)) → (cc o G bg 64 (za 65 BG)) → (cc o G bd 65 (za 64 BD)) → (cc o G sd 66 (za 2048 SD)) → (cc o G se_ 67 (za 3072 SE)) → (cc o G stk 68 (za 809 SK)) → (cc o G q lq (ab_ob 5 [vR ki, vR ne, vR ot, vz cnt, vz fi, vz la, vR ra, vz ru, vz gr, vz wi, vz sz, vz fl, vz ve, vz mi, vR na, vR nl])) → (cc o G ki (lq + 1) (za 808 K)) → (cc o G ne (lq + 2) (za 808 N)) → (cc o G ot (lq + 3) (za 808 O)) → (cc o G ra (lq + 4) (za nr RR)) → (cc o G s 26 (ab_ob 9 [vR by_, vR co, vR re, vR ho, vz n])) → (cc o G co 28 (za mc C)) → (cc o G re 29 (za mc Rs)) → (0 ≤ p ∧ p ≤ n + 1 ∧ 0 ≤ x_ ∧ x_ < ct) → (4 ≤ mst ∧ mst ≤ 64 ∧ 0 ≤ ct ∧ ct ≤ mst) → (bgo BG ct) → (ents PO (BG ct) cnt) → (rgs BD 64 0 7) → (ego EG ct (cn + 5)) → (0 ≤ arv ∧ arv ≤ 1) → (0 ≤ sc ∧ sc ≤ 2048) → (fx o o [60, 62, 63, 64, 65, 66, 67, 68] G0 G) → (G.length = G0.length) → (ab_slots G = ab_slots G0) → (Int.toNat (n + 1 - p) < mz) → (∀ (G2 : ab_G) (v : Int) (ct2 : Int) (sc2 : Int) (sta2 : Int) (st2 : Int) (ar2 : Int) (EG2 : Int → Int) (PO2 : Int → Int) (BG2 : Int → Int) (BD2 : Int → Int) (SD2 : Int → Int) (SE2 : Int → Int) (SK2 : Int → Int), (cc o G2 a 60 (ab_ob 8 [vz mst, vR q, vz vr, vz ro, vR cu, vz cn, vR eg, vR po, vR bg, vR bd, vz ct2, vR sd, vz sc2, vR se_, vz sta2, vR stk, vz ar2, vj st2])) → (cc o G2 eg 62 (za 8000 EG2)) → (cc o G2 po 63 (za 8192 PO2)) → (cc o G2 bg 64 (za 65 BG2)) → (cc o G2 bd 65 (za 64 BD2)) → (cc o G2 sd 66 (za 2048 SD2)) → (cc o G2 se_ 67 (za 3072 SE2)) → (cc o G2 stk 68 (za 809 SK2)) → (0 ≤ ct2 ∧ ct2 ≤ mst ∧ 0 ≤ ar2 ∧ ar2 ≤ 1 ∧ 0 ≤ sc2 ∧ sc2 ≤ 2048) → (bgo BG2 ct2) → (ents PO2 (BG2 ct2) cnt) → (rgs BD2 64 0 7) → (ego EG2 ct2 (cn + 5)) → (0 ≤ v ∧ v ≤ 1) → (fx o o [60, 62, 63, 64, 65, 66, 67, 68] G0 G2) → (G2.length = G0.length) → (ab_slots G2 = ab_slots G0) → Q (.returned (some (vz v))) G2) → ab_W X (ab_pl y_ST_tell b_ST_tell 9 (some (.int))) d G 33 [some (vR a), none, some (vR s), some (vz hw), none, some (vz x_), some (vz p), none, none] [] Q := by
  intro mz
  induction mz with
  | zero => intro G ct sc sta arv stp EG PO BG BD SD SE SK p x_ ha hcu heg hpo hbg hbd hsd hse_ hstk hq hki hne hot hra hs hco hre ci cms jbg jpo jbd jeg car csc hfr hlen hsl hm hk0; exact absurd hm (Nat.not_lt_zero _)
  | succ mz ih =>
    intro G ct sc sta arv stp EG PO BG BD SD SE SK p x_ ha hcu heg hpo hbg hbd hsd hse_ hstk hq hki hne hot hra hs hco hre ci cms jbg jpo jbd jeg car csc hfr hlen hsl hm hk0
    refine ab_iload d_ST_tell_33 rfl ?_
    refine ab_aload_n d_ST_tell_35 rfl ?_
    refine ab_getf (fs := [vR by_, vR co, vR re, vR ho, vz n]) f_ST_51 d_ST_tell_36 hs.2.2 rfl ?_
    refine zz_icmp_gt (tgt := 156) d_ST_tell_39 (by decide) (by omega) (by omega) (fun c1 => ?_) (fun c1 => ?_)
    · refine zz_iconst d_ST_tell_156 ?_
      refine zz_iret rfl d_ST_tell_157 ?_
      exact hk0 _ _ _ _ _ _ _ _ _ _ _ _ _ _ ha heg hpo hbg hbd hsd hse_ hstk (by omega) (by exact jbg) (by exact jpo) (by exact jbd) (by exact jeg) (by omega) hfr hlen hsl
    · refine ab_aload_n d_ST_tell_42 rfl ?_
      refine ab_dup d_ST_tell_43 rfl ?_
      refine ab_getf (fs := [vz mst, vR q, vz vr, vz ro, vR cu, vz cn, vR eg, vR po, vR bg, vR bd, vz ct, vR sd, vz sc, vR se_, vz sta, vR stk, vz arv, vj stp]) f_ST_56 d_ST_tell_44 ha.2.2 rfl ?_
      refine zz_lconst d_ST_tell_47 ?_
      change ab_W _ _ _ G 48 [some (vR a), none, some (vR s), some (vz hw), none, some (vz x_), some (vz p), none, none] [vj 1, vj stp, vR a] _
      refine zz_ladd d_ST_tell_48 ?_
      refine ab_putf (fs := [vz mst, vR q, vz vr, vz ro, vR cu, vz cn, vR eg, vR po, vR bg, vR bd, vz ct, vR sd, vz sc, vR se_, vz sta, vR stk, vz arv, vj stp]) f_ST_56 (Or.inl rfl) d_ST_tell_49 ha.2.2 (Nat.le_of_ble_eq_true rfl) (fun _ => ⟨rfl, rfl⟩) (ha.2.1 (by decide)) ?_
      obtain ⟨G2, eG2⟩ : ∃ z : ab_G, z = List.set G a (ab_ob 8 [vz mst, vR q, vz vr, vz ro, vR cu, vz cn, vR eg, vR po, vR bg, vR bd, vz ct, vR sd, vz sc, vR se_, vz sta, vR stk, vz arv, vj (stp + 1)]) := ⟨_, rfl⟩
      have hcu := hcu.keep ha eG2 (by decide)
      have heg := heg.keep ha eG2 (by decide)
      have hpo := hpo.keep ha eG2 (by decide)
      have hbg := hbg.keep ha eG2 (by decide)
      have hbd := hbd.keep ha eG2 (by decide)
      have hsd := hsd.keep ha eG2 (by decide)
      have hse_ := hse_.keep ha eG2 (by decide)
      have hstk := hstk.keep ha eG2 (by decide)
      have hq := hq.keep ha eG2 (by omega)
      have hki := hki.keep ha eG2 (by omega)
      have hne := hne.keep ha eG2 (by omega)
      have hot := hot.keep ha eG2 (by omega)
      have hra := hra.keep ha eG2 (by omega)
      have hs := hs.keep ha eG2 (by decide)
      have hco := hco.keep ha eG2 (by decide)
      have hre := hre.keep ha eG2 (by decide)
      have hlen := (z_len eG2).trans hlen
      have hsl := (z_sl ha eG2 rfl).trans hsl
      have hfr := hfr.wr ha eG2 (by decide)
      have ha := ha.kept eG2
      change ab_W _ _ _ (List.set G a (ab_ob 8 [vz mst, vR q, vz vr, vz ro, vR cu, vz cn, vR eg, vR po, vR bg, vR bd, vz ct, vR sd, vz sc, vR se_, vz sta, vR stk, vz arv, vj (stp + 1)])) 52 [some (vR a), none, some (vR s), some (vz hw), none, some (vz x_), some (vz p), none, none] [] _
      rw [← eG2]
      refine ab_aload_n d_ST_tell_52 rfl ?_
      refine ab_aload_n d_ST_tell_53 rfl ?_
      refine ab_iload d_ST_tell_54 rfl ?_
      refine ab_callV (d' := d - 1) (as := [vR s, vz p]) (st := []) (r := _) (z_ST_signAt (o := o) (a := a) (cu := cu) (eg := eg) (po := po) (bg := bg) (bd := bd) (sd := sd) (se_ := se_) (stk := stk) (mst := mst) (q0 := vR q) (vr := vr) (ro := ro) (cn := cn) (ct := ct) (sc := sc) (sta := sta) (arv := arv) (stp := (stp + 1)) (CU := CU) (s := s) (by_ := by_) (co := co) (re := re) (ho := ho) (n := n) (C := C) (Rs := Rs) (mc := mc) (p := p) ha hcu hs hco hre (by omega) jcu (by omega) hsu (by omega) (by omega)) (fun oc G2 h => by rcases h with ⟨_, h, _⟩ <;> exact ⟨_, h⟩) (by omega) m_ST_signAt ml_ST_60 im_ST_signAt se_ST_signAt c_ST ha.2.2 (Nat.le_of_ble_eq_true rfl) d_ST_tell_56 rfl ?_
      intro v G3 hq
      rcases hq with ⟨v4, hv, hfk, hlk, hsk, hq5⟩
      cases hv
      have ha := hfk.get ha (by decide)
      have hcu := hfk.get hcu (by decide)
      have heg := hfk.get heg (by decide)
      have hpo := hfk.get hpo (by decide)
      have hbg := hfk.get hbg (by decide)
      have hbd := hfk.get hbd (by decide)
      have hsd := hfk.get hsd (by decide)
      have hse_ := hfk.get hse_ (by decide)
      have hstk := hfk.get hstk (by decide)
      have hq := hfk.get hq (by simp)
      have hki := hfk.get hki (by simp)
      have hne := hfk.get hne (by simp)
      have hot := hfk.get hot (by simp)
      have hra := hfk.get hra (by simp)
      have hs := hfk.get hs (by decide)
      have hco := hfk.get hco (by decide)
      have hre := hfk.get hre (by decide)
      have hfr := hfr.tr hfk (by decide)
      have hlen := hlk.trans hlen
      have hsl := hsk.trans hsl
      change ab_W _ _ _ G3 59 [some (vR a), none, some (vR s), some (vz hw), none, some (vz x_), some (vz p), none, none] [vz v4] _
      refine ab_istore d_ST_tell_59 (Nat.le_of_ble_eq_true rfl) (Nat.le_of_ble_eq_true rfl) rfl ?_
      change ab_W _ _ _ G3 61 [some (vR a), none, some (vR s), some (vz hw), none, some (vz x_), some (vz p), some (vz v4), none] [] _
      refine ab_aload_n d_ST_tell_61 rfl ?_
      refine ab_getf (fs := [vz mst, vR q, vz vr, vz ro, vR cu, vz cn, vR eg, vR po, vR bg, vR bd, vz ct, vR sd, vz sc, vR se_, vz sta, vR stk, vz arv, vj (stp + 1)]) f_ST_19 d_ST_tell_62 ha.2.2 rfl ?_
      refine ab_iload d_ST_tell_65 rfl ?_
      refine ab_aload_n d_ST_tell_67 rfl ?_
      refine ab_getf (fs := [vz mst, vR q, vz vr, vz ro, vR cu, vz cn, vR eg, vR po, vR bg, vR bd, vz ct, vR sd, vz sc, vR se_, vz sta, vR stk, vz arv, vj (stp + 1)]) f_ST_63 d_ST_tell_68 ha.2.2 rfl ?_
      refine zz_iconst d_ST_tell_71 ?_
      refine zz_iadd d_ST_tell_72 ?_
      refine zz_imul d_ST_tell_73 ?_
      obtain ⟨v6, hv6⟩ : ∃ z : Int, z = x_ * (cn + 5) := ⟨_, rfl⟩
      rw [← hv6]
      have hv6b := z_mulb (a := x_) (b := (cn + 5)) (A := 64) (B := 125) (by omega) (by omega)
      rw [← hv6] at hv6b
      change ab_W _ _ _ G3 74 [some (vR a), none, some (vR s), some (vz hw), none, some (vz x_), some (vz p), some (vz v4), none] [vz v6, vR eg] _
      have hm3 : (x_ + 1) * (cn + 5) ≤ 64 * 125 := Int.mul_le_mul (by omega) (by omega) (by omega) (by omega)
      have hm4 : (x_ + 1) * (cn + 5) = x_ * (cn + 5) + (cn + 5) := by rw [Int.add_mul, Int.one_mul]
      refine ab_iload d_ST_tell_74 rfl ?_
      refine zz_iadd d_ST_tell_76 ?_
      refine zz_iald d_ST_tell_77 heg (by omega) ?_
      have hed := jeg x_ v4 (by omega) (by omega) (by omega) (by omega)
      rw [← hv6] at hed
      obtain ⟨ed_, hed_⟩ : ∃ z : Int, z = EG (v6 + v4) := ⟨_, rfl⟩
      rw [← hed_] at hed ⊢
      rcases hed with hed | hed
      · change ab_W _ _ _ G3 78 [some (vR a), none, some (vR s), some (vz hw), none, some (vz x_), some (vz p), some (vz v4), none] [vz ed_] _
        refine ab_istore d_ST_tell_78 (Nat.le_of_ble_eq_true rfl) (Nat.le_of_ble_eq_true rfl) rfl ?_
        change ab_W _ _ _ G3 80 [some (vR a), none, some (vR s), some (vz hw), none, some (vz x_), some (vz p), some (vz v4), some (vz ed_)] [] _
        refine ab_iload d_ST_tell_80 rfl ?_
        refine zz_if_ne (tgt := 95) d_ST_tell_82 (by decide) (by omega) (fun c7 => absurd c7 (by omega)) (fun c7 => ?_)
        refine ab_aload_n d_ST_tell_85 rfl ?_
        refine ab_iload d_ST_tell_86 rfl ?_
        refine ab_iload d_ST_tell_88 rfl ?_
        refine ab_callV (d' := d - 1) (as := [vz x_, vz v4]) (st := []) (r := _) (z_ST_makeEdge (o := o) (a := a) (cu := cu) (eg := eg) (po := po) (bg := bg) (bd := bd) (sd := sd) (se_ := se_) (stk := stk) (mst := mst) (vr := vr) (ro := ro) (cn := cn) (ct := ct) (sc := sc) (sta := sta) (arv := arv) (stp := (stp + 1)) (CU := CU) (EG := EG) (PO := PO) (BG := BG) (BD := BD) (SD := SD) (SE := SE) (SK := SK) (q := q) (lq := lq) (ki := ki) (ne := ne) (ot := ot) (cnt := cnt) (fi := fi) (la := la) (ra := ra) (ru := ru) (gr := gr) (wi := wi) (sz := sz) (fl := fl) (ve := ve) (mi := mi) (na := na) (nl := nl) (K := K) (N := N) (O := O) (RR := RR) (nr := nr) (sg := v4) (s_ := x_) ha hcu hsd hse_ hstk hpo hbg hbd hq hki hne hot hra heg (by omega) jcu (by omega) (by omega) hp hr (by omega) jpo jbg jbd (by omega) (by omega) jeg (by omega) (by omega)) (fun oc G2 h => by rcases h with ⟨_, _, _, _, _, _, _, _, _, _, _, _, _, h, _⟩ <;> exact ⟨_, h⟩) (by omega) m_ST_makeEdge ml_ST_66 im_ST_makeEdge se_ST_makeEdge c_ST ha.2.2 (Nat.le_of_ble_eq_true rfl) d_ST_tell_90 rfl ?_
        intro v G8 hq
        rcases hq with ⟨v9, ct210, sc211, sta212, st213, ar214, EG215, PO216, BG217, BD218, SD219, SE220, SK221, hv, hfk, hlk, hsk, hNa, hNeg, hNpo, hNbg, hNbd, hNsd, hNse_, hNstk, hq22, hq23, hq24, hq25, hq26, hq27⟩
        cases hv
        have hcu := hfk.get hcu (by decide)
        have hq := hfk.get hq (by simp only [List.mem_cons, List.not_mem_nil, or_false]; omega)
        have hki := hfk.get hki (by simp only [List.mem_cons, List.not_mem_nil, or_false]; omega)
        have hne := hfk.get hne (by simp only [List.mem_cons, List.not_mem_nil, or_false]; omega)
        have hot := hfk.get hot (by simp only [List.mem_cons, List.not_mem_nil, or_false]; omega)
        have hra := hfk.get hra (by simp only [List.mem_cons, List.not_mem_nil, or_false]; omega)
        have hs := hfk.get hs (by decide)
        have hco := hfk.get hco (by decide)
        have hre := hfk.get hre (by decide)
        have hfr := hfr.tr hfk (by decide)
        have hlen := hlk.trans hlen
        have hsl := hsk.trans hsl
        have ha := hNa
        have heg := hNeg
        have hpo := hNpo
        have hbg := hNbg
        have hbd := hNbd
        have hsd := hNsd
        have hse_ := hNse_
        have hstk := hNstk
        change ab_W _ _ _ G8 93 [some (vR a), none, some (vR s), some (vz hw), none, some (vz x_), some (vz p), some (vz v4), some (vz ed_)] [vz v9] _
        refine ab_istore d_ST_tell_93 (Nat.le_of_ble_eq_true rfl) (Nat.le_of_ble_eq_true rfl) rfl ?_
        change ab_W _ _ _ G8 95 [some (vR a), none, some (vR s), some (vz hw), none, some (vz x_), some (vz p), some (vz v4), some (vz v9)] [] _
        refine ab_iload d_ST_tell_95 rfl ?_
        refine zz_iconst d_ST_tell_97 ?_
        refine zz_iand 1 2 d_ST_tell_98 (by decide) (by decide) (by decide) (by decide) ?_
        refine zz_if_eq (tgt := 114) d_ST_tell_99 (by decide) (by omega) (fun c28 => ?_) (fun c28 => ?_)
        · refine ab_iload d_ST_tell_114 rfl ?_
          refine zz_iconst d_ST_tell_116 ?_
          refine zz_ishr 1 2 d_ST_tell_117 (by decide) (by decide) (by decide) (by decide) (by omega) ?_
          refine zz_iconst d_ST_tell_118 ?_
          refine zz_isub d_ST_tell_119 ?_
          refine ab_istore d_ST_tell_120 (Nat.le_of_ble_eq_true rfl) (Nat.le_of_ble_eq_true rfl) rfl ?_
          change ab_W _ _ _ G8 122 [some (vR a), none, some (vR s), some (vz hw), none, some (vz ((v9 / 2) - 1)), some (vz p), some (vz v4), some (vz v9)] [] _
          refine ab_aload_n d_ST_tell_122 rfl ?_
          refine ab_getf (fs := [vz mst, vR q, vz vr, vz ro, vR cu, vz cn, vR eg, vR po, vR bg, vR bd, vz ct210, vR sd, vz sc211, vR se_, vz sta212, vR stk, vz ar214, vj st213]) f_ST_70 d_ST_tell_123 ha.2.2 rfl ?_
          refine zz_if_ne (tgt := 150) d_ST_tell_126 (by decide) (by omega) (fun c29 => ?_) (fun c29 => ?_)
          · refine zz_iinc d_ST_tell_150 rfl (Nat.le_of_ble_eq_true rfl) (Nat.le_of_ble_eq_true rfl) rfl ?_
            change ab_W _ _ _ G8 153 [some (vR a), none, some (vR s), some (vz hw), none, some (vz ((v9 / 2) - 1)), some (vz (p + 1)), some (vz v4), some (vz v9)] [] _
            refine ab_goto (tgt := 33) d_ST_tell_153 (by decide) ?_
            refine ab_less (L' := [some (vR a), none, some (vR s), some (vz hw), none, some (vz ((v9 / 2) - 1)), some (vz (p + 1)), none, none]) (fun i v h => by rcases i with _ | _ | _ | _ | _ | _ | _ | _ | _ | i <;> first | exact h | (simp at h)) ?_
            exact ih (ct := ct210) (sc := sc211) (sta := sta212) (arv := ar214) (stp := st213) (EG := EG215) (PO := PO216) (BG := BG217) (BD := BD218) (SD := SD219) (SE := SE220) (SK := SK221) (p := (p + 1)) (x_ := ((v9 / 2) - 1)) ha hcu heg hpo hbg hbd hsd hse_ hstk hq hki hne hot hra hs hco hre (by omega) (by omega) hq23 hq24 hq26 hq25 (by omega) (by omega) hfr hlen hsl (by omega) hk0
          · have jb := hq23.st ((v9 / 2) - 1) (by omega) (by omega)
            refine ab_aload_n d_ST_tell_129 rfl ?_
            refine ab_getf (fs := [vz mst, vR q, vz vr, vz ro, vR cu, vz cn, vR eg, vR po, vR bg, vR bd, vz ct210, vR sd, vz sc211, vR se_, vz sta212, vR stk, vz ar214, vj st213]) f_ST_25 d_ST_tell_130 ha.2.2 rfl ?_
            refine ab_iload d_ST_tell_133 rfl ?_
            refine zz_iald d_ST_tell_135 hbg (by omega) ?_
            refine ab_aload_n d_ST_tell_136 rfl ?_
            refine ab_getf (fs := [vz mst, vR q, vz vr, vz ro, vR cu, vz cn, vR eg, vR po, vR bg, vR bd, vz ct210, vR sd, vz sc211, vR se_, vz sta212, vR stk, vz ar214, vj st213]) f_ST_25 d_ST_tell_137 ha.2.2 rfl ?_
            refine ab_iload d_ST_tell_140 rfl ?_
            refine zz_iconst d_ST_tell_142 ?_
            refine zz_iadd d_ST_tell_143 ?_
            refine zz_iald d_ST_tell_144 hbg (by omega) ?_
            refine zz_icmp_ne (tgt := 150) d_ST_tell_145 (by decide) (by omega) (by omega) (fun c30 => ?_) (fun c30 => ?_)
            · refine zz_iinc d_ST_tell_150 rfl (Nat.le_of_ble_eq_true rfl) (Nat.le_of_ble_eq_true rfl) rfl ?_
              change ab_W _ _ _ G8 153 [some (vR a), none, some (vR s), some (vz hw), none, some (vz ((v9 / 2) - 1)), some (vz (p + 1)), some (vz v4), some (vz v9)] [] _
              refine ab_goto (tgt := 33) d_ST_tell_153 (by decide) ?_
              refine ab_less (L' := [some (vR a), none, some (vR s), some (vz hw), none, some (vz ((v9 / 2) - 1)), some (vz (p + 1)), none, none]) (fun i v h => by rcases i with _ | _ | _ | _ | _ | _ | _ | _ | _ | i <;> first | exact h | (simp at h)) ?_
              exact ih (ct := ct210) (sc := sc211) (sta := sta212) (arv := ar214) (stp := st213) (EG := EG215) (PO := PO216) (BG := BG217) (BD := BD218) (SD := SD219) (SE := SE220) (SK := SK221) (p := (p + 1)) (x_ := ((v9 / 2) - 1)) ha hcu heg hpo hbg hbd hsd hse_ hstk hq hki hne hot hra hs hco hre (by omega) (by omega) hq23 hq24 hq26 hq25 (by omega) (by omega) hfr hlen hsl (by omega) hk0
            · refine zz_iconst d_ST_tell_148 ?_
              refine zz_iret rfl d_ST_tell_149 ?_
              exact hk0 _ _ _ _ _ _ _ _ _ _ _ _ _ _ ha heg hpo hbg hbd hsd hse_ hstk (by omega) (by exact hq23) (by exact hq24) (by exact hq26) (by exact hq25) (by omega) hfr hlen hsl
        · refine ab_iload_n d_ST_tell_102 rfl ?_
          refine zz_iconst d_ST_tell_103 ?_
          refine zz_icmp_ne (tgt := 112) d_ST_tell_104 (by decide) (by omega) (by decide) (fun c31 => ?_) (fun c31 => ?_)
          · refine zz_iconst d_ST_tell_112 ?_
            refine zz_iret rfl d_ST_tell_113 ?_
            exact hk0 _ _ _ _ _ _ _ _ _ _ _ _ _ _ ha heg hpo hbg hbd hsd hse_ hstk (by omega) (by exact hq23) (by exact hq24) (by exact hq26) (by exact hq25) (by omega) hfr hlen hsl
          · refine ab_iload d_ST_tell_107 rfl ?_
            refine zz_if_ne (tgt := 114) d_ST_tell_109 (by decide) (by omega) (fun c32 => ?_) (fun c32 => ?_)
            · refine ab_iload d_ST_tell_114 rfl ?_
              refine zz_iconst d_ST_tell_116 ?_
              refine zz_ishr 1 2 d_ST_tell_117 (by decide) (by decide) (by decide) (by decide) (by omega) ?_
              refine zz_iconst d_ST_tell_118 ?_
              refine zz_isub d_ST_tell_119 ?_
              refine ab_istore d_ST_tell_120 (Nat.le_of_ble_eq_true rfl) (Nat.le_of_ble_eq_true rfl) rfl ?_
              change ab_W _ _ _ G8 122 [some (vR a), none, some (vR s), some (vz hw), none, some (vz ((v9 / 2) - 1)), some (vz p), some (vz v4), some (vz v9)] [] _
              refine ab_aload_n d_ST_tell_122 rfl ?_
              refine ab_getf (fs := [vz mst, vR q, vz vr, vz ro, vR cu, vz cn, vR eg, vR po, vR bg, vR bd, vz ct210, vR sd, vz sc211, vR se_, vz sta212, vR stk, vz ar214, vj st213]) f_ST_70 d_ST_tell_123 ha.2.2 rfl ?_
              refine zz_if_ne (tgt := 150) d_ST_tell_126 (by decide) (by omega) (fun c33 => ?_) (fun c33 => ?_)
              · refine zz_iinc d_ST_tell_150 rfl (Nat.le_of_ble_eq_true rfl) (Nat.le_of_ble_eq_true rfl) rfl ?_
                change ab_W _ _ _ G8 153 [some (vR a), none, some (vR s), some (vz hw), none, some (vz ((v9 / 2) - 1)), some (vz (p + 1)), some (vz v4), some (vz v9)] [] _
                refine ab_goto (tgt := 33) d_ST_tell_153 (by decide) ?_
                refine ab_less (L' := [some (vR a), none, some (vR s), some (vz hw), none, some (vz ((v9 / 2) - 1)), some (vz (p + 1)), none, none]) (fun i v h => by rcases i with _ | _ | _ | _ | _ | _ | _ | _ | _ | i <;> first | exact h | (simp at h)) ?_
                exact ih (ct := ct210) (sc := sc211) (sta := sta212) (arv := ar214) (stp := st213) (EG := EG215) (PO := PO216) (BG := BG217) (BD := BD218) (SD := SD219) (SE := SE220) (SK := SK221) (p := (p + 1)) (x_ := ((v9 / 2) - 1)) ha hcu heg hpo hbg hbd hsd hse_ hstk hq hki hne hot hra hs hco hre (by omega) (by omega) hq23 hq24 hq26 hq25 (by omega) (by omega) hfr hlen hsl (by omega) hk0
              · have jb := hq23.st ((v9 / 2) - 1) (by omega) (by omega)
                refine ab_aload_n d_ST_tell_129 rfl ?_
                refine ab_getf (fs := [vz mst, vR q, vz vr, vz ro, vR cu, vz cn, vR eg, vR po, vR bg, vR bd, vz ct210, vR sd, vz sc211, vR se_, vz sta212, vR stk, vz ar214, vj st213]) f_ST_25 d_ST_tell_130 ha.2.2 rfl ?_
                refine ab_iload d_ST_tell_133 rfl ?_
                refine zz_iald d_ST_tell_135 hbg (by omega) ?_
                refine ab_aload_n d_ST_tell_136 rfl ?_
                refine ab_getf (fs := [vz mst, vR q, vz vr, vz ro, vR cu, vz cn, vR eg, vR po, vR bg, vR bd, vz ct210, vR sd, vz sc211, vR se_, vz sta212, vR stk, vz ar214, vj st213]) f_ST_25 d_ST_tell_137 ha.2.2 rfl ?_
                refine ab_iload d_ST_tell_140 rfl ?_
                refine zz_iconst d_ST_tell_142 ?_
                refine zz_iadd d_ST_tell_143 ?_
                refine zz_iald d_ST_tell_144 hbg (by omega) ?_
                refine zz_icmp_ne (tgt := 150) d_ST_tell_145 (by decide) (by omega) (by omega) (fun c34 => ?_) (fun c34 => ?_)
                · refine zz_iinc d_ST_tell_150 rfl (Nat.le_of_ble_eq_true rfl) (Nat.le_of_ble_eq_true rfl) rfl ?_
                  change ab_W _ _ _ G8 153 [some (vR a), none, some (vR s), some (vz hw), none, some (vz ((v9 / 2) - 1)), some (vz (p + 1)), some (vz v4), some (vz v9)] [] _
                  refine ab_goto (tgt := 33) d_ST_tell_153 (by decide) ?_
                  refine ab_less (L' := [some (vR a), none, some (vR s), some (vz hw), none, some (vz ((v9 / 2) - 1)), some (vz (p + 1)), none, none]) (fun i v h => by rcases i with _ | _ | _ | _ | _ | _ | _ | _ | _ | i <;> first | exact h | (simp at h)) ?_
                  exact ih (ct := ct210) (sc := sc211) (sta := sta212) (arv := ar214) (stp := st213) (EG := EG215) (PO := PO216) (BG := BG217) (BD := BD218) (SD := SD219) (SE := SE220) (SK := SK221) (p := (p + 1)) (x_ := ((v9 / 2) - 1)) ha hcu heg hpo hbg hbd hsd hse_ hstk hq hki hne hot hra hs hco hre (by omega) (by omega) hq23 hq24 hq26 hq25 (by omega) (by omega) hfr hlen hsl (by omega) hk0
                · refine zz_iconst d_ST_tell_148 ?_
                  refine zz_iret rfl d_ST_tell_149 ?_
                  exact hk0 _ _ _ _ _ _ _ _ _ _ _ _ _ _ ha heg hpo hbg hbd hsd hse_ hstk (by omega) (by exact hq23) (by exact hq24) (by exact hq26) (by exact hq25) (by omega) hfr hlen hsl
            · refine zz_iconst d_ST_tell_112 ?_
              refine zz_iret rfl d_ST_tell_113 ?_
              exact hk0 _ _ _ _ _ _ _ _ _ _ _ _ _ _ ha heg hpo hbg hbd hsd hse_ hstk (by omega) (by exact hq23) (by exact hq24) (by exact hq26) (by exact hq25) (by omega) hfr hlen hsl
      · change ab_W _ _ _ G3 78 [some (vR a), none, some (vR s), some (vz hw), none, some (vz x_), some (vz p), some (vz v4), none] [vz ed_] _
        refine ab_istore d_ST_tell_78 (Nat.le_of_ble_eq_true rfl) (Nat.le_of_ble_eq_true rfl) rfl ?_
        change ab_W _ _ _ G3 80 [some (vR a), none, some (vR s), some (vz hw), none, some (vz x_), some (vz p), some (vz v4), some (vz ed_)] [] _
        refine ab_iload d_ST_tell_80 rfl ?_
        refine zz_if_ne (tgt := 95) d_ST_tell_82 (by decide) (by omega) (fun c35 => ?_) (fun c35 => absurd c35 (by omega))
        refine ab_iload d_ST_tell_95 rfl ?_
        refine zz_iconst d_ST_tell_97 ?_
        refine zz_iand 1 2 d_ST_tell_98 (by decide) (by decide) (by decide) (by decide) ?_
        refine zz_if_eq (tgt := 114) d_ST_tell_99 (by decide) (by omega) (fun c36 => ?_) (fun c36 => ?_)
        · refine ab_iload d_ST_tell_114 rfl ?_
          refine zz_iconst d_ST_tell_116 ?_
          refine zz_ishr 1 2 d_ST_tell_117 (by decide) (by decide) (by decide) (by decide) (by omega) ?_
          refine zz_iconst d_ST_tell_118 ?_
          refine zz_isub d_ST_tell_119 ?_
          refine ab_istore d_ST_tell_120 (Nat.le_of_ble_eq_true rfl) (Nat.le_of_ble_eq_true rfl) rfl ?_
          change ab_W _ _ _ G3 122 [some (vR a), none, some (vR s), some (vz hw), none, some (vz ((ed_ / 2) - 1)), some (vz p), some (vz v4), some (vz ed_)] [] _
          refine ab_aload_n d_ST_tell_122 rfl ?_
          refine ab_getf (fs := [vz mst, vR q, vz vr, vz ro, vR cu, vz cn, vR eg, vR po, vR bg, vR bd, vz ct, vR sd, vz sc, vR se_, vz sta, vR stk, vz arv, vj (stp + 1)]) f_ST_70 d_ST_tell_123 ha.2.2 rfl ?_
          refine zz_if_ne (tgt := 150) d_ST_tell_126 (by decide) (by omega) (fun c37 => ?_) (fun c37 => ?_)
          · refine zz_iinc d_ST_tell_150 rfl (Nat.le_of_ble_eq_true rfl) (Nat.le_of_ble_eq_true rfl) rfl ?_
            change ab_W _ _ _ G3 153 [some (vR a), none, some (vR s), some (vz hw), none, some (vz ((ed_ / 2) - 1)), some (vz (p + 1)), some (vz v4), some (vz ed_)] [] _
            refine ab_goto (tgt := 33) d_ST_tell_153 (by decide) ?_
            refine ab_less (L' := [some (vR a), none, some (vR s), some (vz hw), none, some (vz ((ed_ / 2) - 1)), some (vz (p + 1)), none, none]) (fun i v h => by rcases i with _ | _ | _ | _ | _ | _ | _ | _ | _ | i <;> first | exact h | (simp at h)) ?_
            exact ih (ct := ct) (sc := sc) (sta := sta) (arv := arv) (stp := (stp + 1)) (EG := EG) (PO := PO) (BG := BG) (BD := BD) (SD := SD) (SE := SE) (SK := SK) (p := (p + 1)) (x_ := ((ed_ / 2) - 1)) ha hcu heg hpo hbg hbd hsd hse_ hstk hq hki hne hot hra hs hco hre (by omega) (by omega) jbg jpo jbd jeg (by omega) (by omega) hfr hlen hsl (by omega) hk0
          · have jb := jbg.st ((ed_ / 2) - 1) (by omega) (by omega)
            refine ab_aload_n d_ST_tell_129 rfl ?_
            refine ab_getf (fs := [vz mst, vR q, vz vr, vz ro, vR cu, vz cn, vR eg, vR po, vR bg, vR bd, vz ct, vR sd, vz sc, vR se_, vz sta, vR stk, vz arv, vj (stp + 1)]) f_ST_25 d_ST_tell_130 ha.2.2 rfl ?_
            refine ab_iload d_ST_tell_133 rfl ?_
            refine zz_iald d_ST_tell_135 hbg (by omega) ?_
            refine ab_aload_n d_ST_tell_136 rfl ?_
            refine ab_getf (fs := [vz mst, vR q, vz vr, vz ro, vR cu, vz cn, vR eg, vR po, vR bg, vR bd, vz ct, vR sd, vz sc, vR se_, vz sta, vR stk, vz arv, vj (stp + 1)]) f_ST_25 d_ST_tell_137 ha.2.2 rfl ?_
            refine ab_iload d_ST_tell_140 rfl ?_
            refine zz_iconst d_ST_tell_142 ?_
            refine zz_iadd d_ST_tell_143 ?_
            refine zz_iald d_ST_tell_144 hbg (by omega) ?_
            refine zz_icmp_ne (tgt := 150) d_ST_tell_145 (by decide) (by omega) (by omega) (fun c38 => ?_) (fun c38 => ?_)
            · refine zz_iinc d_ST_tell_150 rfl (Nat.le_of_ble_eq_true rfl) (Nat.le_of_ble_eq_true rfl) rfl ?_
              change ab_W _ _ _ G3 153 [some (vR a), none, some (vR s), some (vz hw), none, some (vz ((ed_ / 2) - 1)), some (vz (p + 1)), some (vz v4), some (vz ed_)] [] _
              refine ab_goto (tgt := 33) d_ST_tell_153 (by decide) ?_
              refine ab_less (L' := [some (vR a), none, some (vR s), some (vz hw), none, some (vz ((ed_ / 2) - 1)), some (vz (p + 1)), none, none]) (fun i v h => by rcases i with _ | _ | _ | _ | _ | _ | _ | _ | _ | i <;> first | exact h | (simp at h)) ?_
              exact ih (ct := ct) (sc := sc) (sta := sta) (arv := arv) (stp := (stp + 1)) (EG := EG) (PO := PO) (BG := BG) (BD := BD) (SD := SD) (SE := SE) (SK := SK) (p := (p + 1)) (x_ := ((ed_ / 2) - 1)) ha hcu heg hpo hbg hbd hsd hse_ hstk hq hki hne hot hra hs hco hre (by omega) (by omega) jbg jpo jbd jeg (by omega) (by omega) hfr hlen hsl (by omega) hk0
            · refine zz_iconst d_ST_tell_148 ?_
              refine zz_iret rfl d_ST_tell_149 ?_
              exact hk0 _ _ _ _ _ _ _ _ _ _ _ _ _ _ ha heg hpo hbg hbd hsd hse_ hstk (by omega) (by exact jbg) (by exact jpo) (by exact jbd) (by exact jeg) (by omega) hfr hlen hsl
        · refine ab_iload_n d_ST_tell_102 rfl ?_
          refine zz_iconst d_ST_tell_103 ?_
          refine zz_icmp_ne (tgt := 112) d_ST_tell_104 (by decide) (by omega) (by decide) (fun c39 => ?_) (fun c39 => ?_)
          · refine zz_iconst d_ST_tell_112 ?_
            refine zz_iret rfl d_ST_tell_113 ?_
            exact hk0 _ _ _ _ _ _ _ _ _ _ _ _ _ _ ha heg hpo hbg hbd hsd hse_ hstk (by omega) (by exact jbg) (by exact jpo) (by exact jbd) (by exact jeg) (by omega) hfr hlen hsl
          · refine ab_iload d_ST_tell_107 rfl ?_
            refine zz_if_ne (tgt := 114) d_ST_tell_109 (by decide) (by omega) (fun c40 => ?_) (fun c40 => ?_)
            · refine ab_iload d_ST_tell_114 rfl ?_
              refine zz_iconst d_ST_tell_116 ?_
              refine zz_ishr 1 2 d_ST_tell_117 (by decide) (by decide) (by decide) (by decide) (by omega) ?_
              refine zz_iconst d_ST_tell_118 ?_
              refine zz_isub d_ST_tell_119 ?_
              refine ab_istore d_ST_tell_120 (Nat.le_of_ble_eq_true rfl) (Nat.le_of_ble_eq_true rfl) rfl ?_
              change ab_W _ _ _ G3 122 [some (vR a), none, some (vR s), some (vz hw), none, some (vz ((ed_ / 2) - 1)), some (vz p), some (vz v4), some (vz ed_)] [] _
              refine ab_aload_n d_ST_tell_122 rfl ?_
              refine ab_getf (fs := [vz mst, vR q, vz vr, vz ro, vR cu, vz cn, vR eg, vR po, vR bg, vR bd, vz ct, vR sd, vz sc, vR se_, vz sta, vR stk, vz arv, vj (stp + 1)]) f_ST_70 d_ST_tell_123 ha.2.2 rfl ?_
              refine zz_if_ne (tgt := 150) d_ST_tell_126 (by decide) (by omega) (fun c41 => ?_) (fun c41 => ?_)
              · refine zz_iinc d_ST_tell_150 rfl (Nat.le_of_ble_eq_true rfl) (Nat.le_of_ble_eq_true rfl) rfl ?_
                change ab_W _ _ _ G3 153 [some (vR a), none, some (vR s), some (vz hw), none, some (vz ((ed_ / 2) - 1)), some (vz (p + 1)), some (vz v4), some (vz ed_)] [] _
                refine ab_goto (tgt := 33) d_ST_tell_153 (by decide) ?_
                refine ab_less (L' := [some (vR a), none, some (vR s), some (vz hw), none, some (vz ((ed_ / 2) - 1)), some (vz (p + 1)), none, none]) (fun i v h => by rcases i with _ | _ | _ | _ | _ | _ | _ | _ | _ | i <;> first | exact h | (simp at h)) ?_
                exact ih (ct := ct) (sc := sc) (sta := sta) (arv := arv) (stp := (stp + 1)) (EG := EG) (PO := PO) (BG := BG) (BD := BD) (SD := SD) (SE := SE) (SK := SK) (p := (p + 1)) (x_ := ((ed_ / 2) - 1)) ha hcu heg hpo hbg hbd hsd hse_ hstk hq hki hne hot hra hs hco hre (by omega) (by omega) jbg jpo jbd jeg (by omega) (by omega) hfr hlen hsl (by omega) hk0
              · have jb := jbg.st ((ed_ / 2) - 1) (by omega) (by omega)
                refine ab_aload_n d_ST_tell_129 rfl ?_
                refine ab_getf (fs := [vz mst, vR q, vz vr, vz ro, vR cu, vz cn, vR eg, vR po, vR bg, vR bd, vz ct, vR sd, vz sc, vR se_, vz sta, vR stk, vz arv, vj (stp + 1)]) f_ST_25 d_ST_tell_130 ha.2.2 rfl ?_
                refine ab_iload d_ST_tell_133 rfl ?_
                refine zz_iald d_ST_tell_135 hbg (by omega) ?_
                refine ab_aload_n d_ST_tell_136 rfl ?_
                refine ab_getf (fs := [vz mst, vR q, vz vr, vz ro, vR cu, vz cn, vR eg, vR po, vR bg, vR bd, vz ct, vR sd, vz sc, vR se_, vz sta, vR stk, vz arv, vj (stp + 1)]) f_ST_25 d_ST_tell_137 ha.2.2 rfl ?_
                refine ab_iload d_ST_tell_140 rfl ?_
                refine zz_iconst d_ST_tell_142 ?_
                refine zz_iadd d_ST_tell_143 ?_
                refine zz_iald d_ST_tell_144 hbg (by omega) ?_
                refine zz_icmp_ne (tgt := 150) d_ST_tell_145 (by decide) (by omega) (by omega) (fun c42 => ?_) (fun c42 => ?_)
                · refine zz_iinc d_ST_tell_150 rfl (Nat.le_of_ble_eq_true rfl) (Nat.le_of_ble_eq_true rfl) rfl ?_
                  change ab_W _ _ _ G3 153 [some (vR a), none, some (vR s), some (vz hw), none, some (vz ((ed_ / 2) - 1)), some (vz (p + 1)), some (vz v4), some (vz ed_)] [] _
                  refine ab_goto (tgt := 33) d_ST_tell_153 (by decide) ?_
                  refine ab_less (L' := [some (vR a), none, some (vR s), some (vz hw), none, some (vz ((ed_ / 2) - 1)), some (vz (p + 1)), none, none]) (fun i v h => by rcases i with _ | _ | _ | _ | _ | _ | _ | _ | _ | i <;> first | exact h | (simp at h)) ?_
                  exact ih (ct := ct) (sc := sc) (sta := sta) (arv := arv) (stp := (stp + 1)) (EG := EG) (PO := PO) (BG := BG) (BD := BD) (SD := SD) (SE := SE) (SK := SK) (p := (p + 1)) (x_ := ((ed_ / 2) - 1)) ha hcu heg hpo hbg hbd hsd hse_ hstk hq hki hne hot hra hs hco hre (by omega) (by omega) jbg jpo jbd jeg (by omega) (by omega) hfr hlen hsl (by omega) hk0
                · refine zz_iconst d_ST_tell_148 ?_
                  refine zz_iret rfl d_ST_tell_149 ?_
                  exact hk0 _ _ _ _ _ _ _ _ _ _ _ _ _ _ ha heg hpo hbg hbd hsd hse_ hstk (by omega) (by exact jbg) (by exact jpo) (by exact jbd) (by exact jeg) (by omega) hfr hlen hsl
            · refine zz_iconst d_ST_tell_112 ?_
              refine zz_iret rfl d_ST_tell_113 ?_
              exact hk0 _ _ _ _ _ _ _ _ _ _ _ _ _ _ ha heg hpo hbg hbd hsd hse_ hstk (by omega) (by exact jbg) (by exact jpo) (by exact jbd) (by exact jeg) (by omega) hfr hlen hsl
set_option maxRecDepth 100000 in
set_option maxHeartbeats 4000000 in
theorem z_ST_tell {X : ab_X} {d : Nat} {o : Nat → Nat} {G : ab_G} {a : Nat} {cu : Nat} {eg : Nat} {po : Nat} {bg : Nat} {bd : Nat} {sd : Nat} {se_ : Nat} {stk : Nat} {mst : Int} {q0 : Value} {vr : Int} {ro : Int} {cn : Int} {ct : Int} {sc : Int} {sta : Int} {arv : Int} {stp : Int} {CU : Int → Int} {EG : Int → Int} {PO : Int → Int} {BG : Int → Int} {BD : Int → Int} {SD : Int → Int} {SE : Int → Int} {SK : Int → Int} {q : Nat} {lq : Nat} {ki : Nat} {ne : Nat} {ot : Nat} {cnt : Int} {fi : Int} {la : Int} {ra : Nat} {ru : Int} {gr : Int} {wi : Int} {sz : Int} {fl : Int} {ve : Int} {mi : Int} {na : Nat} {nl : Nat} {K : Int → Int} {N : Int → Int} {O : Int → Int} {RR : Int → Int} {nr : Nat} {s : Nat} {by_ : Nat} {co : Nat} {re : Nat} {ho : Nat} {n : Int} {f : Int → Int} {C : Int → Int} {Rs : Int → Int} {H : Int → Int} {m : Nat} {mc : Nat} {p : Int} {hw : Int} {vc : Int} (ha : cc o G a 60 (ab_ob 8 [vz mst, q0, vz vr, vz ro, vR cu, vz cn, vR eg, vR po, vR bg, vR bd, vz ct, vR sd, vz sc, vR se_, vz sta, vR stk, vz arv, vj stp])) (hcu : cc o G cu 61 (za 120 CU)) (heg : cc o G eg 62 (za 8000 EG)) (hpo : cc o G po 63 (za 8192 PO)) (hbg : cc o G bg 64 (za 65 BG)) (hbd : cc o G bd 65 (za 64 BD)) (hsd : cc o G sd 66 (za 2048 SD)) (hse_ : cc o G se_ 67 (za 3072 SE)) (hstk : cc o G stk 68 (za 809 SK)) (h17 : cc o G 17 17 (za 12 zFC)) (hq : cc o G q lq (ab_ob 5 [vR ki, vR ne, vR ot, vz cnt, vz fi, vz la, vR ra, vz ru, vz gr, vz wi, vz sz, vz fl, vz ve, vz mi, vR na, vR nl])) (hki : cc o G ki (lq + 1) (za 808 K)) (hne : cc o G ne (lq + 2) (za 808 N)) (hot : cc o G ot (lq + 3) (za 808 O)) (hra : cc o G ra (lq + 4) (za nr RR)) (hs : cc o G s 26 (ab_ob 9 [vR by_, vR co, vR re, vR ho, vz n])) (hby_ : cc o G by_ 27 (za m f)) (hco : cc o G co 28 (za mc C)) (hre : cc o G re 29 (za mc Rs)) (cq : 100 ≤ lq ∧ 0 ≤ cnt ∧ cnt ≤ 808 ∧ ↑nr ≤ (100000 : Int)) (hp : prok K N O RR cnt ↑nr wi) (hr : ∀ k : Int, 0 ≤ k → k < ↑nr → 0 ≤ RR k ∧ RR k ≤ 1114111) (hru : 0 ≤ ru ∧ ru ≤ ↑nr) (hch : rch RR ru) (jcu : rgs CU 120 0 1114112) (ccn : 0 ≤ cn ∧ cn ≤ 121) (cms : 4 ≤ mst ∧ mst ≤ 64 ∧ 0 ≤ ct ∧ ct ≤ mst) (cv : 0 ≤ vr ∧ vr ≤ 100000 ∧ 0 ≤ ve ∧ ve ≤ 100000) (hvc : vr = ve → vc = cnt) (jbg : bgo BG ct) (jpo : ents PO (BG ct) vc) (jeg : ego EG ct (cn + 5)) (jbd : rgs BD 64 0 7) (cro : 0 ≤ ro ∧ ro ≤ 1) (cfi : 0 ≤ fi ∧ fi < cnt ∧ 0 ≤ la ∧ la ≤ 1) (csu : 0 ≤ n ∧ n ≤ ↑m ∧ 32 ≤ m ∧ m ≤ 2000 ∧ mc = m + 1) (hsu : suok f C Rs H n) (hb : bytes f n) (chw : 0 ≤ hw ∧ hw ≤ 2) (cp : 0 ≤ p ∧ p ≤ n) (car : 0 ≤ arv ∧ arv ≤ 1) (csc : 0 ≤ sc ∧ sc ≤ 2048) (hd : 8 ≤ d) : ab_F X d y_ST_tell (.code y_ST_tell b_ST_tell 9 (some (.int))) [vR a, vR q, vR s, vz hw, vz p] G (fun oc G2 => ∃ v : Int, ∃ vr2 : Int, ∃ cn2 : Int, ∃ ro2 : Int, ∃ CU2 : Int → Int, ∃ ct2 : Int, ∃ sc2 : Int, ∃ sta2 : Int, ∃ st2 : Int, ∃ ar2 : Int, ∃ EG2 : Int → Int, ∃ PO2 : Int → Int, ∃ BG2 : Int → Int, ∃ BD2 : Int → Int, ∃ SD2 : Int → Int, ∃ SE2 : Int → Int, ∃ SK2 : Int → Int, oc = .returned (some (vz v)) ∧ fx o o [60, 61, 62, 63, 64, 65, 66, 67, 68] G G2 ∧ G2.length = G.length ∧ ab_slots G2 = ab_slots G ∧ cc o G2 a 60 (ab_ob 8 [vz mst, vR q, vz vr2, vz ro2, vR cu, vz cn2, vR eg, vR po, vR bg, vR bd, vz ct2, vR sd, vz sc2, vR se_, vz sta2, vR stk, vz ar2, vj st2]) ∧ cc o G2 cu 61 (za 120 CU2) ∧ cc o G2 eg 62 (za 8000 EG2) ∧ cc o G2 po 63 (za 8192 PO2) ∧ cc o G2 bg 64 (za 65 BG2) ∧ cc o G2 bd 65 (za 64 BD2) ∧ cc o G2 sd 66 (za 2048 SD2) ∧ cc o G2 se_ 67 (za 3072 SE2) ∧ cc o G2 stk 68 (za 809 SK2) ∧ (0 ≤ ct2 ∧ ct2 ≤ mst ∧ 0 ≤ ar2 ∧ ar2 ≤ 1 ∧ 0 ≤ sc2 ∧ sc2 ≤ 2048) ∧ (bgo BG2 ct2) ∧ (ents PO2 (BG2 ct2) cnt) ∧ (rgs BD2 64 0 7) ∧ (ego EG2 ct2 (cn2 + 5)) ∧ (0 ≤ cn2 ∧ cn2 ≤ 121 ∧ 0 ≤ ro2 ∧ ro2 ≤ 1) ∧ (rgs CU2 120 0 1114112) ∧ (-2 ≤ v ∧ v ≤ 1 ∧ vr2 = ve)) := by
  refine ab_F_of (by decide +kernel) (Nat.le_of_ble_eq_true rfl) ?_
  obtain ⟨Q, hQ⟩ : ∃ z : Outcome → ab_G → Prop, z = (fun oc G2 => ∃ v : Int, ∃ vr2 : Int, ∃ cn2 : Int, ∃ ro2 : Int, ∃ CU2 : Int → Int, ∃ ct2 : Int, ∃ sc2 : Int, ∃ sta2 : Int, ∃ st2 : Int, ∃ ar2 : Int, ∃ EG2 : Int → Int, ∃ PO2 : Int → Int, ∃ BG2 : Int → Int, ∃ BD2 : Int → Int, ∃ SD2 : Int → Int, ∃ SE2 : Int → Int, ∃ SK2 : Int → Int, oc = .returned (some (vz v)) ∧ fx o o [60, 61, 62, 63, 64, 65, 66, 67, 68] G G2 ∧ G2.length = G.length ∧ ab_slots G2 = ab_slots G ∧ cc o G2 a 60 (ab_ob 8 [vz mst, vR q, vz vr2, vz ro2, vR cu, vz cn2, vR eg, vR po, vR bg, vR bd, vz ct2, vR sd, vz sc2, vR se_, vz sta2, vR stk, vz ar2, vj st2]) ∧ cc o G2 cu 61 (za 120 CU2) ∧ cc o G2 eg 62 (za 8000 EG2) ∧ cc o G2 po 63 (za 8192 PO2) ∧ cc o G2 bg 64 (za 65 BG2) ∧ cc o G2 bd 65 (za 64 BD2) ∧ cc o G2 sd 66 (za 2048 SD2) ∧ cc o G2 se_ 67 (za 3072 SE2) ∧ cc o G2 stk 68 (za 809 SK2) ∧ (0 ≤ ct2 ∧ ct2 ≤ mst ∧ 0 ≤ ar2 ∧ ar2 ≤ 1 ∧ 0 ≤ sc2 ∧ sc2 ≤ 2048) ∧ (bgo BG2 ct2) ∧ (ents PO2 (BG2 ct2) cnt) ∧ (rgs BD2 64 0 7) ∧ (ego EG2 ct2 (cn2 + 5)) ∧ (0 ≤ cn2 ∧ cn2 ≤ 121 ∧ 0 ≤ ro2 ∧ ro2 ≤ 1) ∧ (rgs CU2 120 0 1114112) ∧ (-2 ≤ v ∧ v ≤ 1 ∧ vr2 = ve)) := ⟨_, rfl⟩
  rw [← hQ]
  change ab_W X (ab_pl y_ST_tell b_ST_tell 9 (some (.int))) d G 0 [some (vR a), some (vR q), some (vR s), some (vz hw), some (vz p), none, none, none, none] [] Q
  have hfr : fx o o [60, 61, 62, 63, 64, 65, 66, 67, 68] G G := fx.rf
  have hlen : G.length = G.length := rfl
  have hsl : ab_slots G = ab_slots G := rfl
  refine ab_aload_n d_ST_tell_0 rfl ?_
  refine ab_aload_n d_ST_tell_1 rfl ?_
  refine ab_iload_n d_ST_tell_2 rfl ?_
  refine zz_if_ne (tgt := 10) d_ST_tell_3 (by decide) (by omega) (fun c1 => ?_) (fun c1 => ?_)
  · refine zz_iconst d_ST_tell_10 ?_
    refine ab_callV (d' := d - 1) (as := [vR q, vz 0]) (st := []) (r := _) (z_ST_prepare (o := o) (a := a) (cu := cu) (eg := eg) (po := po) (bg := bg) (bd := bd) (sd := sd) (se_ := se_) (stk := stk) (mst := mst) (q0 := q0) (vr := vr) (ro := ro) (cn := cn) (ct := ct) (sc := sc) (sta := sta) (arv := arv) (stp := stp) (CU := CU) (q := q) (lq := lq) (ki := ki) (ne := ne) (ot := ot) (cnt := cnt) (fi := fi) (la := la) (ra := ra) (ru := ru) (gr := gr) (wi := wi) (sz := sz) (fl := fl) (ve := ve) (mi := mi) (na := na) (nl := nl) (K := K) (N := N) (O := O) (RR := RR) (nr := nr) (rb := 0) ha hcu h17 hq hki hne hot hra (by omega) hp hr (by omega) hch jcu (by omega) (by omega) (by omega) (by omega) jbg jpo jeg (by omega) (by omega) (by omega)) (fun oc G2 h => by rcases h with ⟨_, _, _, _, _, h, _⟩ | ⟨_, _, _, _, _, h, _⟩ <;> exact ⟨_, h⟩) (by omega) m_ST_prepare ml_ST_43 im_ST_prepare se_ST_prepare c_ST ha.2.2 (Nat.le_of_ble_eq_true rfl) d_ST_tell_11 rfl ?_
    intro v G2 hq
    rcases hq with ⟨vr23, cn24, ct25, ro26, CU27, hv, hfk, hlk, hsk, hNa, hNcu, hq8, hq9, hq10, hq11, hq12⟩ | ⟨vr213, cn214, ct215, ro216, CU217, hv, hfk, hlk, hsk, hNa, hNcu, hq18, hq19, hq20, hq21, hq22⟩
    · cases hv
      have heg := hfk.get heg (by decide)
      have hpo := hfk.get hpo (by decide)
      have hbg := hfk.get hbg (by decide)
      have hbd := hfk.get hbd (by decide)
      have hsd := hfk.get hsd (by decide)
      have hse_ := hfk.get hse_ (by decide)
      have hstk := hfk.get hstk (by decide)
      have h17 := hfk.get h17 (by decide)
      have hq := hfk.get hq (by simp only [List.mem_cons, List.not_mem_nil, or_false]; omega)
      have hki := hfk.get hki (by simp only [List.mem_cons, List.not_mem_nil, or_false]; omega)
      have hne := hfk.get hne (by simp only [List.mem_cons, List.not_mem_nil, or_false]; omega)
      have hot := hfk.get hot (by simp only [List.mem_cons, List.not_mem_nil, or_false]; omega)
      have hra := hfk.get hra (by simp only [List.mem_cons, List.not_mem_nil, or_false]; omega)
      have hs := hfk.get hs (by decide)
      have hby_ := hfk.get hby_ (by decide)
      have hco := hfk.get hco (by decide)
      have hre := hfk.get hre (by decide)
      have hfr := hfr.tr hfk (by decide)
      have hlen := hlk.trans hlen
      have hsl := hsk.trans hsl
      have ha := hNa
      have hcu := hNcu
      change ab_W _ _ _ G2 14 [some (vR a), some (vR q), some (vR s), some (vz hw), some (vz p), none, none, none, none] [vz 0] _
      refine zz_if_ne (tgt := 20) d_ST_tell_14 (by decide) (by decide) (fun c23 => absurd c23 (by decide)) (fun c23 => ?_)
      refine zz_bipush d_ST_tell_17 (by decide) ?_
      refine zz_iret rfl d_ST_tell_19 ?_
      rw [hQ]; exact ⟨_, _, _, _, _, _, _, _, _, _, _, _, _, _, _, _, _, rfl, hfr, hlen, hsl, ha, hcu, heg, hpo, hbg, hbd, hsd, hse_, hstk, (by omega), (by exact hq10), (by exact hq11), (by exact jbd), (by exact hq12), (by omega), (by exact hq9), (by omega)⟩
    · cases hv
      have heg := hfk.get heg (by decide)
      have hpo := hfk.get hpo (by decide)
      have hbg := hfk.get hbg (by decide)
      have hbd := hfk.get hbd (by decide)
      have hsd := hfk.get hsd (by decide)
      have hse_ := hfk.get hse_ (by decide)
      have hstk := hfk.get hstk (by decide)
      have h17 := hfk.get h17 (by decide)
      have hq := hfk.get hq (by simp only [List.mem_cons, List.not_mem_nil, or_false]; omega)
      have hki := hfk.get hki (by simp only [List.mem_cons, List.not_mem_nil, or_false]; omega)
      have hne := hfk.get hne (by simp only [List.mem_cons, List.not_mem_nil, or_false]; omega)
      have hot := hfk.get hot (by simp only [List.mem_cons, List.not_mem_nil, or_false]; omega)
      have hra := hfk.get hra (by simp only [List.mem_cons, List.not_mem_nil, or_false]; omega)
      have hs := hfk.get hs (by decide)
      have hby_ := hfk.get hby_ (by decide)
      have hco := hfk.get hco (by decide)
      have hre := hfk.get hre (by decide)
      have hfr := hfr.tr hfk (by decide)
      have hlen := hlk.trans hlen
      have hsl := hsk.trans hsl
      have ha := hNa
      have hcu := hNcu
      change ab_W _ _ _ G2 14 [some (vR a), some (vR q), some (vR s), some (vz hw), some (vz p), none, none, none, none] [vz 1] _
      refine zz_if_ne (tgt := 20) d_ST_tell_14 (by decide) (by decide) (fun c24 => ?_) (fun c24 => absurd c24 (by decide))
      refine ab_aload_n d_ST_tell_20 rfl ?_
      refine ab_aload_n d_ST_tell_21 rfl ?_
      refine ab_iload d_ST_tell_22 rfl ?_
      refine ab_callV (d' := d - 1) (as := [vR s, vz p]) (st := []) (r := _) (z_ST_firstState (o := o) (a := a) (cu := cu) (eg := eg) (po := po) (bg := bg) (bd := bd) (sd := sd) (se_ := se_) (stk := stk) (mst := mst) (vr := vr213) (ro := ro216) (cn := cn214) (ct := ct215) (sc := sc) (sta := sta) (arv := arv) (stp := stp) (EG := EG) (PO := PO) (BG := BG) (BD := BD) (SD := SD) (SE := SE) (q := q) (lq := lq) (ki := ki) (ne := ne) (ot := ot) (cnt := cnt) (fi := fi) (la := la) (ra := ra) (ru := ru) (gr := gr) (wi := wi) (sz := sz) (fl := fl) (ve := ve) (mi := mi) (na := na) (nl := nl) (s := s) (by_ := by_) (co := co) (re := re) (ho := ho) (n := n) (f := f) (m := m) (p := p) ha heg hpo hbg hbd hsd hse_ hq hs hby_ (by omega) (by omega) hq20 hq21 jbd hq22 (by omega) (by omega) (by omega) (by omega) hb (by omega) (by omega)) (fun oc G2 h => by rcases h with ⟨_, _, _, _, _, _, _, _, _, _, h, _⟩ <;> exact ⟨_, h⟩) (by omega) m_ST_firstState ml_ST_47 im_ST_firstState se_ST_firstState c_ST ha.2.2 (Nat.le_of_ble_eq_true rfl) d_ST_tell_24 rfl ?_
      intro v G25 hq
      rcases hq with ⟨v26, ct227, sc228, sta229, EG230, PO231, BG232, BD233, SD234, SE235, hv, hfk, hlk, hsk, hNa, hNeg, hNpo, hNbg, hNbd, hNsd, hNse_, hq36, hq37, hq38, hq39, hq40, hq41⟩
      cases hv
      have hcu := hfk.get hcu (by decide)
      have hstk := hfk.get hstk (by decide)
      have h17 := hfk.get h17 (by decide)
      have hq := hfk.get hq (by simp only [List.mem_cons, List.not_mem_nil, or_false]; omega)
      have hki := hfk.get hki (by simp only [List.mem_cons, List.not_mem_nil, or_false]; omega)
      have hne := hfk.get hne (by simp only [List.mem_cons, List.not_mem_nil, or_false]; omega)
      have hot := hfk.get hot (by simp only [List.mem_cons, List.not_mem_nil, or_false]; omega)
      have hra := hfk.get hra (by simp only [List.mem_cons, List.not_mem_nil, or_false]; omega)
      have hs := hfk.get hs (by decide)
      have hby_ := hfk.get hby_ (by decide)
      have hco := hfk.get hco (by decide)
      have hre := hfk.get hre (by decide)
      have hfr := hfr.tr hfk (by decide)
      have hlen := hlk.trans hlen
      have hsl := hsk.trans hsl
      have ha := hNa
      have heg := hNeg
      have hpo := hNpo
      have hbg := hNbg
      have hbd := hNbd
      have hsd := hNsd
      have hse_ := hNse_
      change ab_W _ _ _ G25 27 [some (vR a), some (vR q), some (vR s), some (vz hw), some (vz p), none, none, none, none] [vz v26] _
      refine ab_istore d_ST_tell_27 (Nat.le_of_ble_eq_true rfl) (Nat.le_of_ble_eq_true rfl) rfl ?_
      change ab_W _ _ _ G25 29 [some (vR a), some (vR q), some (vR s), some (vz hw), some (vz p), some (vz v26), none, none, none] [] _
      refine ab_iload d_ST_tell_29 rfl ?_
      refine ab_istore d_ST_tell_31 (Nat.le_of_ble_eq_true rfl) (Nat.le_of_ble_eq_true rfl) rfl ?_
      change ab_W _ _ _ G25 33 [some (vR a), some (vR q), some (vR s), some (vz hw), some (vz p), some (vz v26), some (vz p), none, none] [] _
      refine ab_less (L' := [some (vR a), none, some (vR s), some (vz hw), none, some (vz v26), some (vz p), none, none]) (fun i v h => by rcases i with _ | _ | _ | _ | _ | _ | _ | _ | _ | i <;> first | exact h | (simp at h)) ?_
      refine y_ST_tell_33 (a := a) (cu := cu) (eg := eg) (po := po) (bg := bg) (bd := bd) (sd := sd) (se_ := se_) (stk := stk) (mst := mst) (vr := vr213) (ro := ro216) (cn := cn214) (CU := CU217) (q := q) (lq := lq) (ki := ki) (ne := ne) (ot := ot) (cnt := cnt) (fi := fi) (la := la) (ra := ra) (ru := ru) (gr := gr) (wi := wi) (sz := sz) (fl := fl) (ve := ve) (mi := mi) (na := na) (nl := nl) (K := K) (N := N) (O := O) (RR := RR) (nr := nr) (s := s) (by_ := by_) (co := co) (re := re) (ho := ho) (n := n) (C := C) (Rs := Rs) (mc := mc) (hw := hw) (G0 := G25) (ct := ct227) (sc := sc228) (sta := sta229) (arv := arv) (stp := stp) (EG := EG230) (PO := PO231) (BG := BG232) (BD := BD233) (SD := SD234) (SE := SE235) (SK := SK) (p := p) (x_ := v26) (by omega) hq19 (by omega) hp hr (by omega) (by omega) (by omega) hsu (by omega) (by omega) (Int.toNat (n + 1 - p) + 1) ha hcu heg hpo hbg hbd hsd hse_ hstk hq hki hne hot hra hs hco hre (by omega) (by omega) hq37 hq38 hq40 hq39 (by omega) (by omega) fx.rf rfl rfl (by omega) (fun G42 v43 ct244 sc245 sta246 st247 ar248 EG249 PO250 BG251 BD252 SD253 SE254 SK255 hNa hNeg hNpo hNbg hNbd hNsd hNse_ hNstk hq56 hq57 hq58 hq59 hq60 hq61 hfk hlk hsk => ?_)
      · have hcu := hfk.get hcu (by decide)
        have h17 := hfk.get h17 (by decide)
        have hq := hfk.get hq (by simp only [List.mem_cons, List.not_mem_nil, or_false]; omega)
        have hki := hfk.get hki (by simp only [List.mem_cons, List.not_mem_nil, or_false]; omega)
        have hne := hfk.get hne (by simp only [List.mem_cons, List.not_mem_nil, or_false]; omega)
        have hot := hfk.get hot (by simp only [List.mem_cons, List.not_mem_nil, or_false]; omega)
        have hra := hfk.get hra (by simp only [List.mem_cons, List.not_mem_nil, or_false]; omega)
        have hs := hfk.get hs (by decide)
        have hby_ := hfk.get hby_ (by decide)
        have hco := hfk.get hco (by decide)
        have hre := hfk.get hre (by decide)
        have hfr := hfr.tr hfk (by decide)
        have hlen := hlk.trans hlen
        have hsl := hsk.trans hsl
        have ha := hNa
        have heg := hNeg
        have hpo := hNpo
        have hbg := hNbg
        have hbd := hNbd
        have hsd := hNsd
        have hse_ := hNse_
        have hstk := hNstk
        rw [hQ]; exact ⟨_, _, _, _, _, _, _, _, _, _, _, _, _, _, _, _, _, rfl, hfr, hlen, hsl, ha, hcu, heg, hpo, hbg, hbd, hsd, hse_, hstk, (by omega), (by exact hq57), (by exact hq58), (by exact hq59), (by exact hq60), (by omega), (by exact hq19), (by omega)⟩
  · refine zz_iconst d_ST_tell_6 ?_
    refine ab_goto (tgt := 11) d_ST_tell_7 (by decide) ?_
    refine ab_callV (d' := d - 1) (as := [vR q, vz 1]) (st := []) (r := _) (z_ST_prepare (o := o) (a := a) (cu := cu) (eg := eg) (po := po) (bg := bg) (bd := bd) (sd := sd) (se_ := se_) (stk := stk) (mst := mst) (q0 := q0) (vr := vr) (ro := ro) (cn := cn) (ct := ct) (sc := sc) (sta := sta) (arv := arv) (stp := stp) (CU := CU) (q := q) (lq := lq) (ki := ki) (ne := ne) (ot := ot) (cnt := cnt) (fi := fi) (la := la) (ra := ra) (ru := ru) (gr := gr) (wi := wi) (sz := sz) (fl := fl) (ve := ve) (mi := mi) (na := na) (nl := nl) (K := K) (N := N) (O := O) (RR := RR) (nr := nr) (rb := 1) ha hcu h17 hq hki hne hot hra (by omega) hp hr (by omega) hch jcu (by omega) (by omega) (by omega) (by omega) jbg jpo jeg (by omega) (by omega) (by omega)) (fun oc G2 h => by rcases h with ⟨_, _, _, _, _, h, _⟩ | ⟨_, _, _, _, _, h, _⟩ <;> exact ⟨_, h⟩) (by omega) m_ST_prepare ml_ST_43 im_ST_prepare se_ST_prepare c_ST ha.2.2 (Nat.le_of_ble_eq_true rfl) d_ST_tell_11 rfl ?_
    intro v G62 hq
    rcases hq with ⟨vr263, cn264, ct265, ro266, CU267, hv, hfk, hlk, hsk, hNa, hNcu, hq68, hq69, hq70, hq71, hq72⟩ | ⟨vr273, cn274, ct275, ro276, CU277, hv, hfk, hlk, hsk, hNa, hNcu, hq78, hq79, hq80, hq81, hq82⟩
    · cases hv
      have heg := hfk.get heg (by decide)
      have hpo := hfk.get hpo (by decide)
      have hbg := hfk.get hbg (by decide)
      have hbd := hfk.get hbd (by decide)
      have hsd := hfk.get hsd (by decide)
      have hse_ := hfk.get hse_ (by decide)
      have hstk := hfk.get hstk (by decide)
      have h17 := hfk.get h17 (by decide)
      have hq := hfk.get hq (by simp only [List.mem_cons, List.not_mem_nil, or_false]; omega)
      have hki := hfk.get hki (by simp only [List.mem_cons, List.not_mem_nil, or_false]; omega)
      have hne := hfk.get hne (by simp only [List.mem_cons, List.not_mem_nil, or_false]; omega)
      have hot := hfk.get hot (by simp only [List.mem_cons, List.not_mem_nil, or_false]; omega)
      have hra := hfk.get hra (by simp only [List.mem_cons, List.not_mem_nil, or_false]; omega)
      have hs := hfk.get hs (by decide)
      have hby_ := hfk.get hby_ (by decide)
      have hco := hfk.get hco (by decide)
      have hre := hfk.get hre (by decide)
      have hfr := hfr.tr hfk (by decide)
      have hlen := hlk.trans hlen
      have hsl := hsk.trans hsl
      have ha := hNa
      have hcu := hNcu
      change ab_W _ _ _ G62 14 [some (vR a), some (vR q), some (vR s), some (vz hw), some (vz p), none, none, none, none] [vz 0] _
      refine zz_if_ne (tgt := 20) d_ST_tell_14 (by decide) (by decide) (fun c83 => absurd c83 (by decide)) (fun c83 => ?_)
      refine zz_bipush d_ST_tell_17 (by decide) ?_
      refine zz_iret rfl d_ST_tell_19 ?_
      rw [hQ]; exact ⟨_, _, _, _, _, _, _, _, _, _, _, _, _, _, _, _, _, rfl, hfr, hlen, hsl, ha, hcu, heg, hpo, hbg, hbd, hsd, hse_, hstk, (by omega), (by exact hq70), (by exact hq71), (by exact jbd), (by exact hq72), (by omega), (by exact hq69), (by omega)⟩
    · cases hv
      have heg := hfk.get heg (by decide)
      have hpo := hfk.get hpo (by decide)
      have hbg := hfk.get hbg (by decide)
      have hbd := hfk.get hbd (by decide)
      have hsd := hfk.get hsd (by decide)
      have hse_ := hfk.get hse_ (by decide)
      have hstk := hfk.get hstk (by decide)
      have h17 := hfk.get h17 (by decide)
      have hq := hfk.get hq (by simp only [List.mem_cons, List.not_mem_nil, or_false]; omega)
      have hki := hfk.get hki (by simp only [List.mem_cons, List.not_mem_nil, or_false]; omega)
      have hne := hfk.get hne (by simp only [List.mem_cons, List.not_mem_nil, or_false]; omega)
      have hot := hfk.get hot (by simp only [List.mem_cons, List.not_mem_nil, or_false]; omega)
      have hra := hfk.get hra (by simp only [List.mem_cons, List.not_mem_nil, or_false]; omega)
      have hs := hfk.get hs (by decide)
      have hby_ := hfk.get hby_ (by decide)
      have hco := hfk.get hco (by decide)
      have hre := hfk.get hre (by decide)
      have hfr := hfr.tr hfk (by decide)
      have hlen := hlk.trans hlen
      have hsl := hsk.trans hsl
      have ha := hNa
      have hcu := hNcu
      change ab_W _ _ _ G62 14 [some (vR a), some (vR q), some (vR s), some (vz hw), some (vz p), none, none, none, none] [vz 1] _
      refine zz_if_ne (tgt := 20) d_ST_tell_14 (by decide) (by decide) (fun c84 => ?_) (fun c84 => absurd c84 (by decide))
      refine ab_aload_n d_ST_tell_20 rfl ?_
      refine ab_aload_n d_ST_tell_21 rfl ?_
      refine ab_iload d_ST_tell_22 rfl ?_
      refine ab_callV (d' := d - 1) (as := [vR s, vz p]) (st := []) (r := _) (z_ST_firstState (o := o) (a := a) (cu := cu) (eg := eg) (po := po) (bg := bg) (bd := bd) (sd := sd) (se_ := se_) (stk := stk) (mst := mst) (vr := vr273) (ro := ro276) (cn := cn274) (ct := ct275) (sc := sc) (sta := sta) (arv := arv) (stp := stp) (EG := EG) (PO := PO) (BG := BG) (BD := BD) (SD := SD) (SE := SE) (q := q) (lq := lq) (ki := ki) (ne := ne) (ot := ot) (cnt := cnt) (fi := fi) (la := la) (ra := ra) (ru := ru) (gr := gr) (wi := wi) (sz := sz) (fl := fl) (ve := ve) (mi := mi) (na := na) (nl := nl) (s := s) (by_ := by_) (co := co) (re := re) (ho := ho) (n := n) (f := f) (m := m) (p := p) ha heg hpo hbg hbd hsd hse_ hq hs hby_ (by omega) (by omega) hq80 hq81 jbd hq82 (by omega) (by omega) (by omega) (by omega) hb (by omega) (by omega)) (fun oc G2 h => by rcases h with ⟨_, _, _, _, _, _, _, _, _, _, h, _⟩ <;> exact ⟨_, h⟩) (by omega) m_ST_firstState ml_ST_47 im_ST_firstState se_ST_firstState c_ST ha.2.2 (Nat.le_of_ble_eq_true rfl) d_ST_tell_24 rfl ?_
      intro v G85 hq
      rcases hq with ⟨v86, ct287, sc288, sta289, EG290, PO291, BG292, BD293, SD294, SE295, hv, hfk, hlk, hsk, hNa, hNeg, hNpo, hNbg, hNbd, hNsd, hNse_, hq96, hq97, hq98, hq99, hq100, hq101⟩
      cases hv
      have hcu := hfk.get hcu (by decide)
      have hstk := hfk.get hstk (by decide)
      have h17 := hfk.get h17 (by decide)
      have hq := hfk.get hq (by simp only [List.mem_cons, List.not_mem_nil, or_false]; omega)
      have hki := hfk.get hki (by simp only [List.mem_cons, List.not_mem_nil, or_false]; omega)
      have hne := hfk.get hne (by simp only [List.mem_cons, List.not_mem_nil, or_false]; omega)
      have hot := hfk.get hot (by simp only [List.mem_cons, List.not_mem_nil, or_false]; omega)
      have hra := hfk.get hra (by simp only [List.mem_cons, List.not_mem_nil, or_false]; omega)
      have hs := hfk.get hs (by decide)
      have hby_ := hfk.get hby_ (by decide)
      have hco := hfk.get hco (by decide)
      have hre := hfk.get hre (by decide)
      have hfr := hfr.tr hfk (by decide)
      have hlen := hlk.trans hlen
      have hsl := hsk.trans hsl
      have ha := hNa
      have heg := hNeg
      have hpo := hNpo
      have hbg := hNbg
      have hbd := hNbd
      have hsd := hNsd
      have hse_ := hNse_
      change ab_W _ _ _ G85 27 [some (vR a), some (vR q), some (vR s), some (vz hw), some (vz p), none, none, none, none] [vz v86] _
      refine ab_istore d_ST_tell_27 (Nat.le_of_ble_eq_true rfl) (Nat.le_of_ble_eq_true rfl) rfl ?_
      change ab_W _ _ _ G85 29 [some (vR a), some (vR q), some (vR s), some (vz hw), some (vz p), some (vz v86), none, none, none] [] _
      refine ab_iload d_ST_tell_29 rfl ?_
      refine ab_istore d_ST_tell_31 (Nat.le_of_ble_eq_true rfl) (Nat.le_of_ble_eq_true rfl) rfl ?_
      change ab_W _ _ _ G85 33 [some (vR a), some (vR q), some (vR s), some (vz hw), some (vz p), some (vz v86), some (vz p), none, none] [] _
      refine ab_less (L' := [some (vR a), none, some (vR s), some (vz hw), none, some (vz v86), some (vz p), none, none]) (fun i v h => by rcases i with _ | _ | _ | _ | _ | _ | _ | _ | _ | i <;> first | exact h | (simp at h)) ?_
      refine y_ST_tell_33 (a := a) (cu := cu) (eg := eg) (po := po) (bg := bg) (bd := bd) (sd := sd) (se_ := se_) (stk := stk) (mst := mst) (vr := vr273) (ro := ro276) (cn := cn274) (CU := CU277) (q := q) (lq := lq) (ki := ki) (ne := ne) (ot := ot) (cnt := cnt) (fi := fi) (la := la) (ra := ra) (ru := ru) (gr := gr) (wi := wi) (sz := sz) (fl := fl) (ve := ve) (mi := mi) (na := na) (nl := nl) (K := K) (N := N) (O := O) (RR := RR) (nr := nr) (s := s) (by_ := by_) (co := co) (re := re) (ho := ho) (n := n) (C := C) (Rs := Rs) (mc := mc) (hw := hw) (G0 := G85) (ct := ct287) (sc := sc288) (sta := sta289) (arv := arv) (stp := stp) (EG := EG290) (PO := PO291) (BG := BG292) (BD := BD293) (SD := SD294) (SE := SE295) (SK := SK) (p := p) (x_ := v86) (by omega) hq79 (by omega) hp hr (by omega) (by omega) (by omega) hsu (by omega) (by omega) (Int.toNat (n + 1 - p) + 1) ha hcu heg hpo hbg hbd hsd hse_ hstk hq hki hne hot hra hs hco hre (by omega) (by omega) hq97 hq98 hq100 hq99 (by omega) (by omega) fx.rf rfl rfl (by omega) (fun G102 v103 ct2104 sc2105 sta2106 st2107 ar2108 EG2109 PO2110 BG2111 BD2112 SD2113 SE2114 SK2115 hNa hNeg hNpo hNbg hNbd hNsd hNse_ hNstk hq116 hq117 hq118 hq119 hq120 hq121 hfk hlk hsk => ?_)
      · have hcu := hfk.get hcu (by decide)
        have h17 := hfk.get h17 (by decide)
        have hq := hfk.get hq (by simp only [List.mem_cons, List.not_mem_nil, or_false]; omega)
        have hki := hfk.get hki (by simp only [List.mem_cons, List.not_mem_nil, or_false]; omega)
        have hne := hfk.get hne (by simp only [List.mem_cons, List.not_mem_nil, or_false]; omega)
        have hot := hfk.get hot (by simp only [List.mem_cons, List.not_mem_nil, or_false]; omega)
        have hra := hfk.get hra (by simp only [List.mem_cons, List.not_mem_nil, or_false]; omega)
        have hs := hfk.get hs (by decide)
        have hby_ := hfk.get hby_ (by decide)
        have hco := hfk.get hco (by decide)
        have hre := hfk.get hre (by decide)
        have hfr := hfr.tr hfk (by decide)
        have hlen := hlk.trans hlen
        have hsl := hsk.trans hsl
        have ha := hNa
        have heg := hNeg
        have hpo := hNpo
        have hbg := hNbg
        have hbd := hNbd
        have hsd := hNsd
        have hse_ := hNse_
        have hstk := hNstk
        rw [hQ]; exact ⟨_, _, _, _, _, _, _, _, _, _, _, _, _, _, _, _, _, rfl, hfr, hlen, hsl, ha, hcu, heg, hpo, hbg, hbd, hsd, hse_, hstk, (by omega), (by exact hq117), (by exact hq118), (by exact hq119), (by exact hq120), (by omega), (by exact hq79), (by omega)⟩
