set_option maxRecDepth 100000 in
set_option maxHeartbeats 4000000 in
theorem z_OM_arrive {X : ab_X} {d : Nat} {o : Nat → Nat} {G : ab_G} {a : Nat} {sp : Nat} {wk : Nat} {onw : Nat} {tkn : Nat} {se_ : Nat} {cle : Nat} {stk : Nat} {dp : Int} {fo : Int} {chn : Int} {hw : Int} {fy : Int} {stp : Int} {SP : Int → Int} {WK : Int → Int} {q : Nat} {lq : Nat} {ki : Nat} {ne : Nat} {ot : Nat} {cnt : Int} {fi : Int} {la : Int} {ra : Nat} {ru : Int} {gr : Int} {wi : Int} {sz : Int} {fl : Int} {ve : Int} {mi : Int} {na : Nat} {nl : Nat} {s : Nat} {by_ : Nat} {co : Nat} {re : Nat} {ho : Nat} {n : Int} {m : Nat} {mc : Nat} {p : Int} (ha : cc o G a 50 (ab_ob 3 [vR sp, vR wk, vR onw, vR tkn, vR se_, vR cle, vR stk, vz dp, vz fo, vz chn, vR q, vR s, vz hw, vz fy, vj stp])) (hsp : cc o G sp 31 (za 20 SP)) (hwk : cc o G wk 51 (za 20 WK)) (hq : cc o G q lq (ab_ob 5 [vR ki, vR ne, vR ot, vz cnt, vz fi, vz la, vR ra, vz ru, vz gr, vz wi, vz sz, vz fl, vz ve, vz mi, vR na, vR nl])) (hs : cc o G s 26 (ab_ob 9 [vR by_, vR co, vR re, vR ho, vz n])) (clq : 100 ≤ lq) (cwi : 2 ≤ wi ∧ wi ≤ 20) (jwk : rgs WK wi (-1) n) (c0k : 0 ≤ WK 0) (jsp : rgs SP 20 (-1) 2000) (chw : 0 ≤ hw ∧ hw ≤ 2 ∧ 0 ≤ fy ∧ fy ≤ 1) (cp : 0 ≤ p ∧ p ≤ n) (csu : 0 ≤ n ∧ n ≤ ↑m ∧ 32 ≤ m ∧ m ≤ 2000 ∧ mc = m + 1) (hd : 1 ≤ d) : ab_F X d y_OM_arrive (.code y_OM_arrive b_OM_arrive 2 (some (.boolean))) [vR a, vz p] G (fun oc G2 => (oc = .returned (some (vz 0)) ∧ G2 = G) ∨ (∃ SP2 : Int → Int, oc = .returned (some (vz fy)) ∧ fx o o [31, 50] G G2 ∧ G2.length = G.length ∧ ab_slots G2 = ab_slots G ∧ cc o G2 a 50 (ab_ob 3 [vR sp, vR wk, vR onw, vR tkn, vR se_, vR cle, vR stk, vz dp, vz 1, vz chn, vR q, vR s, vz hw, vz fy, vj stp]) ∧ cc o G2 sp 31 (za 20 SP2) ∧ (rgs SP2 20 (-1) 2000) ∧ (rgs SP2 wi (-1) n) ∧ (0 ≤ SP2 0 ∧ 0 ≤ SP2 1))) := by
  refine ab_F_of (by decide +kernel) (Nat.le_of_ble_eq_true rfl) ?_
  obtain ⟨Q, hQ⟩ : ∃ z : Outcome → ab_G → Prop, z = (fun oc G2 => (oc = .returned (some (vz 0)) ∧ G2 = G) ∨ (∃ SP2 : Int → Int, oc = .returned (some (vz fy)) ∧ fx o o [31, 50] G G2 ∧ G2.length = G.length ∧ ab_slots G2 = ab_slots G ∧ cc o G2 a 50 (ab_ob 3 [vR sp, vR wk, vR onw, vR tkn, vR se_, vR cle, vR stk, vz dp, vz 1, vz chn, vR q, vR s, vz hw, vz fy, vj stp]) ∧ cc o G2 sp 31 (za 20 SP2) ∧ (rgs SP2 20 (-1) 2000) ∧ (rgs SP2 wi (-1) n) ∧ (0 ≤ SP2 0 ∧ 0 ≤ SP2 1))) := ⟨_, rfl⟩
  rw [← hQ]
  change ab_W X (ab_pl y_OM_arrive b_OM_arrive 2 (some (.boolean))) d G 0 [some (vR a), some (vz p)] [] Q
  have hfr : fx o o [31, 50] G G := fx.rf
  have hlen : G.length = G.length := rfl
  have hsl : ab_slots G = ab_slots G := rfl
  refine ab_aload_n d_OM_arrive_0 rfl ?_
  refine ab_getf (fs := [vR sp, vR wk, vR onw, vR tkn, vR se_, vR cle, vR stk, vz dp, vz fo, vz chn, vR q, vR s, vz hw, vz fy, vj stp]) f_OM_108 d_OM_arrive_1 ha.2.2 rfl ?_
  refine zz_iconst d_OM_arrive_4 ?_
  refine zz_icmp_ne (tgt := 21) d_OM_arrive_5 (by decide) (by omega) (by decide) (fun c1 => ?_) (fun c1 => ?_)
  · refine ab_aload_n d_OM_arrive_21 rfl ?_
    refine ab_getf (fs := [vR sp, vR wk, vR onw, vR tkn, vR se_, vR cle, vR stk, vz dp, vz fo, vz chn, vR q, vR s, vz hw, vz fy, vj stp]) f_OM_15 d_OM_arrive_22 ha.2.2 rfl ?_
    refine zz_iconst d_OM_arrive_25 ?_
    refine ab_aload_n d_OM_arrive_26 rfl ?_
    refine ab_getf (fs := [vR sp, vR wk, vR onw, vR tkn, vR se_, vR cle, vR stk, vz dp, vz fo, vz chn, vR q, vR s, vz hw, vz fy, vj stp]) f_OM_9 d_OM_arrive_27 ha.2.2 rfl ?_
    refine zz_iconst d_OM_arrive_30 ?_
    refine ab_aload_n d_OM_arrive_31 rfl ?_
    refine ab_getf (fs := [vR sp, vR wk, vR onw, vR tkn, vR se_, vR cle, vR stk, vz dp, vz fo, vz chn, vR q, vR s, vz hw, vz fy, vj stp]) f_OM_47 d_OM_arrive_32 ha.2.2 rfl ?_
    refine ab_getf (fs := [vR ki, vR ne, vR ot, vz cnt, vz fi, vz la, vR ra, vz ru, vz gr, vz wi, vz sz, vz fl, vz ve, vz mi, vR na, vR nl]) f_OM_121 d_OM_arrive_35 hq.2.2 rfl ?_
    refine zz_copy mj_OM_142 d_OM_arrive_38 hwk hsp (hsp.2.1 (by decide)) (by omega) (Nat.le_of_ble_eq_true rfl) (by omega) ?_
    obtain ⟨G2, eG2⟩ : ∃ z : ab_G, z = List.set G sp (za 20 (zcpy WK SP 0 0 wi)) := ⟨_, rfl⟩
    have ha := ha.keep hsp eG2 (by decide)
    have hwk := hwk.keep hsp eG2 (by decide)
    have hq := hq.keep hsp eG2 (by omega)
    have hs := hs.keep hsp eG2 (by decide)
    have hlen := (z_len eG2).trans hlen
    have hsl := (z_sl hsp eG2 rfl).trans hsl
    have hfr := hfr.wr hsp eG2 (by decide)
    have hsp := hsp.kept eG2
    change ab_W _ _ _ (List.set G sp (za 20 (zcpy WK SP 0 0 wi))) 41 [some (vR a), some (vz p)] [] _
    rw [← eG2]
    refine ab_aload_n d_OM_arrive_41 rfl ?_
    refine ab_getf (fs := [vR sp, vR wk, vR onw, vR tkn, vR se_, vR cle, vR stk, vz dp, vz fo, vz chn, vR q, vR s, vz hw, vz fy, vj stp]) f_OM_9 d_OM_arrive_42 ha.2.2 rfl ?_
    refine zz_iconst d_OM_arrive_45 ?_
    refine ab_iload_n d_OM_arrive_46 rfl ?_
    refine zz_iast d_OM_arrive_47 hsp (by omega) (hsp.2.1 (by decide)) ?_
    obtain ⟨G3, eG3⟩ : ∃ z : ab_G, z = List.set G2 sp (za 20 (zu (zcpy WK SP 0 0 wi) 1 p)) := ⟨_, rfl⟩
    have ha := ha.keep hsp eG3 (by decide)
    have hwk := hwk.keep hsp eG3 (by decide)
    have hq := hq.keep hsp eG3 (by omega)
    have hs := hs.keep hsp eG3 (by decide)
    have hlen := (z_len eG3).trans hlen
    have hsl := (z_sl hsp eG3 rfl).trans hsl
    have hfr := hfr.wr hsp eG3 (by decide)
    have hsp := hsp.kept eG3
    change ab_W _ _ _ (List.set G2 sp (za 20 (zu (zcpy WK SP 0 0 wi) 1 p))) 48 [some (vR a), some (vz p)] [] _
    rw [← eG3]
    refine ab_aload_n d_OM_arrive_48 rfl ?_
    refine zz_iconst d_OM_arrive_49 ?_
    refine ab_putf (fs := [vR sp, vR wk, vR onw, vR tkn, vR se_, vR cle, vR stk, vz dp, vz fo, vz chn, vR q, vR s, vz hw, vz fy, vj stp]) f_OM_118 (Or.inl rfl) d_OM_arrive_50 ha.2.2 (Nat.le_of_ble_eq_true rfl) (ab_fbz (by decide)) (ha.2.1 (by decide)) ?_
    obtain ⟨G4, eG4⟩ : ∃ z : ab_G, z = List.set G3 a (ab_ob 3 [vR sp, vR wk, vR onw, vR tkn, vR se_, vR cle, vR stk, vz dp, vz 1, vz chn, vR q, vR s, vz hw, vz fy, vj stp]) := ⟨_, rfl⟩
    have hsp := hsp.keep ha eG4 (by decide)
    have hwk := hwk.keep ha eG4 (by decide)
    have hq := hq.keep ha eG4 (by omega)
    have hs := hs.keep ha eG4 (by decide)
    have hlen := (z_len eG4).trans hlen
    have hsl := (z_sl ha eG4 rfl).trans hsl
    have hfr := hfr.wr ha eG4 (by decide)
    have ha := ha.kept eG4
    change ab_W _ _ _ (List.set G3 a (ab_ob 3 [vR sp, vR wk, vR onw, vR tkn, vR se_, vR cle, vR stk, vz dp, vz 1, vz chn, vR q, vR s, vz hw, vz fy, vj stp])) 53 [some (vR a), some (vz p)] [] _
    rw [← eG4]
    refine ab_aload_n d_OM_arrive_53 rfl ?_
    refine ab_getf (fs := [vR sp, vR wk, vR onw, vR tkn, vR se_, vR cle, vR stk, vz dp, vz 1, vz chn, vR q, vR s, vz hw, vz fy, vj stp]) f_OM_114 d_OM_arrive_54 ha.2.2 rfl ?_
    refine zz_bret rfl (by omega) d_OM_arrive_57 ?_
    rw [hQ]; exact (Or.inr ⟨_, rfl, hfr, hlen, hsl, ha, hsp, (by first | exact (rgs_zu (rgs_cpy jwk jsp (by omega)) (by omega)) | exact rgs_w (rgs_zu (rgs_cpy jwk jsp (by omega)) (by omega)) (by omega)), (by exact (spo_arr (fo := 1) jwk c0k (by omega) (by omega) (by omega)).1), (by exact (spo_arr (fo := 1) jwk c0k (by omega) (by omega) (by omega)).2)⟩)
  · refine ab_iload_n d_OM_arrive_8 rfl ?_
    refine ab_aload_n d_OM_arrive_9 rfl ?_
    refine ab_getf (fs := [vR sp, vR wk, vR onw, vR tkn, vR se_, vR cle, vR stk, vz dp, vz fo, vz chn, vR q, vR s, vz hw, vz fy, vj stp]) f_OM_104 d_OM_arrive_10 ha.2.2 rfl ?_
    refine ab_getf (fs := [vR by_, vR co, vR re, vR ho, vz n]) f_OM_127 d_OM_arrive_13 hs.2.2 rfl ?_
    refine zz_icmp_ge (tgt := 21) d_OM_arrive_16 (by decide) (by omega) (by omega) (fun c5 => ?_) (fun c5 => ?_)
    · refine ab_aload_n d_OM_arrive_21 rfl ?_
      refine ab_getf (fs := [vR sp, vR wk, vR onw, vR tkn, vR se_, vR cle, vR stk, vz dp, vz fo, vz chn, vR q, vR s, vz hw, vz fy, vj stp]) f_OM_15 d_OM_arrive_22 ha.2.2 rfl ?_
      refine zz_iconst d_OM_arrive_25 ?_
      refine ab_aload_n d_OM_arrive_26 rfl ?_
      refine ab_getf (fs := [vR sp, vR wk, vR onw, vR tkn, vR se_, vR cle, vR stk, vz dp, vz fo, vz chn, vR q, vR s, vz hw, vz fy, vj stp]) f_OM_9 d_OM_arrive_27 ha.2.2 rfl ?_
      refine zz_iconst d_OM_arrive_30 ?_
      refine ab_aload_n d_OM_arrive_31 rfl ?_
      refine ab_getf (fs := [vR sp, vR wk, vR onw, vR tkn, vR se_, vR cle, vR stk, vz dp, vz fo, vz chn, vR q, vR s, vz hw, vz fy, vj stp]) f_OM_47 d_OM_arrive_32 ha.2.2 rfl ?_
      refine ab_getf (fs := [vR ki, vR ne, vR ot, vz cnt, vz fi, vz la, vR ra, vz ru, vz gr, vz wi, vz sz, vz fl, vz ve, vz mi, vR na, vR nl]) f_OM_121 d_OM_arrive_35 hq.2.2 rfl ?_
      refine zz_copy mj_OM_142 d_OM_arrive_38 hwk hsp (hsp.2.1 (by decide)) (by omega) (Nat.le_of_ble_eq_true rfl) (by omega) ?_
      obtain ⟨G6, eG6⟩ : ∃ z : ab_G, z = List.set G sp (za 20 (zcpy WK SP 0 0 wi)) := ⟨_, rfl⟩
      have ha := ha.keep hsp eG6 (by decide)
      have hwk := hwk.keep hsp eG6 (by decide)
      have hq := hq.keep hsp eG6 (by omega)
      have hs := hs.keep hsp eG6 (by decide)
      have hlen := (z_len eG6).trans hlen
      have hsl := (z_sl hsp eG6 rfl).trans hsl
      have hfr := hfr.wr hsp eG6 (by decide)
      have hsp := hsp.kept eG6
      change ab_W _ _ _ (List.set G sp (za 20 (zcpy WK SP 0 0 wi))) 41 [some (vR a), some (vz p)] [] _
      rw [← eG6]
      refine ab_aload_n d_OM_arrive_41 rfl ?_
      refine ab_getf (fs := [vR sp, vR wk, vR onw, vR tkn, vR se_, vR cle, vR stk, vz dp, vz fo, vz chn, vR q, vR s, vz hw, vz fy, vj stp]) f_OM_9 d_OM_arrive_42 ha.2.2 rfl ?_
      refine zz_iconst d_OM_arrive_45 ?_
      refine ab_iload_n d_OM_arrive_46 rfl ?_
      refine zz_iast d_OM_arrive_47 hsp (by omega) (hsp.2.1 (by decide)) ?_
      obtain ⟨G7, eG7⟩ : ∃ z : ab_G, z = List.set G6 sp (za 20 (zu (zcpy WK SP 0 0 wi) 1 p)) := ⟨_, rfl⟩
      have ha := ha.keep hsp eG7 (by decide)
      have hwk := hwk.keep hsp eG7 (by decide)
      have hq := hq.keep hsp eG7 (by omega)
      have hs := hs.keep hsp eG7 (by decide)
      have hlen := (z_len eG7).trans hlen
      have hsl := (z_sl hsp eG7 rfl).trans hsl
      have hfr := hfr.wr hsp eG7 (by decide)
      have hsp := hsp.kept eG7
      change ab_W _ _ _ (List.set G6 sp (za 20 (zu (zcpy WK SP 0 0 wi) 1 p))) 48 [some (vR a), some (vz p)] [] _
      rw [← eG7]
      refine ab_aload_n d_OM_arrive_48 rfl ?_
      refine zz_iconst d_OM_arrive_49 ?_
      refine ab_putf (fs := [vR sp, vR wk, vR onw, vR tkn, vR se_, vR cle, vR stk, vz dp, vz fo, vz chn, vR q, vR s, vz hw, vz fy, vj stp]) f_OM_118 (Or.inl rfl) d_OM_arrive_50 ha.2.2 (Nat.le_of_ble_eq_true rfl) (ab_fbz (by decide)) (ha.2.1 (by decide)) ?_
      obtain ⟨G8, eG8⟩ : ∃ z : ab_G, z = List.set G7 a (ab_ob 3 [vR sp, vR wk, vR onw, vR tkn, vR se_, vR cle, vR stk, vz dp, vz 1, vz chn, vR q, vR s, vz hw, vz fy, vj stp]) := ⟨_, rfl⟩
      have hsp := hsp.keep ha eG8 (by decide)
      have hwk := hwk.keep ha eG8 (by decide)
      have hq := hq.keep ha eG8 (by omega)
      have hs := hs.keep ha eG8 (by decide)
      have hlen := (z_len eG8).trans hlen
      have hsl := (z_sl ha eG8 rfl).trans hsl
      have hfr := hfr.wr ha eG8 (by decide)
      have ha := ha.kept eG8
      change ab_W _ _ _ (List.set G7 a (ab_ob 3 [vR sp, vR wk, vR onw, vR tkn, vR se_, vR cle, vR stk, vz dp, vz 1, vz chn, vR q, vR s, vz hw, vz fy, vj stp])) 53 [some (vR a), some (vz p)] [] _
      rw [← eG8]
      refine ab_aload_n d_OM_arrive_53 rfl ?_
      refine ab_getf (fs := [vR sp, vR wk, vR onw, vR tkn, vR se_, vR cle, vR stk, vz dp, vz 1, vz chn, vR q, vR s, vz hw, vz fy, vj stp]) f_OM_114 d_OM_arrive_54 ha.2.2 rfl ?_
      refine zz_bret rfl (by omega) d_OM_arrive_57 ?_
      rw [hQ]; exact (Or.inr ⟨_, rfl, hfr, hlen, hsl, ha, hsp, (by first | exact (rgs_zu (rgs_cpy jwk jsp (by omega)) (by omega)) | exact rgs_w (rgs_zu (rgs_cpy jwk jsp (by omega)) (by omega)) (by omega)), (by exact (spo_arr (fo := 1) jwk c0k (by omega) (by omega) (by omega)).1), (by exact (spo_arr (fo := 1) jwk c0k (by omega) (by omega) (by omega)).2)⟩)
    · refine zz_iconst d_OM_arrive_19 ?_
      refine zz_bret rfl (by decide) d_OM_arrive_20 ?_
      rw [hQ]; exact (Or.inl ⟨rfl, rfl⟩)
set_option maxRecDepth 100000 in
set_option maxHeartbeats 4000000 in
theorem z_OM_spread {X : ab_X} {d : Nat} {o : Nat → Nat} {G : ab_G} {a : Nat} {sp : Nat} {wk : Nat} {onw : Nat} {tkn : Nat} {se_ : Nat} {cle : Nat} {stk : Nat} {dp : Int} {fo : Int} {chn : Int} {hw : Int} {fy : Int} {stp : Int} {WK : Int → Int} {SK : Int → Int} {q : Nat} {lq : Nat} {ki : Nat} {ne : Nat} {ot : Nat} {cnt : Int} {fi : Int} {la : Int} {ra : Nat} {ru : Int} {gr : Int} {wi : Int} {sz : Int} {fl : Int} {ve : Int} {mi : Int} {na : Nat} {nl : Nat} {K : Int → Int} {N : Int → Int} {O : Int → Int} {RR : Int → Int} {nr : Nat} {s : Nat} {by_ : Nat} {co : Nat} {re : Nat} {ho : Nat} {n : Int} {f : Int → Int} {C : Int → Int} {Rs : Int → Int} {H : Int → Int} {m : Nat} {mc : Nat} {p : Int} {x : Int} (ha : cc o G a 50 (ab_ob 3 [vR sp, vR wk, vR onw, vR tkn, vR se_, vR cle, vR stk, vz dp, vz fo, vz chn, vR q, vR s, vz hw, vz fy, vj stp])) (hwk : cc o G wk 51 (za 20 WK)) (hstk : cc o G stk 57 (za 809 SK)) (hq : cc o G q lq (ab_ob 5 [vR ki, vR ne, vR ot, vz cnt, vz fi, vz la, vR ra, vz ru, vz gr, vz wi, vz sz, vz fl, vz ve, vz mi, vR na, vR nl])) (hki : cc o G ki (lq + 1) (za 808 K)) (hne : cc o G ne (lq + 2) (za 808 N)) (hot : cc o G ot (lq + 3) (za 808 O)) (hra : cc o G ra (lq + 4) (za nr RR)) (hs : cc o G s 26 (ab_ob 9 [vR by_, vR co, vR re, vR ho, vz n])) (hho : cc o G ho 30 (za mc H)) (cq : 100 ≤ lq ∧ 0 ≤ cnt ∧ cnt ≤ 808 ∧ ↑nr ≤ (100000 : Int)) (hp : prok K N O RR cnt ↑nr wi) (hr : ∀ k : Int, 0 ≤ k → k < ↑nr → 0 ≤ RR k ∧ RR k ≤ 1114111) (cwi : 2 ≤ wi ∧ wi ≤ 20) (jwk : rgs WK wi (-1) n) (csu : 0 ≤ n ∧ n ≤ ↑m ∧ 32 ≤ m ∧ m ≤ 2000 ∧ mc = m + 1) (hsu : suok f C Rs H n) (cp : 0 ≤ p ∧ p ≤ n) (cx : 0 ≤ x ∧ x < cnt ∧ 2 < K x) (ckx : ¬ K x = 8) (cdp : 0 ≤ dp ∧ dp ≤ 807) (hd : 2 ≤ d) : ab_F X d y_OM_spread (.code y_OM_spread b_OM_spread 5 none) [vR a, vz x, vz p] G (fun oc G2 => (oc = .returned none ∧ G2 = G ∧ (3 ≤ K x)) ∨ (oc = .returned none ∧ fx o o [50, 51, 57] G G2 ∧ G2.length = G.length ∧ ab_slots G2 = ab_slots G ∧ cc o G2 a 50 (ab_ob 3 [vR sp, vR wk, vR onw, vR tkn, vR se_, vR cle, vR stk, vz (dp + 1 + 1), vz fo, vz chn, vR q, vR s, vz hw, vz fy, vj stp]) ∧ cc o G2 stk 57 (za 809 (zu (zu SK dp (O x)) (dp + 1) (N x))) ∧ (K x = 6)) ∨ (∃ u_ : Int, oc = .returned none ∧ fx o o [50, 51, 57] G G2 ∧ G2.length = G.length ∧ ab_slots G2 = ab_slots G ∧ cc o G2 a 50 (ab_ob 3 [vR sp, vR wk, vR onw, vR tkn, vR se_, vR cle, vR stk, vz (dp + 1 + 1), vz fo, vz chn, vR q, vR s, vz hw, vz fy, vj stp]) ∧ cc o G2 wk 51 (za 20 (zu WK (O x) p)) ∧ cc o G2 stk 57 (za 809 (zu (zu SK dp u_) (dp + 1) (N x))) ∧ (K x = 7) ∧ (tko cnt n wi u_) ∧ (u_ < 0)) ∨ (oc = .returned none ∧ fx o o [50, 51, 57] G G2 ∧ G2.length = G.length ∧ ab_slots G2 = ab_slots G ∧ cc o G2 a 50 (ab_ob 3 [vR sp, vR wk, vR onw, vR tkn, vR se_, vR cle, vR stk, vz (dp + 1), vz fo, vz chn, vR q, vR s, vz hw, vz fy, vj stp]) ∧ cc o G2 stk 57 (za 809 (zu SK dp (N x))) ∧ (K x = 3))) := by
  refine ab_F_of (by decide +kernel) (Nat.le_of_ble_eq_true rfl) ?_
  obtain ⟨Q, hQ⟩ : ∃ z : Outcome → ab_G → Prop, z = (fun oc G2 => (oc = .returned none ∧ G2 = G ∧ (3 ≤ K x)) ∨ (oc = .returned none ∧ fx o o [50, 51, 57] G G2 ∧ G2.length = G.length ∧ ab_slots G2 = ab_slots G ∧ cc o G2 a 50 (ab_ob 3 [vR sp, vR wk, vR onw, vR tkn, vR se_, vR cle, vR stk, vz (dp + 1 + 1), vz fo, vz chn, vR q, vR s, vz hw, vz fy, vj stp]) ∧ cc o G2 stk 57 (za 809 (zu (zu SK dp (O x)) (dp + 1) (N x))) ∧ (K x = 6)) ∨ (∃ u_ : Int, oc = .returned none ∧ fx o o [50, 51, 57] G G2 ∧ G2.length = G.length ∧ ab_slots G2 = ab_slots G ∧ cc o G2 a 50 (ab_ob 3 [vR sp, vR wk, vR onw, vR tkn, vR se_, vR cle, vR stk, vz (dp + 1 + 1), vz fo, vz chn, vR q, vR s, vz hw, vz fy, vj stp]) ∧ cc o G2 wk 51 (za 20 (zu WK (O x) p)) ∧ cc o G2 stk 57 (za 809 (zu (zu SK dp u_) (dp + 1) (N x))) ∧ (K x = 7) ∧ (tko cnt n wi u_) ∧ (u_ < 0)) ∨ (oc = .returned none ∧ fx o o [50, 51, 57] G G2 ∧ G2.length = G.length ∧ ab_slots G2 = ab_slots G ∧ cc o G2 a 50 (ab_ob 3 [vR sp, vR wk, vR onw, vR tkn, vR se_, vR cle, vR stk, vz (dp + 1), vz fo, vz chn, vR q, vR s, vz hw, vz fy, vj stp]) ∧ cc o G2 stk 57 (za 809 (zu SK dp (N x))) ∧ (K x = 3))) := ⟨_, rfl⟩
  rw [← hQ]
  change ab_W X (ab_pl y_OM_spread b_OM_spread 5 none) d G 0 [some (vR a), some (vz x), some (vz p), none, none] [] Q
  have hfr : fx o o [50, 51, 57] G G := fx.rf
  have hlen : G.length = G.length := rfl
  have hsl : ab_slots G = ab_slots G := rfl
  have jne := hp.ne x (by omega) (by omega)
  have jne1 := jne.1
  have jne2 := jne.2
  refine ab_aload_n d_OM_spread_0 rfl ?_
  refine ab_getf (fs := [vR sp, vR wk, vR onw, vR tkn, vR se_, vR cle, vR stk, vz dp, vz fo, vz chn, vR q, vR s, vz hw, vz fy, vj stp]) f_OM_47 d_OM_spread_1 ha.2.2 rfl ?_
  refine ab_getf (fs := [vR ki, vR ne, vR ot, vz cnt, vz fi, vz la, vR ra, vz ru, vz gr, vz wi, vz sz, vz fl, vz ve, vz mi, vR na, vR nl]) f_OM_83 d_OM_spread_4 hq.2.2 rfl ?_
  refine ab_iload_n d_OM_spread_7 rfl ?_
  refine zz_iald d_OM_spread_8 hki (by omega) ?_
  have hq1 := hp.k x (by omega) (by omega)
  refine ab_istore_n d_OM_spread_9 (Nat.le_of_ble_eq_true rfl) (Nat.le_of_ble_eq_true rfl) rfl ?_
  change ab_W _ _ _ G 10 [some (vR a), some (vz x), some (vz p), some (vz (K x)), none] [] _
  refine ab_aload_n d_OM_spread_10 rfl ?_
  refine ab_getf (fs := [vR sp, vR wk, vR onw, vR tkn, vR se_, vR cle, vR stk, vz dp, vz fo, vz chn, vR q, vR s, vz hw, vz fy, vj stp]) f_OM_47 d_OM_spread_11 ha.2.2 rfl ?_
  refine ab_getf (fs := [vR ki, vR ne, vR ot, vz cnt, vz fi, vz la, vR ra, vz ru, vz gr, vz wi, vz sz, vz fl, vz ve, vz mi, vR na, vR nl]) f_OM_89 d_OM_spread_14 hq.2.2 rfl ?_
  refine ab_iload_n d_OM_spread_17 rfl ?_
  refine zz_iald d_OM_spread_18 hot (by omega) ?_
  refine ab_istore d_OM_spread_19 (Nat.le_of_ble_eq_true rfl) (Nat.le_of_ble_eq_true rfl) rfl ?_
  change ab_W _ _ _ G 21 [some (vR a), some (vz x), some (vz p), some (vz (K x)), some (vz (O x))] [] _
  refine ab_iload_n d_OM_spread_21 rfl ?_
  refine zz_bipush d_OM_spread_22 (by decide) ?_
  refine zz_icmp_eq (tgt := 45) d_OM_spread_24 (by decide) (by omega) (by decide) (fun c2 => ?_) (fun c2 => ?_)
  · refine ab_vret rfl d_OM_spread_45 ?_
    rw [hQ]; exact (Or.inl ⟨rfl, rfl, (by omega)⟩)
  · refine ab_iload_n d_OM_spread_27 rfl ?_
    refine zz_iconst d_OM_spread_28 ?_
    refine zz_icmp_ne (tgt := 46) d_OM_spread_29 (by decide) (by omega) (by decide) (fun c3 => ?_) (fun c3 => ?_)
    · refine ab_iload_n d_OM_spread_46 rfl ?_
      refine zz_bipush d_OM_spread_47 (by decide) ?_
      refine zz_icmp_ne (tgt := 76) d_OM_spread_49 (by decide) (by omega) (by decide) (fun c4 => ?_) (fun c4 => ?_)
      · refine ab_iload_n d_OM_spread_76 rfl ?_
        refine zz_bipush d_OM_spread_77 (by decide) ?_
        refine zz_icmp_ne (tgt := 118) d_OM_spread_79 (by decide) (by omega) (by decide) (fun c5 => ?_) (fun c5 => ?_)
        · refine ab_aload_n d_OM_spread_118 rfl ?_
          refine ab_getf (fs := [vR sp, vR wk, vR onw, vR tkn, vR se_, vR cle, vR stk, vz dp, vz fo, vz chn, vR q, vR s, vz hw, vz fy, vj stp]) f_OM_34 d_OM_spread_119 ha.2.2 rfl ?_
          refine ab_aload_n d_OM_spread_122 rfl ?_
          refine ab_getf (fs := [vR sp, vR wk, vR onw, vR tkn, vR se_, vR cle, vR stk, vz dp, vz fo, vz chn, vR q, vR s, vz hw, vz fy, vj stp]) f_OM_76 d_OM_spread_123 ha.2.2 rfl ?_
          refine ab_aload_n d_OM_spread_126 rfl ?_
          refine ab_getf (fs := [vR sp, vR wk, vR onw, vR tkn, vR se_, vR cle, vR stk, vz dp, vz fo, vz chn, vR q, vR s, vz hw, vz fy, vj stp]) f_OM_47 d_OM_spread_127 ha.2.2 rfl ?_
          refine ab_getf (fs := [vR ki, vR ne, vR ot, vz cnt, vz fi, vz la, vR ra, vz ru, vz gr, vz wi, vz sz, vz fl, vz ve, vz mi, vR na, vR nl]) f_OM_67 d_OM_spread_130 hq.2.2 rfl ?_
          refine ab_iload_n d_OM_spread_133 rfl ?_
          refine zz_iald d_OM_spread_134 hne (by omega) ?_
          have hq6 := hp.n x (by omega) (by omega)
          refine zz_iast d_OM_spread_135 hstk (by omega) (hstk.2.1 (by decide)) ?_
          obtain ⟨G7, eG7⟩ : ∃ z : ab_G, z = List.set G stk (za 809 (zu SK dp (N x))) := ⟨_, rfl⟩
          have ha := ha.keep hstk eG7 (by decide)
          have hwk := hwk.keep hstk eG7 (by decide)
          have hq := hq.keep hstk eG7 (by omega)
          have hki := hki.keep hstk eG7 (by omega)
          have hne := hne.keep hstk eG7 (by omega)
          have hot := hot.keep hstk eG7 (by omega)
          have hra := hra.keep hstk eG7 (by omega)
          have hs := hs.keep hstk eG7 (by decide)
          have hho := hho.keep hstk eG7 (by decide)
          have hlen := (z_len eG7).trans hlen
          have hsl := (z_sl hstk eG7 rfl).trans hsl
          have hfr := hfr.wr hstk eG7 (by decide)
          have hstk := hstk.kept eG7
          change ab_W _ _ _ (List.set G stk (za 809 (zu SK dp (N x)))) 136 [some (vR a), some (vz x), some (vz p), some (vz (K x)), some (vz (O x))] [] _
          rw [← eG7]
          refine ab_aload_n d_OM_spread_136 rfl ?_
          refine ab_dup d_OM_spread_137 rfl ?_
          refine ab_getf (fs := [vR sp, vR wk, vR onw, vR tkn, vR se_, vR cle, vR stk, vz dp, vz fo, vz chn, vR q, vR s, vz hw, vz fy, vj stp]) f_OM_76 d_OM_spread_138 ha.2.2 rfl ?_
          refine zz_iconst d_OM_spread_141 ?_
          refine zz_iadd d_OM_spread_142 ?_
          refine ab_putf (fs := [vR sp, vR wk, vR onw, vR tkn, vR se_, vR cle, vR stk, vz dp, vz fo, vz chn, vR q, vR s, vz hw, vz fy, vj stp]) f_OM_76 (Or.inl rfl) d_OM_spread_143 ha.2.2 (Nat.le_of_ble_eq_true rfl) (fun _ => ⟨rfl, rfl⟩) (ha.2.1 (by decide)) ?_
          obtain ⟨G8, eG8⟩ : ∃ z : ab_G, z = List.set G7 a (ab_ob 3 [vR sp, vR wk, vR onw, vR tkn, vR se_, vR cle, vR stk, vz (dp + 1), vz fo, vz chn, vR q, vR s, vz hw, vz fy, vj stp]) := ⟨_, rfl⟩
          have hwk := hwk.keep ha eG8 (by decide)
          have hstk := hstk.keep ha eG8 (by decide)
          have hq := hq.keep ha eG8 (by omega)
          have hki := hki.keep ha eG8 (by omega)
          have hne := hne.keep ha eG8 (by omega)
          have hot := hot.keep ha eG8 (by omega)
          have hra := hra.keep ha eG8 (by omega)
          have hs := hs.keep ha eG8 (by decide)
          have hho := hho.keep ha eG8 (by decide)
          have hlen := (z_len eG8).trans hlen
          have hsl := (z_sl ha eG8 rfl).trans hsl
          have hfr := hfr.wr ha eG8 (by decide)
          have ha := ha.kept eG8
          change ab_W _ _ _ (List.set G7 a (ab_ob 3 [vR sp, vR wk, vR onw, vR tkn, vR se_, vR cle, vR stk, vz (dp + 1), vz fo, vz chn, vR q, vR s, vz hw, vz fy, vj stp])) 146 [some (vR a), some (vz x), some (vz p), some (vz (K x)), some (vz (O x))] [] _
          rw [← eG8]
          refine ab_vret rfl d_OM_spread_146 ?_
          rw [hQ]; exact (Or.inr (Or.inr (Or.inr ⟨rfl, hfr, hlen, hsl, ha, hstk, (by omega)⟩)))
        · have jo := hp.o7 x (by omega) (by omega) (by omega)
          have jwv := jwk (O x) (by omega) (by omega)
          refine ab_aload_n d_OM_spread_82 rfl ?_
          refine ab_getf (fs := [vR sp, vR wk, vR onw, vR tkn, vR se_, vR cle, vR stk, vz dp, vz fo, vz chn, vR q, vR s, vz hw, vz fy, vj stp]) f_OM_34 d_OM_spread_83 ha.2.2 rfl ?_
          refine ab_aload_n d_OM_spread_86 rfl ?_
          refine ab_getf (fs := [vR sp, vR wk, vR onw, vR tkn, vR se_, vR cle, vR stk, vz dp, vz fo, vz chn, vR q, vR s, vz hw, vz fy, vj stp]) f_OM_76 d_OM_spread_87 ha.2.2 rfl ?_
          refine ab_aload_n d_OM_spread_90 rfl ?_
          refine ab_getf (fs := [vR sp, vR wk, vR onw, vR tkn, vR se_, vR cle, vR stk, vz dp, vz fo, vz chn, vR q, vR s, vz hw, vz fy, vj stp]) f_OM_15 d_OM_spread_91 ha.2.2 rfl ?_
          refine ab_iload d_OM_spread_94 rfl ?_
          refine ab_callS (d' := d - 1) (as := [vR wk, vz (O x)]) (st := [vz dp, vR stk]) (z_PW_undoOf (o := o) (a := wk) (l := 51) (m := 20) (f := WK) (s := (O x)) hwk (by omega) (by omega)) (fun oc G2 h => by rcases h with ⟨h, _⟩ <;> exact ⟨_, h⟩) (by omega) m_PW_undoOf ml_OM_160 st_PW_undoOf (Nat.le_of_ble_eq_true rfl) d_OM_spread_96 rfl ?_
          intro v G9 hq
          rcases hq with ⟨hv, hGe⟩
          cases hv
          rw [hGe]
          change ab_W _ _ _ G 99 [some (vR a), some (vz x), some (vz p), some (vz (K x)), some (vz (O x))] [vz (-1 - ((O x) * 4096 + (WK (O x) + 1))), vz dp, vR stk] _
          refine zz_iast d_OM_spread_99 hstk (by omega) (hstk.2.1 (by decide)) ?_
          obtain ⟨G10, eG10⟩ : ∃ z : ab_G, z = List.set G stk (za 809 (zu SK dp (-1 - ((O x) * 4096 + (WK (O x) + 1))))) := ⟨_, rfl⟩
          have ha := ha.keep hstk eG10 (by decide)
          have hwk := hwk.keep hstk eG10 (by decide)
          have hq := hq.keep hstk eG10 (by omega)
          have hki := hki.keep hstk eG10 (by omega)
          have hne := hne.keep hstk eG10 (by omega)
          have hot := hot.keep hstk eG10 (by omega)
          have hra := hra.keep hstk eG10 (by omega)
          have hs := hs.keep hstk eG10 (by decide)
          have hho := hho.keep hstk eG10 (by decide)
          have hlen := (z_len eG10).trans hlen
          have hsl := (z_sl hstk eG10 rfl).trans hsl
          have hfr := hfr.wr hstk eG10 (by decide)
          have hstk := hstk.kept eG10
          change ab_W _ _ _ (List.set G stk (za 809 (zu SK dp (-1 - ((O x) * 4096 + (WK (O x) + 1)))))) 100 [some (vR a), some (vz x), some (vz p), some (vz (K x)), some (vz (O x))] [] _
          rw [← eG10]
          refine ab_aload_n d_OM_spread_100 rfl ?_
          refine ab_dup d_OM_spread_101 rfl ?_
          refine ab_getf (fs := [vR sp, vR wk, vR onw, vR tkn, vR se_, vR cle, vR stk, vz dp, vz fo, vz chn, vR q, vR s, vz hw, vz fy, vj stp]) f_OM_76 d_OM_spread_102 ha.2.2 rfl ?_
          refine zz_iconst d_OM_spread_105 ?_
          refine zz_iadd d_OM_spread_106 ?_
          refine ab_putf (fs := [vR sp, vR wk, vR onw, vR tkn, vR se_, vR cle, vR stk, vz dp, vz fo, vz chn, vR q, vR s, vz hw, vz fy, vj stp]) f_OM_76 (Or.inl rfl) d_OM_spread_107 ha.2.2 (Nat.le_of_ble_eq_true rfl) (fun _ => ⟨rfl, rfl⟩) (ha.2.1 (by decide)) ?_
          obtain ⟨G11, eG11⟩ : ∃ z : ab_G, z = List.set G10 a (ab_ob 3 [vR sp, vR wk, vR onw, vR tkn, vR se_, vR cle, vR stk, vz (dp + 1), vz fo, vz chn, vR q, vR s, vz hw, vz fy, vj stp]) := ⟨_, rfl⟩
          have hwk := hwk.keep ha eG11 (by decide)
          have hstk := hstk.keep ha eG11 (by decide)
          have hq := hq.keep ha eG11 (by omega)
          have hki := hki.keep ha eG11 (by omega)
          have hne := hne.keep ha eG11 (by omega)
          have hot := hot.keep ha eG11 (by omega)
          have hra := hra.keep ha eG11 (by omega)
          have hs := hs.keep ha eG11 (by decide)
          have hho := hho.keep ha eG11 (by decide)
          have hlen := (z_len eG11).trans hlen
          have hsl := (z_sl ha eG11 rfl).trans hsl
          have hfr := hfr.wr ha eG11 (by decide)
          have ha := ha.kept eG11
          change ab_W _ _ _ (List.set G10 a (ab_ob 3 [vR sp, vR wk, vR onw, vR tkn, vR se_, vR cle, vR stk, vz (dp + 1), vz fo, vz chn, vR q, vR s, vz hw, vz fy, vj stp])) 110 [some (vR a), some (vz x), some (vz p), some (vz (K x)), some (vz (O x))] [] _
          rw [← eG11]
          refine ab_aload_n d_OM_spread_110 rfl ?_
          refine ab_getf (fs := [vR sp, vR wk, vR onw, vR tkn, vR se_, vR cle, vR stk, vz (dp + 1), vz fo, vz chn, vR q, vR s, vz hw, vz fy, vj stp]) f_OM_15 d_OM_spread_111 ha.2.2 rfl ?_
          refine ab_iload d_OM_spread_114 rfl ?_
          refine ab_iload_n d_OM_spread_116 rfl ?_
          refine zz_iast d_OM_spread_117 hwk (by omega) (hwk.2.1 (by decide)) ?_
          obtain ⟨G12, eG12⟩ : ∃ z : ab_G, z = List.set G11 wk (za 20 (zu WK (O x) p)) := ⟨_, rfl⟩
          have ha := ha.keep hwk eG12 (by decide)
          have hstk := hstk.keep hwk eG12 (by decide)
          have hq := hq.keep hwk eG12 (by omega)
          have hki := hki.keep hwk eG12 (by omega)
          have hne := hne.keep hwk eG12 (by omega)
          have hot := hot.keep hwk eG12 (by omega)
          have hra := hra.keep hwk eG12 (by omega)
          have hs := hs.keep hwk eG12 (by decide)
          have hho := hho.keep hwk eG12 (by decide)
          have hlen := (z_len eG12).trans hlen
          have hsl := (z_sl hwk eG12 rfl).trans hsl
          have hfr := hfr.wr hwk eG12 (by decide)
          have hwk := hwk.kept eG12
          change ab_W _ _ _ (List.set G11 wk (za 20 (zu WK (O x) p))) 118 [some (vR a), some (vz x), some (vz p), some (vz (K x)), some (vz (O x))] [] _
          rw [← eG12]
          refine ab_aload_n d_OM_spread_118 rfl ?_
          refine ab_getf (fs := [vR sp, vR wk, vR onw, vR tkn, vR se_, vR cle, vR stk, vz (dp + 1), vz fo, vz chn, vR q, vR s, vz hw, vz fy, vj stp]) f_OM_34 d_OM_spread_119 ha.2.2 rfl ?_
          refine ab_aload_n d_OM_spread_122 rfl ?_
          refine ab_getf (fs := [vR sp, vR wk, vR onw, vR tkn, vR se_, vR cle, vR stk, vz (dp + 1), vz fo, vz chn, vR q, vR s, vz hw, vz fy, vj stp]) f_OM_76 d_OM_spread_123 ha.2.2 rfl ?_
          refine ab_aload_n d_OM_spread_126 rfl ?_
          refine ab_getf (fs := [vR sp, vR wk, vR onw, vR tkn, vR se_, vR cle, vR stk, vz (dp + 1), vz fo, vz chn, vR q, vR s, vz hw, vz fy, vj stp]) f_OM_47 d_OM_spread_127 ha.2.2 rfl ?_
          refine ab_getf (fs := [vR ki, vR ne, vR ot, vz cnt, vz fi, vz la, vR ra, vz ru, vz gr, vz wi, vz sz, vz fl, vz ve, vz mi, vR na, vR nl]) f_OM_67 d_OM_spread_130 hq.2.2 rfl ?_
          refine ab_iload_n d_OM_spread_133 rfl ?_
          refine zz_iald d_OM_spread_134 hne (by omega) ?_
          have hq13 := hp.n x (by omega) (by omega)
          refine zz_iast d_OM_spread_135 hstk (by omega) (hstk.2.1 (by decide)) ?_
          obtain ⟨G14, eG14⟩ : ∃ z : ab_G, z = List.set G12 stk (za 809 (zu (zu SK dp (-1 - ((O x) * 4096 + (WK (O x) + 1)))) (dp + 1) (N x))) := ⟨_, rfl⟩
          have ha := ha.keep hstk eG14 (by decide)
          have hwk := hwk.keep hstk eG14 (by decide)
          have hq := hq.keep hstk eG14 (by omega)
          have hki := hki.keep hstk eG14 (by omega)
          have hne := hne.keep hstk eG14 (by omega)
          have hot := hot.keep hstk eG14 (by omega)
          have hra := hra.keep hstk eG14 (by omega)
          have hs := hs.keep hstk eG14 (by decide)
          have hho := hho.keep hstk eG14 (by decide)
          have hlen := (z_len eG14).trans hlen
          have hsl := (z_sl hstk eG14 rfl).trans hsl
          have hfr := hfr.wr hstk eG14 (by decide)
          have hstk := hstk.kept eG14
          change ab_W _ _ _ (List.set G12 stk (za 809 (zu (zu SK dp (-1 - ((O x) * 4096 + (WK (O x) + 1)))) (dp + 1) (N x)))) 136 [some (vR a), some (vz x), some (vz p), some (vz (K x)), some (vz (O x))] [] _
          rw [← eG14]
          refine ab_aload_n d_OM_spread_136 rfl ?_
          refine ab_dup d_OM_spread_137 rfl ?_
          refine ab_getf (fs := [vR sp, vR wk, vR onw, vR tkn, vR se_, vR cle, vR stk, vz (dp + 1), vz fo, vz chn, vR q, vR s, vz hw, vz fy, vj stp]) f_OM_76 d_OM_spread_138 ha.2.2 rfl ?_
          refine zz_iconst d_OM_spread_141 ?_
          refine zz_iadd d_OM_spread_142 ?_
          refine ab_putf (fs := [vR sp, vR wk, vR onw, vR tkn, vR se_, vR cle, vR stk, vz (dp + 1), vz fo, vz chn, vR q, vR s, vz hw, vz fy, vj stp]) f_OM_76 (Or.inl rfl) d_OM_spread_143 ha.2.2 (Nat.le_of_ble_eq_true rfl) (fun _ => ⟨rfl, rfl⟩) (ha.2.1 (by decide)) ?_
          obtain ⟨G15, eG15⟩ : ∃ z : ab_G, z = List.set G14 a (ab_ob 3 [vR sp, vR wk, vR onw, vR tkn, vR se_, vR cle, vR stk, vz ((dp + 1) + 1), vz fo, vz chn, vR q, vR s, vz hw, vz fy, vj stp]) := ⟨_, rfl⟩
          have hwk := hwk.keep ha eG15 (by decide)
          have hstk := hstk.keep ha eG15 (by decide)
          have hq := hq.keep ha eG15 (by omega)
          have hki := hki.keep ha eG15 (by omega)
          have hne := hne.keep ha eG15 (by omega)
          have hot := hot.keep ha eG15 (by omega)
          have hra := hra.keep ha eG15 (by omega)
          have hs := hs.keep ha eG15 (by decide)
          have hho := hho.keep ha eG15 (by decide)
          have hlen := (z_len eG15).trans hlen
          have hsl := (z_sl ha eG15 rfl).trans hsl
          have hfr := hfr.wr ha eG15 (by decide)
          have ha := ha.kept eG15
          change ab_W _ _ _ (List.set G14 a (ab_ob 3 [vR sp, vR wk, vR onw, vR tkn, vR se_, vR cle, vR stk, vz ((dp + 1) + 1), vz fo, vz chn, vR q, vR s, vz hw, vz fy, vj stp])) 146 [some (vR a), some (vz x), some (vz p), some (vz (K x)), some (vz (O x))] [] _
          rw [← eG15]
          refine ab_vret rfl d_OM_spread_146 ?_
          rw [hQ]; exact (Or.inr (Or.inr (Or.inl ⟨_, rfl, hfr, hlen, hsl, ha, hwk, hstk, (by omega), (by exact tko_u (by omega)), (by omega)⟩)))
      · refine ab_aload_n d_OM_spread_52 rfl ?_
        refine ab_getf (fs := [vR sp, vR wk, vR onw, vR tkn, vR se_, vR cle, vR stk, vz dp, vz fo, vz chn, vR q, vR s, vz hw, vz fy, vj stp]) f_OM_34 d_OM_spread_53 ha.2.2 rfl ?_
        refine ab_aload_n d_OM_spread_56 rfl ?_
        refine ab_getf (fs := [vR sp, vR wk, vR onw, vR tkn, vR se_, vR cle, vR stk, vz dp, vz fo, vz chn, vR q, vR s, vz hw, vz fy, vj stp]) f_OM_76 d_OM_spread_57 ha.2.2 rfl ?_
        refine ab_iload d_OM_spread_60 rfl ?_
        refine zz_iast d_OM_spread_62 hstk (by omega) (hstk.2.1 (by decide)) ?_
        obtain ⟨G16, eG16⟩ : ∃ z : ab_G, z = List.set G stk (za 809 (zu SK dp (O x))) := ⟨_, rfl⟩
        have ha := ha.keep hstk eG16 (by decide)
        have hwk := hwk.keep hstk eG16 (by decide)
        have hq := hq.keep hstk eG16 (by omega)
        have hki := hki.keep hstk eG16 (by omega)
        have hne := hne.keep hstk eG16 (by omega)
        have hot := hot.keep hstk eG16 (by omega)
        have hra := hra.keep hstk eG16 (by omega)
        have hs := hs.keep hstk eG16 (by decide)
        have hho := hho.keep hstk eG16 (by decide)
        have hlen := (z_len eG16).trans hlen
        have hsl := (z_sl hstk eG16 rfl).trans hsl
        have hfr := hfr.wr hstk eG16 (by decide)
        have hstk := hstk.kept eG16
        change ab_W _ _ _ (List.set G stk (za 809 (zu SK dp (O x)))) 63 [some (vR a), some (vz x), some (vz p), some (vz (K x)), some (vz (O x))] [] _
        rw [← eG16]
        refine ab_aload_n d_OM_spread_63 rfl ?_
        refine ab_dup d_OM_spread_64 rfl ?_
        refine ab_getf (fs := [vR sp, vR wk, vR onw, vR tkn, vR se_, vR cle, vR stk, vz dp, vz fo, vz chn, vR q, vR s, vz hw, vz fy, vj stp]) f_OM_76 d_OM_spread_65 ha.2.2 rfl ?_
        refine zz_iconst d_OM_spread_68 ?_
        refine zz_iadd d_OM_spread_69 ?_
        refine ab_putf (fs := [vR sp, vR wk, vR onw, vR tkn, vR se_, vR cle, vR stk, vz dp, vz fo, vz chn, vR q, vR s, vz hw, vz fy, vj stp]) f_OM_76 (Or.inl rfl) d_OM_spread_70 ha.2.2 (Nat.le_of_ble_eq_true rfl) (fun _ => ⟨rfl, rfl⟩) (ha.2.1 (by decide)) ?_
        obtain ⟨G17, eG17⟩ : ∃ z : ab_G, z = List.set G16 a (ab_ob 3 [vR sp, vR wk, vR onw, vR tkn, vR se_, vR cle, vR stk, vz (dp + 1), vz fo, vz chn, vR q, vR s, vz hw, vz fy, vj stp]) := ⟨_, rfl⟩
        have hwk := hwk.keep ha eG17 (by decide)
        have hstk := hstk.keep ha eG17 (by decide)
        have hq := hq.keep ha eG17 (by omega)
        have hki := hki.keep ha eG17 (by omega)
        have hne := hne.keep ha eG17 (by omega)
        have hot := hot.keep ha eG17 (by omega)
        have hra := hra.keep ha eG17 (by omega)
        have hs := hs.keep ha eG17 (by decide)
        have hho := hho.keep ha eG17 (by decide)
        have hlen := (z_len eG17).trans hlen
        have hsl := (z_sl ha eG17 rfl).trans hsl
        have hfr := hfr.wr ha eG17 (by decide)
        have ha := ha.kept eG17
        change ab_W _ _ _ (List.set G16 a (ab_ob 3 [vR sp, vR wk, vR onw, vR tkn, vR se_, vR cle, vR stk, vz (dp + 1), vz fo, vz chn, vR q, vR s, vz hw, vz fy, vj stp])) 73 [some (vR a), some (vz x), some (vz p), some (vz (K x)), some (vz (O x))] [] _
        rw [← eG17]
        refine ab_goto (tgt := 118) d_OM_spread_73 (by decide) ?_
        refine ab_aload_n d_OM_spread_118 rfl ?_
        refine ab_getf (fs := [vR sp, vR wk, vR onw, vR tkn, vR se_, vR cle, vR stk, vz (dp + 1), vz fo, vz chn, vR q, vR s, vz hw, vz fy, vj stp]) f_OM_34 d_OM_spread_119 ha.2.2 rfl ?_
        refine ab_aload_n d_OM_spread_122 rfl ?_
        refine ab_getf (fs := [vR sp, vR wk, vR onw, vR tkn, vR se_, vR cle, vR stk, vz (dp + 1), vz fo, vz chn, vR q, vR s, vz hw, vz fy, vj stp]) f_OM_76 d_OM_spread_123 ha.2.2 rfl ?_
        refine ab_aload_n d_OM_spread_126 rfl ?_
        refine ab_getf (fs := [vR sp, vR wk, vR onw, vR tkn, vR se_, vR cle, vR stk, vz (dp + 1), vz fo, vz chn, vR q, vR s, vz hw, vz fy, vj stp]) f_OM_47 d_OM_spread_127 ha.2.2 rfl ?_
        refine ab_getf (fs := [vR ki, vR ne, vR ot, vz cnt, vz fi, vz la, vR ra, vz ru, vz gr, vz wi, vz sz, vz fl, vz ve, vz mi, vR na, vR nl]) f_OM_67 d_OM_spread_130 hq.2.2 rfl ?_
        refine ab_iload_n d_OM_spread_133 rfl ?_
        refine zz_iald d_OM_spread_134 hne (by omega) ?_
        have hq18 := hp.n x (by omega) (by omega)
        refine zz_iast d_OM_spread_135 hstk (by omega) (hstk.2.1 (by decide)) ?_
        obtain ⟨G19, eG19⟩ : ∃ z : ab_G, z = List.set G17 stk (za 809 (zu (zu SK dp (O x)) (dp + 1) (N x))) := ⟨_, rfl⟩
        have ha := ha.keep hstk eG19 (by decide)
        have hwk := hwk.keep hstk eG19 (by decide)
        have hq := hq.keep hstk eG19 (by omega)
        have hki := hki.keep hstk eG19 (by omega)
        have hne := hne.keep hstk eG19 (by omega)
        have hot := hot.keep hstk eG19 (by omega)
        have hra := hra.keep hstk eG19 (by omega)
        have hs := hs.keep hstk eG19 (by decide)
        have hho := hho.keep hstk eG19 (by decide)
        have hlen := (z_len eG19).trans hlen
        have hsl := (z_sl hstk eG19 rfl).trans hsl
        have hfr := hfr.wr hstk eG19 (by decide)
        have hstk := hstk.kept eG19
        change ab_W _ _ _ (List.set G17 stk (za 809 (zu (zu SK dp (O x)) (dp + 1) (N x)))) 136 [some (vR a), some (vz x), some (vz p), some (vz (K x)), some (vz (O x))] [] _
        rw [← eG19]
        refine ab_aload_n d_OM_spread_136 rfl ?_
        refine ab_dup d_OM_spread_137 rfl ?_
        refine ab_getf (fs := [vR sp, vR wk, vR onw, vR tkn, vR se_, vR cle, vR stk, vz (dp + 1), vz fo, vz chn, vR q, vR s, vz hw, vz fy, vj stp]) f_OM_76 d_OM_spread_138 ha.2.2 rfl ?_
        refine zz_iconst d_OM_spread_141 ?_
        refine zz_iadd d_OM_spread_142 ?_
        refine ab_putf (fs := [vR sp, vR wk, vR onw, vR tkn, vR se_, vR cle, vR stk, vz (dp + 1), vz fo, vz chn, vR q, vR s, vz hw, vz fy, vj stp]) f_OM_76 (Or.inl rfl) d_OM_spread_143 ha.2.2 (Nat.le_of_ble_eq_true rfl) (fun _ => ⟨rfl, rfl⟩) (ha.2.1 (by decide)) ?_
        obtain ⟨G20, eG20⟩ : ∃ z : ab_G, z = List.set G19 a (ab_ob 3 [vR sp, vR wk, vR onw, vR tkn, vR se_, vR cle, vR stk, vz ((dp + 1) + 1), vz fo, vz chn, vR q, vR s, vz hw, vz fy, vj stp]) := ⟨_, rfl⟩
        have hwk := hwk.keep ha eG20 (by decide)
        have hstk := hstk.keep ha eG20 (by decide)
        have hq := hq.keep ha eG20 (by omega)
        have hki := hki.keep ha eG20 (by omega)
        have hne := hne.keep ha eG20 (by omega)
        have hot := hot.keep ha eG20 (by omega)
        have hra := hra.keep ha eG20 (by omega)
        have hs := hs.keep ha eG20 (by decide)
        have hho := hho.keep ha eG20 (by decide)
        have hlen := (z_len eG20).trans hlen
        have hsl := (z_sl ha eG20 rfl).trans hsl
        have hfr := hfr.wr ha eG20 (by decide)
        have ha := ha.kept eG20
        change ab_W _ _ _ (List.set G19 a (ab_ob 3 [vR sp, vR wk, vR onw, vR tkn, vR se_, vR cle, vR stk, vz ((dp + 1) + 1), vz fo, vz chn, vR q, vR s, vz hw, vz fy, vj stp])) 146 [some (vR a), some (vz x), some (vz p), some (vz (K x)), some (vz (O x))] [] _
        rw [← eG20]
        refine ab_vret rfl d_OM_spread_146 ?_
        rw [hQ]; exact (Or.inr (Or.inl ⟨rfl, hfr, hlen, hsl, ha, hstk, (by omega)⟩))
    · have jo := hp.o3 x (by omega) (by omega) (by omega)
      refine ab_aload_n d_OM_spread_32 rfl ?_
      refine ab_getf (fs := [vR sp, vR wk, vR onw, vR tkn, vR se_, vR cle, vR stk, vz dp, vz fo, vz chn, vR q, vR s, vz hw, vz fy, vj stp]) f_OM_104 d_OM_spread_33 ha.2.2 rfl ?_
      refine ab_iload d_OM_spread_36 rfl ?_
      refine ab_iload_n d_OM_spread_38 rfl ?_
      refine ab_callV (d' := d - 1) (as := [vz (O x), vz p]) (st := []) (r := _) (z_SU_holds (o := o) (s := s) (by_ := by_) (co := co) (re := re) (ho := ho) (n := n) (H := H) (mc := mc) (p := p) (a := (O x)) hs hho (by omega) (by omega) (by omega) hsu) (fun oc G2 h => by rcases h with ⟨h, _⟩ | ⟨h, _⟩ <;> exact ⟨_, h⟩) (by omega) m_SU_holds ml_OM_157 im_SU_holds se_SU_holds c_SU hs.2.2 (Nat.le_of_ble_eq_true rfl) d_OM_spread_39 rfl ?_
      intro v G21 hq
      rcases hq with ⟨hv, hGe, hq22⟩ | ⟨hv, hGe, hq23⟩
      · cases hv
        rw [hGe]
        change ab_W _ _ _ G 42 [some (vR a), some (vz x), some (vz p), some (vz (K x)), some (vz (O x))] [vz 1] _
        refine zz_if_ne (tgt := 46) d_OM_spread_42 (by decide) (by decide) (fun c24 => ?_) (fun c24 => absurd c24 (by decide))
        refine ab_iload_n d_OM_spread_46 rfl ?_
        refine zz_bipush d_OM_spread_47 (by decide) ?_
        refine zz_icmp_ne (tgt := 76) d_OM_spread_49 (by decide) (by omega) (by decide) (fun c25 => ?_) (fun c25 => absurd c25 (by omega))
        refine ab_iload_n d_OM_spread_76 rfl ?_
        refine zz_bipush d_OM_spread_77 (by decide) ?_
        refine zz_icmp_ne (tgt := 118) d_OM_spread_79 (by decide) (by omega) (by decide) (fun c26 => ?_) (fun c26 => absurd c26 (by omega))
        refine ab_aload_n d_OM_spread_118 rfl ?_
        refine ab_getf (fs := [vR sp, vR wk, vR onw, vR tkn, vR se_, vR cle, vR stk, vz dp, vz fo, vz chn, vR q, vR s, vz hw, vz fy, vj stp]) f_OM_34 d_OM_spread_119 ha.2.2 rfl ?_
        refine ab_aload_n d_OM_spread_122 rfl ?_
        refine ab_getf (fs := [vR sp, vR wk, vR onw, vR tkn, vR se_, vR cle, vR stk, vz dp, vz fo, vz chn, vR q, vR s, vz hw, vz fy, vj stp]) f_OM_76 d_OM_spread_123 ha.2.2 rfl ?_
        refine ab_aload_n d_OM_spread_126 rfl ?_
        refine ab_getf (fs := [vR sp, vR wk, vR onw, vR tkn, vR se_, vR cle, vR stk, vz dp, vz fo, vz chn, vR q, vR s, vz hw, vz fy, vj stp]) f_OM_47 d_OM_spread_127 ha.2.2 rfl ?_
        refine ab_getf (fs := [vR ki, vR ne, vR ot, vz cnt, vz fi, vz la, vR ra, vz ru, vz gr, vz wi, vz sz, vz fl, vz ve, vz mi, vR na, vR nl]) f_OM_67 d_OM_spread_130 hq.2.2 rfl ?_
        refine ab_iload_n d_OM_spread_133 rfl ?_
        refine zz_iald d_OM_spread_134 hne (by omega) ?_
        have hq27 := hp.n x (by omega) (by omega)
        refine zz_iast d_OM_spread_135 hstk (by omega) (hstk.2.1 (by decide)) ?_
        obtain ⟨G28, eG28⟩ : ∃ z : ab_G, z = List.set G stk (za 809 (zu SK dp (N x))) := ⟨_, rfl⟩
        have ha := ha.keep hstk eG28 (by decide)
        have hwk := hwk.keep hstk eG28 (by decide)
        have hq := hq.keep hstk eG28 (by omega)
        have hki := hki.keep hstk eG28 (by omega)
        have hne := hne.keep hstk eG28 (by omega)
        have hot := hot.keep hstk eG28 (by omega)
        have hra := hra.keep hstk eG28 (by omega)
        have hs := hs.keep hstk eG28 (by decide)
        have hho := hho.keep hstk eG28 (by decide)
        have hlen := (z_len eG28).trans hlen
        have hsl := (z_sl hstk eG28 rfl).trans hsl
        have hfr := hfr.wr hstk eG28 (by decide)
        have hstk := hstk.kept eG28
        change ab_W _ _ _ (List.set G stk (za 809 (zu SK dp (N x)))) 136 [some (vR a), some (vz x), some (vz p), some (vz (K x)), some (vz (O x))] [] _
        rw [← eG28]
        refine ab_aload_n d_OM_spread_136 rfl ?_
        refine ab_dup d_OM_spread_137 rfl ?_
        refine ab_getf (fs := [vR sp, vR wk, vR onw, vR tkn, vR se_, vR cle, vR stk, vz dp, vz fo, vz chn, vR q, vR s, vz hw, vz fy, vj stp]) f_OM_76 d_OM_spread_138 ha.2.2 rfl ?_
        refine zz_iconst d_OM_spread_141 ?_
        refine zz_iadd d_OM_spread_142 ?_
        refine ab_putf (fs := [vR sp, vR wk, vR onw, vR tkn, vR se_, vR cle, vR stk, vz dp, vz fo, vz chn, vR q, vR s, vz hw, vz fy, vj stp]) f_OM_76 (Or.inl rfl) d_OM_spread_143 ha.2.2 (Nat.le_of_ble_eq_true rfl) (fun _ => ⟨rfl, rfl⟩) (ha.2.1 (by decide)) ?_
        obtain ⟨G29, eG29⟩ : ∃ z : ab_G, z = List.set G28 a (ab_ob 3 [vR sp, vR wk, vR onw, vR tkn, vR se_, vR cle, vR stk, vz (dp + 1), vz fo, vz chn, vR q, vR s, vz hw, vz fy, vj stp]) := ⟨_, rfl⟩
        have hwk := hwk.keep ha eG29 (by decide)
        have hstk := hstk.keep ha eG29 (by decide)
        have hq := hq.keep ha eG29 (by omega)
        have hki := hki.keep ha eG29 (by omega)
        have hne := hne.keep ha eG29 (by omega)
        have hot := hot.keep ha eG29 (by omega)
        have hra := hra.keep ha eG29 (by omega)
        have hs := hs.keep ha eG29 (by decide)
        have hho := hho.keep ha eG29 (by decide)
        have hlen := (z_len eG29).trans hlen
        have hsl := (z_sl ha eG29 rfl).trans hsl
        have hfr := hfr.wr ha eG29 (by decide)
        have ha := ha.kept eG29
        change ab_W _ _ _ (List.set G28 a (ab_ob 3 [vR sp, vR wk, vR onw, vR tkn, vR se_, vR cle, vR stk, vz (dp + 1), vz fo, vz chn, vR q, vR s, vz hw, vz fy, vj stp])) 146 [some (vR a), some (vz x), some (vz p), some (vz (K x)), some (vz (O x))] [] _
        rw [← eG29]
        refine ab_vret rfl d_OM_spread_146 ?_
        rw [hQ]; exact (Or.inr (Or.inr (Or.inr ⟨rfl, hfr, hlen, hsl, ha, hstk, (by omega)⟩)))
      · cases hv
        rw [hGe]
        change ab_W _ _ _ G 42 [some (vR a), some (vz x), some (vz p), some (vz (K x)), some (vz (O x))] [vz 0] _
        refine zz_if_ne (tgt := 46) d_OM_spread_42 (by decide) (by decide) (fun c30 => absurd c30 (by decide)) (fun c30 => ?_)
        refine ab_vret rfl d_OM_spread_45 ?_
        rw [hQ]; exact (Or.inl ⟨rfl, rfl, (by omega)⟩)
