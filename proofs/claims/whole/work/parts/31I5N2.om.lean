set_option maxRecDepth 100000 in
set_option maxHeartbeats 4000000 in
theorem z_OM_arrive {X : ab_X} {d : Nat} {o : Nat → Nat} {G : ab_G} {a : Nat} {sp : Nat} {wk : Nat} {onw : Nat} {tkn : Nat} {se_ : Nat} {cle : Nat} {stk : Nat} {dp : Int} {fo : Int} {chn : Int} {hw : Int} {fy : Int} {stp : Int} {SP : Int → Int} {WK : Int → Int} {q : Nat} {lq : Nat} {ki : Nat} {ne : Nat} {ot : Nat} {cnt : Int} {fi : Int} {la : Int} {ra : Nat} {ru : Int} {gr : Int} {wi : Int} {sz : Int} {fl : Int} {ve : Int} {mi : Int} {na : Nat} {nl : Nat} {s : Nat} {by_ : Nat} {co : Nat} {re : Nat} {ho : Nat} {n : Int} {m : Nat} {mc : Nat} {p : Int} (ha : cc o G a 50 (ab_ob 3 [vR sp, vR wk, vR onw, vR tkn, vR se_, vR cle, vR stk, vz dp, vz fo, vz chn, vR q, vR s, vz hw, vz fy, vj stp])) (hsp : cc o G sp 31 (za 20 SP)) (hwk : cc o G wk 51 (za 20 WK)) (hq : cc o G q lq (ab_ob 5 [vR ki, vR ne, vR ot, vz cnt, vz fi, vz la, vR ra, vz ru, vz gr, vz wi, vz sz, vz fl, vz ve, vz mi, vR na, vR nl])) (hs : cc o G s 26 (ab_ob 9 [vR by_, vR co, vR re, vR ho, vz n])) (clq : 100 ≤ lq) (cwi : 2 ≤ wi ∧ wi ≤ 20) (jwk : rgs WK wi (-1) n) (c0k : 0 ≤ WK 0) (jsp : rgs SP 20 (-1) 2000) (chw : 0 ≤ hw ∧ hw ≤ 2 ∧ 0 ≤ fy ∧ fy ≤ 1) (cp : 0 ≤ p ∧ p ≤ n) (csu : 0 ≤ n ∧ n ≤ ↑m ∧ 32 ≤ m ∧ m ≤ 2000 ∧ mc = m + 1) (hd : 1 ≤ d) : ab_F X d y_OM_arrive (.code y_OM_arrive b_OM_arrive 2 (some (.boolean))) [vR a, vz p] G (fun oc G2 => (oc = .returned (some (vz 0)) ∧ G2 = G ∧ (hw = 2 ∧ p < n)) ∨ (∃ SP2 : Int → Int, oc = .returned (some (vz fy)) ∧ fx o o [31, 50] G G2 ∧ G2.length = G.length ∧ ab_slots G2 = ab_slots G ∧ cc o G2 a 50 (ab_ob 3 [vR sp, vR wk, vR onw, vR tkn, vR se_, vR cle, vR stk, vz dp, vz 1, vz chn, vR q, vR s, vz hw, vz fy, vj stp]) ∧ cc o G2 sp 31 (za 20 SP2) ∧ (SP2 = zu (zcpy WK SP 0 0 wi) 1 p) ∧ (arO hw n p) ∧ (rgs SP2 20 (-1) 2000) ∧ (rgs SP2 wi (-1) n) ∧ (0 ≤ SP2 0 ∧ 0 ≤ SP2 1))) := by
  refine ab_F_of (by decide +kernel) (Nat.le_of_ble_eq_true rfl) ?_
  obtain ⟨Q, hQ⟩ : ∃ z : Outcome → ab_G → Prop, z = (fun oc G2 => (oc = .returned (some (vz 0)) ∧ G2 = G ∧ (hw = 2 ∧ p < n)) ∨ (∃ SP2 : Int → Int, oc = .returned (some (vz fy)) ∧ fx o o [31, 50] G G2 ∧ G2.length = G.length ∧ ab_slots G2 = ab_slots G ∧ cc o G2 a 50 (ab_ob 3 [vR sp, vR wk, vR onw, vR tkn, vR se_, vR cle, vR stk, vz dp, vz 1, vz chn, vR q, vR s, vz hw, vz fy, vj stp]) ∧ cc o G2 sp 31 (za 20 SP2) ∧ (SP2 = zu (zcpy WK SP 0 0 wi) 1 p) ∧ (arO hw n p) ∧ (rgs SP2 20 (-1) 2000) ∧ (rgs SP2 wi (-1) n) ∧ (0 ≤ SP2 0 ∧ 0 ≤ SP2 1))) := ⟨_, rfl⟩
  rw [← hQ]
  change ab_W X (ab_pl y_OM_arrive b_OM_arrive 2 (some (.boolean))) d G 0 [some (vR a), some (vz p)] [] Q
  have hfr : fx o o [31, 50] G G := fx.rf
  have hlen : G.length = G.length := rfl
  have hsl : ab_slots G = ab_slots G := rfl
  refine ab_aload_n d_OM_arrive_0 rfl ?_
  refine ab_getf (fs := [vR sp, vR wk, vR onw, vR tkn, vR se_, vR cle, vR stk, vz dp, vz fo, vz chn, vR q, vR s, vz hw, vz fy, vj stp]) f_OM_108 d_OM_arrive_1 ha.2.2 rfl ?_
  refine zz_iconst d_OM_arrive_4 ?_
  refine zz_icmp_ne (tgt := 21) d_OM_arrive_5 (by decide) (by omega) (by decide) (fun c1 => ?_) (fun c1 => ?_)
  · refine ab_aload_n d_OM_arrive_21 rfl ?_
    refine ab_getf (fs := [vR sp, vR wk, vR onw, vR tkn, vR se_, vR cle, vR stk, vz dp, vz fo, vz chn, vR q, vR s, vz hw, vz fy, vj stp]) f_OM_15 d_OM_arrive_22 ha.2.2 rfl ?_
    refine zz_iconst d_OM_arrive_25 ?_
    refine ab_aload_n d_OM_arrive_26 rfl ?_
    refine ab_getf (fs := [vR sp, vR wk, vR onw, vR tkn, vR se_, vR cle, vR stk, vz dp, vz fo, vz chn, vR q, vR s, vz hw, vz fy, vj stp]) f_OM_9 d_OM_arrive_27 ha.2.2 rfl ?_
    refine zz_iconst d_OM_arrive_30 ?_
    refine ab_aload_n d_OM_arrive_31 rfl ?_
    refine ab_getf (fs := [vR sp, vR wk, vR onw, vR tkn, vR se_, vR cle, vR stk, vz dp, vz fo, vz chn, vR q, vR s, vz hw, vz fy, vj stp]) f_OM_47 d_OM_arrive_32 ha.2.2 rfl ?_
    refine ab_getf (fs := [vR ki, vR ne, vR ot, vz cnt, vz fi, vz la, vR ra, vz ru, vz gr, vz wi, vz sz, vz fl, vz ve, vz mi, vR na, vR nl]) f_OM_121 d_OM_arrive_35 hq.2.2 rfl ?_
    refine zz_copy mj_OM_142 d_OM_arrive_38 hwk hsp (hsp.2.1 (by decide)) (by omega) (Nat.le_of_ble_eq_true rfl) (by omega) ?_
    obtain ⟨G2, eG2⟩ : ∃ z : ab_G, z = List.set G sp (za 20 (zcpy WK SP 0 0 wi)) := ⟨_, rfl⟩
    have ha := ha.keep hsp eG2 (by decide)
    have hwk := hwk.keep hsp eG2 (by decide)
    have hq := hq.keep hsp eG2 (by omega)
    have hs := hs.keep hsp eG2 (by decide)
    have hlen := (z_len eG2).trans hlen
    have hsl := (z_sl hsp eG2 rfl).trans hsl
    have hfr := hfr.wr hsp eG2 (by decide)
    have hsp := hsp.kept eG2
    change ab_W _ _ _ (List.set G sp (za 20 (zcpy WK SP 0 0 wi))) 41 [some (vR a), some (vz p)] [] _
    rw [← eG2]
    refine ab_aload_n d_OM_arrive_41 rfl ?_
    refine ab_getf (fs := [vR sp, vR wk, vR onw, vR tkn, vR se_, vR cle, vR stk, vz dp, vz fo, vz chn, vR q, vR s, vz hw, vz fy, vj stp]) f_OM_9 d_OM_arrive_42 ha.2.2 rfl ?_
    refine zz_iconst d_OM_arrive_45 ?_
    refine ab_iload_n d_OM_arrive_46 rfl ?_
    refine zz_iast d_OM_arrive_47 hsp (by omega) (hsp.2.1 (by decide)) ?_
    obtain ⟨G3, eG3⟩ : ∃ z : ab_G, z = List.set G2 sp (za 20 (zu (zcpy WK SP 0 0 wi) 1 p)) := ⟨_, rfl⟩
    have ha := ha.keep hsp eG3 (by decide)
    have hwk := hwk.keep hsp eG3 (by decide)
    have hq := hq.keep hsp eG3 (by omega)
    have hs := hs.keep hsp eG3 (by decide)
    have hlen := (z_len eG3).trans hlen
    have hsl := (z_sl hsp eG3 rfl).trans hsl
    have hfr := hfr.wr hsp eG3 (by decide)
    have hsp := hsp.kept eG3
    change ab_W _ _ _ (List.set G2 sp (za 20 (zu (zcpy WK SP 0 0 wi) 1 p))) 48 [some (vR a), some (vz p)] [] _
    rw [← eG3]
    refine ab_aload_n d_OM_arrive_48 rfl ?_
    refine zz_iconst d_OM_arrive_49 ?_
    refine ab_putf (fs := [vR sp, vR wk, vR onw, vR tkn, vR se_, vR cle, vR stk, vz dp, vz fo, vz chn, vR q, vR s, vz hw, vz fy, vj stp]) f_OM_118 (Or.inl rfl) d_OM_arrive_50 ha.2.2 (Nat.le_of_ble_eq_true rfl) (ab_fbz (by decide)) (ha.2.1 (by decide)) ?_
    obtain ⟨G4, eG4⟩ : ∃ z : ab_G, z = List.set G3 a (ab_ob 3 [vR sp, vR wk, vR onw, vR tkn, vR se_, vR cle, vR stk, vz dp, vz 1, vz chn, vR q, vR s, vz hw, vz fy, vj stp]) := ⟨_, rfl⟩
    have hsp := hsp.keep ha eG4 (by decide)
    have hwk := hwk.keep ha eG4 (by decide)
    have hq := hq.keep ha eG4 (by omega)
    have hs := hs.keep ha eG4 (by decide)
    have hlen := (z_len eG4).trans hlen
    have hsl := (z_sl ha eG4 rfl).trans hsl
    have hfr := hfr.wr ha eG4 (by decide)
    have ha := ha.kept eG4
    change ab_W _ _ _ (List.set G3 a (ab_ob 3 [vR sp, vR wk, vR onw, vR tkn, vR se_, vR cle, vR stk, vz dp, vz 1, vz chn, vR q, vR s, vz hw, vz fy, vj stp])) 53 [some (vR a), some (vz p)] [] _
    rw [← eG4]
    refine ab_aload_n d_OM_arrive_53 rfl ?_
    refine ab_getf (fs := [vR sp, vR wk, vR onw, vR tkn, vR se_, vR cle, vR stk, vz dp, vz 1, vz chn, vR q, vR s, vz hw, vz fy, vj stp]) f_OM_114 d_OM_arrive_54 ha.2.2 rfl ?_
    refine zz_bret rfl (by omega) d_OM_arrive_57 ?_
    rw [hQ]; exact (Or.inr ⟨_, rfl, hfr, hlen, hsl, ha, hsp, (by rfl), (by unfold arO; omega), (by first | exact (rgs_zu (rgs_cpy jwk jsp (by omega)) (by omega)) | exact rgs_w (rgs_zu (rgs_cpy jwk jsp (by omega)) (by omega)) (by omega)), (by exact (spo_arr (fo := 1) jwk c0k (by omega) (by omega) (by omega)).1), (by exact (spo_arr (fo := 1) jwk c0k (by omega) (by omega) (by omega)).2)⟩)
  · refine ab_iload_n d_OM_arrive_8 rfl ?_
    refine ab_aload_n d_OM_arrive_9 rfl ?_
    refine ab_getf (fs := [vR sp, vR wk, vR onw, vR tkn, vR se_, vR cle, vR stk, vz dp, vz fo, vz chn, vR q, vR s, vz hw, vz fy, vj stp]) f_OM_104 d_OM_arrive_10 ha.2.2 rfl ?_
    refine ab_getf (fs := [vR by_, vR co, vR re, vR ho, vz n]) f_OM_127 d_OM_arrive_13 hs.2.2 rfl ?_
    refine zz_icmp_ge (tgt := 21) d_OM_arrive_16 (by decide) (by omega) (by omega) (fun c5 => ?_) (fun c5 => ?_)
    · refine ab_aload_n d_OM_arrive_21 rfl ?_
      refine ab_getf (fs := [vR sp, vR wk, vR onw, vR tkn, vR se_, vR cle, vR stk, vz dp, vz fo, vz chn, vR q, vR s, vz hw, vz fy, vj stp]) f_OM_15 d_OM_arrive_22 ha.2.2 rfl ?_
      refine zz_iconst d_OM_arrive_25 ?_
      refine ab_aload_n d_OM_arrive_26 rfl ?_
      refine ab_getf (fs := [vR sp, vR wk, vR onw, vR tkn, vR se_, vR cle, vR stk, vz dp, vz fo, vz chn, vR q, vR s, vz hw, vz fy, vj stp]) f_OM_9 d_OM_arrive_27 ha.2.2 rfl ?_
      refine zz_iconst d_OM_arrive_30 ?_
      refine ab_aload_n d_OM_arrive_31 rfl ?_
      refine ab_getf (fs := [vR sp, vR wk, vR onw, vR tkn, vR se_, vR cle, vR stk, vz dp, vz fo, vz chn, vR q, vR s, vz hw, vz fy, vj stp]) f_OM_47 d_OM_arrive_32 ha.2.2 rfl ?_
      refine ab_getf (fs := [vR ki, vR ne, vR ot, vz cnt, vz fi, vz la, vR ra, vz ru, vz gr, vz wi, vz sz, vz fl, vz ve, vz mi, vR na, vR nl]) f_OM_121 d_OM_arrive_35 hq.2.2 rfl ?_
      refine zz_copy mj_OM_142 d_OM_arrive_38 hwk hsp (hsp.2.1 (by decide)) (by omega) (Nat.le_of_ble_eq_true rfl) (by omega) ?_
      obtain ⟨G6, eG6⟩ : ∃ z : ab_G, z = List.set G sp (za 20 (zcpy WK SP 0 0 wi)) := ⟨_, rfl⟩
      have ha := ha.keep hsp eG6 (by decide)
      have hwk := hwk.keep hsp eG6 (by decide)
      have hq := hq.keep hsp eG6 (by omega)
      have hs := hs.keep hsp eG6 (by decide)
      have hlen := (z_len eG6).trans hlen
      have hsl := (z_sl hsp eG6 rfl).trans hsl
      have hfr := hfr.wr hsp eG6 (by decide)
      have hsp := hsp.kept eG6
      change ab_W _ _ _ (List.set G sp (za 20 (zcpy WK SP 0 0 wi))) 41 [some (vR a), some (vz p)] [] _
      rw [← eG6]
      refine ab_aload_n d_OM_arrive_41 rfl ?_
      refine ab_getf (fs := [vR sp, vR wk, vR onw, vR tkn, vR se_, vR cle, vR stk, vz dp, vz fo, vz chn, vR q, vR s, vz hw, vz fy, vj stp]) f_OM_9 d_OM_arrive_42 ha.2.2 rfl ?_
      refine zz_iconst d_OM_arrive_45 ?_
      refine ab_iload_n d_OM_arrive_46 rfl ?_
      refine zz_iast d_OM_arrive_47 hsp (by omega) (hsp.2.1 (by decide)) ?_
      obtain ⟨G7, eG7⟩ : ∃ z : ab_G, z = List.set G6 sp (za 20 (zu (zcpy WK SP 0 0 wi) 1 p)) := ⟨_, rfl⟩
      have ha := ha.keep hsp eG7 (by decide)
      have hwk := hwk.keep hsp eG7 (by decide)
      have hq := hq.keep hsp eG7 (by omega)
      have hs := hs.keep hsp eG7 (by decide)
      have hlen := (z_len eG7).trans hlen
      have hsl := (z_sl hsp eG7 rfl).trans hsl
      have hfr := hfr.wr hsp eG7 (by decide)
      have hsp := hsp.kept eG7
      change ab_W _ _ _ (List.set G6 sp (za 20 (zu (zcpy WK SP 0 0 wi) 1 p))) 48 [some (vR a), some (vz p)] [] _
      rw [← eG7]
      refine ab_aload_n d_OM_arrive_48 rfl ?_
      refine zz_iconst d_OM_arrive_49 ?_
      refine ab_putf (fs := [vR sp, vR wk, vR onw, vR tkn, vR se_, vR cle, vR stk, vz dp, vz fo, vz chn, vR q, vR s, vz hw, vz fy, vj stp]) f_OM_118 (Or.inl rfl) d_OM_arrive_50 ha.2.2 (Nat.le_of_ble_eq_true rfl) (ab_fbz (by decide)) (ha.2.1 (by decide)) ?_
      obtain ⟨G8, eG8⟩ : ∃ z : ab_G, z = List.set G7 a (ab_ob 3 [vR sp, vR wk, vR onw, vR tkn, vR se_, vR cle, vR stk, vz dp, vz 1, vz chn, vR q, vR s, vz hw, vz fy, vj stp]) := ⟨_, rfl⟩
      have hsp := hsp.keep ha eG8 (by decide)
      have hwk := hwk.keep ha eG8 (by decide)
      have hq := hq.keep ha eG8 (by omega)
      have hs := hs.keep ha eG8 (by decide)
      have hlen := (z_len eG8).trans hlen
      have hsl := (z_sl ha eG8 rfl).trans hsl
      have hfr := hfr.wr ha eG8 (by decide)
      have ha := ha.kept eG8
      change ab_W _ _ _ (List.set G7 a (ab_ob 3 [vR sp, vR wk, vR onw, vR tkn, vR se_, vR cle, vR stk, vz dp, vz 1, vz chn, vR q, vR s, vz hw, vz fy, vj stp])) 53 [some (vR a), some (vz p)] [] _
      rw [← eG8]
      refine ab_aload_n d_OM_arrive_53 rfl ?_
      refine ab_getf (fs := [vR sp, vR wk, vR onw, vR tkn, vR se_, vR cle, vR stk, vz dp, vz 1, vz chn, vR q, vR s, vz hw, vz fy, vj stp]) f_OM_114 d_OM_arrive_54 ha.2.2 rfl ?_
      refine zz_bret rfl (by omega) d_OM_arrive_57 ?_
      rw [hQ]; exact (Or.inr ⟨_, rfl, hfr, hlen, hsl, ha, hsp, (by rfl), (by unfold arO; omega), (by first | exact (rgs_zu (rgs_cpy jwk jsp (by omega)) (by omega)) | exact rgs_w (rgs_zu (rgs_cpy jwk jsp (by omega)) (by omega)) (by omega)), (by exact (spo_arr (fo := 1) jwk c0k (by omega) (by omega) (by omega)).1), (by exact (spo_arr (fo := 1) jwk c0k (by omega) (by omega) (by omega)).2)⟩)
    · refine zz_iconst d_OM_arrive_19 ?_
      refine zz_bret rfl (by decide) d_OM_arrive_20 ?_
      rw [hQ]; exact (Or.inl ⟨rfl, rfl, (by omega)⟩)
set_option maxRecDepth 100000 in
set_option maxHeartbeats 4000000 in
theorem zq_PR_takes {X : ab_X} {d : Nat} {o : Nat → Nat} {G : ab_G} {q : Nat} {lq : Nat} {ki : Nat} {ne : Nat} {ot : Nat} {cnt : Int} {fi : Int} {la : Int} {ra : Nat} {ru : Int} {gr : Int} {wi : Int} {sz : Int} {fl : Int} {ve : Int} {mi : Int} {na : Nat} {nl : Nat} {K : Int → Int} {N : Int → Int} {O : Int → Int} {RR : Int → Int} {nr : Nat} {x : Int} (hq : cc o G q lq (ab_ob 5 [vR ki, vR ne, vR ot, vz cnt, vz fi, vz la, vR ra, vz ru, vz gr, vz wi, vz sz, vz fl, vz ve, vz mi, vR na, vR nl])) (hki : cc o G ki (lq + 1) (za 808 K)) (cq : 100 ≤ lq ∧ 0 ≤ cnt ∧ cnt ≤ 808 ∧ ↑nr ≤ (100000 : Int)) (hp : prok K N O RR cnt ↑nr wi) (cx : 0 ≤ x ∧ x < cnt) : ab_F X d y_PR_takes (.code y_PR_takes b_PR_takes 2 (some (.boolean))) [vR q, vz x] G (fun oc G2 => (oc = .returned (some (vz 1)) ∧ G2 = G ∧ (K x ≤ 2)) ∨ (oc = .returned (some (vz 0)) ∧ G2 = G ∧ (2 < K x))) := by
  refine ab_F_of (by decide +kernel) (Nat.le_of_ble_eq_true rfl) ?_
  obtain ⟨Q, hQ⟩ : ∃ z : Outcome → ab_G → Prop, z = (fun oc G2 => (oc = .returned (some (vz 1)) ∧ G2 = G ∧ (K x ≤ 2)) ∨ (oc = .returned (some (vz 0)) ∧ G2 = G ∧ (2 < K x))) := ⟨_, rfl⟩
  rw [← hQ]
  change ab_W X (ab_pl y_PR_takes b_PR_takes 2 (some (.boolean))) d G 0 [some (vR q), some (vz x)] [] Q
  have hfr : fx o o [] G G := fx.rf
  have hlen : G.length = G.length := rfl
  have hsl : ab_slots G = ab_slots G := rfl
  refine ab_aload_n d_PR_takes_0 rfl ?_
  refine ab_getf (fs := [vR ki, vR ne, vR ot, vz cnt, vz fi, vz la, vR ra, vz ru, vz gr, vz wi, vz sz, vz fl, vz ve, vz mi, vR na, vR nl]) f_PR_9 d_PR_takes_1 hq.2.2 rfl ?_
  refine ab_iload_n d_PR_takes_4 rfl ?_
  refine zz_iald d_PR_takes_5 hki (by omega) ?_
  have hq1 := hp.k x (by omega) (by omega)
  refine zz_iconst d_PR_takes_6 ?_
  refine zz_icmp_gt (tgt := 14) d_PR_takes_7 (by decide) (by omega) (by decide) (fun c2 => ?_) (fun c2 => ?_)
  · refine zz_iconst d_PR_takes_14 ?_
    refine zz_bret rfl (by decide) d_PR_takes_15 ?_
    rw [hQ]; exact (Or.inr ⟨rfl, rfl, (by omega)⟩)
  · refine zz_iconst d_PR_takes_10 ?_
    refine ab_goto (tgt := 15) d_PR_takes_11 (by decide) ?_
    refine zz_bret rfl (by decide) d_PR_takes_15 ?_
    rw [hQ]; exact (Or.inl ⟨rfl, rfl, (by omega)⟩)
set_option maxRecDepth 100000 in
set_option maxHeartbeats 4000000 in
theorem z_OM_spread {X : ab_X} {d : Nat} {o : Nat → Nat} {G : ab_G} {a : Nat} {sp : Nat} {wk : Nat} {onw : Nat} {tkn : Nat} {se_ : Nat} {cle : Nat} {stk : Nat} {dp : Int} {fo : Int} {chn : Int} {hw : Int} {fy : Int} {stp : Int} {WK : Int → Int} {SK : Int → Int} {q : Nat} {lq : Nat} {ki : Nat} {ne : Nat} {ot : Nat} {cnt : Int} {fi : Int} {la : Int} {ra : Nat} {ru : Int} {gr : Int} {wi : Int} {sz : Int} {fl : Int} {ve : Int} {mi : Int} {na : Nat} {nl : Nat} {K : Int → Int} {N : Int → Int} {O : Int → Int} {RR : Int → Int} {nr : Nat} {s : Nat} {by_ : Nat} {co : Nat} {re : Nat} {ho : Nat} {n : Int} {f : Int → Int} {C : Int → Int} {Rs : Int → Int} {H : Int → Int} {m : Nat} {mc : Nat} {p : Int} {x : Int} (ha : cc o G a 50 (ab_ob 3 [vR sp, vR wk, vR onw, vR tkn, vR se_, vR cle, vR stk, vz dp, vz fo, vz chn, vR q, vR s, vz hw, vz fy, vj stp])) (hwk : cc o G wk 51 (za 20 WK)) (hstk : cc o G stk 57 (za 809 SK)) (hq : cc o G q lq (ab_ob 5 [vR ki, vR ne, vR ot, vz cnt, vz fi, vz la, vR ra, vz ru, vz gr, vz wi, vz sz, vz fl, vz ve, vz mi, vR na, vR nl])) (hki : cc o G ki (lq + 1) (za 808 K)) (hne : cc o G ne (lq + 2) (za 808 N)) (hot : cc o G ot (lq + 3) (za 808 O)) (hra : cc o G ra (lq + 4) (za nr RR)) (hs : cc o G s 26 (ab_ob 9 [vR by_, vR co, vR re, vR ho, vz n])) (hho : cc o G ho 30 (za mc H)) (cq : 100 ≤ lq ∧ 0 ≤ cnt ∧ cnt ≤ 808 ∧ ↑nr ≤ (100000 : Int)) (hp : prok K N O RR cnt ↑nr wi) (hr : ∀ k : Int, 0 ≤ k → k < ↑nr → 0 ≤ RR k ∧ RR k ≤ 1114111) (cwi : 2 ≤ wi ∧ wi ≤ 20) (jwk : rgs WK wi (-1) n) (csu : 0 ≤ n ∧ n ≤ ↑m ∧ 32 ≤ m ∧ m ≤ 2000 ∧ mc = m + 1) (hsu : suok f C Rs H n) (cp : 0 ≤ p ∧ p ≤ n) (cx : 0 ≤ x ∧ x < cnt ∧ 2 < K x) (ckx : ¬ K x = 8) (cdp : 0 ≤ dp ∧ dp ≤ 808) (c6 : K x = 6 → dp ≤ 807) (c7 : K x = 7 → dp ≤ 807) (hd : 2 ≤ d) : ab_F X d y_OM_spread (.code y_OM_spread b_OM_spread 5 none) [vR a, vz x, vz p] G (fun oc G2 => (oc = .returned none ∧ G2 = G ∧ (3 ≤ K x) ∧ (spN K O f n p x)) ∨ (oc = .returned none ∧ fx o o [50, 51, 57] G G2 ∧ G2.length = G.length ∧ ab_slots G2 = ab_slots G ∧ cc o G2 a 50 (ab_ob 3 [vR sp, vR wk, vR onw, vR tkn, vR se_, vR cle, vR stk, vz (dp + 1 + 1), vz fo, vz chn, vR q, vR s, vz hw, vz fy, vj stp]) ∧ cc o G2 wk 51 (za 20 WK) ∧ cc o G2 stk 57 (za 809 (zu (zu SK dp (O x)) (dp + 1) (N x))) ∧ (K x = 6)) ∨ (∃ u_ : Int, oc = .returned none ∧ fx o o [50, 51, 57] G G2 ∧ G2.length = G.length ∧ ab_slots G2 = ab_slots G ∧ cc o G2 a 50 (ab_ob 3 [vR sp, vR wk, vR onw, vR tkn, vR se_, vR cle, vR stk, vz (dp + 1 + 1), vz fo, vz chn, vR q, vR s, vz hw, vz fy, vj stp]) ∧ cc o G2 wk 51 (za 20 (zu WK (O x) p)) ∧ cc o G2 stk 57 (za 809 (zu (zu SK dp u_) (dp + 1) (N x))) ∧ (K x = 7) ∧ (u_ = -1 - (O x * 4096 + (WK (O x) + 1))) ∧ (tko cnt n wi u_) ∧ (u_ < 0)) ∨ (oc = .returned none ∧ fx o o [50, 51, 57] G G2 ∧ G2.length = G.length ∧ ab_slots G2 = ab_slots G ∧ cc o G2 a 50 (ab_ob 3 [vR sp, vR wk, vR onw, vR tkn, vR se_, vR cle, vR stk, vz (dp + 1), vz fo, vz chn, vR q, vR s, vz hw, vz fy, vj stp]) ∧ cc o G2 wk 51 (za 20 WK) ∧ cc o G2 stk 57 (za 809 (zu SK dp (N x))) ∧ (K x = 3) ∧ (hld f n p (O x)))) := by
  refine ab_F_of (by decide +kernel) (Nat.le_of_ble_eq_true rfl) ?_
  obtain ⟨Q, hQ⟩ : ∃ z : Outcome → ab_G → Prop, z = (fun oc G2 => (oc = .returned none ∧ G2 = G ∧ (3 ≤ K x) ∧ (spN K O f n p x)) ∨ (oc = .returned none ∧ fx o o [50, 51, 57] G G2 ∧ G2.length = G.length ∧ ab_slots G2 = ab_slots G ∧ cc o G2 a 50 (ab_ob 3 [vR sp, vR wk, vR onw, vR tkn, vR se_, vR cle, vR stk, vz (dp + 1 + 1), vz fo, vz chn, vR q, vR s, vz hw, vz fy, vj stp]) ∧ cc o G2 wk 51 (za 20 WK) ∧ cc o G2 stk 57 (za 809 (zu (zu SK dp (O x)) (dp + 1) (N x))) ∧ (K x = 6)) ∨ (∃ u_ : Int, oc = .returned none ∧ fx o o [50, 51, 57] G G2 ∧ G2.length = G.length ∧ ab_slots G2 = ab_slots G ∧ cc o G2 a 50 (ab_ob 3 [vR sp, vR wk, vR onw, vR tkn, vR se_, vR cle, vR stk, vz (dp + 1 + 1), vz fo, vz chn, vR q, vR s, vz hw, vz fy, vj stp]) ∧ cc o G2 wk 51 (za 20 (zu WK (O x) p)) ∧ cc o G2 stk 57 (za 809 (zu (zu SK dp u_) (dp + 1) (N x))) ∧ (K x = 7) ∧ (u_ = -1 - (O x * 4096 + (WK (O x) + 1))) ∧ (tko cnt n wi u_) ∧ (u_ < 0)) ∨ (oc = .returned none ∧ fx o o [50, 51, 57] G G2 ∧ G2.length = G.length ∧ ab_slots G2 = ab_slots G ∧ cc o G2 a 50 (ab_ob 3 [vR sp, vR wk, vR onw, vR tkn, vR se_, vR cle, vR stk, vz (dp + 1), vz fo, vz chn, vR q, vR s, vz hw, vz fy, vj stp]) ∧ cc o G2 wk 51 (za 20 WK) ∧ cc o G2 stk 57 (za 809 (zu SK dp (N x))) ∧ (K x = 3) ∧ (hld f n p (O x)))) := ⟨_, rfl⟩
  rw [← hQ]
  change ab_W X (ab_pl y_OM_spread b_OM_spread 5 none) d G 0 [some (vR a), some (vz x), some (vz p), none, none] [] Q
  have hfr : fx o o [50, 51, 57] G G := fx.rf
  have hlen : G.length = G.length := rfl
  have hsl : ab_slots G = ab_slots G := rfl
  have jne := hp.ne x (by omega) (by omega)
  have jne1 := jne.1
  have jne2 := jne.2
  refine ab_aload_n d_OM_spread_0 rfl ?_
  refine ab_getf (fs := [vR sp, vR wk, vR onw, vR tkn, vR se_, vR cle, vR stk, vz dp, vz fo, vz chn, vR q, vR s, vz hw, vz fy, vj stp]) f_OM_47 d_OM_spread_1 ha.2.2 rfl ?_
  refine ab_getf (fs := [vR ki, vR ne, vR ot, vz cnt, vz fi, vz la, vR ra, vz ru, vz gr, vz wi, vz sz, vz fl, vz ve, vz mi, vR na, vR nl]) f_OM_83 d_OM_spread_4 hq.2.2 rfl ?_
  refine ab_iload_n d_OM_spread_7 rfl ?_
  refine zz_iald d_OM_spread_8 hki (by omega) ?_
  have hq1 := hp.k x (by omega) (by omega)
  refine ab_istore_n d_OM_spread_9 (Nat.le_of_ble_eq_true rfl) (Nat.le_of_ble_eq_true rfl) rfl ?_
  change ab_W _ _ _ G 10 [some (vR a), some (vz x), some (vz p), some (vz (K x)), none] [] _
  refine ab_aload_n d_OM_spread_10 rfl ?_
  refine ab_getf (fs := [vR sp, vR wk, vR onw, vR tkn, vR se_, vR cle, vR stk, vz dp, vz fo, vz chn, vR q, vR s, vz hw, vz fy, vj stp]) f_OM_47 d_OM_spread_11 ha.2.2 rfl ?_
  refine ab_getf (fs := [vR ki, vR ne, vR ot, vz cnt, vz fi, vz la, vR ra, vz ru, vz gr, vz wi, vz sz, vz fl, vz ve, vz mi, vR na, vR nl]) f_OM_89 d_OM_spread_14 hq.2.2 rfl ?_
  refine ab_iload_n d_OM_spread_17 rfl ?_
  refine zz_iald d_OM_spread_18 hot (by omega) ?_
  refine ab_istore d_OM_spread_19 (Nat.le_of_ble_eq_true rfl) (Nat.le_of_ble_eq_true rfl) rfl ?_
  change ab_W _ _ _ G 21 [some (vR a), some (vz x), some (vz p), some (vz (K x)), some (vz (O x))] [] _
  refine ab_iload_n d_OM_spread_21 rfl ?_
  refine zz_bipush d_OM_spread_22 (by decide) ?_
  refine zz_icmp_eq (tgt := 45) d_OM_spread_24 (by decide) (by omega) (by decide) (fun c2 => ?_) (fun c2 => ?_)
  · refine ab_vret rfl d_OM_spread_45 ?_
    rw [hQ]; exact (Or.inl ⟨rfl, rfl, (by omega), (by exact Or.inl (by omega))⟩)
  · refine ab_iload_n d_OM_spread_27 rfl ?_
    refine zz_iconst d_OM_spread_28 ?_
    refine zz_icmp_ne (tgt := 46) d_OM_spread_29 (by decide) (by omega) (by decide) (fun c3 => ?_) (fun c3 => ?_)
    · refine ab_iload_n d_OM_spread_46 rfl ?_
      refine zz_bipush d_OM_spread_47 (by decide) ?_
      refine zz_icmp_ne (tgt := 76) d_OM_spread_49 (by decide) (by omega) (by decide) (fun c4 => ?_) (fun c4 => ?_)
      · refine ab_iload_n d_OM_spread_76 rfl ?_
        refine zz_bipush d_OM_spread_77 (by decide) ?_
        refine zz_icmp_ne (tgt := 118) d_OM_spread_79 (by decide) (by omega) (by decide) (fun c5 => ?_) (fun c5 => ?_)
        · refine ab_aload_n d_OM_spread_118 rfl ?_
          refine ab_getf (fs := [vR sp, vR wk, vR onw, vR tkn, vR se_, vR cle, vR stk, vz dp, vz fo, vz chn, vR q, vR s, vz hw, vz fy, vj stp]) f_OM_34 d_OM_spread_119 ha.2.2 rfl ?_
          refine ab_aload_n d_OM_spread_122 rfl ?_
          refine ab_getf (fs := [vR sp, vR wk, vR onw, vR tkn, vR se_, vR cle, vR stk, vz dp, vz fo, vz chn, vR q, vR s, vz hw, vz fy, vj stp]) f_OM_76 d_OM_spread_123 ha.2.2 rfl ?_
          refine ab_aload_n d_OM_spread_126 rfl ?_
          refine ab_getf (fs := [vR sp, vR wk, vR onw, vR tkn, vR se_, vR cle, vR stk, vz dp, vz fo, vz chn, vR q, vR s, vz hw, vz fy, vj stp]) f_OM_47 d_OM_spread_127 ha.2.2 rfl ?_
          refine ab_getf (fs := [vR ki, vR ne, vR ot, vz cnt, vz fi, vz la, vR ra, vz ru, vz gr, vz wi, vz sz, vz fl, vz ve, vz mi, vR na, vR nl]) f_OM_67 d_OM_spread_130 hq.2.2 rfl ?_
          refine ab_iload_n d_OM_spread_133 rfl ?_
          refine zz_iald d_OM_spread_134 hne (by omega) ?_
          have hq6 := hp.n x (by omega) (by omega)
          refine zz_iast d_OM_spread_135 hstk (by omega) (hstk.2.1 (by decide)) ?_
          obtain ⟨G7, eG7⟩ : ∃ z : ab_G, z = List.set G stk (za 809 (zu SK dp (N x))) := ⟨_, rfl⟩
          have ha := ha.keep hstk eG7 (by decide)
          have hwk := hwk.keep hstk eG7 (by decide)
          have hq := hq.keep hstk eG7 (by omega)
          have hki := hki.keep hstk eG7 (by omega)
          have hne := hne.keep hstk eG7 (by omega)
          have hot := hot.keep hstk eG7 (by omega)
          have hra := hra.keep hstk eG7 (by omega)
          have hs := hs.keep hstk eG7 (by decide)
          have hho := hho.keep hstk eG7 (by decide)
          have hlen := (z_len eG7).trans hlen
          have hsl := (z_sl hstk eG7 rfl).trans hsl
          have hfr := hfr.wr hstk eG7 (by decide)
          have hstk := hstk.kept eG7
          change ab_W _ _ _ (List.set G stk (za 809 (zu SK dp (N x)))) 136 [some (vR a), some (vz x), some (vz p), some (vz (K x)), some (vz (O x))] [] _
          rw [← eG7]
          refine ab_aload_n d_OM_spread_136 rfl ?_
          refine ab_dup d_OM_spread_137 rfl ?_
          refine ab_getf (fs := [vR sp, vR wk, vR onw, vR tkn, vR se_, vR cle, vR stk, vz dp, vz fo, vz chn, vR q, vR s, vz hw, vz fy, vj stp]) f_OM_76 d_OM_spread_138 ha.2.2 rfl ?_
          refine zz_iconst d_OM_spread_141 ?_
          refine zz_iadd d_OM_spread_142 ?_
          refine ab_putf (fs := [vR sp, vR wk, vR onw, vR tkn, vR se_, vR cle, vR stk, vz dp, vz fo, vz chn, vR q, vR s, vz hw, vz fy, vj stp]) f_OM_76 (Or.inl rfl) d_OM_spread_143 ha.2.2 (Nat.le_of_ble_eq_true rfl) (fun _ => ⟨rfl, rfl⟩) (ha.2.1 (by decide)) ?_
          obtain ⟨G8, eG8⟩ : ∃ z : ab_G, z = List.set G7 a (ab_ob 3 [vR sp, vR wk, vR onw, vR tkn, vR se_, vR cle, vR stk, vz (dp + 1), vz fo, vz chn, vR q, vR s, vz hw, vz fy, vj stp]) := ⟨_, rfl⟩
          have hwk := hwk.keep ha eG8 (by decide)
          have hstk := hstk.keep ha eG8 (by decide)
          have hq := hq.keep ha eG8 (by omega)
          have hki := hki.keep ha eG8 (by omega)
          have hne := hne.keep ha eG8 (by omega)
          have hot := hot.keep ha eG8 (by omega)
          have hra := hra.keep ha eG8 (by omega)
          have hs := hs.keep ha eG8 (by decide)
          have hho := hho.keep ha eG8 (by decide)
          have hlen := (z_len eG8).trans hlen
          have hsl := (z_sl ha eG8 rfl).trans hsl
          have hfr := hfr.wr ha eG8 (by decide)
          have ha := ha.kept eG8
          change ab_W _ _ _ (List.set G7 a (ab_ob 3 [vR sp, vR wk, vR onw, vR tkn, vR se_, vR cle, vR stk, vz (dp + 1), vz fo, vz chn, vR q, vR s, vz hw, vz fy, vj stp])) 146 [some (vR a), some (vz x), some (vz p), some (vz (K x)), some (vz (O x))] [] _
          rw [← eG8]
          refine ab_vret rfl d_OM_spread_146 ?_
          rw [hQ]; exact (Or.inr (Or.inr (Or.inr ⟨rfl, hfr, hlen, hsl, ha, hwk, hstk, (by omega), (by exfalso; omega)⟩)))
        · have jd := c7 (by omega)
          have jo := hp.o7 x (by omega) (by omega) (by omega)
          have jwv := jwk (O x) (by omega) (by omega)
          refine ab_aload_n d_OM_spread_82 rfl ?_
          refine ab_getf (fs := [vR sp, vR wk, vR onw, vR tkn, vR se_, vR cle, vR stk, vz dp, vz fo, vz chn, vR q, vR s, vz hw, vz fy, vj stp]) f_OM_34 d_OM_spread_83 ha.2.2 rfl ?_
          refine ab_aload_n d_OM_spread_86 rfl ?_
          refine ab_getf (fs := [vR sp, vR wk, vR onw, vR tkn, vR se_, vR cle, vR stk, vz dp, vz fo, vz chn, vR q, vR s, vz hw, vz fy, vj stp]) f_OM_76 d_OM_spread_87 ha.2.2 rfl ?_
          refine ab_aload_n d_OM_spread_90 rfl ?_
          refine ab_getf (fs := [vR sp, vR wk, vR onw, vR tkn, vR se_, vR cle, vR stk, vz dp, vz fo, vz chn, vR q, vR s, vz hw, vz fy, vj stp]) f_OM_15 d_OM_spread_91 ha.2.2 rfl ?_
          refine ab_iload d_OM_spread_94 rfl ?_
          refine ab_callS (d' := d - 1) (as := [vR wk, vz (O x)]) (st := [vz dp, vR stk]) (z_PW_undoOf (o := o) (a := wk) (l := 51) (m := 20) (f := WK) (s := (O x)) hwk (by omega) (by omega)) (fun oc G2 h => by rcases h with ⟨h, _⟩ <;> exact ⟨_, h⟩) (by omega) m_PW_undoOf ml_OM_160 st_PW_undoOf (Nat.le_of_ble_eq_true rfl) d_OM_spread_96 rfl ?_
          intro v G9 hq
          rcases hq with ⟨hv, hGe⟩
          cases hv
          rw [hGe]
          change ab_W _ _ _ G 99 [some (vR a), some (vz x), some (vz p), some (vz (K x)), some (vz (O x))] [vz (-1 - ((O x) * 4096 + (WK (O x) + 1))), vz dp, vR stk] _
          refine zz_iast d_OM_spread_99 hstk (by omega) (hstk.2.1 (by decide)) ?_
          obtain ⟨G10, eG10⟩ : ∃ z : ab_G, z = List.set G stk (za 809 (zu SK dp (-1 - ((O x) * 4096 + (WK (O x) + 1))))) := ⟨_, rfl⟩
          have ha := ha.keep hstk eG10 (by decide)
          have hwk := hwk.keep hstk eG10 (by decide)
          have hq := hq.keep hstk eG10 (by omega)
          have hki := hki.keep hstk eG10 (by omega)
          have hne := hne.keep hstk eG10 (by omega)
          have hot := hot.keep hstk eG10 (by omega)
          have hra := hra.keep hstk eG10 (by omega)
          have hs := hs.keep hstk eG10 (by decide)
          have hho := hho.keep hstk eG10 (by decide)
          have hlen := (z_len eG10).trans hlen
          have hsl := (z_sl hstk eG10 rfl).trans hsl
          have hfr := hfr.wr hstk eG10 (by decide)
          have hstk := hstk.kept eG10
          change ab_W _ _ _ (List.set G stk (za 809 (zu SK dp (-1 - ((O x) * 4096 + (WK (O x) + 1)))))) 100 [some (vR a), some (vz x), some (vz p), some (vz (K x)), some (vz (O x))] [] _
          rw [← eG10]
          refine ab_aload_n d_OM_spread_100 rfl ?_
          refine ab_dup d_OM_spread_101 rfl ?_
          refine ab_getf (fs := [vR sp, vR wk, vR onw, vR tkn, vR se_, vR cle, vR stk, vz dp, vz fo, vz chn, vR q, vR s, vz hw, vz fy, vj stp]) f_OM_76 d_OM_spread_102 ha.2.2 rfl ?_
          refine zz_iconst d_OM_spread_105 ?_
          refine zz_iadd d_OM_spread_106 ?_
          refine ab_putf (fs := [vR sp, vR wk, vR onw, vR tkn, vR se_, vR cle, vR stk, vz dp, vz fo, vz chn, vR q, vR s, vz hw, vz fy, vj stp]) f_OM_76 (Or.inl rfl) d_OM_spread_107 ha.2.2 (Nat.le_of_ble_eq_true rfl) (fun _ => ⟨rfl, rfl⟩) (ha.2.1 (by decide)) ?_
          obtain ⟨G11, eG11⟩ : ∃ z : ab_G, z = List.set G10 a (ab_ob 3 [vR sp, vR wk, vR onw, vR tkn, vR se_, vR cle, vR stk, vz (dp + 1), vz fo, vz chn, vR q, vR s, vz hw, vz fy, vj stp]) := ⟨_, rfl⟩
          have hwk := hwk.keep ha eG11 (by decide)
          have hstk := hstk.keep ha eG11 (by decide)
          have hq := hq.keep ha eG11 (by omega)
          have hki := hki.keep ha eG11 (by omega)
          have hne := hne.keep ha eG11 (by omega)
          have hot := hot.keep ha eG11 (by omega)
          have hra := hra.keep ha eG11 (by omega)
          have hs := hs.keep ha eG11 (by decide)
          have hho := hho.keep ha eG11 (by decide)
          have hlen := (z_len eG11).trans hlen
          have hsl := (z_sl ha eG11 rfl).trans hsl
          have hfr := hfr.wr ha eG11 (by decide)
          have ha := ha.kept eG11
          change ab_W _ _ _ (List.set G10 a (ab_ob 3 [vR sp, vR wk, vR onw, vR tkn, vR se_, vR cle, vR stk, vz (dp + 1), vz fo, vz chn, vR q, vR s, vz hw, vz fy, vj stp])) 110 [some (vR a), some (vz x), some (vz p), some (vz (K x)), some (vz (O x))] [] _
          rw [← eG11]
          refine ab_aload_n d_OM_spread_110 rfl ?_
          refine ab_getf (fs := [vR sp, vR wk, vR onw, vR tkn, vR se_, vR cle, vR stk, vz (dp + 1), vz fo, vz chn, vR q, vR s, vz hw, vz fy, vj stp]) f_OM_15 d_OM_spread_111 ha.2.2 rfl ?_
          refine ab_iload d_OM_spread_114 rfl ?_
          refine ab_iload_n d_OM_spread_116 rfl ?_
          refine zz_iast d_OM_spread_117 hwk (by omega) (hwk.2.1 (by decide)) ?_
          obtain ⟨G12, eG12⟩ : ∃ z : ab_G, z = List.set G11 wk (za 20 (zu WK (O x) p)) := ⟨_, rfl⟩
          have ha := ha.keep hwk eG12 (by decide)
          have hstk := hstk.keep hwk eG12 (by decide)
          have hq := hq.keep hwk eG12 (by omega)
          have hki := hki.keep hwk eG12 (by omega)
          have hne := hne.keep hwk eG12 (by omega)
          have hot := hot.keep hwk eG12 (by omega)
          have hra := hra.keep hwk eG12 (by omega)
          have hs := hs.keep hwk eG12 (by decide)
          have hho := hho.keep hwk eG12 (by decide)
          have hlen := (z_len eG12).trans hlen
          have hsl := (z_sl hwk eG12 rfl).trans hsl
          have hfr := hfr.wr hwk eG12 (by decide)
          have hwk := hwk.kept eG12
          change ab_W _ _ _ (List.set G11 wk (za 20 (zu WK (O x) p))) 118 [some (vR a), some (vz x), some (vz p), some (vz (K x)), some (vz (O x))] [] _
          rw [← eG12]
          refine ab_aload_n d_OM_spread_118 rfl ?_
          refine ab_getf (fs := [vR sp, vR wk, vR onw, vR tkn, vR se_, vR cle, vR stk, vz (dp + 1), vz fo, vz chn, vR q, vR s, vz hw, vz fy, vj stp]) f_OM_34 d_OM_spread_119 ha.2.2 rfl ?_
          refine ab_aload_n d_OM_spread_122 rfl ?_
          refine ab_getf (fs := [vR sp, vR wk, vR onw, vR tkn, vR se_, vR cle, vR stk, vz (dp + 1), vz fo, vz chn, vR q, vR s, vz hw, vz fy, vj stp]) f_OM_76 d_OM_spread_123 ha.2.2 rfl ?_
          refine ab_aload_n d_OM_spread_126 rfl ?_
          refine ab_getf (fs := [vR sp, vR wk, vR onw, vR tkn, vR se_, vR cle, vR stk, vz (dp + 1), vz fo, vz chn, vR q, vR s, vz hw, vz fy, vj stp]) f_OM_47 d_OM_spread_127 ha.2.2 rfl ?_
          refine ab_getf (fs := [vR ki, vR ne, vR ot, vz cnt, vz fi, vz la, vR ra, vz ru, vz gr, vz wi, vz sz, vz fl, vz ve, vz mi, vR na, vR nl]) f_OM_67 d_OM_spread_130 hq.2.2 rfl ?_
          refine ab_iload_n d_OM_spread_133 rfl ?_
          refine zz_iald d_OM_spread_134 hne (by omega) ?_
          have hq13 := hp.n x (by omega) (by omega)
          refine zz_iast d_OM_spread_135 hstk (by omega) (hstk.2.1 (by decide)) ?_
          obtain ⟨G14, eG14⟩ : ∃ z : ab_G, z = List.set G12 stk (za 809 (zu (zu SK dp (-1 - ((O x) * 4096 + (WK (O x) + 1)))) (dp + 1) (N x))) := ⟨_, rfl⟩
          have ha := ha.keep hstk eG14 (by decide)
          have hwk := hwk.keep hstk eG14 (by decide)
          have hq := hq.keep hstk eG14 (by omega)
          have hki := hki.keep hstk eG14 (by omega)
          have hne := hne.keep hstk eG14 (by omega)
          have hot := hot.keep hstk eG14 (by omega)
          have hra := hra.keep hstk eG14 (by omega)
          have hs := hs.keep hstk eG14 (by decide)
          have hho := hho.keep hstk eG14 (by decide)
          have hlen := (z_len eG14).trans hlen
          have hsl := (z_sl hstk eG14 rfl).trans hsl
          have hfr := hfr.wr hstk eG14 (by decide)
          have hstk := hstk.kept eG14
          change ab_W _ _ _ (List.set G12 stk (za 809 (zu (zu SK dp (-1 - ((O x) * 4096 + (WK (O x) + 1)))) (dp + 1) (N x)))) 136 [some (vR a), some (vz x), some (vz p), some (vz (K x)), some (vz (O x))] [] _
          rw [← eG14]
          refine ab_aload_n d_OM_spread_136 rfl ?_
          refine ab_dup d_OM_spread_137 rfl ?_
          refine ab_getf (fs := [vR sp, vR wk, vR onw, vR tkn, vR se_, vR cle, vR stk, vz (dp + 1), vz fo, vz chn, vR q, vR s, vz hw, vz fy, vj stp]) f_OM_76 d_OM_spread_138 ha.2.2 rfl ?_
          refine zz_iconst d_OM_spread_141 ?_
          refine zz_iadd d_OM_spread_142 ?_
          refine ab_putf (fs := [vR sp, vR wk, vR onw, vR tkn, vR se_, vR cle, vR stk, vz (dp + 1), vz fo, vz chn, vR q, vR s, vz hw, vz fy, vj stp]) f_OM_76 (Or.inl rfl) d_OM_spread_143 ha.2.2 (Nat.le_of_ble_eq_true rfl) (fun _ => ⟨rfl, rfl⟩) (ha.2.1 (by decide)) ?_
          obtain ⟨G15, eG15⟩ : ∃ z : ab_G, z = List.set G14 a (ab_ob 3 [vR sp, vR wk, vR onw, vR tkn, vR se_, vR cle, vR stk, vz ((dp + 1) + 1), vz fo, vz chn, vR q, vR s, vz hw, vz fy, vj stp]) := ⟨_, rfl⟩
          have hwk := hwk.keep ha eG15 (by decide)
          have hstk := hstk.keep ha eG15 (by decide)
          have hq := hq.keep ha eG15 (by omega)
          have hki := hki.keep ha eG15 (by omega)
          have hne := hne.keep ha eG15 (by omega)
          have hot := hot.keep ha eG15 (by omega)
          have hra := hra.keep ha eG15 (by omega)
          have hs := hs.keep ha eG15 (by decide)
          have hho := hho.keep ha eG15 (by decide)
          have hlen := (z_len eG15).trans hlen
          have hsl := (z_sl ha eG15 rfl).trans hsl
          have hfr := hfr.wr ha eG15 (by decide)
          have ha := ha.kept eG15
          change ab_W _ _ _ (List.set G14 a (ab_ob 3 [vR sp, vR wk, vR onw, vR tkn, vR se_, vR cle, vR stk, vz ((dp + 1) + 1), vz fo, vz chn, vR q, vR s, vz hw, vz fy, vj stp])) 146 [some (vR a), some (vz x), some (vz p), some (vz (K x)), some (vz (O x))] [] _
          rw [← eG15]
          refine ab_vret rfl d_OM_spread_146 ?_
          rw [hQ]; exact (Or.inr (Or.inr (Or.inl ⟨_, rfl, hfr, hlen, hsl, ha, hwk, hstk, (by omega), (by rfl), (by exact tko_u (by omega)), (by omega)⟩)))
      · have jd := c6 (by omega)
        refine ab_aload_n d_OM_spread_52 rfl ?_
        refine ab_getf (fs := [vR sp, vR wk, vR onw, vR tkn, vR se_, vR cle, vR stk, vz dp, vz fo, vz chn, vR q, vR s, vz hw, vz fy, vj stp]) f_OM_34 d_OM_spread_53 ha.2.2 rfl ?_
        refine ab_aload_n d_OM_spread_56 rfl ?_
        refine ab_getf (fs := [vR sp, vR wk, vR onw, vR tkn, vR se_, vR cle, vR stk, vz dp, vz fo, vz chn, vR q, vR s, vz hw, vz fy, vj stp]) f_OM_76 d_OM_spread_57 ha.2.2 rfl ?_
        refine ab_iload d_OM_spread_60 rfl ?_
        refine zz_iast d_OM_spread_62 hstk (by omega) (hstk.2.1 (by decide)) ?_
        obtain ⟨G16, eG16⟩ : ∃ z : ab_G, z = List.set G stk (za 809 (zu SK dp (O x))) := ⟨_, rfl⟩
        have ha := ha.keep hstk eG16 (by decide)
        have hwk := hwk.keep hstk eG16 (by decide)
        have hq := hq.keep hstk eG16 (by omega)
        have hki := hki.keep hstk eG16 (by omega)
        have hne := hne.keep hstk eG16 (by omega)
        have hot := hot.keep hstk eG16 (by omega)
        have hra := hra.keep hstk eG16 (by omega)
        have hs := hs.keep hstk eG16 (by decide)
        have hho := hho.keep hstk eG16 (by decide)
        have hlen := (z_len eG16).trans hlen
        have hsl := (z_sl hstk eG16 rfl).trans hsl
        have hfr := hfr.wr hstk eG16 (by decide)
        have hstk := hstk.kept eG16
        change ab_W _ _ _ (List.set G stk (za 809 (zu SK dp (O x)))) 63 [some (vR a), some (vz x), some (vz p), some (vz (K x)), some (vz (O x))] [] _
        rw [← eG16]
        refine ab_aload_n d_OM_spread_63 rfl ?_
        refine ab_dup d_OM_spread_64 rfl ?_
        refine ab_getf (fs := [vR sp, vR wk, vR onw, vR tkn, vR se_, vR cle, vR stk, vz dp, vz fo, vz chn, vR q, vR s, vz hw, vz fy, vj stp]) f_OM_76 d_OM_spread_65 ha.2.2 rfl ?_
        refine zz_iconst d_OM_spread_68 ?_
        refine zz_iadd d_OM_spread_69 ?_
        refine ab_putf (fs := [vR sp, vR wk, vR onw, vR tkn, vR se_, vR cle, vR stk, vz dp, vz fo, vz chn, vR q, vR s, vz hw, vz fy, vj stp]) f_OM_76 (Or.inl rfl) d_OM_spread_70 ha.2.2 (Nat.le_of_ble_eq_true rfl) (fun _ => ⟨rfl, rfl⟩) (ha.2.1 (by decide)) ?_
        obtain ⟨G17, eG17⟩ : ∃ z : ab_G, z = List.set G16 a (ab_ob 3 [vR sp, vR wk, vR onw, vR tkn, vR se_, vR cle, vR stk, vz (dp + 1), vz fo, vz chn, vR q, vR s, vz hw, vz fy, vj stp]) := ⟨_, rfl⟩
        have hwk := hwk.keep ha eG17 (by decide)
        have hstk := hstk.keep ha eG17 (by decide)
        have hq := hq.keep ha eG17 (by omega)
        have hki := hki.keep ha eG17 (by omega)
        have hne := hne.keep ha eG17 (by omega)
        have hot := hot.keep ha eG17 (by omega)
        have hra := hra.keep ha eG17 (by omega)
        have hs := hs.keep ha eG17 (by decide)
        have hho := hho.keep ha eG17 (by decide)
        have hlen := (z_len eG17).trans hlen
        have hsl := (z_sl ha eG17 rfl).trans hsl
        have hfr := hfr.wr ha eG17 (by decide)
        have ha := ha.kept eG17
        change ab_W _ _ _ (List.set G16 a (ab_ob 3 [vR sp, vR wk, vR onw, vR tkn, vR se_, vR cle, vR stk, vz (dp + 1), vz fo, vz chn, vR q, vR s, vz hw, vz fy, vj stp])) 73 [some (vR a), some (vz x), some (vz p), some (vz (K x)), some (vz (O x))] [] _
        rw [← eG17]
        refine ab_goto (tgt := 118) d_OM_spread_73 (by decide) ?_
        refine ab_aload_n d_OM_spread_118 rfl ?_
        refine ab_getf (fs := [vR sp, vR wk, vR onw, vR tkn, vR se_, vR cle, vR stk, vz (dp + 1), vz fo, vz chn, vR q, vR s, vz hw, vz fy, vj stp]) f_OM_34 d_OM_spread_119 ha.2.2 rfl ?_
        refine ab_aload_n d_OM_spread_122 rfl ?_
        refine ab_getf (fs := [vR sp, vR wk, vR onw, vR tkn, vR se_, vR cle, vR stk, vz (dp + 1), vz fo, vz chn, vR q, vR s, vz hw, vz fy, vj stp]) f_OM_76 d_OM_spread_123 ha.2.2 rfl ?_
        refine ab_aload_n d_OM_spread_126 rfl ?_
        refine ab_getf (fs := [vR sp, vR wk, vR onw, vR tkn, vR se_, vR cle, vR stk, vz (dp + 1), vz fo, vz chn, vR q, vR s, vz hw, vz fy, vj stp]) f_OM_47 d_OM_spread_127 ha.2.2 rfl ?_
        refine ab_getf (fs := [vR ki, vR ne, vR ot, vz cnt, vz fi, vz la, vR ra, vz ru, vz gr, vz wi, vz sz, vz fl, vz ve, vz mi, vR na, vR nl]) f_OM_67 d_OM_spread_130 hq.2.2 rfl ?_
        refine ab_iload_n d_OM_spread_133 rfl ?_
        refine zz_iald d_OM_spread_134 hne (by omega) ?_
        have hq18 := hp.n x (by omega) (by omega)
        refine zz_iast d_OM_spread_135 hstk (by omega) (hstk.2.1 (by decide)) ?_
        obtain ⟨G19, eG19⟩ : ∃ z : ab_G, z = List.set G17 stk (za 809 (zu (zu SK dp (O x)) (dp + 1) (N x))) := ⟨_, rfl⟩
        have ha := ha.keep hstk eG19 (by decide)
        have hwk := hwk.keep hstk eG19 (by decide)
        have hq := hq.keep hstk eG19 (by omega)
        have hki := hki.keep hstk eG19 (by omega)
        have hne := hne.keep hstk eG19 (by omega)
        have hot := hot.keep hstk eG19 (by omega)
        have hra := hra.keep hstk eG19 (by omega)
        have hs := hs.keep hstk eG19 (by decide)
        have hho := hho.keep hstk eG19 (by decide)
        have hlen := (z_len eG19).trans hlen
        have hsl := (z_sl hstk eG19 rfl).trans hsl
        have hfr := hfr.wr hstk eG19 (by decide)
        have hstk := hstk.kept eG19
        change ab_W _ _ _ (List.set G17 stk (za 809 (zu (zu SK dp (O x)) (dp + 1) (N x)))) 136 [some (vR a), some (vz x), some (vz p), some (vz (K x)), some (vz (O x))] [] _
        rw [← eG19]
        refine ab_aload_n d_OM_spread_136 rfl ?_
        refine ab_dup d_OM_spread_137 rfl ?_
        refine ab_getf (fs := [vR sp, vR wk, vR onw, vR tkn, vR se_, vR cle, vR stk, vz (dp + 1), vz fo, vz chn, vR q, vR s, vz hw, vz fy, vj stp]) f_OM_76 d_OM_spread_138 ha.2.2 rfl ?_
        refine zz_iconst d_OM_spread_141 ?_
        refine zz_iadd d_OM_spread_142 ?_
        refine ab_putf (fs := [vR sp, vR wk, vR onw, vR tkn, vR se_, vR cle, vR stk, vz (dp + 1), vz fo, vz chn, vR q, vR s, vz hw, vz fy, vj stp]) f_OM_76 (Or.inl rfl) d_OM_spread_143 ha.2.2 (Nat.le_of_ble_eq_true rfl) (fun _ => ⟨rfl, rfl⟩) (ha.2.1 (by decide)) ?_
        obtain ⟨G20, eG20⟩ : ∃ z : ab_G, z = List.set G19 a (ab_ob 3 [vR sp, vR wk, vR onw, vR tkn, vR se_, vR cle, vR stk, vz ((dp + 1) + 1), vz fo, vz chn, vR q, vR s, vz hw, vz fy, vj stp]) := ⟨_, rfl⟩
        have hwk := hwk.keep ha eG20 (by decide)
        have hstk := hstk.keep ha eG20 (by decide)
        have hq := hq.keep ha eG20 (by omega)
        have hki := hki.keep ha eG20 (by omega)
        have hne := hne.keep ha eG20 (by omega)
        have hot := hot.keep ha eG20 (by omega)
        have hra := hra.keep ha eG20 (by omega)
        have hs := hs.keep ha eG20 (by decide)
        have hho := hho.keep ha eG20 (by decide)
        have hlen := (z_len eG20).trans hlen
        have hsl := (z_sl ha eG20 rfl).trans hsl
        have hfr := hfr.wr ha eG20 (by decide)
        have ha := ha.kept eG20
        change ab_W _ _ _ (List.set G19 a (ab_ob 3 [vR sp, vR wk, vR onw, vR tkn, vR se_, vR cle, vR stk, vz ((dp + 1) + 1), vz fo, vz chn, vR q, vR s, vz hw, vz fy, vj stp])) 146 [some (vR a), some (vz x), some (vz p), some (vz (K x)), some (vz (O x))] [] _
        rw [← eG20]
        refine ab_vret rfl d_OM_spread_146 ?_
        rw [hQ]; exact (Or.inr (Or.inl ⟨rfl, hfr, hlen, hsl, ha, hwk, hstk, (by omega)⟩))
    · have jo := hp.o3 x (by omega) (by omega) (by omega)
      refine ab_aload_n d_OM_spread_32 rfl ?_
      refine ab_getf (fs := [vR sp, vR wk, vR onw, vR tkn, vR se_, vR cle, vR stk, vz dp, vz fo, vz chn, vR q, vR s, vz hw, vz fy, vj stp]) f_OM_104 d_OM_spread_33 ha.2.2 rfl ?_
      refine ab_iload d_OM_spread_36 rfl ?_
      refine ab_iload_n d_OM_spread_38 rfl ?_
      refine ab_callV (d' := d - 1) (as := [vz (O x), vz p]) (st := []) (r := _) (z_SU_holds (o := o) (s := s) (by_ := by_) (co := co) (re := re) (ho := ho) (n := n) (H := H) (mc := mc) (p := p) (a := (O x)) hs hho (by omega) (by omega) (by omega) hsu) (fun oc G2 h => by rcases h with ⟨h, _⟩ | ⟨h, _⟩ <;> exact ⟨_, h⟩) (by omega) m_SU_holds ml_OM_157 im_SU_holds se_SU_holds c_SU hs.2.2 (Nat.le_of_ble_eq_true rfl) d_OM_spread_39 rfl ?_
      intro v G21 hq
      rcases hq with ⟨hv, hGe, hq22⟩ | ⟨hv, hGe, hq23⟩
      · cases hv
        rw [hGe]
        change ab_W _ _ _ G 42 [some (vR a), some (vz x), some (vz p), some (vz (K x)), some (vz (O x))] [vz 1] _
        refine zz_if_ne (tgt := 46) d_OM_spread_42 (by decide) (by decide) (fun c24 => ?_) (fun c24 => absurd c24 (by decide))
        refine ab_iload_n d_OM_spread_46 rfl ?_
        refine zz_bipush d_OM_spread_47 (by decide) ?_
        refine zz_icmp_ne (tgt := 76) d_OM_spread_49 (by decide) (by omega) (by decide) (fun c25 => ?_) (fun c25 => absurd c25 (by omega))
        refine ab_iload_n d_OM_spread_76 rfl ?_
        refine zz_bipush d_OM_spread_77 (by decide) ?_
        refine zz_icmp_ne (tgt := 118) d_OM_spread_79 (by decide) (by omega) (by decide) (fun c26 => ?_) (fun c26 => absurd c26 (by omega))
        refine ab_aload_n d_OM_spread_118 rfl ?_
        refine ab_getf (fs := [vR sp, vR wk, vR onw, vR tkn, vR se_, vR cle, vR stk, vz dp, vz fo, vz chn, vR q, vR s, vz hw, vz fy, vj stp]) f_OM_34 d_OM_spread_119 ha.2.2 rfl ?_
        refine ab_aload_n d_OM_spread_122 rfl ?_
        refine ab_getf (fs := [vR sp, vR wk, vR onw, vR tkn, vR se_, vR cle, vR stk, vz dp, vz fo, vz chn, vR q, vR s, vz hw, vz fy, vj stp]) f_OM_76 d_OM_spread_123 ha.2.2 rfl ?_
        refine ab_aload_n d_OM_spread_126 rfl ?_
        refine ab_getf (fs := [vR sp, vR wk, vR onw, vR tkn, vR se_, vR cle, vR stk, vz dp, vz fo, vz chn, vR q, vR s, vz hw, vz fy, vj stp]) f_OM_47 d_OM_spread_127 ha.2.2 rfl ?_
        refine ab_getf (fs := [vR ki, vR ne, vR ot, vz cnt, vz fi, vz la, vR ra, vz ru, vz gr, vz wi, vz sz, vz fl, vz ve, vz mi, vR na, vR nl]) f_OM_67 d_OM_spread_130 hq.2.2 rfl ?_
        refine ab_iload_n d_OM_spread_133 rfl ?_
        refine zz_iald d_OM_spread_134 hne (by omega) ?_
        have hq27 := hp.n x (by omega) (by omega)
        refine zz_iast d_OM_spread_135 hstk (by omega) (hstk.2.1 (by decide)) ?_
        obtain ⟨G28, eG28⟩ : ∃ z : ab_G, z = List.set G stk (za 809 (zu SK dp (N x))) := ⟨_, rfl⟩
        have ha := ha.keep hstk eG28 (by decide)
        have hwk := hwk.keep hstk eG28 (by decide)
        have hq := hq.keep hstk eG28 (by omega)
        have hki := hki.keep hstk eG28 (by omega)
        have hne := hne.keep hstk eG28 (by omega)
        have hot := hot.keep hstk eG28 (by omega)
        have hra := hra.keep hstk eG28 (by omega)
        have hs := hs.keep hstk eG28 (by decide)
        have hho := hho.keep hstk eG28 (by decide)
        have hlen := (z_len eG28).trans hlen
        have hsl := (z_sl hstk eG28 rfl).trans hsl
        have hfr := hfr.wr hstk eG28 (by decide)
        have hstk := hstk.kept eG28
        change ab_W _ _ _ (List.set G stk (za 809 (zu SK dp (N x)))) 136 [some (vR a), some (vz x), some (vz p), some (vz (K x)), some (vz (O x))] [] _
        rw [← eG28]
        refine ab_aload_n d_OM_spread_136 rfl ?_
        refine ab_dup d_OM_spread_137 rfl ?_
        refine ab_getf (fs := [vR sp, vR wk, vR onw, vR tkn, vR se_, vR cle, vR stk, vz dp, vz fo, vz chn, vR q, vR s, vz hw, vz fy, vj stp]) f_OM_76 d_OM_spread_138 ha.2.2 rfl ?_
        refine zz_iconst d_OM_spread_141 ?_
        refine zz_iadd d_OM_spread_142 ?_
        refine ab_putf (fs := [vR sp, vR wk, vR onw, vR tkn, vR se_, vR cle, vR stk, vz dp, vz fo, vz chn, vR q, vR s, vz hw, vz fy, vj stp]) f_OM_76 (Or.inl rfl) d_OM_spread_143 ha.2.2 (Nat.le_of_ble_eq_true rfl) (fun _ => ⟨rfl, rfl⟩) (ha.2.1 (by decide)) ?_
        obtain ⟨G29, eG29⟩ : ∃ z : ab_G, z = List.set G28 a (ab_ob 3 [vR sp, vR wk, vR onw, vR tkn, vR se_, vR cle, vR stk, vz (dp + 1), vz fo, vz chn, vR q, vR s, vz hw, vz fy, vj stp]) := ⟨_, rfl⟩
        have hwk := hwk.keep ha eG29 (by decide)
        have hstk := hstk.keep ha eG29 (by decide)
        have hq := hq.keep ha eG29 (by omega)
        have hki := hki.keep ha eG29 (by omega)
        have hne := hne.keep ha eG29 (by omega)
        have hot := hot.keep ha eG29 (by omega)
        have hra := hra.keep ha eG29 (by omega)
        have hs := hs.keep ha eG29 (by decide)
        have hho := hho.keep ha eG29 (by decide)
        have hlen := (z_len eG29).trans hlen
        have hsl := (z_sl ha eG29 rfl).trans hsl
        have hfr := hfr.wr ha eG29 (by decide)
        have ha := ha.kept eG29
        change ab_W _ _ _ (List.set G28 a (ab_ob 3 [vR sp, vR wk, vR onw, vR tkn, vR se_, vR cle, vR stk, vz (dp + 1), vz fo, vz chn, vR q, vR s, vz hw, vz fy, vj stp])) 146 [some (vR a), some (vz x), some (vz p), some (vz (K x)), some (vz (O x))] [] _
        rw [← eG29]
        refine ab_vret rfl d_OM_spread_146 ?_
        rw [hQ]; exact (Or.inr (Or.inr (Or.inr ⟨rfl, hfr, hlen, hsl, ha, hwk, hstk, (by omega), (by exact hq22)⟩)))
      · cases hv
        rw [hGe]
        change ab_W _ _ _ G 42 [some (vR a), some (vz x), some (vz p), some (vz (K x)), some (vz (O x))] [vz 0] _
        refine zz_if_ne (tgt := 46) d_OM_spread_42 (by decide) (by decide) (fun c30 => absurd c30 (by decide)) (fun c30 => ?_)
        refine ab_vret rfl d_OM_spread_45 ?_
        rw [hQ]; exact (Or.inl ⟨rfl, rfl, (by omega), (by exact Or.inr ⟨by omega, hq23⟩)⟩)
set_option maxRecDepth 100000 in
set_option maxHeartbeats 4000000 in
theorem y_OM_choose_17 {X : ab_X} {d : Nat} {Q : Outcome → ab_G → Prop} {o : Nat → Nat} {G0 : ab_G} {a : Nat} {sp : Nat} {wk : Nat} {onw : Nat} {tkn : Nat} {se_ : Nat} {cle : Nat} {stk : Nat} {hw : Int} {fy : Int} {q : Nat} {lq : Nat} {ki : Nat} {ne : Nat} {ot : Nat} {cnt : Int} {fi : Int} {la : Int} {ra : Nat} {ru : Int} {gr : Int} {wi : Int} {sz : Int} {fl : Int} {ve : Int} {mi : Int} {na : Nat} {nl : Nat} {K : Int → Int} {N : Int → Int} {O : Int → Int} {RR : Int → Int} {nr : Nat} {s : Nat} {by_ : Nat} {co : Nat} {re : Nat} {ho : Nat} {n : Int} {f : Int → Int} {C : Int → Int} {Rs : Int → Int} {H : Int → Int} {m : Nat} {mc : Nat} {p : Int} {ww : Int → Int} {VV : Int → Prop} {st : Int} {Dw : List Int} {S9 : Option (Int × Gr)} {st0 : Int} (cq : 100 ≤ lq ∧ 0 ≤ cnt ∧ cnt ≤ 808 ∧ ↑nr ≤ (100000 : Int)) (hp : prok K N O RR cnt ↑nr wi) (hr : ∀ k : Int, 0 ≤ k → k < ↑nr → 0 ≤ RR k ∧ RR k ≤ 1114111) (cwi : 2 ≤ wi ∧ wi ≤ 20) (csu : 0 ≤ n ∧ n ≤ ↑m ∧ 32 ≤ m ∧ m ≤ 2000 ∧ mc = m + 1) (hsu : suok f C Rs H n) (cp : 0 ≤ p ∧ p ≤ n) (chw : 0 ≤ hw ∧ hw ≤ 2 ∧ 0 ≤ fy ∧ fy ≤ 1) (hcl : oclr K N O ww VV cnt) (hgd : gdO K O RR Dw) (hk1 : ∀ z : Int, 2 ≤ z → z < cnt → ¬ K z = 8) (ck9 : K 0 = 9) (hd : 3 ≤ d) : ∀ (mz : Nat) {G : ab_G} {dp : Int} {fo : Int} {chn : Int} {stp : Int} {SP : Int → Int} {WK : Int → Int} {ON : Int → Int} {SK : Int → Int} {ov : Int} {tu : Int}, (cc o G a 50 (ab_ob 3 [vR sp, vR wk, vR onw, vR tkn, vR se_, vR cle, vR stk, vz dp, vz fo, vz chn, vR q, vR s, vz hw, vz fy, vj stp])) → (cc o G sp 31 (za 20 SP)) → (cc o G wk 51 (za 20 WK)) → (cc o G onw 52 (za 20 ON)) → (cc o G stk 57 (za 809 SK)) → (cc o G q lq (ab_ob 5 [vR ki, vR ne, vR ot, vz cnt, vz fi, vz la, vR ra, vz ru, vz gr, vz wi, vz sz, vz fl, vz ve, vz mi, vR na, vR nl])) → (cc o G ki (lq + 1) (za 808 K)) → (cc o G ne (lq + 2) (za 808 N)) → (cc o G ot (lq + 3) (za 808 O)) → (cc o G ra (lq + 4) (za nr RR)) → (cc o G s 26 (ab_ob 9 [vR by_, vR co, vR re, vR ho, vz n])) → (cc o G co 28 (za mc C)) → (cc o G re 29 (za mc Rs)) → (cc o G ho 30 (za mc H)) → (0 ≤ tu ∧ tu ≤ 1616 ∧ 0 ≤ ov ∧ ov ≤ 1 ∧ 0 ≤ dp ∧ dp ≤ 809) → (ostk ww VV SK dp cnt n wi 0) → (rgs WK wi (-1) n) → (0 ≤ WK 0) → (rgs SP 20 (-1) 2000) → (spo fo SP wi n) → (oon K chn ON wi n cnt) → (0 ≤ fo ∧ fo ≤ 1) → (choV K N O RR f n fy hw wi st p tu ov Dw SK dp WK chn ON fo SP S9) → (st0 ≤ stp ∧ stp ≤ st0 + tu) → (fx o o [31, 50, 51, 52, 57] G0 G) → (G.length = G0.length) → (ab_slots G = ab_slots G0) → (Int.toNat (1616 - tu) < mz) → (∀ (G2 : ab_G) (dp2 : Int) (fo2 : Int) (ch2 : Int) (st2 : Int) (SP2 : Int → Int) (WK2 : Int → Int) (ON2 : Int → Int) (SK2 : Int → Int), (cc o G2 a 50 (ab_ob 3 [vR sp, vR wk, vR onw, vR tkn, vR se_, vR cle, vR stk, vz dp2, vz fo2, vz ch2, vR q, vR s, vz hw, vz fy, vj st2])) → (cc o G2 sp 31 (za 20 SP2)) → (cc o G2 wk 51 (za 20 WK2)) → (cc o G2 onw 52 (za 20 ON2)) → (cc o G2 stk 57 (za 809 SK2)) → (0 ≤ fo2 ∧ fo2 ≤ 1) → (rgs WK2 wi (-1) n) → (rgs SP2 20 (-1) 2000) → (spo fo2 SP2 wi n) → (oon K ch2 ON2 wi n cnt) → (0 ≤ WK2 0) → (choE K N O RR f n fy hw wi st p ch2 ON2 fo2 SP2 S9) → (st0 ≤ st2 ∧ st2 ≤ st0 + 1616) → (fx o o [31, 50, 51, 52, 57] G0 G2) → (G2.length = G0.length) → (ab_slots G2 = ab_slots G0) → Q (.returned none) G2) → ab_W X (ab_pl y_OM_choose b_OM_choose 6 none) d G 17 [some (vR a), none, some (vz p), some (vz ov), some (vz tu), none] [] Q := by
  intro mz
  induction mz with
  | zero => intro G dp fo chn stp SP WK ON SK ov tu ha hsp hwk honw hstk hq hki hne hot hra hs hco hre hho ci jst jwk c0k jsp jspo jon cfo jch hst9 hfr hlen hsl hm hk0; exact absurd hm (Nat.not_lt_zero _)
  | succ mz ih =>
    intro G dp fo chn stp SP WK ON SK ov tu ha hsp hwk honw hstk hq hki hne hot hra hs hco hre hho ci jst jwk c0k jsp jspo jon cfo jch hst9 hfr hlen hsl hm hk0
    refine ab_iload d_OM_choose_17 rfl ?_
    refine zz_sipush d_OM_choose_19 (by decide) ?_
    refine zz_icmp_ge (tgt := 179) d_OM_choose_22 (by decide) (by omega) (by decide) (fun c1 => ?_) (fun c1 => ?_)
    · refine ab_vret rfl d_OM_choose_179 ?_
      exact hk0 _ _ _ _ _ _ _ _ _ ha hsp hwk honw hstk (by omega) (by first | exact jwk | exact rgs_w jwk (by omega)) (by first | exact jsp | exact rgs_w jsp (by omega)) (by exact jspo) (by exact jon) (by exact c0k) (by exact jch.fin (by omega) (by omega)) (by omega) hfr hlen hsl
    · refine ab_aload_n d_OM_choose_25 rfl ?_
      refine ab_getf (fs := [vR sp, vR wk, vR onw, vR tkn, vR se_, vR cle, vR stk, vz dp, vz fo, vz chn, vR q, vR s, vz hw, vz fy, vj stp]) f_OM_76 d_OM_choose_26 ha.2.2 rfl ?_
      refine zz_if_le (tgt := 179) d_OM_choose_29 (by decide) (by omega) (fun c2 => ?_) (fun c2 => ?_)
      · refine ab_vret rfl d_OM_choose_179 ?_
        exact hk0 _ _ _ _ _ _ _ _ _ ha hsp hwk honw hstk (by omega) (by first | exact jwk | exact rgs_w jwk (by omega)) (by first | exact jsp | exact rgs_w jsp (by omega)) (by exact jspo) (by exact jon) (by exact c0k) (by exact jch.fin (by omega) (by omega)) (by omega) hfr hlen hsl
      · refine ab_iload_n d_OM_choose_32 rfl ?_
        refine zz_if_ne (tgt := 179) d_OM_choose_33 (by decide) (by omega) (fun c3 => ?_) (fun c3 => ?_)
        · refine ab_vret rfl d_OM_choose_179 ?_
          exact hk0 _ _ _ _ _ _ _ _ _ ha hsp hwk honw hstk (by omega) (by first | exact jwk | exact rgs_w jwk (by omega)) (by first | exact jsp | exact rgs_w jsp (by omega)) (by exact jspo) (by exact jon) (by exact c0k) (by exact jch.fin (by omega) (by omega)) (by omega) hfr hlen hsl
        · refine ab_aload_n d_OM_choose_36 rfl ?_
          refine ab_dup d_OM_choose_37 rfl ?_
          refine ab_getf (fs := [vR sp, vR wk, vR onw, vR tkn, vR se_, vR cle, vR stk, vz dp, vz fo, vz chn, vR q, vR s, vz hw, vz fy, vj stp]) f_OM_79 d_OM_choose_38 ha.2.2 rfl ?_
          refine zz_lconst d_OM_choose_41 ?_
          change ab_W _ _ _ G 42 [some (vR a), none, some (vz p), some (vz ov), some (vz tu), none] [vj 1, vj stp, vR a] _
          refine zz_ladd d_OM_choose_42 ?_
          refine ab_putf (fs := [vR sp, vR wk, vR onw, vR tkn, vR se_, vR cle, vR stk, vz dp, vz fo, vz chn, vR q, vR s, vz hw, vz fy, vj stp]) f_OM_79 (Or.inl rfl) d_OM_choose_43 ha.2.2 (Nat.le_of_ble_eq_true rfl) (fun _ => ⟨rfl, rfl⟩) (ha.2.1 (by decide)) ?_
          obtain ⟨G4, eG4⟩ : ∃ z : ab_G, z = List.set G a (ab_ob 3 [vR sp, vR wk, vR onw, vR tkn, vR se_, vR cle, vR stk, vz dp, vz fo, vz chn, vR q, vR s, vz hw, vz fy, vj (stp + 1)]) := ⟨_, rfl⟩
          have hsp := hsp.keep ha eG4 (by decide)
          have hwk := hwk.keep ha eG4 (by decide)
          have honw := honw.keep ha eG4 (by decide)
          have hstk := hstk.keep ha eG4 (by decide)
          have hq := hq.keep ha eG4 (by omega)
          have hki := hki.keep ha eG4 (by omega)
          have hne := hne.keep ha eG4 (by omega)
          have hot := hot.keep ha eG4 (by omega)
          have hra := hra.keep ha eG4 (by omega)
          have hs := hs.keep ha eG4 (by decide)
          have hco := hco.keep ha eG4 (by decide)
          have hre := hre.keep ha eG4 (by decide)
          have hho := hho.keep ha eG4 (by decide)
          have hlen := (z_len eG4).trans hlen
          have hsl := (z_sl ha eG4 rfl).trans hsl
          have hfr := hfr.wr ha eG4 (by decide)
          have ha := ha.kept eG4
          change ab_W _ _ _ (List.set G a (ab_ob 3 [vR sp, vR wk, vR onw, vR tkn, vR se_, vR cle, vR stk, vz dp, vz fo, vz chn, vR q, vR s, vz hw, vz fy, vj (stp + 1)])) 46 [some (vR a), none, some (vz p), some (vz ov), some (vz tu), none] [] _
          rw [← eG4]
          refine ab_aload_n d_OM_choose_46 rfl ?_
          refine ab_dup d_OM_choose_47 rfl ?_
          refine ab_getf (fs := [vR sp, vR wk, vR onw, vR tkn, vR se_, vR cle, vR stk, vz dp, vz fo, vz chn, vR q, vR s, vz hw, vz fy, vj (stp + 1)]) f_OM_76 d_OM_choose_48 ha.2.2 rfl ?_
          refine zz_iconst d_OM_choose_51 ?_
          refine zz_isub d_OM_choose_52 ?_
          refine ab_putf (fs := [vR sp, vR wk, vR onw, vR tkn, vR se_, vR cle, vR stk, vz dp, vz fo, vz chn, vR q, vR s, vz hw, vz fy, vj (stp + 1)]) f_OM_76 (Or.inl rfl) d_OM_choose_53 ha.2.2 (Nat.le_of_ble_eq_true rfl) (fun _ => ⟨rfl, rfl⟩) (ha.2.1 (by decide)) ?_
          obtain ⟨G5, eG5⟩ : ∃ z : ab_G, z = List.set G4 a (ab_ob 3 [vR sp, vR wk, vR onw, vR tkn, vR se_, vR cle, vR stk, vz (dp - 1), vz fo, vz chn, vR q, vR s, vz hw, vz fy, vj (stp + 1)]) := ⟨_, rfl⟩
          have hsp := hsp.keep ha eG5 (by decide)
          have hwk := hwk.keep ha eG5 (by decide)
          have honw := honw.keep ha eG5 (by decide)
          have hstk := hstk.keep ha eG5 (by decide)
          have hq := hq.keep ha eG5 (by omega)
          have hki := hki.keep ha eG5 (by omega)
          have hne := hne.keep ha eG5 (by omega)
          have hot := hot.keep ha eG5 (by omega)
          have hra := hra.keep ha eG5 (by omega)
          have hs := hs.keep ha eG5 (by decide)
          have hco := hco.keep ha eG5 (by decide)
          have hre := hre.keep ha eG5 (by decide)
          have hho := hho.keep ha eG5 (by decide)
          have hlen := (z_len eG5).trans hlen
          have hsl := (z_sl ha eG5 rfl).trans hsl
          have hfr := hfr.wr ha eG5 (by decide)
          have ha := ha.kept eG5
          change ab_W _ _ _ (List.set G4 a (ab_ob 3 [vR sp, vR wk, vR onw, vR tkn, vR se_, vR cle, vR stk, vz (dp - 1), vz fo, vz chn, vR q, vR s, vz hw, vz fy, vj (stp + 1)])) 56 [some (vR a), none, some (vz p), some (vz ov), some (vz tu), none] [] _
          rw [← eG5]
          refine ab_aload_n d_OM_choose_56 rfl ?_
          refine ab_getf (fs := [vR sp, vR wk, vR onw, vR tkn, vR se_, vR cle, vR stk, vz (dp - 1), vz fo, vz chn, vR q, vR s, vz hw, vz fy, vj (stp + 1)]) f_OM_34 d_OM_choose_57 ha.2.2 rfl ?_
          refine ab_aload_n d_OM_choose_60 rfl ?_
          refine ab_getf (fs := [vR sp, vR wk, vR onw, vR tkn, vR se_, vR cle, vR stk, vz (dp - 1), vz fo, vz chn, vR q, vR s, vz hw, vz fy, vj (stp + 1)]) f_OM_76 d_OM_choose_61 ha.2.2 rfl ?_
          refine zz_iald d_OM_choose_64 hstk (by omega) ?_
          have hpop := ostk_pop jst (by omega)
          have hpl := ostk_len hcl hpop.1 (by have := oent_w hcl hpop.2; omega) (by omega)
          have how := oent_w hcl hpop.2
          obtain ⟨x_, hx_⟩ : ∃ z : Int, z = SK (dp - 1) := ⟨_, rfl⟩
          rw [← hx_] at hpop hpl how ⊢
          have hs0 := oent_t hcl hpop.2
          have hs1 := tko_in hs0 (by omega)
          have hdp7 : dp - 1 ≤ 808 := by omega
          change ab_W _ _ _ G5 65 [some (vR a), none, some (vz p), some (vz ov), some (vz tu), none] [vz x_] _
          refine ab_istore d_OM_choose_65 (Nat.le_of_ble_eq_true rfl) (Nat.le_of_ble_eq_true rfl) rfl ?_
          change ab_W _ _ _ G5 67 [some (vR a), none, some (vz p), some (vz ov), some (vz tu), some (vz x_)] [] _
          refine ab_iload d_OM_choose_67 rfl ?_
          refine zz_if_ge (tgt := 84) d_OM_choose_69 (by decide) (by omega) (fun c6 => ?_) (fun c6 => ?_)
          · have hV := oent_V hpop.2 (by omega)
            have hV1 := (hcl x_ hV).1
            have jcp := choV.pop (d1 := (dp - 1)) jch (by omega) (by omega) (by omega) hx_ (by omega) (by omega)
            refine ab_aload_n d_OM_choose_84 rfl ?_
            refine ab_getf (fs := [vR sp, vR wk, vR onw, vR tkn, vR se_, vR cle, vR stk, vz (dp - 1), vz fo, vz chn, vR q, vR s, vz hw, vz fy, vj (stp + 1)]) f_OM_47 d_OM_choose_85 ha.2.2 rfl ?_
            refine ab_getf (fs := [vR ki, vR ne, vR ot, vz cnt, vz fi, vz la, vR ra, vz ru, vz gr, vz wi, vz sz, vz fl, vz ve, vz mi, vR na, vR nl]) f_OM_83 d_OM_choose_88 hq.2.2 rfl ?_
            refine ab_iload d_OM_choose_91 rfl ?_
            refine zz_iald d_OM_choose_93 hki (by omega) ?_
            have hq7 := hp.k x_ (by omega) (by omega)
            refine zz_bipush d_OM_choose_94 (by decide) ?_
            refine zz_icmp_ne (tgt := 108) d_OM_choose_96 (by decide) (by omega) (by decide) (fun c8 => ?_) (fun c8 => ?_)
            · refine ab_aload_n d_OM_choose_108 rfl ?_
              refine ab_getf (fs := [vR sp, vR wk, vR onw, vR tkn, vR se_, vR cle, vR stk, vz (dp - 1), vz fo, vz chn, vR q, vR s, vz hw, vz fy, vj (stp + 1)]) f_OM_47 d_OM_choose_109 ha.2.2 rfl ?_
              refine ab_iload d_OM_choose_112 rfl ?_
              refine ab_callV (d' := d - 1) (as := [vz x_]) (st := []) (r := _) (zq_PR_takes (o := o) (q := q) (lq := lq) (ki := ki) (ne := ne) (ot := ot) (cnt := cnt) (fi := fi) (la := la) (ra := ra) (ru := ru) (gr := gr) (wi := wi) (sz := sz) (fl := fl) (ve := ve) (mi := mi) (na := na) (nl := nl) (K := K) (x := x_) hq hki (by omega) hp (by omega)) (fun oc G2 h => by rcases h with ⟨h, _⟩ | ⟨h, _⟩ <;> exact ⟨_, h⟩) (by omega) m_PR_takes ml_OM_70 im_PR_takes se_PR_takes c_PR hq.2.2 (Nat.le_of_ble_eq_true rfl) d_OM_choose_114 rfl ?_
              intro v G9 hq
              rcases hq with ⟨hv, hGe, hq10⟩ | ⟨hv, hGe, hq11⟩
              · cases hv
                rw [hGe]
                change ab_W _ _ _ G5 117 [some (vR a), none, some (vz p), some (vz ov), some (vz tu), some (vz x_)] [vz 1] _
                refine zz_if_eq (tgt := 166) d_OM_choose_117 (by decide) (by decide) (fun c12 => absurd c12 (by decide)) (fun c12 => ?_)
                refine ab_aload_n d_OM_choose_120 rfl ?_
                refine ab_getf (fs := [vR sp, vR wk, vR onw, vR tkn, vR se_, vR cle, vR stk, vz (dp - 1), vz fo, vz chn, vR q, vR s, vz hw, vz fy, vj (stp + 1)]) f_OM_47 d_OM_choose_121 ha.2.2 rfl ?_
                refine ab_iload d_OM_choose_124 rfl ?_
                refine ab_aload_n d_OM_choose_126 rfl ?_
                refine ab_getf (fs := [vR sp, vR wk, vR onw, vR tkn, vR se_, vR cle, vR stk, vz (dp - 1), vz fo, vz chn, vR q, vR s, vz hw, vz fy, vj (stp + 1)]) f_OM_104 d_OM_choose_127 ha.2.2 rfl ?_
                refine ab_iload_n d_OM_choose_130 rfl ?_
                refine ab_callV (d' := d - 1) (as := [vz x_, vR s, vz p]) (st := []) (r := _) (z_PR_bytesTaken (o := o) (q := q) (lq := lq) (ki := ki) (ne := ne) (ot := ot) (cnt := cnt) (fi := fi) (la := la) (ra := ra) (ru := ru) (gr := gr) (wi := wi) (sz := sz) (fl := fl) (ve := ve) (mi := mi) (na := na) (nl := nl) (K := K) (O := O) (RR := RR) (nr := nr) (s := s) (by_ := by_) (co := co) (re := re) (ho := ho) (n := n) (C := C) (Rs := Rs) (mc := mc) (x := x_) (p := p) hq hki hot hra hs hco hre (by omega) (by omega) hp hr (by omega) hsu (by omega)) (fun oc G2 h => by rcases h with ⟨_, h, _⟩ <;> exact ⟨_, h⟩) (by omega) m_PR_bytesTaken ml_OM_138 im_PR_bytesTaken se_PR_bytesTaken c_PR hq.2.2 (Nat.le_of_ble_eq_true rfl) d_OM_choose_131 rfl ?_
                intro v G13 hq
                rcases hq with ⟨v14, hv, hfk, hlk, hsk, hq15, hq16⟩
                cases hv
                have ha := hfk.get ha (by decide)
                have hsp := hfk.get hsp (by decide)
                have hwk := hfk.get hwk (by decide)
                have honw := hfk.get honw (by decide)
                have hstk := hfk.get hstk (by decide)
                have hq := hfk.get hq (by simp)
                have hki := hfk.get hki (by simp)
                have hne := hfk.get hne (by simp)
                have hot := hfk.get hot (by simp)
                have hra := hfk.get hra (by simp)
                have hs := hfk.get hs (by decide)
                have hco := hfk.get hco (by decide)
                have hre := hfk.get hre (by decide)
                have hho := hfk.get hho (by decide)
                have hfr := hfr.tr hfk (by decide)
                have hlen := hlk.trans hlen
                have hsl := hsk.trans hsl
                change ab_W _ _ _ G13 134 [some (vR a), none, some (vz p), some (vz ov), some (vz tu), some (vz x_)] [vz v14] _
                refine zz_if_le (tgt := 173) d_OM_choose_134 (by decide) (by omega) (fun c17 => ?_) (fun c17 => ?_)
                · refine zz_iinc d_OM_choose_173 rfl (Nat.le_of_ble_eq_true rfl) (Nat.le_of_ble_eq_true rfl) rfl ?_
                  change ab_W _ _ _ G13 176 [some (vR a), none, some (vz p), some (vz ov), some (vz (tu + 1)), some (vz x_)] [] _
                  refine ab_goto (tgt := 17) d_OM_choose_176 (by decide) ?_
                  refine ab_less (L' := [some (vR a), none, some (vz p), some (vz ov), some (vz (tu + 1)), none]) (fun i v h => by rcases i with _ | _ | _ | _ | _ | _ | i <;> first | exact h | (simp at h)) ?_
                  exact ih (dp := (dp - 1)) (fo := fo) (chn := chn) (stp := (stp + 1)) (SP := SP) (WK := WK) (ON := ON) (SK := SK) (ov := ov) (tu := (tu + 1)) ha hsp hwk honw hstk hq hki hne hot hra hs hco hre hho (by omega) (ostk_drop hpop.1 (by omega)) jwk c0k jsp jspo jon (by omega) (choV_z (choP.keep jcp hq15 (by omega) hsu (by omega) (by omega)) (by omega)) (by omega) hfr hlen hsl (by omega) hk0
                · refine ab_aload_n d_OM_choose_137 rfl ?_
                  refine ab_iload d_OM_choose_138 rfl ?_
                  refine ab_putf (fs := [vR sp, vR wk, vR onw, vR tkn, vR se_, vR cle, vR stk, vz (dp - 1), vz fo, vz chn, vR q, vR s, vz hw, vz fy, vj (stp + 1)]) f_OM_132 (Or.inl rfl) d_OM_choose_140 ha.2.2 (Nat.le_of_ble_eq_true rfl) (fun _ => ⟨rfl, rfl⟩) (ha.2.1 (by decide)) ?_
                  obtain ⟨G18, eG18⟩ : ∃ z : ab_G, z = List.set G13 a (ab_ob 3 [vR sp, vR wk, vR onw, vR tkn, vR se_, vR cle, vR stk, vz (dp - 1), vz fo, vz x_, vR q, vR s, vz hw, vz fy, vj (stp + 1)]) := ⟨_, rfl⟩
                  have hsp := hsp.keep ha eG18 (by decide)
                  have hwk := hwk.keep ha eG18 (by decide)
                  have honw := honw.keep ha eG18 (by decide)
                  have hstk := hstk.keep ha eG18 (by decide)
                  have hq := hq.keep ha eG18 (by omega)
                  have hki := hki.keep ha eG18 (by omega)
                  have hne := hne.keep ha eG18 (by omega)
                  have hot := hot.keep ha eG18 (by omega)
                  have hra := hra.keep ha eG18 (by omega)
                  have hs := hs.keep ha eG18 (by decide)
                  have hco := hco.keep ha eG18 (by decide)
                  have hre := hre.keep ha eG18 (by decide)
                  have hho := hho.keep ha eG18 (by decide)
                  have hlen := (z_len eG18).trans hlen
                  have hsl := (z_sl ha eG18 rfl).trans hsl
                  have hfr := hfr.wr ha eG18 (by decide)
                  have ha := ha.kept eG18
                  change ab_W _ _ _ (List.set G13 a (ab_ob 3 [vR sp, vR wk, vR onw, vR tkn, vR se_, vR cle, vR stk, vz (dp - 1), vz fo, vz x_, vR q, vR s, vz hw, vz fy, vj (stp + 1)])) 143 [some (vR a), none, some (vz p), some (vz ov), some (vz tu), some (vz x_)] [] _
                  rw [← eG18]
                  refine ab_aload_n d_OM_choose_143 rfl ?_
                  refine ab_getf (fs := [vR sp, vR wk, vR onw, vR tkn, vR se_, vR cle, vR stk, vz (dp - 1), vz fo, vz x_, vR q, vR s, vz hw, vz fy, vj (stp + 1)]) f_OM_15 d_OM_choose_144 ha.2.2 rfl ?_
                  refine zz_iconst d_OM_choose_147 ?_
                  refine ab_aload_n d_OM_choose_148 rfl ?_
                  refine ab_getf (fs := [vR sp, vR wk, vR onw, vR tkn, vR se_, vR cle, vR stk, vz (dp - 1), vz fo, vz x_, vR q, vR s, vz hw, vz fy, vj (stp + 1)]) f_OM_18 d_OM_choose_149 ha.2.2 rfl ?_
                  refine zz_iconst d_OM_choose_152 ?_
                  refine ab_aload_n d_OM_choose_153 rfl ?_
                  refine ab_getf (fs := [vR sp, vR wk, vR onw, vR tkn, vR se_, vR cle, vR stk, vz (dp - 1), vz fo, vz x_, vR q, vR s, vz hw, vz fy, vj (stp + 1)]) f_OM_47 d_OM_choose_154 ha.2.2 rfl ?_
                  refine ab_getf (fs := [vR ki, vR ne, vR ot, vz cnt, vz fi, vz la, vR ra, vz ru, vz gr, vz wi, vz sz, vz fl, vz ve, vz mi, vR na, vR nl]) f_OM_121 d_OM_choose_157 hq.2.2 rfl ?_
                  refine zz_copy mj_OM_142 d_OM_choose_160 hwk honw (honw.2.1 (by decide)) (by omega) (Nat.le_of_ble_eq_true rfl) (by omega) ?_
                  obtain ⟨G19, eG19⟩ : ∃ z : ab_G, z = List.set G18 onw (za 20 (zcpy WK ON 0 0 wi)) := ⟨_, rfl⟩
                  have ha := ha.keep honw eG19 (by decide)
                  have hsp := hsp.keep honw eG19 (by decide)
                  have hwk := hwk.keep honw eG19 (by decide)
                  have hstk := hstk.keep honw eG19 (by decide)
                  have hq := hq.keep honw eG19 (by omega)
                  have hki := hki.keep honw eG19 (by omega)
                  have hne := hne.keep honw eG19 (by omega)
                  have hot := hot.keep honw eG19 (by omega)
                  have hra := hra.keep honw eG19 (by omega)
                  have hs := hs.keep honw eG19 (by decide)
                  have hco := hco.keep honw eG19 (by decide)
                  have hre := hre.keep honw eG19 (by decide)
                  have hho := hho.keep honw eG19 (by decide)
                  have hlen := (z_len eG19).trans hlen
                  have hsl := (z_sl honw eG19 rfl).trans hsl
                  have hfr := hfr.wr honw eG19 (by decide)
                  have honw := honw.kept eG19
                  change ab_W _ _ _ (List.set G18 onw (za 20 (zcpy WK ON 0 0 wi))) 163 [some (vR a), none, some (vz p), some (vz ov), some (vz tu), some (vz x_)] [] _
                  rw [← eG19]
                  refine ab_goto (tgt := 173) d_OM_choose_163 (by decide) ?_
                  refine zz_iinc d_OM_choose_173 rfl (Nat.le_of_ble_eq_true rfl) (Nat.le_of_ble_eq_true rfl) rfl ?_
                  change ab_W _ _ _ G19 176 [some (vR a), none, some (vz p), some (vz ov), some (vz (tu + 1)), some (vz x_)] [] _
                  refine ab_goto (tgt := 17) d_OM_choose_176 (by decide) ?_
                  refine ab_less (L' := [some (vR a), none, some (vz p), some (vz ov), some (vz (tu + 1)), none]) (fun i v h => by rcases i with _ | _ | _ | _ | _ | _ | i <;> first | exact h | (simp at h)) ?_
                  exact ih (dp := (dp - 1)) (fo := fo) (chn := x_) (stp := (stp + 1)) (SP := SP) (WK := WK) (ON := (zcpy WK ON 0 0 wi)) (SK := SK) (ov := ov) (tu := (tu + 1)) ha hsp hwk honw hstk hq hki hne hot hra hs hco hre hho (by omega) (ostk_drop hpop.1 (by omega)) jwk c0k jsp jspo (oon_s (by omega) jwk c0k (by omega)) (by omega) (choV_z (choP.take jcp hgd hq15 (by omega) hsu (by omega) (by omega) (by omega)) (by omega)) (by omega) hfr hlen hsl (by omega) hk0
              · cases hv
                rw [hGe]
                change ab_W _ _ _ G5 117 [some (vR a), none, some (vz p), some (vz ov), some (vz tu), some (vz x_)] [vz 0] _
                refine zz_if_eq (tgt := 166) d_OM_choose_117 (by decide) (by decide) (fun c20 => ?_) (fun c20 => absurd c20 (by decide))
                have hw6 : K x_ = 6 → dp - 1 ≤ 807 := fun h => by have := ow_6 hcl hV h; omega
                have hw7 : K x_ = 7 → dp - 1 ≤ 807 := fun h => by have := ow_7 hcl hV h; omega
                refine ab_aload_n d_OM_choose_166 rfl ?_
                refine ab_iload d_OM_choose_167 rfl ?_
                refine ab_iload_n d_OM_choose_169 rfl ?_
                refine ab_callV (d' := d - 1) (as := [vz x_, vz p]) (st := []) (r := _) (z_OM_spread (o := o) (a := a) (sp := sp) (wk := wk) (onw := onw) (tkn := tkn) (se_ := se_) (cle := cle) (stk := stk) (dp := (dp - 1)) (fo := fo) (chn := chn) (hw := hw) (fy := fy) (stp := (stp + 1)) (WK := WK) (SK := SK) (q := q) (lq := lq) (ki := ki) (ne := ne) (ot := ot) (cnt := cnt) (fi := fi) (la := la) (ra := ra) (ru := ru) (gr := gr) (wi := wi) (sz := sz) (fl := fl) (ve := ve) (mi := mi) (na := na) (nl := nl) (K := K) (N := N) (O := O) (RR := RR) (nr := nr) (s := s) (by_ := by_) (co := co) (re := re) (ho := ho) (n := n) (H := H) (mc := mc) (p := p) (x := x_) ha hwk hstk hq hki hne hot hra hs hho (by omega) hp hr (by omega) jwk (by omega) hsu (by omega) (by omega) (by omega) (by omega) hw6 hw7 (by omega)) (fun oc G2 h => by rcases h with ⟨h, _⟩ | ⟨h, _⟩ | ⟨_, h, _⟩ | ⟨h, _⟩ <;> exact ⟨_, h⟩) (by omega) m_OM_spread ml_OM_154 im_OM_spread se_OM_spread c_OM ha.2.2 (Nat.le_of_ble_eq_true rfl) d_OM_choose_170 rfl ?_
                intro v G21 hq
                rcases hq with ⟨hv, hGe, hq22, hq23⟩ | ⟨hv, hfk, hlk, hsk, hNa, hNwk, hNstk, hq24⟩ | ⟨u_25, hv, hfk, hlk, hsk, hNa, hNwk, hNstk, hq26, hq27, hq28, hq29⟩ | ⟨hv, hfk, hlk, hsk, hNa, hNwk, hNstk, hq30, hq31⟩
                · cases hv
                  rw [hGe]
                  change ab_W _ _ _ G5 173 [some (vR a), none, some (vz p), some (vz ov), some (vz tu), some (vz x_)] [] _
                  refine zz_iinc d_OM_choose_173 rfl (Nat.le_of_ble_eq_true rfl) (Nat.le_of_ble_eq_true rfl) rfl ?_
                  change ab_W _ _ _ G5 176 [some (vR a), none, some (vz p), some (vz ov), some (vz (tu + 1)), some (vz x_)] [] _
                  refine ab_goto (tgt := 17) d_OM_choose_176 (by decide) ?_
                  refine ab_less (L' := [some (vR a), none, some (vz p), some (vz ov), some (vz (tu + 1)), none]) (fun i v h => by rcases i with _ | _ | _ | _ | _ | _ | i <;> first | exact h | (simp at h)) ?_
                  exact ih (dp := (dp - 1)) (fo := fo) (chn := chn) (stp := (stp + 1)) (SP := SP) (WK := WK) (ON := ON) (SK := SK) (ov := ov) (tu := (tu + 1)) ha hsp hwk honw hstk hq hki hne hot hra hs hco hre hho (by omega) (ostk_drop hpop.1 (by omega)) jwk c0k jsp jspo jon (by omega) (choV_z (choP.dead jcp hq23) (by omega)) (by omega) hfr hlen hsl (by omega) hk0
                · cases hv
                  have hsp := hfk.get hsp (by decide)
                  have honw := hfk.get honw (by decide)
                  have hq := hfk.get hq (by simp only [List.mem_cons, List.not_mem_nil, or_false]; omega)
                  have hki := hfk.get hki (by simp only [List.mem_cons, List.not_mem_nil, or_false]; omega)
                  have hne := hfk.get hne (by simp only [List.mem_cons, List.not_mem_nil, or_false]; omega)
                  have hot := hfk.get hot (by simp only [List.mem_cons, List.not_mem_nil, or_false]; omega)
                  have hra := hfk.get hra (by simp only [List.mem_cons, List.not_mem_nil, or_false]; omega)
                  have hs := hfk.get hs (by decide)
                  have hco := hfk.get hco (by decide)
                  have hre := hfk.get hre (by decide)
                  have hho := hfk.get hho (by decide)
                  have hfr := hfr.tr hfk (by decide)
                  have hlen := hlk.trans hlen
                  have hsl := hsk.trans hsl
                  have ha := hNa
                  have hwk := hNwk
                  have hstk := hNstk
                  change ab_W _ _ _ G21 173 [some (vR a), none, some (vz p), some (vz ov), some (vz tu), some (vz x_)] [] _
                  refine zz_iinc d_OM_choose_173 rfl (Nat.le_of_ble_eq_true rfl) (Nat.le_of_ble_eq_true rfl) rfl ?_
                  change ab_W _ _ _ G21 176 [some (vR a), none, some (vz p), some (vz ov), some (vz (tu + 1)), some (vz x_)] [] _
                  refine ab_goto (tgt := 17) d_OM_choose_176 (by decide) ?_
                  refine ab_less (L' := [some (vR a), none, some (vz p), some (vz ov), some (vz (tu + 1)), none]) (fun i v h => by rcases i with _ | _ | _ | _ | _ | _ | i <;> first | exact h | (simp at h)) ?_
                  exact ih (dp := ((dp - 1) + 1 + 1)) (fo := fo) (chn := chn) (stp := (stp + 1)) (SP := SP) (WK := WK) (ON := ON) (SK := (zu (zu SK (dp - 1) (O x_)) ((dp - 1) + 1) (N x_))) (ov := ov) (tu := (tu + 1)) ha hsp hwk honw hstk hq hki hne hot hra hs hco hre hho (by omega) (ostk_split hcl hV (by omega) (by omega) hpop.1) jwk c0k jsp jspo jon (by omega) (choV_z (choP.split jcp (by omega) (by have t6 := hp.n x_ (by omega) (by omega); have t7 := hp.o6 x_ (by omega) (by omega) (by omega); omega)) (by omega)) (by omega) hfr hlen hsl (by omega) hk0
                · cases hv
                  have hsp := hfk.get hsp (by decide)
                  have honw := hfk.get honw (by decide)
                  have hq := hfk.get hq (by simp only [List.mem_cons, List.not_mem_nil, or_false]; omega)
                  have hki := hfk.get hki (by simp only [List.mem_cons, List.not_mem_nil, or_false]; omega)
                  have hne := hfk.get hne (by simp only [List.mem_cons, List.not_mem_nil, or_false]; omega)
                  have hot := hfk.get hot (by simp only [List.mem_cons, List.not_mem_nil, or_false]; omega)
                  have hra := hfk.get hra (by simp only [List.mem_cons, List.not_mem_nil, or_false]; omega)
                  have hs := hfk.get hs (by decide)
                  have hco := hfk.get hco (by decide)
                  have hre := hfk.get hre (by decide)
                  have hho := hfk.get hho (by decide)
                  have hfr := hfr.tr hfk (by decide)
                  have hlen := hlk.trans hlen
                  have hsl := hsk.trans hsl
                  have ha := hNa
                  have hwk := hNwk
                  have hstk := hNstk
                  change ab_W _ _ _ G21 173 [some (vR a), none, some (vz p), some (vz ov), some (vz tu), some (vz x_)] [] _
                  refine zz_iinc d_OM_choose_173 rfl (Nat.le_of_ble_eq_true rfl) (Nat.le_of_ble_eq_true rfl) rfl ?_
                  change ab_W _ _ _ G21 176 [some (vR a), none, some (vz p), some (vz ov), some (vz (tu + 1)), some (vz x_)] [] _
                  refine ab_goto (tgt := 17) d_OM_choose_176 (by decide) ?_
                  refine ab_less (L' := [some (vR a), none, some (vz p), some (vz ov), some (vz (tu + 1)), none]) (fun i v h => by rcases i with _ | _ | _ | _ | _ | _ | i <;> first | exact h | (simp at h)) ?_
                  exact ih (dp := ((dp - 1) + 1 + 1)) (fo := fo) (chn := chn) (stp := (stp + 1)) (SP := SP) (WK := (zu WK (O x_) p)) (ON := ON) (SK := (zu (zu SK (dp - 1) u_25) ((dp - 1) + 1) (N x_))) (ov := ov) (tu := (tu + 1)) ha hsp hwk honw hstk hq hki hne hot hra hs hco hre hho (by omega) (ostk_save hcl hV (by omega) (by omega) (by omega) hq28 hpop.1) (rgs_zu jwk (by omega)) (by have t7 := (hp.o7 x_ (by omega) (by omega) (by omega)).1; rw [zu_ne (by omega)]; omega) jsp jspo jon (by omega) (choV_z (by rw [hq27]; exact choP.save jcp (by omega) (by have t7 := hp.o7 x_ (by omega) (by omega) (by omega); omega) (by have t7 := hp.o7 x_ (by omega) (by omega) (by omega); have t8 := jwk (O x_) (by omega) (by omega); omega) (by have t6 := hp.n x_ (by omega) (by omega); omega)) (by omega)) (by omega) hfr hlen hsl (by omega) hk0
                · cases hv
                  have hsp := hfk.get hsp (by decide)
                  have honw := hfk.get honw (by decide)
                  have hq := hfk.get hq (by simp only [List.mem_cons, List.not_mem_nil, or_false]; omega)
                  have hki := hfk.get hki (by simp only [List.mem_cons, List.not_mem_nil, or_false]; omega)
                  have hne := hfk.get hne (by simp only [List.mem_cons, List.not_mem_nil, or_false]; omega)
                  have hot := hfk.get hot (by simp only [List.mem_cons, List.not_mem_nil, or_false]; omega)
                  have hra := hfk.get hra (by simp only [List.mem_cons, List.not_mem_nil, or_false]; omega)
                  have hs := hfk.get hs (by decide)
                  have hco := hfk.get hco (by decide)
                  have hre := hfk.get hre (by decide)
                  have hho := hfk.get hho (by decide)
                  have hfr := hfr.tr hfk (by decide)
                  have hlen := hlk.trans hlen
                  have hsl := hsk.trans hsl
                  have ha := hNa
                  have hwk := hNwk
                  have hstk := hNstk
                  change ab_W _ _ _ G21 173 [some (vR a), none, some (vz p), some (vz ov), some (vz tu), some (vz x_)] [] _
                  refine zz_iinc d_OM_choose_173 rfl (Nat.le_of_ble_eq_true rfl) (Nat.le_of_ble_eq_true rfl) rfl ?_
                  change ab_W _ _ _ G21 176 [some (vR a), none, some (vz p), some (vz ov), some (vz (tu + 1)), some (vz x_)] [] _
                  refine ab_goto (tgt := 17) d_OM_choose_176 (by decide) ?_
                  refine ab_less (L' := [some (vR a), none, some (vz p), some (vz ov), some (vz (tu + 1)), none]) (fun i v h => by rcases i with _ | _ | _ | _ | _ | _ | i <;> first | exact h | (simp at h)) ?_
                  exact ih (dp := ((dp - 1) + 1)) (fo := fo) (chn := chn) (stp := (stp + 1)) (SP := SP) (WK := WK) (ON := ON) (SK := (zu SK (dp - 1) (N x_))) (ov := ov) (tu := (tu + 1)) ha hsp hwk honw hstk hq hki hne hot hra hs hco hre hho (by omega) (ostk_ass hcl hV (by omega) (by omega) hpop.1) jwk c0k jsp jspo jon (by omega) (choV_z (choP.ask jcp (by omega) hq31 (by have t6 := hp.n x_ (by omega) (by omega); omega)) (by omega)) (by omega) hfr hlen hsl (by omega) hk0
            · refine ab_aload_n d_OM_choose_99 rfl ?_
              refine ab_iload_n d_OM_choose_100 rfl ?_
              refine ab_callV (d' := d - 1) (as := [vz p]) (st := []) (r := _) (z_OM_arrive (o := o) (a := a) (sp := sp) (wk := wk) (onw := onw) (tkn := tkn) (se_ := se_) (cle := cle) (stk := stk) (dp := (dp - 1)) (fo := fo) (chn := chn) (hw := hw) (fy := fy) (stp := (stp + 1)) (SP := SP) (WK := WK) (q := q) (lq := lq) (ki := ki) (ne := ne) (ot := ot) (cnt := cnt) (fi := fi) (la := la) (ra := ra) (ru := ru) (gr := gr) (wi := wi) (sz := sz) (fl := fl) (ve := ve) (mi := mi) (na := na) (nl := nl) (s := s) (by_ := by_) (co := co) (re := re) (ho := ho) (n := n) (p := p) ha hsp hwk hq hs (by omega) (by omega) jwk (by omega) jsp (by omega) (by omega) (by omega) (by omega)) (fun oc G2 h => by rcases h with ⟨h, _⟩ | ⟨_, h, _⟩ <;> exact ⟨_, h⟩) (by omega) m_OM_arrive ml_OM_151 im_OM_arrive se_OM_arrive c_OM ha.2.2 (Nat.le_of_ble_eq_true rfl) d_OM_choose_101 rfl ?_
              intro v G32 hq
              rcases hq with ⟨hv, hGe, hq33⟩ | ⟨SP234, hv, hfk, hlk, hsk, hNa, hNsp, hq35, hq36, hq37, hq38, hq39⟩
              · cases hv
                rw [hGe]
                change ab_W _ _ _ G5 104 [some (vR a), none, some (vz p), some (vz ov), some (vz tu), some (vz x_)] [vz 0] _
                refine ab_istore_n d_OM_choose_104 (Nat.le_of_ble_eq_true rfl) (Nat.le_of_ble_eq_true rfl) rfl ?_
                change ab_W _ _ _ G5 105 [some (vR a), none, some (vz p), some (vz 0), some (vz tu), some (vz x_)] [] _
                refine ab_goto (tgt := 173) d_OM_choose_105 (by decide) ?_
                refine zz_iinc d_OM_choose_173 rfl (Nat.le_of_ble_eq_true rfl) (Nat.le_of_ble_eq_true rfl) rfl ?_
                change ab_W _ _ _ G5 176 [some (vR a), none, some (vz p), some (vz 0), some (vz (tu + 1)), some (vz x_)] [] _
                refine ab_goto (tgt := 17) d_OM_choose_176 (by decide) ?_
                refine ab_less (L' := [some (vR a), none, some (vz p), some (vz 0), some (vz (tu + 1)), none]) (fun i v h => by rcases i with _ | _ | _ | _ | _ | _ | i <;> first | exact h | (simp at h)) ?_
                exact ih (dp := (dp - 1)) (fo := fo) (chn := chn) (stp := (stp + 1)) (SP := SP) (WK := WK) (ON := ON) (SK := SK) (ov := 0) (tu := (tu + 1)) ha hsp hwk honw hstk hq hki hne hot hra hs hco hre hho (by omega) (ostk_drop hpop.1 (by omega)) jwk c0k jsp jspo jon (by omega) (choV_z (choP.miss jcp (by omega) (by omega)) (by omega)) (by omega) hfr hlen hsl (by omega) hk0
              · cases hv
                have hwk := hfk.get hwk (by decide)
                have honw := hfk.get honw (by decide)
                have hstk := hfk.get hstk (by decide)
                have hq := hfk.get hq (by simp only [List.mem_cons, List.not_mem_nil, or_false]; omega)
                have hki := hfk.get hki (by simp only [List.mem_cons, List.not_mem_nil, or_false]; omega)
                have hne := hfk.get hne (by simp only [List.mem_cons, List.not_mem_nil, or_false]; omega)
                have hot := hfk.get hot (by simp only [List.mem_cons, List.not_mem_nil, or_false]; omega)
                have hra := hfk.get hra (by simp only [List.mem_cons, List.not_mem_nil, or_false]; omega)
                have hs := hfk.get hs (by decide)
                have hco := hfk.get hco (by decide)
                have hre := hfk.get hre (by decide)
                have hho := hfk.get hho (by decide)
                have hfr := hfr.tr hfk (by decide)
                have hlen := hlk.trans hlen
                have hsl := hsk.trans hsl
                have ha := hNa
                have hsp := hNsp
                change ab_W _ _ _ G32 104 [some (vR a), none, some (vz p), some (vz ov), some (vz tu), some (vz x_)] [vz fy] _
                refine ab_istore_n d_OM_choose_104 (Nat.le_of_ble_eq_true rfl) (Nat.le_of_ble_eq_true rfl) rfl ?_
                change ab_W _ _ _ G32 105 [some (vR a), none, some (vz p), some (vz fy), some (vz tu), some (vz x_)] [] _
                refine ab_goto (tgt := 173) d_OM_choose_105 (by decide) ?_
                refine zz_iinc d_OM_choose_173 rfl (Nat.le_of_ble_eq_true rfl) (Nat.le_of_ble_eq_true rfl) rfl ?_
                change ab_W _ _ _ G32 176 [some (vR a), none, some (vz p), some (vz fy), some (vz (tu + 1)), some (vz x_)] [] _
                refine ab_goto (tgt := 17) d_OM_choose_176 (by decide) ?_
                refine ab_less (L' := [some (vR a), none, some (vz p), some (vz fy), some (vz (tu + 1)), none]) (fun i v h => by rcases i with _ | _ | _ | _ | _ | _ | i <;> first | exact h | (simp at h)) ?_
                exact ih (dp := (dp - 1)) (fo := 1) (chn := chn) (stp := (stp + 1)) (SP := SP234) (WK := WK) (ON := ON) (SK := SK) (ov := fy) (tu := (tu + 1)) ha hsp hwk honw hstk hq hki hne hot hra hs hco hre hho (by omega) (ostk_drop hpop.1 (by omega)) jwk c0k hq37 (fun _ => ⟨hq38, hq39⟩) jon (by omega) (by rw [hq35]; exact choP.arr jcp hgd (by omega) (kx1 hk1 ck9 (by omega) (by omega) (by omega)) hq36 (by omega) (by omega) hsu.1 (by omega)) (by omega) hfr hlen hsl (by omega) hk0
          · have hs2x := tko_neg hs0 (by omega)
            refine ab_aload_n d_OM_choose_72 rfl ?_
            refine ab_getf (fs := [vR sp, vR wk, vR onw, vR tkn, vR se_, vR cle, vR stk, vz (dp - 1), vz fo, vz chn, vR q, vR s, vz hw, vz fy, vj (stp + 1)]) f_OM_15 d_OM_choose_73 ha.2.2 rfl ?_
            refine ab_iload d_OM_choose_76 rfl ?_
            refine ab_callS (d' := d - 1) (as := [vR wk, vz x_]) (st := []) (z_PW_undo (o := o) (a := wk) (l := 51) (m := 20) (f := WK) (e := x_) hwk (by have h18 : ab_n0 = 18 := rfl; omega)) (fun oc G2 h => by rcases h with ⟨h, _⟩ <;> exact ⟨_, h⟩) (by omega) m_PW_undo ml_OM_148 st_PW_undo (Nat.le_of_ble_eq_true rfl) d_OM_choose_78 rfl ?_
            intro v G40 hq
            rcases hq with ⟨hv, hfk, hlk, hsk, hNwk⟩
            cases hv
            have ha := hfk.get ha (by decide)
            have hsp := hfk.get hsp (by decide)
            have honw := hfk.get honw (by decide)
            have hstk := hfk.get hstk (by decide)
            have hq := hfk.get hq (by simp only [List.mem_cons, List.not_mem_nil, or_false]; omega)
            have hki := hfk.get hki (by simp only [List.mem_cons, List.not_mem_nil, or_false]; omega)
            have hne := hfk.get hne (by simp only [List.mem_cons, List.not_mem_nil, or_false]; omega)
            have hot := hfk.get hot (by simp only [List.mem_cons, List.not_mem_nil, or_false]; omega)
            have hra := hfk.get hra (by simp only [List.mem_cons, List.not_mem_nil, or_false]; omega)
            have hs := hfk.get hs (by decide)
            have hco := hfk.get hco (by decide)
            have hre := hfk.get hre (by decide)
            have hho := hfk.get hho (by decide)
            have hfr := hfr.tr hfk (by decide)
            have hlen := hlk.trans hlen
            have hsl := hsk.trans hsl
            have hwk := hNwk
            change ab_W _ _ _ G40 81 [some (vR a), none, some (vz p), some (vz ov), some (vz tu), some (vz x_)] [] _
            refine ab_goto (tgt := 173) d_OM_choose_81 (by decide) ?_
            refine zz_iinc d_OM_choose_173 rfl (Nat.le_of_ble_eq_true rfl) (Nat.le_of_ble_eq_true rfl) rfl ?_
            change ab_W _ _ _ G40 176 [some (vR a), none, some (vz p), some (vz ov), some (vz (tu + 1)), some (vz x_)] [] _
            refine ab_goto (tgt := 17) d_OM_choose_176 (by decide) ?_
            refine ab_less (L' := [some (vR a), none, some (vz p), some (vz ov), some (vz (tu + 1)), none]) (fun i v h => by rcases i with _ | _ | _ | _ | _ | _ | i <;> first | exact h | (simp at h)) ?_
            exact ih (dp := (dp - 1)) (fo := fo) (chn := chn) (stp := (stp + 1)) (SP := SP) (WK := (zu WK ((-1 - x_) / 4096) ((-1 - x_) % 4096 - 1))) (ON := ON) (SK := SK) (ov := ov) (tu := (tu + 1)) ha hsp hwk honw hstk hq hki hne hot hra hs hco hre hho (by omega) (ostk_drop hpop.1 (by omega)) (rgs_zu jwk (by omega)) (by rw [zu_ne (by omega)]; omega) jsp jspo jon (by omega) (choV_z ((choV.undo jch (by omega) (by omega) (by omega) hx_ (by omega) (by omega)).1 rfl) (by omega)) (by omega) hfr hlen hsl (by omega) hk0
set_option maxRecDepth 100000 in
set_option maxHeartbeats 4000000 in
theorem z_OM_choose {X : ab_X} {d : Nat} {o : Nat → Nat} {G : ab_G} {a : Nat} {sp : Nat} {wk : Nat} {onw : Nat} {tkn : Nat} {se_ : Nat} {cle : Nat} {stk : Nat} {dp : Int} {fo : Int} {chn : Int} {hw : Int} {fy : Int} {stp : Int} {SP : Int → Int} {WK : Int → Int} {ON : Int → Int} {SK : Int → Int} {q : Nat} {lq : Nat} {ki : Nat} {ne : Nat} {ot : Nat} {cnt : Int} {fi : Int} {la : Int} {ra : Nat} {ru : Int} {gr : Int} {wi : Int} {sz : Int} {fl : Int} {ve : Int} {mi : Int} {na : Nat} {nl : Nat} {K : Int → Int} {N : Int → Int} {O : Int → Int} {RR : Int → Int} {nr : Nat} {s : Nat} {by_ : Nat} {co : Nat} {re : Nat} {ho : Nat} {n : Int} {f : Int → Int} {C : Int → Int} {Rs : Int → Int} {H : Int → Int} {m : Nat} {mc : Nat} {p : Int} {ww : Int → Int} {VV : Int → Prop} {b_ : Int} {st : Int} {Dw : List Int} {S9 : Option (Int × Gr)} (ha : cc o G a 50 (ab_ob 3 [vR sp, vR wk, vR onw, vR tkn, vR se_, vR cle, vR stk, vz dp, vz fo, vz chn, vR q, vR s, vz hw, vz fy, vj stp])) (hsp : cc o G sp 31 (za 20 SP)) (hwk : cc o G wk 51 (za 20 WK)) (honw : cc o G onw 52 (za 20 ON)) (hstk : cc o G stk 57 (za 809 SK)) (hq : cc o G q lq (ab_ob 5 [vR ki, vR ne, vR ot, vz cnt, vz fi, vz la, vR ra, vz ru, vz gr, vz wi, vz sz, vz fl, vz ve, vz mi, vR na, vR nl])) (hki : cc o G ki (lq + 1) (za 808 K)) (hne : cc o G ne (lq + 2) (za 808 N)) (hot : cc o G ot (lq + 3) (za 808 O)) (hra : cc o G ra (lq + 4) (za nr RR)) (hs : cc o G s 26 (ab_ob 9 [vR by_, vR co, vR re, vR ho, vz n])) (hco : cc o G co 28 (za mc C)) (hre : cc o G re 29 (za mc Rs)) (hho : cc o G ho 30 (za mc H)) (cq : 100 ≤ lq ∧ 0 ≤ cnt ∧ cnt ≤ 808 ∧ ↑nr ≤ (100000 : Int)) (hp : prok K N O RR cnt ↑nr wi) (hr : ∀ k : Int, 0 ≤ k → k < ↑nr → 0 ≤ RR k ∧ RR k ≤ 1114111) (cwi : 2 ≤ wi ∧ wi ≤ 20) (csu : 0 ≤ n ∧ n ≤ ↑m ∧ 32 ≤ m ∧ m ≤ 2000 ∧ mc = m + 1) (hsu : suok f C Rs H n) (cp : 0 ≤ p ∧ p ≤ n) (chw : 0 ≤ hw ∧ hw ≤ 2 ∧ 0 ≤ fy ∧ fy ≤ 1) (hcl : oclr K N O ww VV cnt) (hgd : gdO K O RR Dw) (hk1 : ∀ z : Int, 2 ≤ z → z < cnt → ¬ K z = 8) (ck9 : K 0 = 9) (hvb : VV b_) (hwb : ww b_ ≤ 809) (jwk : rgs WK wi (-1) n) (c0k : 0 ≤ WK 0) (jsp : rgs SP 20 (-1) 2000) (jspo : spo fo SP wi n) (jon : oon K chn ON wi n cnt) (cfo : 0 ≤ fo ∧ fo ≤ 1) (jom : omF K N O RR f n fy hw wi st b_ p WK fo SP S9) (hds : DSq K N O Dw [b_]) (hw9 : wO K Dw ≤ 1615) (cch : chn = -1) (cbb : 0 ≤ b_ ∧ b_ < cnt) (hd : 4 ≤ d) : ab_F X d y_OM_choose (.code y_OM_choose b_OM_choose 6 none) [vR a, vz b_, vz p] G (fun oc G2 => ∃ dp2 : Int, ∃ fo2 : Int, ∃ ch2 : Int, ∃ st2 : Int, ∃ SP2 : Int → Int, ∃ WK2 : Int → Int, ∃ ON2 : Int → Int, ∃ SK2 : Int → Int, oc = .returned none ∧ fx o o [31, 50, 51, 52, 57] G G2 ∧ G2.length = G.length ∧ ab_slots G2 = ab_slots G ∧ cc o G2 a 50 (ab_ob 3 [vR sp, vR wk, vR onw, vR tkn, vR se_, vR cle, vR stk, vz dp2, vz fo2, vz ch2, vR q, vR s, vz hw, vz fy, vj st2]) ∧ cc o G2 sp 31 (za 20 SP2) ∧ cc o G2 wk 51 (za 20 WK2) ∧ cc o G2 onw 52 (za 20 ON2) ∧ cc o G2 stk 57 (za 809 SK2) ∧ (0 ≤ fo2 ∧ fo2 ≤ 1) ∧ (rgs WK2 wi (-1) n) ∧ (rgs SP2 20 (-1) 2000) ∧ (spo fo2 SP2 wi n) ∧ (oon K ch2 ON2 wi n cnt) ∧ (0 ≤ WK2 0) ∧ (choE K N O RR f n fy hw wi st p ch2 ON2 fo2 SP2 S9) ∧ (stp ≤ st2 ∧ st2 ≤ stp + 1616)) := by
  refine ab_F_of (by decide +kernel) (Nat.le_of_ble_eq_true rfl) ?_
  obtain ⟨Q, hQ⟩ : ∃ z : Outcome → ab_G → Prop, z = (fun oc G2 => ∃ dp2 : Int, ∃ fo2 : Int, ∃ ch2 : Int, ∃ st2 : Int, ∃ SP2 : Int → Int, ∃ WK2 : Int → Int, ∃ ON2 : Int → Int, ∃ SK2 : Int → Int, oc = .returned none ∧ fx o o [31, 50, 51, 52, 57] G G2 ∧ G2.length = G.length ∧ ab_slots G2 = ab_slots G ∧ cc o G2 a 50 (ab_ob 3 [vR sp, vR wk, vR onw, vR tkn, vR se_, vR cle, vR stk, vz dp2, vz fo2, vz ch2, vR q, vR s, vz hw, vz fy, vj st2]) ∧ cc o G2 sp 31 (za 20 SP2) ∧ cc o G2 wk 51 (za 20 WK2) ∧ cc o G2 onw 52 (za 20 ON2) ∧ cc o G2 stk 57 (za 809 SK2) ∧ (0 ≤ fo2 ∧ fo2 ≤ 1) ∧ (rgs WK2 wi (-1) n) ∧ (rgs SP2 20 (-1) 2000) ∧ (spo fo2 SP2 wi n) ∧ (oon K ch2 ON2 wi n cnt) ∧ (0 ≤ WK2 0) ∧ (choE K N O RR f n fy hw wi st p ch2 ON2 fo2 SP2 S9) ∧ (stp ≤ st2 ∧ st2 ≤ stp + 1616)) := ⟨_, rfl⟩
  rw [← hQ]
  change ab_W X (ab_pl y_OM_choose b_OM_choose 6 none) d G 0 [some (vR a), some (vz b_), some (vz p), none, none, none] [] Q
  have hfr : fx o o [31, 50, 51, 52, 57] G G := fx.rf
  have hlen : G.length = G.length := rfl
  have hsl : ab_slots G = ab_slots G := rfl
  refine ab_aload_n d_OM_choose_0 rfl ?_
  refine ab_getf (fs := [vR sp, vR wk, vR onw, vR tkn, vR se_, vR cle, vR stk, vz dp, vz fo, vz chn, vR q, vR s, vz hw, vz fy, vj stp]) f_OM_34 d_OM_choose_1 ha.2.2 rfl ?_
  refine zz_iconst d_OM_choose_4 ?_
  refine ab_iload_n d_OM_choose_5 rfl ?_
  refine zz_iast d_OM_choose_6 hstk (by omega) (hstk.2.1 (by decide)) ?_
  obtain ⟨G1, eG1⟩ : ∃ z : ab_G, z = List.set G stk (za 809 (zu SK 0 b_)) := ⟨_, rfl⟩
  have ha := ha.keep hstk eG1 (by decide)
  have hsp := hsp.keep hstk eG1 (by decide)
  have hwk := hwk.keep hstk eG1 (by decide)
  have honw := honw.keep hstk eG1 (by decide)
  have hq := hq.keep hstk eG1 (by omega)
  have hki := hki.keep hstk eG1 (by omega)
  have hne := hne.keep hstk eG1 (by omega)
  have hot := hot.keep hstk eG1 (by omega)
  have hra := hra.keep hstk eG1 (by omega)
  have hs := hs.keep hstk eG1 (by decide)
  have hco := hco.keep hstk eG1 (by decide)
  have hre := hre.keep hstk eG1 (by decide)
  have hho := hho.keep hstk eG1 (by decide)
  have hlen := (z_len eG1).trans hlen
  have hsl := (z_sl hstk eG1 rfl).trans hsl
  have hfr := hfr.wr hstk eG1 (by decide)
  have hstk := hstk.kept eG1
  change ab_W _ _ _ (List.set G stk (za 809 (zu SK 0 b_))) 7 [some (vR a), some (vz b_), some (vz p), none, none, none] [] _
  rw [← eG1]
  refine ab_aload_n d_OM_choose_7 rfl ?_
  refine zz_iconst d_OM_choose_8 ?_
  refine ab_putf (fs := [vR sp, vR wk, vR onw, vR tkn, vR se_, vR cle, vR stk, vz dp, vz fo, vz chn, vR q, vR s, vz hw, vz fy, vj stp]) f_OM_76 (Or.inl rfl) d_OM_choose_9 ha.2.2 (Nat.le_of_ble_eq_true rfl) (fun _ => ⟨rfl, rfl⟩) (ha.2.1 (by decide)) ?_
  obtain ⟨G2, eG2⟩ : ∃ z : ab_G, z = List.set G1 a (ab_ob 3 [vR sp, vR wk, vR onw, vR tkn, vR se_, vR cle, vR stk, vz 1, vz fo, vz chn, vR q, vR s, vz hw, vz fy, vj stp]) := ⟨_, rfl⟩
  have hsp := hsp.keep ha eG2 (by decide)
  have hwk := hwk.keep ha eG2 (by decide)
  have honw := honw.keep ha eG2 (by decide)
  have hstk := hstk.keep ha eG2 (by decide)
  have hq := hq.keep ha eG2 (by omega)
  have hki := hki.keep ha eG2 (by omega)
  have hne := hne.keep ha eG2 (by omega)
  have hot := hot.keep ha eG2 (by omega)
  have hra := hra.keep ha eG2 (by omega)
  have hs := hs.keep ha eG2 (by decide)
  have hco := hco.keep ha eG2 (by decide)
  have hre := hre.keep ha eG2 (by decide)
  have hho := hho.keep ha eG2 (by decide)
  have hlen := (z_len eG2).trans hlen
  have hsl := (z_sl ha eG2 rfl).trans hsl
  have hfr := hfr.wr ha eG2 (by decide)
  have ha := ha.kept eG2
  change ab_W _ _ _ (List.set G1 a (ab_ob 3 [vR sp, vR wk, vR onw, vR tkn, vR se_, vR cle, vR stk, vz 1, vz fo, vz chn, vR q, vR s, vz hw, vz fy, vj stp])) 12 [some (vR a), some (vz b_), some (vz p), none, none, none] [] _
  rw [← eG2]
  refine zz_iconst d_OM_choose_12 ?_
  refine ab_istore_n d_OM_choose_13 (Nat.le_of_ble_eq_true rfl) (Nat.le_of_ble_eq_true rfl) rfl ?_
  change ab_W _ _ _ G2 14 [some (vR a), some (vz b_), some (vz p), some (vz 0), none, none] [] _
  refine zz_iconst d_OM_choose_14 ?_
  refine ab_istore d_OM_choose_15 (Nat.le_of_ble_eq_true rfl) (Nat.le_of_ble_eq_true rfl) rfl ?_
  change ab_W _ _ _ G2 17 [some (vR a), some (vz b_), some (vz p), some (vz 0), some (vz 0), none] [] _
  refine ab_less (L' := [some (vR a), none, some (vz p), some (vz 0), some (vz 0), none]) (fun i v h => by rcases i with _ | _ | _ | _ | _ | _ | i <;> first | exact h | (simp at h)) ?_
  refine y_OM_choose_17 (a := a) (sp := sp) (wk := wk) (onw := onw) (tkn := tkn) (se_ := se_) (cle := cle) (stk := stk) (hw := hw) (fy := fy) (q := q) (lq := lq) (ki := ki) (ne := ne) (ot := ot) (cnt := cnt) (fi := fi) (la := la) (ra := ra) (ru := ru) (gr := gr) (wi := wi) (sz := sz) (fl := fl) (ve := ve) (mi := mi) (na := na) (nl := nl) (K := K) (N := N) (O := O) (RR := RR) (nr := nr) (s := s) (by_ := by_) (co := co) (re := re) (ho := ho) (n := n) (C := C) (Rs := Rs) (H := H) (mc := mc) (p := p) (st := st) (Dw := Dw) (S9 := S9) (st0 := stp) (G0 := G2) (dp := 1) (fo := fo) (chn := chn) (stp := stp) (SP := SP) (WK := WK) (ON := ON) (SK := (zu SK 0 b_)) (ov := 0) (tu := 0) (by omega) hp hr (by omega) (by omega) hsu (by omega) (by omega) hcl hgd hk1 (by omega) (by omega) (Int.toNat (1616 - 0) + 1) ha hsp hwk honw hstk hq hki hne hot hra hs hco hre hho (by omega) (ostk_1 hcl hvb hwb) jwk c0k jsp jspo jon (by omega) (choV_q (jom.q (by omega) hds (by omega) hw9)) (by omega) fx.rf rfl rfl (by omega) (fun G3 dp24 fo25 ch26 st27 SP28 WK29 ON210 SK211 hNa hNsp hNwk hNonw hNstk hq12 hq13 hq14 hq15 hq16 hq17 hq18 hq19 hfk hlk hsk => ?_)
  · have hq := hfk.get hq (by simp only [List.mem_cons, List.not_mem_nil, or_false]; omega)
    have hki := hfk.get hki (by simp only [List.mem_cons, List.not_mem_nil, or_false]; omega)
    have hne := hfk.get hne (by simp only [List.mem_cons, List.not_mem_nil, or_false]; omega)
    have hot := hfk.get hot (by simp only [List.mem_cons, List.not_mem_nil, or_false]; omega)
    have hra := hfk.get hra (by simp only [List.mem_cons, List.not_mem_nil, or_false]; omega)
    have hs := hfk.get hs (by decide)
    have hco := hfk.get hco (by decide)
    have hre := hfk.get hre (by decide)
    have hho := hfk.get hho (by decide)
    have hfr := hfr.tr hfk (by decide)
    have hlen := hlk.trans hlen
    have hsl := hsk.trans hsl
    have ha := hNa
    have hsp := hNsp
    have hwk := hNwk
    have honw := hNonw
    have hstk := hNstk
    rw [hQ]; exact ⟨_, _, _, _, _, _, _, _, rfl, hfr, hlen, hsl, ha, hsp, hwk, honw, hstk, (by omega), (by first | exact hq13 | exact rgs_w hq13 (by omega)), (by first | exact hq14 | exact rgs_w hq14 (by omega)), (by exact hq15), (by exact hq16), (by omega), (by exact hq18), (by omega)⟩
