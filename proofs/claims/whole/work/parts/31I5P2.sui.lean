set_option maxRecDepth 100000 in
set_option maxHeartbeats 4000000 in
theorem z_OM_suits {X : ab_X} {d : Nat} {o : Nat → Nat} {G : ab_G} {a : Nat} {on : Nat} {nt : Nat} {q : Nat} {lq : Nat} {ki : Nat} {ne : Nat} {ot : Nat} {cnt : Int} {fi : Int} {la : Int} {ra : Nat} {ru : Int} {gr : Int} {wi : Int} {sz : Int} {fl : Int} {ve : Int} {mi : Int} {na : Nat} {nl : Nat} {K : Int → Int} {N : Int → Int} {O : Int → Int} {RR : Int → Int} {nr : Nat} {sto : Int} (hq : cc o G q lq (ab_ob 5 [vR ki, vR ne, vR ot, vz cnt, vz fi, vz la, vR ra, vz ru, vz gr, vz wi, vz sz, vz fl, vz ve, vz mi, vR na, vR nl])) (hki : cc o G ki (lq + 1) (za 808 K)) (hne : cc o G ne (lq + 2) (za 808 N)) (hot : cc o G ot (lq + 3) (za 808 O)) (hra : cc o G ra (lq + 4) (za nr RR)) (pomI_a : omI o G a on nt sto) (n18 : ab_n0 = 18) (cq : 100 ≤ lq ∧ 2 ≤ cnt ∧ cnt ≤ 808 ∧ ↑nr ≤ (100000 : Int)) (hpu : prok K N O RR cnt ru wi) (hp : prok K N O RR cnt ↑nr wi) (hr : ∀ k : Int, 0 ≤ k → k < ↑nr → 0 ≤ RR k ∧ RR k ≤ 1114111) (cru : 0 ≤ ru ∧ ru ≤ ↑nr ∧ ru ≤ 50000) (ck9 : K 0 = 9) (cfi : 0 ≤ fi ∧ fi < cnt ∧ 0 ≤ la ∧ la ≤ 1) (cfl : 0 ≤ fl ∧ fl ≤ 31 ∧ 0 ≤ sz ∧ sz ≤ 400 ∧ 0 ≤ mi ∧ mi ≤ 2) (hpo : mpone mi K N O cnt fi) (hmi : onq mi on) (hoc : momc mi K N O RR cnt fi) (rc : G.length + 5100 ≤ ab_n0 + room_1.cells) (rs : ab_slots G + 210500 ≤ room_1.slots + 2 * nt) (hd : 11 ≤ d) : ab_F X d y_OM_suits (.code y_OM_suits b_OM_suits 2 (some (.boolean))) [vR a, vR q] G (fun oc G2 => (∃ o2 : Nat → Nat, ∃ on2 : Nat, ∃ nt2 : Nat, ∃ mi2 : Int, ∃ so2 : Int, oc = .returned (some (vz 0)) ∧ fx o o2 [50, 53, 54, 55, 56, 57, lq] G G2 ∧ cc o2 G2 q lq (ab_ob 5 [vR ki, vR ne, vR ot, vz cnt, vz fi, vz la, vR ra, vz ru, vz gr, vz wi, vz sz, vz fl, vz ve, vz mi2, vR na, vR nl]) ∧ cc o2 G2 ki (lq + 1) (za 808 K) ∧ cc o2 G2 ne (lq + 2) (za 808 N) ∧ cc o2 G2 ot (lq + 3) (za 808 O) ∧ cc o2 G2 ra (lq + 4) (za nr RR) ∧ omI o2 G2 a on2 nt2 so2 ∧ (0 ≤ mi2 ∧ mi2 ≤ 2) ∧ (mpone mi2 K N O cnt fi) ∧ (onq mi2 on2) ∧ (momc mi2 K N O RR cnt fi) ∧ (64 * G2.length + nt + onPQ on ≤ 64 * G.length + nt2 + onPQ on2) ∧ (ab_slots G2 + 2 * nt + onSQ on ≤ ab_slots G + 2 * nt2 + onSQ on2) ∧ (onL on on2) ∧ (sto ≤ so2 ∧ so2 ≤ sto + 1616 * (cnt + 1))) ∨ (∃ o2 : Nat → Nat, ∃ on2 : Nat, ∃ nt2 : Nat, ∃ mi2 : Int, ∃ so2 : Int, oc = .returned (some (vz 1)) ∧ fx o o2 [50, 53, 54, 55, 56, 57, lq] G G2 ∧ cc o2 G2 q lq (ab_ob 5 [vR ki, vR ne, vR ot, vz cnt, vz fi, vz la, vR ra, vz ru, vz gr, vz wi, vz sz, vz fl, vz ve, vz mi2, vR na, vR nl]) ∧ cc o2 G2 ki (lq + 1) (za 808 K) ∧ cc o2 G2 ne (lq + 2) (za 808 N) ∧ cc o2 G2 ot (lq + 3) (za 808 O) ∧ cc o2 G2 ra (lq + 4) (za nr RR) ∧ omI o2 G2 a on2 nt2 so2 ∧ (0 ≤ mi2 ∧ mi2 ≤ 2) ∧ (mpone mi2 K N O cnt fi) ∧ (onq mi2 on2) ∧ (momc mi2 K N O RR cnt fi) ∧ (64 * G2.length + nt + onPQ on ≤ 64 * G.length + nt2 + onPQ on2) ∧ (ab_slots G2 + 2 * nt + onSQ on ≤ ab_slots G + 2 * nt2 + onSQ on2) ∧ (onL on on2) ∧ (sto ≤ so2 ∧ so2 ≤ sto + 1616 * (cnt + 1)) ∧ (pone K N O cnt fi) ∧ (on2 = 808) ∧ (omC K N O RR cnt fi))) := by
  refine ab_F_of (by decide +kernel) (Nat.le_of_ble_eq_true rfl) ?_
  obtain ⟨Q, hQ⟩ : ∃ z : Outcome → ab_G → Prop, z = (fun oc G2 => (∃ o2 : Nat → Nat, ∃ on2 : Nat, ∃ nt2 : Nat, ∃ mi2 : Int, ∃ so2 : Int, oc = .returned (some (vz 0)) ∧ fx o o2 [50, 53, 54, 55, 56, 57, lq] G G2 ∧ cc o2 G2 q lq (ab_ob 5 [vR ki, vR ne, vR ot, vz cnt, vz fi, vz la, vR ra, vz ru, vz gr, vz wi, vz sz, vz fl, vz ve, vz mi2, vR na, vR nl]) ∧ cc o2 G2 ki (lq + 1) (za 808 K) ∧ cc o2 G2 ne (lq + 2) (za 808 N) ∧ cc o2 G2 ot (lq + 3) (za 808 O) ∧ cc o2 G2 ra (lq + 4) (za nr RR) ∧ omI o2 G2 a on2 nt2 so2 ∧ (0 ≤ mi2 ∧ mi2 ≤ 2) ∧ (mpone mi2 K N O cnt fi) ∧ (onq mi2 on2) ∧ (momc mi2 K N O RR cnt fi) ∧ (64 * G2.length + nt + onPQ on ≤ 64 * G.length + nt2 + onPQ on2) ∧ (ab_slots G2 + 2 * nt + onSQ on ≤ ab_slots G + 2 * nt2 + onSQ on2) ∧ (onL on on2) ∧ (sto ≤ so2 ∧ so2 ≤ sto + 1616 * (cnt + 1))) ∨ (∃ o2 : Nat → Nat, ∃ on2 : Nat, ∃ nt2 : Nat, ∃ mi2 : Int, ∃ so2 : Int, oc = .returned (some (vz 1)) ∧ fx o o2 [50, 53, 54, 55, 56, 57, lq] G G2 ∧ cc o2 G2 q lq (ab_ob 5 [vR ki, vR ne, vR ot, vz cnt, vz fi, vz la, vR ra, vz ru, vz gr, vz wi, vz sz, vz fl, vz ve, vz mi2, vR na, vR nl]) ∧ cc o2 G2 ki (lq + 1) (za 808 K) ∧ cc o2 G2 ne (lq + 2) (za 808 N) ∧ cc o2 G2 ot (lq + 3) (za 808 O) ∧ cc o2 G2 ra (lq + 4) (za nr RR) ∧ omI o2 G2 a on2 nt2 so2 ∧ (0 ≤ mi2 ∧ mi2 ≤ 2) ∧ (mpone mi2 K N O cnt fi) ∧ (onq mi2 on2) ∧ (momc mi2 K N O RR cnt fi) ∧ (64 * G2.length + nt + onPQ on ≤ 64 * G.length + nt2 + onPQ on2) ∧ (ab_slots G2 + 2 * nt + onSQ on ≤ ab_slots G + 2 * nt2 + onSQ on2) ∧ (onL on on2) ∧ (sto ≤ so2 ∧ so2 ≤ sto + 1616 * (cnt + 1)) ∧ (pone K N O cnt fi) ∧ (on2 = 808) ∧ (omC K N O RR cnt fi))) := ⟨_, rfl⟩
  rw [← hQ]
  change ab_W X (ab_pl y_OM_suits b_OM_suits 2 (some (.boolean))) d G 0 [some (vR a), some (vR q)] [] Q
  have hfr : fx o o [50, 53, 54, 55, 56, 57, lq] G G := fx.rf
  refine ab_aload_n d_OM_suits_0 rfl ?_
  refine ab_getf (fs := [vR ki, vR ne, vR ot, vz cnt, vz fi, vz la, vR ra, vz ru, vz gr, vz wi, vz sz, vz fl, vz ve, vz mi, vR na, vR nl]) f_OM_37 d_OM_suits_1 hq.2.2 rfl ?_
  refine zz_if_ne (tgt := 24) d_OM_suits_4 (by decide) (by omega) (fun c1 => ?_) (fun c1 => ?_)
  · refine ab_aload_n d_OM_suits_24 rfl ?_
    refine ab_getf (fs := [vR ki, vR ne, vR ot, vz cnt, vz fi, vz la, vR ra, vz ru, vz gr, vz wi, vz sz, vz fl, vz ve, vz mi, vR na, vR nl]) f_OM_37 d_OM_suits_25 hq.2.2 rfl ?_
    refine zz_iconst d_OM_suits_28 ?_
    refine zz_icmp_ne (tgt := 36) d_OM_suits_29 (by decide) (by omega) (by decide) (fun c2 => ?_) (fun c2 => ?_)
    · refine zz_iconst d_OM_suits_36 ?_
      refine zz_bret rfl (by decide) d_OM_suits_37 ?_
      rw [hQ]; exact (Or.inl ⟨_, _, _, _, _, rfl, hfr, hq, hki, hne, hot, hra, pomI_a, (by omega), (by exact hpo), (by exact hmi), (by exact hoc), (by omega), (by omega), (by unfold onL; omega), (by omega)⟩)
    · refine zz_iconst d_OM_suits_32 ?_
      refine ab_goto (tgt := 37) d_OM_suits_33 (by decide) ?_
      refine zz_bret rfl (by decide) d_OM_suits_37 ?_
      rw [hQ]; exact (Or.inr ⟨_, _, _, _, _, rfl, hfr, hq, hki, hne, hot, hra, pomI_a, (by omega), (by exact hpo), (by exact hmi), (by exact hoc), (by omega), (by omega), (by unfold onL; omega), (by omega), (by exact hpo (by omega)), (by exact hmi (by omega)), (by exact hoc (by omega))⟩)
  · obtain ⟨wk_o, onw_o, tkn_o, se__o, cle_o, stk_o, dp_o, fo_o, chn_o, hw_o, fy_o, WK_o, ON_o, SK_o, sp0_o, q0_o, s0_o, SE_o, CL_o, ct_o, P_o, nk_o, ha, hwk_o, honw_o, hse__o, hcle_o, hstk_o, pcsI_tkn_o, hon_o, hnt_o, cst0_o⟩ := pomI_a
    rcases hon_o with ⟨e1_, e2_⟩ | ⟨e1_, e2_⟩
    · subst e1_
      subst e2_
      have honPQ0 : onPQ 0 = 0 := rfl
      have honPQ808 : onPQ 808 = 192 := rfl
      have honSQ0 : onSQ 0 = 0 := rfl
      have honSQ808 : onSQ 808 = 2425 := rfl
      refine ab_aload_n d_OM_suits_7 rfl ?_
      refine ab_aload_n d_OM_suits_8 rfl ?_
      refine ab_aload_n d_OM_suits_9 rfl ?_
      refine ab_callV (d' := d - 1) (as := [vR q]) (st := [vR q]) (r := _) (z0_OM_isOfOneMind (o := o) (a := a) (wk := wk_o) (onw := onw_o) (tkn := tkn_o) (se_ := se__o) (cle := cle_o) (stk := stk_o) (dp := dp_o) (fo := fo_o) (chn := chn_o) (hw := hw_o) (fy := fy_o) (stp := sto) (SK := SK_o) (q := q) (lq := lq) (ki := ki) (ne := ne) (ot := ot) (cnt := cnt) (fi := fi) (la := la) (ra := ra) (ru := ru) (gr := gr) (wi := wi) (sz := sz) (fl := fl) (ve := ve) (mi := mi) (na := na) (nl := nl) (K := K) (N := N) (O := O) (RR := RR) (nr := nr) (sp0 := sp0_o) (s0 := s0_o) (SE := SE_o) (CL := CL_o) (q0 := q0_o) (nt := nt) (ct := ct_o) (P := P_o) ha hse__o hcle_o hstk_o hq hki hne hot hra pcsI_tkn_o (by omega) hp hpu hr (by omega) (by omega) (by omega) (by omega) (by omega) (by omega) (by omega) (by omega)) (fun oc G2 h => by rcases h with ⟨_, _, _, _, _, _, _, _, _, _, _, _, _, h, _⟩ <;> exact ⟨_, h⟩) (by omega) m_OM_isOfOneMind ml_OM_43 im_OM_isOfOneMind se_OM_isOfOneMind c_OM ha.2.2 (Nat.le_of_ble_eq_true rfl) d_OM_suits_10 rfl ?_
      intro v G3 hq
      rcases hq with ⟨o4, se25, cl26, sk27, dp28, st29, SK210, SE211, CL212, n213, c214, P215, v16, hv, hfk, hNa, hNse25, hNcl26, hNsk27, pNcsI_tkn_o, hq17, hq18, hq19, hq20, hq21, hq22, hq23⟩
      cases hv
      have hq := hfk.get hq (by simp only [List.mem_cons, List.not_mem_nil, or_false]; omega)
      have hki := hfk.get hki (by simp only [List.mem_cons, List.not_mem_nil, or_false]; omega)
      have hne := hfk.get hne (by simp only [List.mem_cons, List.not_mem_nil, or_false]; omega)
      have hot := hfk.get hot (by simp only [List.mem_cons, List.not_mem_nil, or_false]; omega)
      have hra := hfk.get hra (by simp only [List.mem_cons, List.not_mem_nil, or_false]; omega)
      have hwk_o := hfk.get hwk_o (by decide)
      have honw_o := hfk.get honw_o (by decide)
      have pcsI_tkn_o := pNcsI_tkn_o
      have hfr := hfr.tr hfk (by simp)
      have hq24 := hfk.1
      have ha := hNa
      have hse25 := hNse25
      have hcl26 := hNcl26
      have hsk27 := hNsk27
      change ab_W _ _ _ G3 13 [some (vR a), some (vR q)] [vz v16, vR q] _
      refine zz_if_eq (tgt := 20) d_OM_suits_13 (by decide) (by omega) (fun c25 => ?_) (fun c25 => ?_)
      · refine zz_iconst d_OM_suits_20 ?_
        refine ab_putf (fs := [vR ki, vR ne, vR ot, vz cnt, vz fi, vz la, vR ra, vz ru, vz gr, vz wi, vz sz, vz fl, vz ve, vz mi, vR na, vR nl]) f_OM_37 (Or.inl rfl) d_OM_suits_21 hq.2.2 (Nat.le_of_ble_eq_true rfl) (fun _ => ⟨rfl, rfl⟩) (hq.2.1 (by first | omega | exact (show 18 ≤ _ by omega))) ?_
        obtain ⟨G26, eG26⟩ : ∃ z : ab_G, z = List.set G3 q (ab_ob 5 [vR ki, vR ne, vR ot, vz cnt, vz fi, vz la, vR ra, vz ru, vz gr, vz wi, vz sz, vz fl, vz ve, vz 2, vR na, vR nl]) := ⟨_, rfl⟩
        have hki := hki.keep hq eG26 (by omega)
        have hne := hne.keep hq eG26 (by omega)
        have hot := hot.keep hq eG26 (by omega)
        have hra := hra.keep hq eG26 (by omega)
        have ha := ha.keep hq eG26 (by omega)
        have hwk_o := hwk_o.keep hq eG26 (by omega)
        have honw_o := honw_o.keep hq eG26 (by omega)
        have hse25 := hse25.keep hq eG26 (by omega)
        have hcl26 := hcl26.keep hq eG26 (by omega)
        have hsk27 := hsk27.keep hq eG26 (by omega)
        have hst := (fx.rf (o := o4) (S := [lq]) (G := G3)).wr hq eG26 (List.mem_singleton.mpr rfl)
        have pcsI_tkn_o := csI.fr hst pcsI_tkn_o (by simp only [List.mem_cons, List.not_mem_nil, or_false]; omega) (by simp only [List.mem_cons, List.not_mem_nil, or_false]; omega)
        have hq27 := z_len eG26
        have hq28 := z_sl hq eG26 rfl
        have hfr := hfr.wr hq eG26 (by simp)
        have hq := hq.kept eG26
        change ab_W _ _ _ (List.set G3 q (ab_ob 5 [vR ki, vR ne, vR ot, vz cnt, vz fi, vz la, vR ra, vz ru, vz gr, vz wi, vz sz, vz fl, vz ve, vz 2, vR na, vR nl])) 24 [some (vR a), some (vR q)] [] _
        rw [← eG26]
        have pomI_a : omI o4 G26 a 808 n213 st29 := ⟨wk_o, onw_o, tkn_o, se25, cl26, sk27, dp28, fo_o, chn_o, hw_o, fy_o, WK_o, ON_o, SK210, sp0_o, vR q, s0_o, SE211, CL212, c214, P215, 809, ha, hwk_o, honw_o, hse25, hcl26, hsk27, pcsI_tkn_o, (Or.inr ⟨rfl, rfl⟩), (by omega), (by omega)⟩
        have hmq : onq 2 808 := fun _ => rfl
        refine ab_aload_n d_OM_suits_24 rfl ?_
        refine ab_getf (fs := [vR ki, vR ne, vR ot, vz cnt, vz fi, vz la, vR ra, vz ru, vz gr, vz wi, vz sz, vz fl, vz ve, vz 2, vR na, vR nl]) f_OM_37 d_OM_suits_25 hq.2.2 rfl ?_
        refine zz_iconst d_OM_suits_28 ?_
        refine zz_icmp_ne (tgt := 36) d_OM_suits_29 (by decide) (by decide) (by decide) (fun c29 => ?_) (fun c29 => absurd c29 (by decide))
        refine zz_iconst d_OM_suits_36 ?_
        refine zz_bret rfl (by decide) d_OM_suits_37 ?_
        rw [hQ]; exact (Or.inl ⟨_, _, _, _, _, rfl, hfr, hq, hki, hne, hot, hra, pomI_a, (by omega), (by exact fun h => absurd h (by decide)), (by exact hmq), (by exact momc_0 (by decide)), (by omega), (by omega), (by unfold onL; omega), (by omega)⟩)
      · refine zz_iconst d_OM_suits_16 ?_
        refine ab_goto (tgt := 21) d_OM_suits_17 (by decide) ?_
        refine ab_putf (fs := [vR ki, vR ne, vR ot, vz cnt, vz fi, vz la, vR ra, vz ru, vz gr, vz wi, vz sz, vz fl, vz ve, vz mi, vR na, vR nl]) f_OM_37 (Or.inl rfl) d_OM_suits_21 hq.2.2 (Nat.le_of_ble_eq_true rfl) (fun _ => ⟨rfl, rfl⟩) (hq.2.1 (by first | omega | exact (show 18 ≤ _ by omega))) ?_
        obtain ⟨G30, eG30⟩ : ∃ z : ab_G, z = List.set G3 q (ab_ob 5 [vR ki, vR ne, vR ot, vz cnt, vz fi, vz la, vR ra, vz ru, vz gr, vz wi, vz sz, vz fl, vz ve, vz 1, vR na, vR nl]) := ⟨_, rfl⟩
        have hki := hki.keep hq eG30 (by omega)
        have hne := hne.keep hq eG30 (by omega)
        have hot := hot.keep hq eG30 (by omega)
        have hra := hra.keep hq eG30 (by omega)
        have ha := ha.keep hq eG30 (by omega)
        have hwk_o := hwk_o.keep hq eG30 (by omega)
        have honw_o := honw_o.keep hq eG30 (by omega)
        have hse25 := hse25.keep hq eG30 (by omega)
        have hcl26 := hcl26.keep hq eG30 (by omega)
        have hsk27 := hsk27.keep hq eG30 (by omega)
        have hst := (fx.rf (o := o4) (S := [lq]) (G := G3)).wr hq eG30 (List.mem_singleton.mpr rfl)
        have pcsI_tkn_o := csI.fr hst pcsI_tkn_o (by simp only [List.mem_cons, List.not_mem_nil, or_false]; omega) (by simp only [List.mem_cons, List.not_mem_nil, or_false]; omega)
        have hq31 := z_len eG30
        have hq32 := z_sl hq eG30 rfl
        have hfr := hfr.wr hq eG30 (by simp)
        have hq := hq.kept eG30
        change ab_W _ _ _ (List.set G3 q (ab_ob 5 [vR ki, vR ne, vR ot, vz cnt, vz fi, vz la, vR ra, vz ru, vz gr, vz wi, vz sz, vz fl, vz ve, vz 1, vR na, vR nl])) 24 [some (vR a), some (vR q)] [] _
        rw [← eG30]
        have pomI_a : omI o4 G30 a 808 n213 st29 := ⟨wk_o, onw_o, tkn_o, se25, cl26, sk27, dp28, fo_o, chn_o, hw_o, fy_o, WK_o, ON_o, SK210, sp0_o, vR q, s0_o, SE211, CL212, c214, P215, 809, ha, hwk_o, honw_o, hse25, hcl26, hsk27, pcsI_tkn_o, (Or.inr ⟨rfl, rfl⟩), (by omega), (by omega)⟩
        have hmq : onq 1 808 := fun _ => rfl
        refine ab_aload_n d_OM_suits_24 rfl ?_
        refine ab_getf (fs := [vR ki, vR ne, vR ot, vz cnt, vz fi, vz la, vR ra, vz ru, vz gr, vz wi, vz sz, vz fl, vz ve, vz 1, vR na, vR nl]) f_OM_37 d_OM_suits_25 hq.2.2 rfl ?_
        refine zz_iconst d_OM_suits_28 ?_
        refine zz_icmp_ne (tgt := 36) d_OM_suits_29 (by decide) (by decide) (by decide) (fun c33 => absurd c33 (by decide)) (fun c33 => ?_)
        refine zz_iconst d_OM_suits_32 ?_
        refine ab_goto (tgt := 37) d_OM_suits_33 (by decide) ?_
        refine zz_bret rfl (by decide) d_OM_suits_37 ?_
        rw [hQ]; exact (Or.inr ⟨_, _, _, _, _, rfl, hfr, hq, hki, hne, hot, hra, pomI_a, (by omega), (by exact fun _ => hq21 (by omega)), (by exact hmq), (by exact fun _ => hq22 (by omega)), (by omega), (by omega), (by unfold onL; omega), (by omega), (by exact hq21 (by omega)), (by rfl), (by exact hq22 (by omega))⟩)
    · subst e1_
      subst e2_
      have honPQ0 : onPQ 0 = 0 := rfl
      have honPQ808 : onPQ 808 = 192 := rfl
      have honSQ0 : onSQ 0 = 0 := rfl
      have honSQ808 : onSQ 808 = 2425 := rfl
      refine ab_aload_n d_OM_suits_7 rfl ?_
      refine ab_aload_n d_OM_suits_8 rfl ?_
      refine ab_aload_n d_OM_suits_9 rfl ?_
      refine ab_callV (d' := d - 1) (as := [vR q]) (st := [vR q]) (r := _) (z1_OM_isOfOneMind (o := o) (a := a) (wk := wk_o) (onw := onw_o) (tkn := tkn_o) (se_ := se__o) (cle := cle_o) (stk := stk_o) (dp := dp_o) (fo := fo_o) (chn := chn_o) (hw := hw_o) (fy := fy_o) (stp := sto) (SK := SK_o) (q := q) (lq := lq) (ki := ki) (ne := ne) (ot := ot) (cnt := cnt) (fi := fi) (la := la) (ra := ra) (ru := ru) (gr := gr) (wi := wi) (sz := sz) (fl := fl) (ve := ve) (mi := mi) (na := na) (nl := nl) (K := K) (N := N) (O := O) (RR := RR) (nr := nr) (sp0 := sp0_o) (s0 := s0_o) (SE := SE_o) (CL := CL_o) (q0 := q0_o) (nt := nt) (ct := ct_o) (P := P_o) ha hse__o hcle_o hstk_o hq hki hne hot hra pcsI_tkn_o (by omega) hp hpu hr (by omega) (by omega) (by omega) (by omega) (by omega) (by omega) (by omega) (by omega)) (fun oc G2 h => by rcases h with ⟨_, _, _, _, _, _, _, _, _, _, h, _⟩ <;> exact ⟨_, h⟩) (by omega) m_OM_isOfOneMind ml_OM_43 im_OM_isOfOneMind se_OM_isOfOneMind c_OM ha.2.2 (Nat.le_of_ble_eq_true rfl) d_OM_suits_10 rfl ?_
      intro v G34 hq
      rcases hq with ⟨o35, dp236, st237, SK238, SE239, CL240, n241, c242, P243, v44, hv, hfk, hNa, hNse__o, hNcle_o, hNstk_o, pNcsI_tkn_o, hq45, hq46, hq47, hq48, hq49, hq50, hq51⟩
      cases hv
      have hq := hfk.get hq (by simp only [List.mem_cons, List.not_mem_nil, or_false]; omega)
      have hki := hfk.get hki (by simp only [List.mem_cons, List.not_mem_nil, or_false]; omega)
      have hne := hfk.get hne (by simp only [List.mem_cons, List.not_mem_nil, or_false]; omega)
      have hot := hfk.get hot (by simp only [List.mem_cons, List.not_mem_nil, or_false]; omega)
      have hra := hfk.get hra (by simp only [List.mem_cons, List.not_mem_nil, or_false]; omega)
      have hwk_o := hfk.get hwk_o (by decide)
      have honw_o := hfk.get honw_o (by decide)
      have pcsI_tkn_o := pNcsI_tkn_o
      have hfr := hfr.tr hfk (by simp)
      have hq52 := hfk.1
      have ha := hNa
      have hse__o := hNse__o
      have hcle_o := hNcle_o
      have hstk_o := hNstk_o
      change ab_W _ _ _ G34 13 [some (vR a), some (vR q)] [vz v44, vR q] _
      refine zz_if_eq (tgt := 20) d_OM_suits_13 (by decide) (by omega) (fun c53 => ?_) (fun c53 => ?_)
      · refine zz_iconst d_OM_suits_20 ?_
        refine ab_putf (fs := [vR ki, vR ne, vR ot, vz cnt, vz fi, vz la, vR ra, vz ru, vz gr, vz wi, vz sz, vz fl, vz ve, vz mi, vR na, vR nl]) f_OM_37 (Or.inl rfl) d_OM_suits_21 hq.2.2 (Nat.le_of_ble_eq_true rfl) (fun _ => ⟨rfl, rfl⟩) (hq.2.1 (by first | omega | exact (show 18 ≤ _ by omega))) ?_
        obtain ⟨G54, eG54⟩ : ∃ z : ab_G, z = List.set G34 q (ab_ob 5 [vR ki, vR ne, vR ot, vz cnt, vz fi, vz la, vR ra, vz ru, vz gr, vz wi, vz sz, vz fl, vz ve, vz 2, vR na, vR nl]) := ⟨_, rfl⟩
        have hki := hki.keep hq eG54 (by omega)
        have hne := hne.keep hq eG54 (by omega)
        have hot := hot.keep hq eG54 (by omega)
        have hra := hra.keep hq eG54 (by omega)
        have ha := ha.keep hq eG54 (by omega)
        have hwk_o := hwk_o.keep hq eG54 (by omega)
        have honw_o := honw_o.keep hq eG54 (by omega)
        have hse__o := hse__o.keep hq eG54 (by omega)
        have hcle_o := hcle_o.keep hq eG54 (by omega)
        have hstk_o := hstk_o.keep hq eG54 (by omega)
        have hst := (fx.rf (o := o35) (S := [lq]) (G := G34)).wr hq eG54 (List.mem_singleton.mpr rfl)
        have pcsI_tkn_o := csI.fr hst pcsI_tkn_o (by simp only [List.mem_cons, List.not_mem_nil, or_false]; omega) (by simp only [List.mem_cons, List.not_mem_nil, or_false]; omega)
        have hq55 := z_len eG54
        have hq56 := z_sl hq eG54 rfl
        have hfr := hfr.wr hq eG54 (by simp)
        have hq := hq.kept eG54
        change ab_W _ _ _ (List.set G34 q (ab_ob 5 [vR ki, vR ne, vR ot, vz cnt, vz fi, vz la, vR ra, vz ru, vz gr, vz wi, vz sz, vz fl, vz ve, vz 2, vR na, vR nl])) 24 [some (vR a), some (vR q)] [] _
        rw [← eG54]
        have pomI_a : omI o35 G54 a 808 n241 st237 := ⟨wk_o, onw_o, tkn_o, se__o, cle_o, stk_o, dp236, fo_o, chn_o, hw_o, fy_o, WK_o, ON_o, SK238, sp0_o, vR q, s0_o, SE239, CL240, c242, P243, 809, ha, hwk_o, honw_o, hse__o, hcle_o, hstk_o, pcsI_tkn_o, (Or.inr ⟨rfl, rfl⟩), (by omega), (by omega)⟩
        have hmq : onq 2 808 := fun _ => rfl
        refine ab_aload_n d_OM_suits_24 rfl ?_
        refine ab_getf (fs := [vR ki, vR ne, vR ot, vz cnt, vz fi, vz la, vR ra, vz ru, vz gr, vz wi, vz sz, vz fl, vz ve, vz 2, vR na, vR nl]) f_OM_37 d_OM_suits_25 hq.2.2 rfl ?_
        refine zz_iconst d_OM_suits_28 ?_
        refine zz_icmp_ne (tgt := 36) d_OM_suits_29 (by decide) (by decide) (by decide) (fun c57 => ?_) (fun c57 => absurd c57 (by decide))
        refine zz_iconst d_OM_suits_36 ?_
        refine zz_bret rfl (by decide) d_OM_suits_37 ?_
        rw [hQ]; exact (Or.inl ⟨_, _, _, _, _, rfl, hfr, hq, hki, hne, hot, hra, pomI_a, (by omega), (by exact fun h => absurd h (by decide)), (by exact hmq), (by exact momc_0 (by decide)), (by omega), (by omega), (by unfold onL; omega), (by omega)⟩)
      · refine zz_iconst d_OM_suits_16 ?_
        refine ab_goto (tgt := 21) d_OM_suits_17 (by decide) ?_
        refine ab_putf (fs := [vR ki, vR ne, vR ot, vz cnt, vz fi, vz la, vR ra, vz ru, vz gr, vz wi, vz sz, vz fl, vz ve, vz mi, vR na, vR nl]) f_OM_37 (Or.inl rfl) d_OM_suits_21 hq.2.2 (Nat.le_of_ble_eq_true rfl) (fun _ => ⟨rfl, rfl⟩) (hq.2.1 (by first | omega | exact (show 18 ≤ _ by omega))) ?_
        obtain ⟨G58, eG58⟩ : ∃ z : ab_G, z = List.set G34 q (ab_ob 5 [vR ki, vR ne, vR ot, vz cnt, vz fi, vz la, vR ra, vz ru, vz gr, vz wi, vz sz, vz fl, vz ve, vz 1, vR na, vR nl]) := ⟨_, rfl⟩
        have hki := hki.keep hq eG58 (by omega)
        have hne := hne.keep hq eG58 (by omega)
        have hot := hot.keep hq eG58 (by omega)
        have hra := hra.keep hq eG58 (by omega)
        have ha := ha.keep hq eG58 (by omega)
        have hwk_o := hwk_o.keep hq eG58 (by omega)
        have honw_o := honw_o.keep hq eG58 (by omega)
        have hse__o := hse__o.keep hq eG58 (by omega)
        have hcle_o := hcle_o.keep hq eG58 (by omega)
        have hstk_o := hstk_o.keep hq eG58 (by omega)
        have hst := (fx.rf (o := o35) (S := [lq]) (G := G34)).wr hq eG58 (List.mem_singleton.mpr rfl)
        have pcsI_tkn_o := csI.fr hst pcsI_tkn_o (by simp only [List.mem_cons, List.not_mem_nil, or_false]; omega) (by simp only [List.mem_cons, List.not_mem_nil, or_false]; omega)
        have hq59 := z_len eG58
        have hq60 := z_sl hq eG58 rfl
        have hfr := hfr.wr hq eG58 (by simp)
        have hq := hq.kept eG58
        change ab_W _ _ _ (List.set G34 q (ab_ob 5 [vR ki, vR ne, vR ot, vz cnt, vz fi, vz la, vR ra, vz ru, vz gr, vz wi, vz sz, vz fl, vz ve, vz 1, vR na, vR nl])) 24 [some (vR a), some (vR q)] [] _
        rw [← eG58]
        have pomI_a : omI o35 G58 a 808 n241 st237 := ⟨wk_o, onw_o, tkn_o, se__o, cle_o, stk_o, dp236, fo_o, chn_o, hw_o, fy_o, WK_o, ON_o, SK238, sp0_o, vR q, s0_o, SE239, CL240, c242, P243, 809, ha, hwk_o, honw_o, hse__o, hcle_o, hstk_o, pcsI_tkn_o, (Or.inr ⟨rfl, rfl⟩), (by omega), (by omega)⟩
        have hmq : onq 1 808 := fun _ => rfl
        refine ab_aload_n d_OM_suits_24 rfl ?_
        refine ab_getf (fs := [vR ki, vR ne, vR ot, vz cnt, vz fi, vz la, vR ra, vz ru, vz gr, vz wi, vz sz, vz fl, vz ve, vz 1, vR na, vR nl]) f_OM_37 d_OM_suits_25 hq.2.2 rfl ?_
        refine zz_iconst d_OM_suits_28 ?_
        refine zz_icmp_ne (tgt := 36) d_OM_suits_29 (by decide) (by decide) (by decide) (fun c61 => absurd c61 (by decide)) (fun c61 => ?_)
        refine zz_iconst d_OM_suits_32 ?_
        refine ab_goto (tgt := 37) d_OM_suits_33 (by decide) ?_
        refine zz_bret rfl (by decide) d_OM_suits_37 ?_
        rw [hQ]; exact (Or.inr ⟨_, _, _, _, _, rfl, hfr, hq, hki, hne, hot, hra, pomI_a, (by omega), (by exact fun _ => hq49 (by omega)), (by exact hmq), (by exact fun _ => hq50 (by omega)), (by omega), (by omega), (by unfold onL; omega), (by omega), (by exact hq49 (by omega)), (by rfl), (by exact hq50 (by omega))⟩)
