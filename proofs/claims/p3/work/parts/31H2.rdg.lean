set_option maxRecDepth 100000 in
set_option maxHeartbeats 4000000 in
theorem y_PA_closeRows_5 {X : ab_X} {d : Nat} {Q : Outcome → ab_G → Prop} {o : Nat → Nat} {G0 : ab_G} {k : Int} {v : Int} {rg : Value} {pl : Int} {fl : Int} {ou : Value} {ls : Value} {bf : Value} {oe : Int} {le : Int} {mo : Int} {la : Int} {rc : Int} {ps : Nat → Nat} {wt : Nat → Nat} {bs : Nat} {ph : Int} {gr : Int} {Pr : Int → Prop} {p : Nat} {cu : Nat → Int} {s9 : Int} (n18 : ab_n0 = 18) (hpp : ps p = 90) (hn : paN gr Pr k v rc) (ho : plk ps 90 p ou) (hl : plk ps 94 G0.length ls) (hf : plk ps 90 p bf) (hrq : rqs ps cu G0) (hc0 : ∀ a, 0 ≤ cu a) (hd : 1 ≤ d) : ∀ (mz : Nat) {G : ab_G} {rw : Value} {hb_ : Nat} {sz : Int} {mb : Int}, (cc o G p 90 (ab_ob 4 [vz k, vz v, rg, vz pl, vz fl, ou, ls, bf, vz sz, vz mb, vz oe, vz le, vz mo, vz la, vz rc])) → (paI o G 0 ps wt bs gr Pr ph) → ((-1 ≤ pl ∧ pl ≤ 2100) ∧ (0 ≤ fl ∧ fl ≤ 31) ∧ (0 ≤ sz ∧ sz ≤ 1000000) ∧ (0 ≤ mb ∧ mb ≤ 1) ∧ (0 ≤ oe ∧ oe ≤ 1) ∧ (0 ≤ le ∧ le ≤ 1000) ∧ (0 ≤ mo ∧ mo ≤ 1000) ∧ (0 ≤ la ∧ la ≤ 1)) → (plk ps 94 hb_ rw) → (fz ps [p] G0 G) → (ceq (sz + lvc cu rw) s9) → (fx o o [90] G0 G) → (G.length = G0.length) → (ab_slots G = ab_slots G0) → (Int.toNat (↑hb_ : Int) < mz) → (∀ (G2 : ab_G) (sz2 : Int) (mb2 : Int), (cc o G2 p 90 (ab_ob 4 [vz k, vz v, rg, vz pl, vz fl, ou, ls, bf, vz sz2, vz mb2, vz oe, vz le, vz mo, vz la, vz rc])) → (paI o G2 0 ps wt bs gr Pr ph) → ((0 ≤ sz2 ∧ sz2 ≤ 1000000) ∧ (0 ≤ mb2 ∧ mb2 ≤ 1)) → (fz ps [p] G0 G2) → (ceq sz2 s9) → (fx o o [90] G0 G2) → (G2.length = G0.length) → (ab_slots G2 = ab_slots G0) → Q (.returned none) G2) → ab_W X (ab_pl y_PA_closeRows b_PA_closeRows 3 none) d G 5 [some (vR p), some (rw), none] [] Q := by
  intro mz
  induction mz with
  | zero => intro G rw hb_ sz mb hp ppaI_0 cb hrw hfz hcq hfr hlen hsl hm hk0; exact absurd hm (Nat.not_lt_zero _)
  | succ mz ih =>
    intro G rw hb_ sz mb hp ppaI_0 cb hrw hfz hcq hfr hlen hsl hm hk0
    rcases hrw with hz2 | ⟨b1, hz2, hp3, hl4⟩
    · subst hz2
      change ab_W _ _ _ G 5 [some (vR p), some (vN), none] [] _
      refine ab_aload_nN d_PA_closeRows_5 rfl ?_
      refine ab_ifnullN (tgt := 63) d_PA_closeRows_6 (by decide) ?_
      refine ab_vret rfl d_PA_closeRows_63 ?_
      exact hk0 _ _ _ hp ppaI_0 (by omega) (by exact hfz) (by exact cq_end hcq) hfr hlen hsl
    · subst hz2
      change ab_W _ _ _ G 5 [some (vR p), some (vR b1), none] [] _
      refine ab_aload_n d_PA_closeRows_5 rfl ?_
      refine ab_ifnull d_PA_closeRows_6 ?_
      refine ab_aload_n d_PA_closeRows_9 rfl ?_
      obtain ⟨ls5, bf5, sz5, mb5, hb1, hB5, hl5, hf5⟩ := ppaI_0.2.1 b1 hp3
      have hcu_ := (hrq.same hfz (by intro a ha; rw [List.mem_singleton.mp ha]; exact hpp)).at hp3 hb1 (by omega)
      refine ab_getf (fs := [vz 5, vz 0, vN, vz (-1), vz 0, vN, ls5, bf5, vz sz5, vz mb5, vz 0, vz 0, vz 0, vz 0, vz (-1)]) f_PA_35 d_PA_closeRows_10 hb1.2.2 rfl ?_
      change ab_W _ _ _ G 13 [some (vR p), some (vR b1), none] [bf5] _
      rcases hf5 with hz7 | ⟨b6, hz7, hp8, hl9⟩
      · subst hz7
        change ab_W _ _ _ G 13 [some (vR p), some (vR b1), none] [vN] _
        refine ab_ifnonnullN d_PA_closeRows_13 ?_
        refine zz_iconst d_PA_closeRows_16 ?_
        refine ab_goto (tgt := 21) d_PA_closeRows_17 (by decide) ?_
        refine ab_istore_n d_PA_closeRows_21 (Nat.le_of_ble_eq_true rfl) (Nat.le_of_ble_eq_true rfl) rfl ?_
        change ab_W _ _ _ G 22 [some (vR p), some (vR b1), some (vz 0)] [] _
        refine ab_aload_n d_PA_closeRows_22 rfl ?_
        refine zz_ldc 1000000 d_PA_closeRows_23 cn_PA_42 (by decide) ?_
        refine ab_aload_n d_PA_closeRows_25 rfl ?_
        refine ab_getf (fs := [vz k, vz v, rg, vz pl, vz fl, ou, ls, bf, vz sz, vz mb, vz oe, vz le, vz mo, vz la, vz rc]) f_PA_24 d_PA_closeRows_26 hp.2.2 rfl ?_
        refine ab_aload_n d_PA_closeRows_29 rfl ?_
        refine ab_getf (fs := [vz 5, vz 0, vN, vz (-1), vz 0, vN, ls5, vN, vz sz5, vz mb5, vz 0, vz 0, vz 0, vz 0, vz (-1)]) f_PA_24 d_PA_closeRows_30 hb1.2.2 rfl ?_
        refine zz_iadd d_PA_closeRows_33 ?_
        refine ab_iload_n d_PA_closeRows_34 rfl ?_
        refine zz_iadd d_PA_closeRows_35 ?_
        refine zz_mmin mj_PA_43 d_PA_closeRows_36 (by decide) (by omega) (Nat.le_of_ble_eq_true rfl) (by omega) ?_
        obtain ⟨v10, hv10⟩ : ∃ z : Int, z = (min 1000000 ((sz + sz5) + 0)) := ⟨_, rfl⟩
        rw [← hv10]
        have hv10 : (1000000 ≤ ((sz + sz5) + 0) ∧ v10 = 1000000) ∨ (((sz + sz5) + 0) < 1000000 ∧ v10 = ((sz + sz5) + 0)) := by omega
        change ab_W _ _ _ G 39 [some (vR p), some (vR b1), some (vz 0)] [vz v10, vR p] _
        refine ab_putf (fs := [vz k, vz v, rg, vz pl, vz fl, ou, ls, bf, vz sz, vz mb, vz oe, vz le, vz mo, vz la, vz rc]) f_PA_24 (Or.inl rfl) d_PA_closeRows_39 hp.2.2 (Nat.le_of_ble_eq_true rfl) (fun _ => ⟨rfl, rfl⟩) (hp.2.1 (by decide)) ?_
        obtain ⟨G11, eG11⟩ : ∃ z : ab_G, z = List.set G p (ab_ob 4 [vz k, vz v, rg, vz pl, vz fl, ou, ls, bf, vz v10, vz mb, vz oe, vz le, vz mo, vz la, vz rc]) := ⟨_, rfl⟩
        have hb1 := hb1.keep hp eG11 (by decide)
        have hfz := hfz.wr eG11 (by simp)
        have hst := (fx.rf (o := o) (S := [90]) (G := G)).wr hp eG11 (List.mem_singleton.mpr rfl)
        have ppaI_0 := ppaI_0.w90 hpp hp hn eG11 (by unfold pnB; omega) (ho.up (by omega)) (hl.up (by omega)) (hf.up (by omega))
        have hlen := (z_len eG11).trans hlen
        have hsl := (z_sl hp eG11 rfl).trans hsl
        have hfr := hfr.wr hp eG11 (by decide)
        have hp := hp.kept eG11
        change ab_W _ _ _ (List.set G p (ab_ob 4 [vz k, vz v, rg, vz pl, vz fl, ou, ls, bf, vz v10, vz mb, vz oe, vz le, vz mo, vz la, vz rc])) 42 [some (vR p), some (vR b1), some (vz 0)] [] _
        rw [← eG11]
        refine ab_aload_n d_PA_closeRows_42 rfl ?_
        refine ab_dup d_PA_closeRows_43 rfl ?_
        refine ab_getf (fs := [vz k, vz v, rg, vz pl, vz fl, ou, ls, bf, vz v10, vz mb, vz oe, vz le, vz mo, vz la, vz rc]) f_PA_27 d_PA_closeRows_44 hp.2.2 rfl ?_
        refine ab_aload_n d_PA_closeRows_47 rfl ?_
        refine ab_getf (fs := [vz 5, vz 0, vN, vz (-1), vz 0, vN, ls5, vN, vz sz5, vz mb5, vz 0, vz 0, vz 0, vz 0, vz (-1)]) f_PA_27 d_PA_closeRows_48 hb1.2.2 rfl ?_
        refine zz_ior01 d_PA_closeRows_51 (by omega) (by omega) ?_
        obtain ⟨v12, hv12⟩ : ∃ z : Int, z = (max mb mb5) := ⟨_, rfl⟩
        rw [← hv12]
        have hv12b : v12 = 0 ∨ v12 = 1 := by omega
        change ab_W _ _ _ G11 52 [some (vR p), some (vR b1), some (vz 0)] [vz v12, vR p] _
        refine ab_putf (fs := [vz k, vz v, rg, vz pl, vz fl, ou, ls, bf, vz v10, vz mb, vz oe, vz le, vz mo, vz la, vz rc]) f_PA_27 (Or.inl rfl) d_PA_closeRows_52 hp.2.2 (Nat.le_of_ble_eq_true rfl) (ab_fbz (by omega)) (hp.2.1 (by decide)) ?_
        obtain ⟨G13, eG13⟩ : ∃ z : ab_G, z = List.set G11 p (ab_ob 4 [vz k, vz v, rg, vz pl, vz fl, ou, ls, bf, vz v10, vz v12, vz oe, vz le, vz mo, vz la, vz rc]) := ⟨_, rfl⟩
        have hb1 := hb1.keep hp eG13 (by decide)
        have hfz := hfz.wr eG13 (by simp)
        have hst := (fx.rf (o := o) (S := [90]) (G := G11)).wr hp eG13 (List.mem_singleton.mpr rfl)
        have ppaI_0 := ppaI_0.w90 hpp hp hn eG13 (by unfold pnB; omega) (ho.up (by omega)) (hl.up (by omega)) (hf.up (by omega))
        have hlen := (z_len eG13).trans hlen
        have hsl := (z_sl hp eG13 rfl).trans hsl
        have hfr := hfr.wr hp eG13 (by decide)
        have hp := hp.kept eG13
        change ab_W _ _ _ (List.set G11 p (ab_ob 4 [vz k, vz v, rg, vz pl, vz fl, ou, ls, bf, vz v10, vz v12, vz oe, vz le, vz mo, vz la, vz rc])) 55 [some (vR p), some (vR b1), some (vz 0)] [] _
        rw [← eG13]
        refine ab_aload_n d_PA_closeRows_55 rfl ?_
        refine ab_getf (fs := [vz 5, vz 0, vN, vz (-1), vz 0, vN, ls5, vN, vz sz5, vz mb5, vz 0, vz 0, vz 0, vz 0, vz (-1)]) f_PA_35 d_PA_closeRows_56 hb1.2.2 rfl ?_
        refine ab_astore_nN d_PA_closeRows_59 (Nat.le_of_ble_eq_true rfl) (Nat.le_of_ble_eq_true rfl) rfl ?_
        change ab_W _ _ _ G13 60 [some (vR p), some (vN), some (vz 0)] [] _
        refine ab_goto (tgt := 5) d_PA_closeRows_60 (by decide) ?_
        refine ab_less (L' := [some (vR p), some (vN), none]) (fun i v h => by rcases i with _ | _ | _ | i <;> first | exact h | (simp at h)) ?_
        exact ih (rw := vN) (hb_ := b1) (sz := v10) (mb := v12) hp ppaI_0 (by omega) (Or.inl rfl) hfz (cq_step hcq (by have e3 : lvc cu (vR b1) = cu b1 := rfl; have e1 : lvb cu vN = 0 := rfl; have e2 : lvc cu vN = 0 := rfl; omega)) hfr hlen hsl (by omega) hk0
      · subst hz7
        change ab_W _ _ _ G 13 [some (vR p), some (vR b1), none] [vR b6] _
        refine ab_ifnonnull (tgt := 20) d_PA_closeRows_13 (by decide) ?_
        refine zz_iconst d_PA_closeRows_20 ?_
        refine ab_istore_n d_PA_closeRows_21 (Nat.le_of_ble_eq_true rfl) (Nat.le_of_ble_eq_true rfl) rfl ?_
        change ab_W _ _ _ G 22 [some (vR p), some (vR b1), some (vz 1)] [] _
        refine ab_aload_n d_PA_closeRows_22 rfl ?_
        refine zz_ldc 1000000 d_PA_closeRows_23 cn_PA_42 (by decide) ?_
        refine ab_aload_n d_PA_closeRows_25 rfl ?_
        refine ab_getf (fs := [vz k, vz v, rg, vz pl, vz fl, ou, ls, bf, vz sz, vz mb, vz oe, vz le, vz mo, vz la, vz rc]) f_PA_24 d_PA_closeRows_26 hp.2.2 rfl ?_
        refine ab_aload_n d_PA_closeRows_29 rfl ?_
        refine ab_getf (fs := [vz 5, vz 0, vN, vz (-1), vz 0, vN, ls5, vR b6, vz sz5, vz mb5, vz 0, vz 0, vz 0, vz 0, vz (-1)]) f_PA_24 d_PA_closeRows_30 hb1.2.2 rfl ?_
        refine zz_iadd d_PA_closeRows_33 ?_
        refine ab_iload_n d_PA_closeRows_34 rfl ?_
        refine zz_iadd d_PA_closeRows_35 ?_
        refine zz_mmin mj_PA_43 d_PA_closeRows_36 (by decide) (by omega) (Nat.le_of_ble_eq_true rfl) (by omega) ?_
        obtain ⟨v14, hv14⟩ : ∃ z : Int, z = (min 1000000 ((sz + sz5) + 1)) := ⟨_, rfl⟩
        rw [← hv14]
        have hv14 : (1000000 ≤ ((sz + sz5) + 1) ∧ v14 = 1000000) ∨ (((sz + sz5) + 1) < 1000000 ∧ v14 = ((sz + sz5) + 1)) := by omega
        change ab_W _ _ _ G 39 [some (vR p), some (vR b1), some (vz 1)] [vz v14, vR p] _
        refine ab_putf (fs := [vz k, vz v, rg, vz pl, vz fl, ou, ls, bf, vz sz, vz mb, vz oe, vz le, vz mo, vz la, vz rc]) f_PA_24 (Or.inl rfl) d_PA_closeRows_39 hp.2.2 (Nat.le_of_ble_eq_true rfl) (fun _ => ⟨rfl, rfl⟩) (hp.2.1 (by decide)) ?_
        obtain ⟨G15, eG15⟩ : ∃ z : ab_G, z = List.set G p (ab_ob 4 [vz k, vz v, rg, vz pl, vz fl, ou, ls, bf, vz v14, vz mb, vz oe, vz le, vz mo, vz la, vz rc]) := ⟨_, rfl⟩
        have hb1 := hb1.keep hp eG15 (by decide)
        have hfz := hfz.wr eG15 (by simp)
        have hst := (fx.rf (o := o) (S := [90]) (G := G)).wr hp eG15 (List.mem_singleton.mpr rfl)
        have ppaI_0 := ppaI_0.w90 hpp hp hn eG15 (by unfold pnB; omega) (ho.up (by omega)) (hl.up (by omega)) (hf.up (by omega))
        have hlen := (z_len eG15).trans hlen
        have hsl := (z_sl hp eG15 rfl).trans hsl
        have hfr := hfr.wr hp eG15 (by decide)
        have hp := hp.kept eG15
        change ab_W _ _ _ (List.set G p (ab_ob 4 [vz k, vz v, rg, vz pl, vz fl, ou, ls, bf, vz v14, vz mb, vz oe, vz le, vz mo, vz la, vz rc])) 42 [some (vR p), some (vR b1), some (vz 1)] [] _
        rw [← eG15]
        refine ab_aload_n d_PA_closeRows_42 rfl ?_
        refine ab_dup d_PA_closeRows_43 rfl ?_
        refine ab_getf (fs := [vz k, vz v, rg, vz pl, vz fl, ou, ls, bf, vz v14, vz mb, vz oe, vz le, vz mo, vz la, vz rc]) f_PA_27 d_PA_closeRows_44 hp.2.2 rfl ?_
        refine ab_aload_n d_PA_closeRows_47 rfl ?_
        refine ab_getf (fs := [vz 5, vz 0, vN, vz (-1), vz 0, vN, ls5, vR b6, vz sz5, vz mb5, vz 0, vz 0, vz 0, vz 0, vz (-1)]) f_PA_27 d_PA_closeRows_48 hb1.2.2 rfl ?_
        refine zz_ior01 d_PA_closeRows_51 (by omega) (by omega) ?_
        obtain ⟨v16, hv16⟩ : ∃ z : Int, z = (max mb mb5) := ⟨_, rfl⟩
        rw [← hv16]
        have hv16b : v16 = 0 ∨ v16 = 1 := by omega
        change ab_W _ _ _ G15 52 [some (vR p), some (vR b1), some (vz 1)] [vz v16, vR p] _
        refine ab_putf (fs := [vz k, vz v, rg, vz pl, vz fl, ou, ls, bf, vz v14, vz mb, vz oe, vz le, vz mo, vz la, vz rc]) f_PA_27 (Or.inl rfl) d_PA_closeRows_52 hp.2.2 (Nat.le_of_ble_eq_true rfl) (ab_fbz (by omega)) (hp.2.1 (by decide)) ?_
        obtain ⟨G17, eG17⟩ : ∃ z : ab_G, z = List.set G15 p (ab_ob 4 [vz k, vz v, rg, vz pl, vz fl, ou, ls, bf, vz v14, vz v16, vz oe, vz le, vz mo, vz la, vz rc]) := ⟨_, rfl⟩
        have hb1 := hb1.keep hp eG17 (by decide)
        have hfz := hfz.wr eG17 (by simp)
        have hst := (fx.rf (o := o) (S := [90]) (G := G15)).wr hp eG17 (List.mem_singleton.mpr rfl)
        have ppaI_0 := ppaI_0.w90 hpp hp hn eG17 (by unfold pnB; omega) (ho.up (by omega)) (hl.up (by omega)) (hf.up (by omega))
        have hlen := (z_len eG17).trans hlen
        have hsl := (z_sl hp eG17 rfl).trans hsl
        have hfr := hfr.wr hp eG17 (by decide)
        have hp := hp.kept eG17
        change ab_W _ _ _ (List.set G15 p (ab_ob 4 [vz k, vz v, rg, vz pl, vz fl, ou, ls, bf, vz v14, vz v16, vz oe, vz le, vz mo, vz la, vz rc])) 55 [some (vR p), some (vR b1), some (vz 1)] [] _
        rw [← eG17]
        refine ab_aload_n d_PA_closeRows_55 rfl ?_
        refine ab_getf (fs := [vz 5, vz 0, vN, vz (-1), vz 0, vN, ls5, vR b6, vz sz5, vz mb5, vz 0, vz 0, vz 0, vz 0, vz (-1)]) f_PA_35 d_PA_closeRows_56 hb1.2.2 rfl ?_
        refine ab_astore_n d_PA_closeRows_59 (Nat.le_of_ble_eq_true rfl) (Nat.le_of_ble_eq_true rfl) rfl ?_
        change ab_W _ _ _ G17 60 [some (vR p), some (vR b6), some (vz 1)] [] _
        refine ab_goto (tgt := 5) d_PA_closeRows_60 (by decide) ?_
        refine ab_less (L' := [some (vR p), some (vR b6), none]) (fun i v h => by rcases i with _ | _ | _ | i <;> first | exact h | (simp at h)) ?_
        exact ih (rw := vR b6) (hb_ := b1) (sz := v14) (mb := v16) hp ppaI_0 (by omega) (Or.inr ⟨_, rfl, hp8, by omega⟩) hfz (cq_step hcq (by have e3 : lvc cu (vR b1) = cu b1 := rfl; have e1 : lvb cu (vR b6) = 1 + cu b6 := rfl; have e2 : lvc cu (vR b6) = cu b6 := rfl; have e4 := hc0 b6; omega)) hfr hlen hsl (by omega) hk0
set_option maxRecDepth 100000 in
set_option maxHeartbeats 4000000 in
theorem z_PA_closeRows {X : ab_X} {d : Nat} {o : Nat → Nat} {G : ab_G} {k : Int} {v : Int} {rg : Value} {pl : Int} {fl : Int} {ou : Value} {ls : Value} {bf : Value} {sz : Int} {mb : Int} {oe : Int} {le : Int} {mo : Int} {la : Int} {rc : Int} {ps : Nat → Nat} {wt : Nat → Nat} {bs : Nat} {ph : Int} {gr : Int} {Pr : Int → Prop} {p : Nat} {cu : Nat → Int} (hp : cc o G p 90 (ab_ob 4 [vz k, vz v, rg, vz pl, vz fl, ou, ls, bf, vz sz, vz mb, vz oe, vz le, vz mo, vz la, vz rc])) (ppaI_0 : paI o G 0 ps wt bs gr Pr ph) (n18 : ab_n0 = 18) (hpp : ps p = 90) (hn : paN gr Pr k v rc) (cb : (-1 ≤ pl ∧ pl ≤ 2100) ∧ (0 ≤ fl ∧ fl ≤ 31) ∧ (0 ≤ sz ∧ sz ≤ 1000000) ∧ (0 ≤ mb ∧ mb ≤ 1) ∧ (0 ≤ oe ∧ oe ≤ 1) ∧ (0 ≤ le ∧ le ≤ 1000) ∧ (0 ≤ mo ∧ mo ≤ 1000) ∧ (0 ≤ la ∧ la ≤ 1)) (ho : plk ps 90 p ou) (hl : plk ps 94 G.length ls) (hf : plk ps 90 p bf) (hrq : rqs ps cu G) (hc0 : ∀ a, 0 ≤ cu a) (hd : 2 ≤ d) : ab_F X d y_PA_closeRows (.code y_PA_closeRows b_PA_closeRows 3 none) [vR p] G (fun oc G2 => ∃ sz2 : Int, ∃ mb2 : Int, oc = .returned none ∧ fx o o [90] G G2 ∧ G2.length = G.length ∧ ab_slots G2 = ab_slots G ∧ cc o G2 p 90 (ab_ob 4 [vz k, vz v, rg, vz pl, vz fl, ou, ls, bf, vz sz2, vz mb2, vz oe, vz le, vz mo, vz la, vz rc]) ∧ paI o G2 0 ps wt bs gr Pr ph ∧ ((0 ≤ sz2 ∧ sz2 ≤ 1000000) ∧ (0 ≤ mb2 ∧ mb2 ≤ 1)) ∧ (fz ps [p] G G2) ∧ (ceq sz2 (sz + lvc cu ls))) := by
  refine ab_F_of (by decide +kernel) (Nat.le_of_ble_eq_true rfl) ?_
  obtain ⟨Q, hQ⟩ : ∃ z : Outcome → ab_G → Prop, z = (fun oc G2 => ∃ sz2 : Int, ∃ mb2 : Int, oc = .returned none ∧ fx o o [90] G G2 ∧ G2.length = G.length ∧ ab_slots G2 = ab_slots G ∧ cc o G2 p 90 (ab_ob 4 [vz k, vz v, rg, vz pl, vz fl, ou, ls, bf, vz sz2, vz mb2, vz oe, vz le, vz mo, vz la, vz rc]) ∧ paI o G2 0 ps wt bs gr Pr ph ∧ ((0 ≤ sz2 ∧ sz2 ≤ 1000000) ∧ (0 ≤ mb2 ∧ mb2 ≤ 1)) ∧ (fz ps [p] G G2) ∧ (ceq sz2 (sz + lvc cu ls))) := ⟨_, rfl⟩
  rw [← hQ]
  change ab_W X (ab_pl y_PA_closeRows b_PA_closeRows 3 none) d G 0 [some (vR p), none, none] [] Q
  have hfr : fx o o [90] G G := fx.rf
  have hlen : G.length = G.length := rfl
  have hsl : ab_slots G = ab_slots G := rfl
  have hfz : fz ps [p] G G := fz.rf
  refine ab_aload_n d_PA_closeRows_0 rfl ?_
  refine ab_getf (fs := [vz k, vz v, rg, vz pl, vz fl, ou, ls, bf, vz sz, vz mb, vz oe, vz le, vz mo, vz la, vz rc]) f_PA_31 d_PA_closeRows_1 hp.2.2 rfl ?_
  change ab_W _ _ _ G 4 [some (vR p), none, none] [ls] _
  rcases hl with hz2 | ⟨b1, hz2, hp3, hl4⟩
  · subst hz2
    change ab_W _ _ _ G 4 [some (vR p), none, none] [vN] _
    refine ab_astore_nN d_PA_closeRows_4 (Nat.le_of_ble_eq_true rfl) (Nat.le_of_ble_eq_true rfl) rfl ?_
    change ab_W _ _ _ G 5 [some (vR p), some (vN), none] [] _
    refine y_PA_closeRows_5 (k := k) (v := v) (rg := rg) (pl := pl) (fl := fl) (ou := ou) (ls := vN) (bf := bf) (oe := oe) (le := le) (mo := mo) (la := la) (rc := rc) (ps := ps) (wt := wt) (bs := bs) (ph := ph) (gr := gr) (Pr := Pr) (p := p) (cu := cu) (s9 := (sz + lvc cu (vN))) (G0 := G) (rw := vN) (hb_ := G.length) (sz := sz) (mb := mb) (by omega) hpp hn (ho.up (by omega)) (Or.inl rfl) (hf.up (by omega)) hrq hc0 (by omega) (Int.toNat (↑G.length : Int) + 1) hp ppaI_0 (by omega) (Or.inl rfl) fz.rf ceq.rf fx.rf rfl rfl (by omega) (fun G5 sz26 mb27 hNp pNpaI_0 hq8 hq9 hq10 hfk hlk hsk => ?_)
    · have hfr := hfr.tr hfk (by decide)
      have hlen := hlk.trans hlen
      have hsl := hsk.trans hsl
      have hp := hNp
      have ppaI_0 := pNpaI_0
      rw [hQ]; exact ⟨_, _, rfl, hfr, hlen, hsl, hp, ppaI_0, (by omega), (by exact hq9), (by exact hq10)⟩
  · subst hz2
    change ab_W _ _ _ G 4 [some (vR p), none, none] [vR b1] _
    refine ab_astore_n d_PA_closeRows_4 (Nat.le_of_ble_eq_true rfl) (Nat.le_of_ble_eq_true rfl) rfl ?_
    change ab_W _ _ _ G 5 [some (vR p), some (vR b1), none] [] _
    refine y_PA_closeRows_5 (k := k) (v := v) (rg := rg) (pl := pl) (fl := fl) (ou := ou) (ls := vR b1) (bf := bf) (oe := oe) (le := le) (mo := mo) (la := la) (rc := rc) (ps := ps) (wt := wt) (bs := bs) (ph := ph) (gr := gr) (Pr := Pr) (p := p) (cu := cu) (s9 := (sz + lvc cu (vR b1))) (G0 := G) (rw := vR b1) (hb_ := G.length) (sz := sz) (mb := mb) (by omega) hpp hn (ho.up (by omega)) (Or.inr ⟨_, rfl, hp3, by omega⟩) (hf.up (by omega)) hrq hc0 (by omega) (Int.toNat (↑G.length : Int) + 1) hp ppaI_0 (by omega) (Or.inr ⟨_, rfl, hp3, by omega⟩) fz.rf ceq.rf fx.rf rfl rfl (by omega) (fun G11 sz212 mb213 hNp pNpaI_0 hq14 hq15 hq16 hfk hlk hsk => ?_)
    · have hfr := hfr.tr hfk (by decide)
      have hlen := hlk.trans hlen
      have hsl := hsk.trans hsl
      have hp := hNp
      have ppaI_0 := pNpaI_0
      rw [hQ]; exact ⟨_, _, rfl, hfr, hlen, hsl, hp, ppaI_0, (by omega), (by exact hq15), (by exact hq16)⟩
set_option maxRecDepth 100000 in
set_option maxHeartbeats 4000000 in
theorem za_RD_enter {X : ab_X} {d : Nat} {o : Nat → Nat} {G : ab_G} {d_ : Nat} {inn : Value} {dp : Int} {flg : Int} {grp : Int} {na : Nat} {nl : Nat} {lst : Int} {mst : Int} {bh : Int} {NA : Int → Int} {NL : Int → Int} {x : Nat} {se : Nat} {by_ : Nat} {m : Nat} {n : Int} {pl : Int} {fa : Int} {fp : Int} {kd : Nat} {kn : Int} {ps : Nat → Nat} {wt : Nat → Nat} {bs : Nat} {ph : Int} {k : Nat} {hi : Nat} {wh : Nat} {fr : List Fr} {at_ : Int} {ins : Int} (hd_ : cc o G d_ 25 (ab_ob 6 [vR x, inn, vz dp, vz flg, vz grp, vR na, vR nl, vz lst, vz mst, vz bh])) (hx : cc o G x 24 (ab_ob 10 [vR se, vR by_, vz n, vz pl, vz fa, vz fp, vR kd, vz kn])) (hna : cc o G na 86 (za 10 NA)) (hnl : cc o G nl 87 (za 10 NL)) (ppaI_0 : paI o G 0 ps wt bs grp pr0 ph) (popI_0 : opI o G 0 ps k hi inn) (pszJ_0 : szJ o G 0 ps fr hi inn wh 0 0) (n18 : ab_n0 = 18) (cn_ : 0 ≤ n ∧ n ≤ ↑m ∧ m ≤ 2000) (cf : 0 ≤ flg ∧ flg ≤ 31) (cg : 0 ≤ grp ∧ grp ≤ 9) (ck : 0 ≤ dp ∧ dp ≤ 30 ∧ ↑k = dp + 1 ∧ hi ≤ G.length) (hnm : nmok NA NL grp n) (cbs : bs ≤ G.length ∧ 18 ≤ G.length) (cfa : fa = 0) (hkf : k = fr.length) (ca : 0 ≤ at_ ∧ at_ ≤ 2000 ∧ 0 ≤ ins ∧ ins ≤ 31) (rc : G.length + 9 ≤ ab_n0 + room_1.cells) (rs : ab_slots G + 30 ≤ room_1.slots) (hd : 4 ≤ d) : ab_F X d y_RD_enter (.code y_RD_enter b_RD_enter 6 none) [vR d_, vz at_, vz 1, vz ins, vz 0] G (fun oc G2 => (∃ o2 : Nat → Nat, ∃ fa2 : Int, ∃ fp2 : Int, oc = .returned none ∧ fx o o2 [24, 25, 86, 87, 90, 94] G G2 ∧ cc o2 G2 d_ 25 (ab_ob 6 [vR x, inn, vz dp, vz flg, vz grp, vR na, vR nl, vz lst, vz mst, vz bh]) ∧ cc o2 G2 x 24 (ab_ob 10 [vR se, vR by_, vz n, vz pl, vz fa2, vz fp2, vR kd, vz kn]) ∧ cc o2 G2 na 86 (za 10 NA) ∧ cc o2 G2 nl 87 (za 10 NL) ∧ paI o2 G2 0 ps wt bs grp pr0 ph ∧ opI o2 G2 0 ps k hi inn ∧ szJ o2 G2 0 ps fr hi inn wh 0 0 ∧ (entF dp grp 1 at_ fa2 fp2) ∧ (1 ≤ fa2 ∧ fa2 ≤ 14) ∧ (G2.length = G.length) ∧ (ab_slots G2 = ab_slots G)) ∨ (∃ o2 : Nat → Nat, ∃ inn2 : Value, ∃ k2 : Nat, ∃ hi2 : Nat, ∃ ps2 : Nat → Nat, ∃ wt2 : Nat → Nat, ∃ ph2 : Int, oc = .returned none ∧ fx o o2 [24, 25, 86, 87, 90, 94] G G2 ∧ cc o2 G2 d_ 25 (ab_ob 6 [vR x, inn2, vz (dp + 1), vz ins, vz (grp + 1), vR na, vR nl, vz lst, vz mst, vz bh]) ∧ cc o2 G2 x 24 (ab_ob 10 [vR se, vR by_, vz n, vz pl, vz fa, vz fp, vR kd, vz kn]) ∧ cc o2 G2 na 86 (za 10 (zu NA (grp + 1) 0)) ∧ cc o2 G2 nl 87 (za 10 (zu NL (grp + 1) 0)) ∧ paI o2 G2 0 ps2 wt2 bs (grp + 1) pr0 ph2 ∧ opI o2 G2 0 ps2 k2 hi2 inn2 ∧ szJ o2 G2 0 ps2 ((at_, flg, (grp + 1), 0, 0) :: fr) hi2 inn2 wh 0 0 ∧ (dp < 30 ∧ grp < 9) ∧ (k2 = k + 1) ∧ (nmok (zu NA (grp + 1) 0) (zu NL (grp + 1) 0) (grp + 1) n) ∧ (hi2 ≤ G2.length) ∧ (psx ps ps2 G.length) ∧ (ph2 ≤ ph) ∧ (G2.length ≤ G.length + 2) ∧ (ab_slots G2 ≤ ab_slots G + 30))) := by
  refine ab_F_of (by decide +kernel) (Nat.le_of_ble_eq_true rfl) ?_
  obtain ⟨Q, hQ⟩ : ∃ z : Outcome → ab_G → Prop, z = (fun oc G2 => (∃ o2 : Nat → Nat, ∃ fa2 : Int, ∃ fp2 : Int, oc = .returned none ∧ fx o o2 [24, 25, 86, 87, 90, 94] G G2 ∧ cc o2 G2 d_ 25 (ab_ob 6 [vR x, inn, vz dp, vz flg, vz grp, vR na, vR nl, vz lst, vz mst, vz bh]) ∧ cc o2 G2 x 24 (ab_ob 10 [vR se, vR by_, vz n, vz pl, vz fa2, vz fp2, vR kd, vz kn]) ∧ cc o2 G2 na 86 (za 10 NA) ∧ cc o2 G2 nl 87 (za 10 NL) ∧ paI o2 G2 0 ps wt bs grp pr0 ph ∧ opI o2 G2 0 ps k hi inn ∧ szJ o2 G2 0 ps fr hi inn wh 0 0 ∧ (entF dp grp 1 at_ fa2 fp2) ∧ (1 ≤ fa2 ∧ fa2 ≤ 14) ∧ (G2.length = G.length) ∧ (ab_slots G2 = ab_slots G)) ∨ (∃ o2 : Nat → Nat, ∃ inn2 : Value, ∃ k2 : Nat, ∃ hi2 : Nat, ∃ ps2 : Nat → Nat, ∃ wt2 : Nat → Nat, ∃ ph2 : Int, oc = .returned none ∧ fx o o2 [24, 25, 86, 87, 90, 94] G G2 ∧ cc o2 G2 d_ 25 (ab_ob 6 [vR x, inn2, vz (dp + 1), vz ins, vz (grp + 1), vR na, vR nl, vz lst, vz mst, vz bh]) ∧ cc o2 G2 x 24 (ab_ob 10 [vR se, vR by_, vz n, vz pl, vz fa, vz fp, vR kd, vz kn]) ∧ cc o2 G2 na 86 (za 10 (zu NA (grp + 1) 0)) ∧ cc o2 G2 nl 87 (za 10 (zu NL (grp + 1) 0)) ∧ paI o2 G2 0 ps2 wt2 bs (grp + 1) pr0 ph2 ∧ opI o2 G2 0 ps2 k2 hi2 inn2 ∧ szJ o2 G2 0 ps2 ((at_, flg, (grp + 1), 0, 0) :: fr) hi2 inn2 wh 0 0 ∧ (dp < 30 ∧ grp < 9) ∧ (k2 = k + 1) ∧ (nmok (zu NA (grp + 1) 0) (zu NL (grp + 1) 0) (grp + 1) n) ∧ (hi2 ≤ G2.length) ∧ (psx ps ps2 G.length) ∧ (ph2 ≤ ph) ∧ (G2.length ≤ G.length + 2) ∧ (ab_slots G2 ≤ ab_slots G + 30))) := ⟨_, rfl⟩
  rw [← hQ]
  change ab_W X (ab_pl y_RD_enter b_RD_enter 6 none) d G 0 [some (vR d_), some (vz at_), some (vz 1), some (vz ins), some (vz 0), none] [] Q
  have hfr : fx o o [24, 25, 86, 87, 90, 94] G G := fx.rf
  refine ab_aload_n d_RD_enter_0 rfl ?_
  refine ab_getf (fs := [vR x, inn, vz dp, vz flg, vz grp, vR na, vR nl, vz lst, vz mst, vz bh]) f_RD_45 d_RD_enter_1 hd_.2.2 rfl ?_
  refine zz_bipush d_RD_enter_4 (by decide) ?_
  refine zz_icmp_ge (tgt := 22) d_RD_enter_6 (by decide) (by omega) (by decide) (fun c1 => ?_) (fun c1 => ?_)
  · refine ab_aload_n d_RD_enter_22 rfl ?_
    refine ab_getf (fs := [vR x, inn, vz dp, vz flg, vz grp, vR na, vR nl, vz lst, vz mst, vz bh]) f_RD_12 d_RD_enter_23 hd_.2.2 rfl ?_
    refine ab_aload_n d_RD_enter_26 rfl ?_
    refine ab_getf (fs := [vR x, inn, vz dp, vz flg, vz grp, vR na, vR nl, vz lst, vz mst, vz bh]) f_RD_45 d_RD_enter_27 hd_.2.2 rfl ?_
    refine zz_bipush d_RD_enter_30 (by decide) ?_
    refine zz_icmp_lt (tgt := 40) d_RD_enter_32 (by decide) (by omega) (by decide) (fun c2 => absurd c2 (by omega)) (fun c2 => ?_)
    refine zz_bipush d_RD_enter_35 (by decide) ?_
    refine ab_goto (tgt := 42) d_RD_enter_37 (by decide) ?_
    refine ab_iload_n d_RD_enter_42 rfl ?_
    refine ab_callV (d' := d - 1) (as := [vz 12, vz at_]) (st := []) (r := _) (z_TX_fail (o := o) (x := x) (lx := 24) (se := se) (by_ := by_) (n := n) (pl := pl) (fa := fa) (fp := fp) (kd := kd) (kn := kn) (w := 12) (p := at_) hx (by omega) (by omega) (by omega)) (fun oc G2 h => by rcases h with ⟨h, _⟩ | ⟨h, _⟩ <;> exact ⟨_, h⟩) (by omega) m_TX_fail ml_RD_69 im_TX_fail se_TX_fail c_TX hx.2.2 (Nat.le_of_ble_eq_true rfl) d_RD_enter_43 rfl ?_
    intro v G3 hq
    rcases hq with ⟨hv, hfk, hlk, hsk, hNx, hq4⟩ | ⟨hv, hGe, hq5⟩
    · cases hv
      have hd_ := hfk.get hd_ (by decide)
      have hna := hfk.get hna (by decide)
      have hnl := hfk.get hnl (by decide)
      have popI_0 := opI.fr hfk ppaI_0 popI_0 (by decide) (by decide)
      have pszJ_0 := szJ.fr hfk ppaI_0 pszJ_0 (by decide) (by decide)
      have ppaI_0 := paI.fr hfk ppaI_0 (by decide) (by decide) (by decide) (by decide)
      have hfr := hfr.tr hfk (by decide)
      have hq6 := hlk
      have hq7 := hsk
      have hx := hNx
      change ab_W _ _ _ G3 46 [some (vR d_), some (vz at_), some (vz 1), some (vz ins), some (vz 0), none] [vz (-1)] _
      refine ab_pop d_RD_enter_46 rfl ?_
      refine ab_vret rfl d_RD_enter_47 ?_
      rw [hQ]; exact (Or.inl ⟨_, _, _, rfl, hfr, hd_, hx, hna, hnl, ppaI_0, popI_0, pszJ_0, (by unfold entF; first | (left; omega) | (right; omega)), (by omega), (by omega), (by omega)⟩)
    · cases hv
      rw [hGe]
      change ab_W _ _ _ G 46 [some (vR d_), some (vz at_), some (vz 1), some (vz ins), some (vz 0), none] [vz (-1)] _
      exfalso; omega
  · refine ab_iload_n d_RD_enter_9 rfl ?_
    refine zz_if_eq (tgt := 48) d_RD_enter_10 (by decide) (by decide) (fun c8 => absurd c8 (by decide)) (fun c8 => ?_)
    refine ab_aload_n d_RD_enter_13 rfl ?_
    refine ab_getf (fs := [vR x, inn, vz dp, vz flg, vz grp, vR na, vR nl, vz lst, vz mst, vz bh]) f_RD_42 d_RD_enter_14 hd_.2.2 rfl ?_
    refine zz_bipush d_RD_enter_17 (by decide) ?_
    refine zz_icmp_lt (tgt := 48) d_RD_enter_19 (by decide) (by omega) (by decide) (fun c9 => ?_) (fun c9 => ?_)
    · obtain ⟨j10, hj10⟩ : ∃ j, k = j + 1 := ⟨k - 1, by omega⟩
      rw [hj10] at popI_0
      obtain ⟨g10, r10, w10, lv10, hv10, ⟨hpg10, hpr10⟩, ⟨hgl10, hrl10⟩, hf610, hf510, hr610, hlv10, hop10⟩ := popI_0
      subst hv10
      obtain ⟨k_11, v_11, rg_11, pl_11, fl_11, ou_11, ls_11, bf_11, sz_11, mb_11, oe_11, le_11, mo_11, la_11, rc_11, hg10, hn11, hb11, hg11, ho11, hl11, hf11⟩ := ppaI_0.1 g10 hpg10
      have hB11 := hb11
      unfold pnB at hB11
      have hK11 := hn11.1
      obtain ⟨ls12, bf12, sz12, mb12, hr10, hB12, hl12, hf12⟩ := ppaI_0.2.1 r10 hpr10
      have e610 : some ls_11 = some (vR r10) := by have t := hf610; unfold pf at t; rw [hg10.2.2] at t; exact t
      have e610 := Option.some.inj e610
      subst e610
      have e510 : some ou_11 = some w10 := by have t := hf510; unfold pf at t; rw [hg10.2.2] at t; exact t
      have e510 := Option.some.inj e510
      subst e510
      have e710 : some ls12 = some lv10 := by have t := hr610; unfold pf at t; rw [hr10.2.2] at t; exact t
      have e710 := Option.some.inj e710
      subst e710
      have popI_0 : opI o G 0 ps j10 g10 ou_11 := hop10
      have hnq10 : nq g10 r10 := hg10.ne hr10 (by decide)
      change ab_W _ _ _ G 48 [some (vR d_), some (vz at_), some (vz 1), some (vz ins), some (vz 0), none] [] _
      have popI_0 : opI o G 0 ps (j10 + 1) hi (vR g10) := ⟨g10, r10, ou_11, ls12, rfl, ⟨hpg10, hpr10⟩, ⟨by omega, by omega⟩, by unfold pf; rw [hg10.2.2]; rfl, by unfold pf; rw [hg10.2.2]; rfl, by unfold pf; rw [hr10.2.2]; rfl, (hlv10.up (by omega)), popI_0⟩
      rw [← hj10] at popI_0
      refine ab_iload_n d_RD_enter_48 rfl ?_
      refine zz_if_eq (tgt := 94) d_RD_enter_49 (by decide) (by decide) (fun c13 => absurd c13 (by decide)) (fun c13 => ?_)
      refine ab_aload_n d_RD_enter_52 rfl ?_
      refine ab_dup d_RD_enter_53 rfl ?_
      refine ab_getf (fs := [vR x, vR g10, vz dp, vz flg, vz grp, vR na, vR nl, vz lst, vz mst, vz bh]) f_RD_42 d_RD_enter_54 hd_.2.2 rfl ?_
      refine zz_iconst d_RD_enter_57 ?_
      refine zz_iadd d_RD_enter_58 ?_
      refine ab_putf (fs := [vR x, vR g10, vz dp, vz flg, vz grp, vR na, vR nl, vz lst, vz mst, vz bh]) f_RD_42 (Or.inl rfl) d_RD_enter_59 hd_.2.2 (Nat.le_of_ble_eq_true rfl) (fun _ => ⟨rfl, rfl⟩) (hd_.2.1 (by decide)) ?_
      obtain ⟨G14, eG14⟩ : ∃ z : ab_G, z = List.set G d_ (ab_ob 6 [vR x, vR g10, vz dp, vz flg, vz (grp + 1), vR na, vR nl, vz lst, vz mst, vz bh]) := ⟨_, rfl⟩
      have hx := hx.keep hd_ eG14 (by decide)
      have hna := hna.keep hd_ eG14 (by decide)
      have hnl := hnl.keep hd_ eG14 (by decide)
      have hg10 := hg10.keep hd_ eG14 (by decide)
      have hr10 := hr10.keep hd_ eG14 (by decide)
      have hst := (fx.rf (o := o) (S := [25]) (G := G)).wr hd_ eG14 (List.mem_singleton.mpr rfl)
      have pszJ_0 := szJ.fr hst ppaI_0 pszJ_0 (by decide) (by decide)
      have popI_0 := opI.fr hst ppaI_0 popI_0 (by decide) (by decide)
      have ppaI_0 := paI.fr hst ppaI_0 (by decide) (by decide) (by decide) (by decide)
      have hq15 := z_len eG14
      have hq16 := z_sl hd_ eG14 rfl
      have hfr := hfr.wr hd_ eG14 (by decide)
      have hd_ := hd_.kept eG14
      change ab_W _ _ _ (List.set G d_ (ab_ob 6 [vR x, vR g10, vz dp, vz flg, vz (grp + 1), vR na, vR nl, vz lst, vz mst, vz bh])) 62 [some (vR d_), some (vz at_), some (vz 1), some (vz ins), some (vz 0), none] [] _
      rw [← eG14]
      refine ab_aload_n d_RD_enter_62 rfl ?_
      refine ab_getf (fs := [vR x, vR g10, vz dp, vz flg, vz (grp + 1), vR na, vR nl, vz lst, vz mst, vz bh]) f_RD_27 d_RD_enter_63 hd_.2.2 rfl ?_
      refine ab_aload_n d_RD_enter_66 rfl ?_
      refine ab_getf (fs := [vR x, vR g10, vz dp, vz flg, vz (grp + 1), vR na, vR nl, vz lst, vz mst, vz bh]) f_RD_42 d_RD_enter_67 hd_.2.2 rfl ?_
      refine ab_iload d_RD_enter_70 rfl ?_
      refine zz_if_le (tgt := 81) d_RD_enter_72 (by decide) (by decide) (fun c17 => ?_) (fun c17 => absurd c17 (by decide))
      refine zz_iconst d_RD_enter_81 ?_
      refine zz_iast d_RD_enter_82 hna (by omega) (hna.2.1 (by decide)) ?_
      obtain ⟨G18, eG18⟩ : ∃ z : ab_G, z = List.set G14 na (za 10 (zu NA (grp + 1) 0)) := ⟨_, rfl⟩
      have hd_ := hd_.keep hna eG18 (by decide)
      have hx := hx.keep hna eG18 (by decide)
      have hnl := hnl.keep hna eG18 (by decide)
      have hg10 := hg10.keep hna eG18 (by decide)
      have hr10 := hr10.keep hna eG18 (by decide)
      have hst := (fx.rf (o := o) (S := [86]) (G := G14)).wr hna eG18 (List.mem_singleton.mpr rfl)
      have pszJ_0 := szJ.fr hst ppaI_0 pszJ_0 (by decide) (by decide)
      have popI_0 := opI.fr hst ppaI_0 popI_0 (by decide) (by decide)
      have ppaI_0 := paI.fr hst ppaI_0 (by decide) (by decide) (by decide) (by decide)
      have hq19 := z_len eG18
      have hq20 := z_sl hna eG18 rfl
      have hfr := hfr.wr hna eG18 (by decide)
      have hna := hna.kept eG18
      change ab_W _ _ _ (List.set G14 na (za 10 (zu NA (grp + 1) 0))) 83 [some (vR d_), some (vz at_), some (vz 1), some (vz ins), some (vz 0), none] [] _
      rw [← eG18]
      refine ab_aload_n d_RD_enter_83 rfl ?_
      refine ab_getf (fs := [vR x, vR g10, vz dp, vz flg, vz (grp + 1), vR na, vR nl, vz lst, vz mst, vz bh]) f_RD_31 d_RD_enter_84 hd_.2.2 rfl ?_
      refine ab_aload_n d_RD_enter_87 rfl ?_
      refine ab_getf (fs := [vR x, vR g10, vz dp, vz flg, vz (grp + 1), vR na, vR nl, vz lst, vz mst, vz bh]) f_RD_42 d_RD_enter_88 hd_.2.2 rfl ?_
      refine ab_iload d_RD_enter_91 rfl ?_
      refine zz_iast d_RD_enter_93 hnl (by omega) (hnl.2.1 (by decide)) ?_
      obtain ⟨G21, eG21⟩ : ∃ z : ab_G, z = List.set G18 nl (za 10 (zu NL (grp + 1) 0)) := ⟨_, rfl⟩
      have hd_ := hd_.keep hnl eG21 (by decide)
      have hx := hx.keep hnl eG21 (by decide)
      have hna := hna.keep hnl eG21 (by decide)
      have hg10 := hg10.keep hnl eG21 (by decide)
      have hr10 := hr10.keep hnl eG21 (by decide)
      have hst := (fx.rf (o := o) (S := [87]) (G := G18)).wr hnl eG21 (List.mem_singleton.mpr rfl)
      have pszJ_0 := szJ.fr hst ppaI_0 pszJ_0 (by decide) (by decide)
      have popI_0 := opI.fr hst ppaI_0 popI_0 (by decide) (by decide)
      have ppaI_0 := paI.fr hst ppaI_0 (by decide) (by decide) (by decide) (by decide)
      have hq22 := z_len eG21
      have hq23 := z_sl hnl eG21 rfl
      have hfr := hfr.wr hnl eG21 (by decide)
      have hnl := hnl.kept eG21
      change ab_W _ _ _ (List.set G18 nl (za 10 (zu NL (grp + 1) 0))) 94 [some (vR d_), some (vz at_), some (vz 1), some (vz ins), some (vz 0), none] [] _
      rw [← eG21]
      refine ab_new (fs := [vz 0, vz 0, vN, vz 0, vz 0, vN, vN, vN, vz 0, vz 0, vz 0, vz 0, vz 0, vz 0, vz 0]) k_PA rfl cl_RD_18 inst_PA ini_PA d_RD_enter_94 (by decide) (fun _ => rfl) (by omega) (by omega) ?_
      obtain ⟨G24, eG24⟩ : ∃ z : ab_G, z = G21 ++ [ab_ob 4 [vz 0, vz 0, vN, vz 0, vz 0, vN, vN, vN, vz 0, vz 0, vz 0, vz 0, vz 0, vz 0, vz 0]] := ⟨_, rfl⟩
      obtain ⟨o25, eo25⟩ : ∃ z : Nat → Nat, z = ol o G21.length 90 := ⟨_, rfl⟩
      obtain ⟨a26, ea26⟩ : ∃ z : Nat, z = G21.length := ⟨_, rfl⟩
      have hq27 := hr10.n0 (by first | decide | omega)
      have ne_a26_d_ : nq a26 d_ := by have hlt := hd_.lt; unfold nq; omega
      have ne_a26_x : nq a26 x := by have hlt := hx.lt; unfold nq; omega
      have ne_a26_na : nq a26 na := by have hlt := hna.lt; unfold nq; omega
      have ne_a26_nl : nq a26 nl := by have hlt := hnl.lt; unfold nq; omega
      have ne_a26_g10 : nq a26 g10 := by have hlt := hg10.lt; unfold nq; omega
      have ne_a26_r10 : nq a26 r10 := by have hlt := hr10.lt; unfold nq; omega
      have hd_ := hd_.akeep (k := 90) eG24
      rw [← eo25] at hd_
      have hx := hx.akeep (k := 90) eG24
      rw [← eo25] at hx
      have hna := hna.akeep (k := 90) eG24
      rw [← eo25] at hna
      have hnl := hnl.akeep (k := 90) eG24
      rw [← eo25] at hnl
      have hg10 := hg10.akeep (k := 90) eG24
      rw [← eo25] at hg10
      have hr10 := hr10.akeep (k := 90) eG24
      rw [← eo25] at hr10
      have hst := (fx.rf (o := o) (S := []) (G := G21)).ap (k := 90) eG24
      rw [← eo25] at hst
      have hnpa26 := ppaI_0.new (a := a26) (by omega)
      have pszJ_0 := szJ.fr hst ppaI_0 pszJ_0 (by decide) (by decide)
      have popI_0 := opI.fr hst ppaI_0 popI_0 (by decide) (by decide)
      have ppaI_0 := paI.fr hst ppaI_0 (by decide) (by decide) (by decide) (by simp)
      have ha26 := cc.anew (o := o) 90 eG24 hq27
      rw [← eo25, ← ea26] at ha26
      have hfr := hfr.ap (k := 90) eG24
      rw [← eo25] at hfr
      have hq28 := z_alen eG24
      have hq29 : ab_slots G24 = ab_slots G21 + 15 := z_asl eG24 hq27
      change ab_W _ _ _ (G21 ++ [ab_ob 4 [vz 0, vz 0, vN, vz 0, vz 0, vN, vN, vN, vz 0, vz 0, vz 0, vz 0, vz 0, vz 0, vz 0]]) 97 [some (vR d_), some (vz at_), some (vz 1), some (vz ins), some (vz 0), none] [.ref G21.length] _
      rw [← eG24, ← ea26]
      change ab_W _ _ _ G24 97 [some (vR d_), some (vz at_), some (vz 1), some (vz ins), some (vz 0), none] [vR a26] _
      refine ab_dup d_RD_enter_97 rfl ?_
      refine zz_iconst d_RD_enter_98 ?_
      refine ab_iload_n d_RD_enter_99 rfl ?_
      refine zz_if_eq (tgt := 110) d_RD_enter_100 (by decide) (by decide) (fun c30 => absurd c30 (by decide)) (fun c30 => ?_)
      refine ab_aload_n d_RD_enter_103 rfl ?_
      refine ab_getf (fs := [vR x, vR g10, vz dp, vz flg, vz (grp + 1), vR na, vR nl, vz lst, vz mst, vz bh]) f_RD_42 d_RD_enter_104 hd_.2.2 rfl ?_
      refine ab_goto (tgt := 111) d_RD_enter_107 (by decide) ?_
      refine ab_iload_n d_RD_enter_111 rfl ?_
      refine zz_if_eq (tgt := 119) d_RD_enter_112 (by decide) (by decide) (fun c31 => absurd c31 (by decide)) (fun c31 => ?_)
      refine zz_iconst d_RD_enter_115 ?_
      refine ab_goto (tgt := 120) d_RD_enter_116 (by decide) ?_
      refine zz_iconst d_RD_enter_120 ?_
      refine ab_callI (d' := d - 1) (as := [vz 4, vz (grp + 1), vz 2, vz 0]) (st := [vR a26]) (z90_PA_init (o := o25) (a := a26) (k0 := 4) (v0 := (grp + 1)) (s0 := 2) (m0 := 0) (ps := ps) (wt := wt) (bs := bs) (gr := grp) (Pr := pr0) (ph := ph) ha26 ppaI_0 (by omega) (by omega) (by omega) (by omega)) (fun oc G2 h => by rcases h with ⟨h, _⟩ <;> exact ⟨_, h⟩) (by omega) m_PA_init ml_RD_20 im_PA_init rfl (Nat.le_of_ble_eq_true rfl) d_RD_enter_121 rfl ?_
      intro v G32 hq
      rcases hq with ⟨hv, hfk, hlk, hsk, hNa26, pNpaI_0, hq33⟩
      cases hv
      have hd_ := hfk.get hd_ (by decide)
      have hx := hfk.get hx (by decide)
      have hna := hfk.get hna (by decide)
      have hnl := hfk.get hnl (by decide)
      have hKg10 := hq33.get hfk hg10 (Or.inl hpg10) (by simp only [List.mem_cons, List.not_mem_nil, or_false, not_or]; exact not_false)
      have hr10 := hfk.get hr10 (by decide)
      have hg10 := hKg10
      have pszJ_0 := pszJ_0.fzk (o2 := o25) hq33
      have popI_0 := popI_0.fz (o2 := o25) hq33 (by simp)
      have ppaI_0 := pNpaI_0
      have hfr := hfr.tr hfk (by decide)
      have hq34 := hlk
      have hq35 := hsk
      have ha26 := hNa26
      change ab_W _ _ _ G32 124 [some (vR d_), some (vz at_), some (vz 1), some (vz ins), some (vz 0), none] [vR a26] _
      refine ab_astore d_RD_enter_124 (Nat.le_of_ble_eq_true rfl) (Nat.le_of_ble_eq_true rfl) rfl ?_
      change ab_W _ _ _ G32 126 [some (vR d_), some (vz at_), some (vz 1), some (vz ins), some (vz 0), some (vR a26)] [] _
      refine ab_aload d_RD_enter_126 rfl ?_
      refine ab_iload_n d_RD_enter_128 rfl ?_
      refine ab_putf (fs := [vz 4, vz (grp + 1), vN, vz (-1), vz 0, vN, vN, vN, vz 2, vz 0, vz 0, vz 0, vz 0, vz 0, vz (-1)]) f_RD_68 (Or.inl rfl) d_RD_enter_129 ha26.2.2 (Nat.le_of_ble_eq_true rfl) (fun _ => ⟨rfl, rfl⟩) (ha26.2.1 (by decide)) ?_
      obtain ⟨G36, eG36⟩ : ∃ z : ab_G, z = List.set G32 a26 (ab_ob 4 [vz 4, vz (grp + 1), vN, vz at_, vz 0, vN, vN, vN, vz 2, vz 0, vz 0, vz 0, vz 0, vz 0, vz (-1)]) := ⟨_, rfl⟩
      have hd_ := hd_.keep ha26 eG36 (by decide)
      have hx := hx.keep ha26 eG36 (by decide)
      have hna := hna.keep ha26 eG36 (by decide)
      have hnl := hnl.keep ha26 eG36 (by decide)
      have hg10 := hg10.keep' eG36 ne_a26_g10
      have hr10 := hr10.keep ha26 eG36 (by decide)
      have hst := (fx.rf (o := o25) (S := [90]) (G := G32)).wr ha26 eG36 (List.mem_singleton.mpr rfl)
      have pszJ_0 := pszJ_0.wnp eG36 hnpa26
      have popI_0 := popI_0.wnp eG36 hnpa26
      have ppaI_0 := ppaI_0.wnp hnpa26 ha26 eG36 (by decide)
      have hq37 := z_len eG36
      have hq38 := z_sl ha26 eG36 rfl
      have hfr := hfr.wn (show G.length ≤ a26 by have := hfr.1; omega) eG36
      have ha26 := ha26.kept eG36
      change ab_W _ _ _ (List.set G32 a26 (ab_ob 4 [vz 4, vz (grp + 1), vN, vz at_, vz 0, vN, vN, vN, vz 2, vz 0, vz 0, vz 0, vz 0, vz 0, vz (-1)])) 132 [some (vR d_), some (vz at_), some (vz 1), some (vz ins), some (vz 0), some (vR a26)] [] _
      rw [← eG36]
      refine ab_aload d_RD_enter_132 rfl ?_
      refine ab_aload_n d_RD_enter_134 rfl ?_
      refine ab_getf (fs := [vR x, vR g10, vz dp, vz flg, vz (grp + 1), vR na, vR nl, vz lst, vz mst, vz bh]) f_RD_38 d_RD_enter_135 hd_.2.2 rfl ?_
      refine ab_putf (fs := [vz 4, vz (grp + 1), vN, vz at_, vz 0, vN, vN, vN, vz 2, vz 0, vz 0, vz 0, vz 0, vz 0, vz (-1)]) f_RD_169 (Or.inl rfl) d_RD_enter_138 ha26.2.2 (Nat.le_of_ble_eq_true rfl) (fun _ => ⟨rfl, rfl⟩) (ha26.2.1 (by decide)) ?_
      obtain ⟨G39, eG39⟩ : ∃ z : ab_G, z = List.set G36 a26 (ab_ob 4 [vz 4, vz (grp + 1), vN, vz at_, vz flg, vN, vN, vN, vz 2, vz 0, vz 0, vz 0, vz 0, vz 0, vz (-1)]) := ⟨_, rfl⟩
      have hd_ := hd_.keep ha26 eG39 (by decide)
      have hx := hx.keep ha26 eG39 (by decide)
      have hna := hna.keep ha26 eG39 (by decide)
      have hnl := hnl.keep ha26 eG39 (by decide)
      have hg10 := hg10.keep' eG39 ne_a26_g10
      have hr10 := hr10.keep ha26 eG39 (by decide)
      have hst := (fx.rf (o := o25) (S := [90]) (G := G36)).wr ha26 eG39 (List.mem_singleton.mpr rfl)
      have pszJ_0 := pszJ_0.wnp eG39 hnpa26
      have popI_0 := popI_0.wnp eG39 hnpa26
      have ppaI_0 := ppaI_0.wnp hnpa26 ha26 eG39 (by decide)
      have hq40 := z_len eG39
      have hq41 := z_sl ha26 eG39 rfl
      have hfr := hfr.wn (show G.length ≤ a26 by have := hfr.1; omega) eG39
      have ha26 := ha26.kept eG39
      change ab_W _ _ _ (List.set G36 a26 (ab_ob 4 [vz 4, vz (grp + 1), vN, vz at_, vz flg, vN, vN, vN, vz 2, vz 0, vz 0, vz 0, vz 0, vz 0, vz (-1)])) 141 [some (vR d_), some (vz at_), some (vz 1), some (vz ins), some (vz 0), some (vR a26)] [] _
      rw [← eG39]
      refine ab_aload d_RD_enter_141 rfl ?_
      refine ab_new (fs := [vz 0, vz 0, vN, vz 0, vz 0, vN, vN, vN, vz 0, vz 0, vz 0, vz 0, vz 0, vz 0, vz 0]) k_PA rfl cl_RD_18 inst_PA ini_PA d_RD_enter_143 (by decide) (fun _ => rfl) (by omega) (by omega) ?_
      obtain ⟨G42, eG42⟩ : ∃ z : ab_G, z = G39 ++ [ab_ob 4 [vz 0, vz 0, vN, vz 0, vz 0, vN, vN, vN, vz 0, vz 0, vz 0, vz 0, vz 0, vz 0, vz 0]] := ⟨_, rfl⟩
      obtain ⟨o43, eo43⟩ : ∃ z : Nat → Nat, z = ol o25 G39.length 94 := ⟨_, rfl⟩
      obtain ⟨a44, ea44⟩ : ∃ z : Nat, z = G39.length := ⟨_, rfl⟩
      have hq45 := ha26.n0 (by first | decide | omega)
      have ne_a44_d_ : nq a44 d_ := by have hlt := hd_.lt; unfold nq; omega
      have ne_a44_x : nq a44 x := by have hlt := hx.lt; unfold nq; omega
      have ne_a44_na : nq a44 na := by have hlt := hna.lt; unfold nq; omega
      have ne_a44_nl : nq a44 nl := by have hlt := hnl.lt; unfold nq; omega
      have ne_a44_g10 : nq a44 g10 := by have hlt := hg10.lt; unfold nq; omega
      have ne_a44_r10 : nq a44 r10 := by have hlt := hr10.lt; unfold nq; omega
      have ne_a44_a26 : nq a44 a26 := by have hlt := ha26.lt; unfold nq; omega
      have hd_ := hd_.akeep (k := 94) eG42
      rw [← eo43] at hd_
      have hx := hx.akeep (k := 94) eG42
      rw [← eo43] at hx
      have hna := hna.akeep (k := 94) eG42
      rw [← eo43] at hna
      have hnl := hnl.akeep (k := 94) eG42
      rw [← eo43] at hnl
      have hg10 := hg10.akeep (k := 94) eG42
      rw [← eo43] at hg10
      have hr10 := hr10.akeep (k := 94) eG42
      rw [← eo43] at hr10
      have ha26 := ha26.akeep (k := 94) eG42
      rw [← eo43] at ha26
      have hst := (fx.rf (o := o25) (S := []) (G := G39)).ap (k := 94) eG42
      rw [← eo43] at hst
      have hnpa44 := ppaI_0.new (a := a44) (by omega)
      have pszJ_0 := szJ.fr hst ppaI_0 pszJ_0 (by decide) (by decide)
      have popI_0 := opI.fr hst ppaI_0 popI_0 (by decide) (by decide)
      have ppaI_0 := paI.fr hst ppaI_0 (by decide) (by decide) (by decide) (by simp)
      have ha44 := cc.anew (o := o25) 94 eG42 hq45
      rw [← eo43, ← ea44] at ha44
      have hfr := hfr.ap (k := 94) eG42
      rw [← eo43] at hfr
      have hq46 := z_alen eG42
      have hq47 : ab_slots G42 = ab_slots G39 + 15 := z_asl eG42 hq45
      change ab_W _ _ _ (G39 ++ [ab_ob 4 [vz 0, vz 0, vN, vz 0, vz 0, vN, vN, vN, vz 0, vz 0, vz 0, vz 0, vz 0, vz 0, vz 0]]) 146 [some (vR d_), some (vz at_), some (vz 1), some (vz ins), some (vz 0), some (vR a26)] [.ref G39.length, vR a26] _
      rw [← eG42, ← ea44]
      change ab_W _ _ _ G42 146 [some (vR d_), some (vz at_), some (vz 1), some (vz ins), some (vz 0), some (vR a26)] [vR a44, vR a26] _
      refine ab_dup d_RD_enter_146 rfl ?_
      refine zz_iconst d_RD_enter_147 ?_
      refine zz_iconst d_RD_enter_148 ?_
      refine zz_iconst d_RD_enter_149 ?_
      refine zz_iconst d_RD_enter_150 ?_
      refine ab_callI (d' := d - 1) (as := [vz 5, vz 0, vz 0, vz 1]) (st := [vR a44, vR a26]) (z94_PA_init (o := o43) (a := a44) (k0 := 5) (v0 := 0) (s0 := 0) (m0 := 1) (ps := ps) (wt := wt) (bs := bs) (gr := grp) (Pr := pr0) (ph := ph) ha44 ppaI_0 (by omega) (by omega) (by omega) (by omega)) (fun oc G2 h => by rcases h with ⟨h, _⟩ <;> exact ⟨_, h⟩) (by omega) m_PA_init ml_RD_20 im_PA_init rfl (Nat.le_of_ble_eq_true rfl) d_RD_enter_151 rfl ?_
      intro v G48 hq
      rcases hq with ⟨hv, hfk, hlk, hsk, hNa44, pNpaI_0, hq49⟩
      cases hv
      have hd_ := hfk.get hd_ (by decide)
      have hx := hfk.get hx (by decide)
      have hna := hfk.get hna (by decide)
      have hnl := hfk.get hnl (by decide)
      have hg10 := hfk.get hg10 (by decide)
      have hKr10 := hq49.get hfk hr10 (Or.inr hpr10) (by simp only [List.mem_cons, List.not_mem_nil, or_false, not_or]; exact not_false)
      have ha26 := hfk.get ha26 (by decide)
      have hr10 := hKr10
      have pszJ_0 := pszJ_0.fzk (o2 := o43) hq49
      have popI_0 := popI_0.fz (o2 := o43) hq49 (by simp)
      have ppaI_0 := pNpaI_0
      have hfr := hfr.tr hfk (by decide)
      have hq50 := hlk
      have hq51 := hsk
      have ha44 := hNa44
      change ab_W _ _ _ G48 154 [some (vR d_), some (vz at_), some (vz 1), some (vz ins), some (vz 0), some (vR a26)] [vR a44, vR a26] _
      have hnfg_ := ppaI_0.nref hnpa26
      have hnog_ := hnpa26
      have hnfr_ := ppaI_0.nref hnpa44
      have hnor_ := hnpa44
      have hsz9 := pszJ_0
      have ppaI_0 := ppaI_0.gr (gr2 := grp + 1) (by omega) (Int.le_refl _)
      have hlt52 := ha26.lt
      have hn52 : paN (grp + 1) pr0 4 (grp + 1) (-1) := ⟨by omega, by intro _; omega, by intro _; omega, by intro _; omega, pr0_⟩
      obtain ⟨ps52, wt52, hx52, hxo52, hpa52, ppaI_0⟩ : ∃ pz wz : Nat → Nat, psx ps pz a26 ∧ (∀ x, ¬ x = a26 → pz x = ps x) ∧ pz a26 = 90 ∧ paI o43 G48 0 pz wz bs (grp + 1) pr0 (ph + 0) := ⟨_, _, psx.ol (Nat.le_refl _), fun x hx => if_neg hx, ol_self, ppaI_0.ad90 0 hnpa26 (by omega) ha26 hn52 (by unfold pnB; omega) (Or.inl ⟨by omega, rfl⟩) (Or.inl rfl) (Or.inl rfl) (Or.inl rfl)⟩
      have hnpa44 : ¬ ps52 a44 = 90 ∧ ¬ ps52 a44 = 94 := by rw [hxo52 a44 (by omega)]; exact hnpa44
      have hp53 : ps52 g10 = 90 := hx52.at (by have hlt := hg10.lt; omega) hpg10
      have hp54 : ps52 r10 = 94 := hx52.at (by have hlt := hr10.lt; omega) hpr10
      have hl55 := ho11.ps (by have hlt := hg10.lt; omega) hx52
      have hl56 := hl11.ps (by omega) hx52
      have hl57 := hf11.ps (by have hlt := hg10.lt; omega) hx52
      have hl58 := hl12.ps (by omega) hx52
      have hl59 := hf12.ps (by have hlt := hr10.lt; omega) hx52
      have hl60 := hlv10.ps (by omega) hx52
      have popI_0 : opI o43 G48 0 ps52 k hi (vR g10) := opn_ps _ _ _ popI_0 (psx.lt hx52 (by omega))
      have hlt61 := ha44.lt
      obtain ⟨ps61, hx61, hxo61, hpa61, ppaI_0⟩ : ∃ pz : Nat → Nat, psx ps52 pz a44 ∧ (∀ x, ¬ x = a44 → pz x = ps52 x) ∧ pz a44 = 94 ∧ paI o43 G48 0 pz wt52 bs (grp + 1) pr0 (ph + 0) := ⟨_, psx.ol (Nat.le_refl _), fun x hx => if_neg hx, ol_self, ppaI_0.ad94 hnpa44 ha44 (by omega) (Or.inl rfl) (Or.inl rfl)⟩
      have hp62 : ps61 g10 = 90 := hx61.at (by have hlt := hg10.lt; omega) hp53
      have hp63 : ps61 r10 = 94 := hx61.at (by have hlt := hr10.lt; omega) hp54
      have hl64 := hl55.ps (by have hlt := hg10.lt; omega) hx61
      have hl65 := hl56.ps (by omega) hx61
      have hl66 := hl57.ps (by have hlt := hg10.lt; omega) hx61
      have hl67 := hl58.ps (by omega) hx61
      have hl68 := hl59.ps (by have hlt := hr10.lt; omega) hx61
      have hl69 := hl60.ps (by omega) hx61
      have hp70 : ps61 a26 = 90 := hx61.at (by have hlt := ha26.lt; omega) hpa52
      have popI_0 : opI o43 G48 0 ps61 k hi (vR g10) := opn_ps _ _ _ popI_0 (psx.lt hx61 (by omega))
      have hfz : fz ps61 [a26, a44] G48 G48 := fz.rf
      refine ab_callV (d' := d - 1) (as := [vR a44]) (st := []) (r := _) (z90_PA_push (o := o43) (k := 4) (v := (grp + 1)) (rg := vN) (pl := at_) (fl := flg) (ou := vN) (ls := vN) (bf := vN) (sz := 2) (mb := 0) (oe := 0) (le := 0) (mo := 0) (la := 0) (rc := (-1)) (lr := vN) (br := vN) (sr := 0) (mr := 1) (ps := ps61) (wt := wt52) (bs := bs) (gr := (grp + 1)) (Pr := pr0) (ph := (ph + 0)) (r := a44) (p := a26) ha26 ha44 ppaI_0 (by omega) hp70 hpa61 hn52 (by omega) (by omega) (Or.inl rfl) (Or.inl rfl) (Or.inl rfl) (Or.inl rfl) (Or.inl rfl) (Or.inl rfl) (by omega)) (fun oc G2 h => by rcases h with ⟨h, _⟩ <;> exact ⟨_, h⟩) (by omega) m_PA_push ml_RD_48 im_PA_push se_PA_push c_PA ha26.2.2 (Nat.le_of_ble_eq_true rfl) d_RD_enter_154 rfl ?_
      intro v G71 hq
      rcases hq with ⟨hv, hfk, hlk, hsk, hNa26, hNa44, pNpaI_0, hq72⟩
      cases hv
      have hd_ := hfk.get hd_ (by decide)
      have hx := hfk.get hx (by decide)
      have hna := hfk.get hna (by decide)
      have hnl := hfk.get hnl (by decide)
      have hKg10 := hq72.get hfk hg10 (Or.inl hp62) (by simp only [List.mem_cons, List.not_mem_nil, or_false, not_or]; exact ⟨(nq.s ne_a26_g10), (hg10.ne ha44 (by decide))⟩)
      have hKr10 := hq72.get hfk hr10 (Or.inr hp63) (by simp only [List.mem_cons, List.not_mem_nil, or_false, not_or]; exact ⟨(hr10.ne ha26 (by decide)), (nq.s ne_a44_r10)⟩)
      have hg10 := hKg10
      have hr10 := hKr10
      have hfz := hfz.tr hq72 (by simp)
      have popI_0 := popI_0.fz (o2 := o43) hq72 (by intro y hy; simp only [List.mem_cons, List.not_mem_nil, or_false] at hy; omega)
      have ppaI_0 := pNpaI_0
      have hfr := hfr.tr hfk (by decide)
      have hq73 := hlk
      have hq74 := hsk
      have ha26 := hNa26
      have ha44 := hNa44
      change ab_W _ _ _ G71 157 [some (vR d_), some (vz at_), some (vz 1), some (vz ins), some (vz 0), some (vR a26)] [] _
      refine ab_aload d_RD_enter_157 rfl ?_
      refine ab_aload_n d_RD_enter_159 rfl ?_
      refine ab_getf (fs := [vR x, vR g10, vz dp, vz flg, vz (grp + 1), vR na, vR nl, vz lst, vz mst, vz bh]) f_RD_23 d_RD_enter_160 hd_.2.2 rfl ?_
      refine ab_putf (fs := [vz 4, vz (grp + 1), vN, vz at_, vz flg, vN, vR a44, vN, vz 2, vz 0, vz 0, vz 0, vz 0, vz 0, vz (-1)]) f_RD_172 (Or.inl rfl) d_RD_enter_163 ha26.2.2 (Nat.le_of_ble_eq_true rfl) (fun _ => ⟨rfl, rfl⟩) (ha26.2.1 (by decide)) ?_
      obtain ⟨G75, eG75⟩ : ∃ z : ab_G, z = List.set G71 a26 (ab_ob 4 [vz 4, vz (grp + 1), vN, vz at_, vz flg, vR g10, vR a44, vN, vz 2, vz 0, vz 0, vz 0, vz 0, vz 0, vz (-1)]) := ⟨_, rfl⟩
      have hd_ := hd_.keep ha26 eG75 (by decide)
      have hx := hx.keep ha26 eG75 (by decide)
      have hna := hna.keep ha26 eG75 (by decide)
      have hnl := hnl.keep ha26 eG75 (by decide)
      have hg10 := hg10.keep' eG75 ne_a26_g10
      have hr10 := hr10.keep ha26 eG75 (by decide)
      have ha44 := ha44.keep ha26 eG75 (by decide)
      have hfz := hfz.wr eG75 (by simp)
      have hst := (fx.rf (o := o43) (S := [90]) (G := G71)).wr ha26 eG75 (List.mem_singleton.mpr rfl)
      have popI_0 := popI_0.wge eG75 (by omega)
      have ppaI_0 := ppaI_0.w90 hp70 ha26 hn52 eG75 (by unfold pnB; omega) (Or.inr ⟨_, rfl, hp62, by have hlt := hg10.lt; omega⟩) (Or.inr ⟨_, rfl, hpa61, by have hlt := ha44.lt; omega⟩) (Or.inl rfl)
      have hq76 := z_len eG75
      have hq77 := z_sl ha26 eG75 rfl
      have hfr := hfr.wn (show G.length ≤ a26 by have := hfr.1; omega) eG75
      have ha26 := ha26.kept eG75
      change ab_W _ _ _ (List.set G71 a26 (ab_ob 4 [vz 4, vz (grp + 1), vN, vz at_, vz flg, vR g10, vR a44, vN, vz 2, vz 0, vz 0, vz 0, vz 0, vz 0, vz (-1)])) 166 [some (vR d_), some (vz at_), some (vz 1), some (vz ins), some (vz 0), some (vR a26)] [] _
      rw [← eG75]
      refine ab_aload_n d_RD_enter_166 rfl ?_
      refine ab_aload d_RD_enter_167 rfl ?_
      refine ab_putf (fs := [vR x, vR g10, vz dp, vz flg, vz (grp + 1), vR na, vR nl, vz lst, vz mst, vz bh]) f_RD_23 (Or.inl rfl) d_RD_enter_169 hd_.2.2 (Nat.le_of_ble_eq_true rfl) (fun _ => ⟨rfl, rfl⟩) (hd_.2.1 (by decide)) ?_
      obtain ⟨G78, eG78⟩ : ∃ z : ab_G, z = List.set G75 d_ (ab_ob 6 [vR x, vR a26, vz dp, vz flg, vz (grp + 1), vR na, vR nl, vz lst, vz mst, vz bh]) := ⟨_, rfl⟩
      have hx := hx.keep hd_ eG78 (by decide)
      have hna := hna.keep hd_ eG78 (by decide)
      have hnl := hnl.keep hd_ eG78 (by decide)
      have hg10 := hg10.keep hd_ eG78 (by decide)
      have hr10 := hr10.keep hd_ eG78 (by decide)
      have ha26 := ha26.keep hd_ eG78 (by decide)
      have ha44 := ha44.keep hd_ eG78 (by decide)
      have hfz := hfz.wl ppaI_0 hd_ eG78 (by decide)
      have hst := (fx.rf (o := o43) (S := [25]) (G := G75)).wr hd_ eG78 (List.mem_singleton.mpr rfl)
      have popI_0 := opI.fr hst ppaI_0 popI_0 (by decide) (by decide)
      have ppaI_0 := paI.fr hst ppaI_0 (by decide) (by decide) (by decide) (by decide)
      have hq79 := z_len eG78
      have hq80 := z_sl hd_ eG78 rfl
      have hfr := hfr.wr hd_ eG78 (by decide)
      have hd_ := hd_.kept eG78
      change ab_W _ _ _ (List.set G75 d_ (ab_ob 6 [vR x, vR a26, vz dp, vz flg, vz (grp + 1), vR na, vR nl, vz lst, vz mst, vz bh])) 172 [some (vR d_), some (vz at_), some (vz 1), some (vz ins), some (vz 0), some (vR a26)] [] _
      rw [← eG78]
      refine ab_aload_n d_RD_enter_172 rfl ?_
      refine ab_dup d_RD_enter_173 rfl ?_
      refine ab_getf (fs := [vR x, vR a26, vz dp, vz flg, vz (grp + 1), vR na, vR nl, vz lst, vz mst, vz bh]) f_RD_45 d_RD_enter_174 hd_.2.2 rfl ?_
      refine zz_iconst d_RD_enter_177 ?_
      refine zz_iadd d_RD_enter_178 ?_
      refine ab_putf (fs := [vR x, vR a26, vz dp, vz flg, vz (grp + 1), vR na, vR nl, vz lst, vz mst, vz bh]) f_RD_45 (Or.inl rfl) d_RD_enter_179 hd_.2.2 (Nat.le_of_ble_eq_true rfl) (fun _ => ⟨rfl, rfl⟩) (hd_.2.1 (by decide)) ?_
      obtain ⟨G81, eG81⟩ : ∃ z : ab_G, z = List.set G78 d_ (ab_ob 6 [vR x, vR a26, vz (dp + 1), vz flg, vz (grp + 1), vR na, vR nl, vz lst, vz mst, vz bh]) := ⟨_, rfl⟩
      have hx := hx.keep hd_ eG81 (by decide)
      have hna := hna.keep hd_ eG81 (by decide)
      have hnl := hnl.keep hd_ eG81 (by decide)
      have hg10 := hg10.keep hd_ eG81 (by decide)
      have hr10 := hr10.keep hd_ eG81 (by decide)
      have ha26 := ha26.keep hd_ eG81 (by decide)
      have ha44 := ha44.keep hd_ eG81 (by decide)
      have hfz := hfz.wl ppaI_0 hd_ eG81 (by decide)
      have hst := (fx.rf (o := o43) (S := [25]) (G := G78)).wr hd_ eG81 (List.mem_singleton.mpr rfl)
      have popI_0 := opI.fr hst ppaI_0 popI_0 (by decide) (by decide)
      have ppaI_0 := paI.fr hst ppaI_0 (by decide) (by decide) (by decide) (by decide)
      have hq82 := z_len eG81
      have hq83 := z_sl hd_ eG81 rfl
      have hfr := hfr.wr hd_ eG81 (by decide)
      have hd_ := hd_.kept eG81
      change ab_W _ _ _ (List.set G78 d_ (ab_ob 6 [vR x, vR a26, vz (dp + 1), vz flg, vz (grp + 1), vR na, vR nl, vz lst, vz mst, vz bh])) 182 [some (vR d_), some (vz at_), some (vz 1), some (vz ins), some (vz 0), some (vR a26)] [] _
      rw [← eG81]
      refine ab_aload_n d_RD_enter_182 rfl ?_
      refine ab_iload_n d_RD_enter_183 rfl ?_
      refine ab_putf (fs := [vR x, vR a26, vz (dp + 1), vz flg, vz (grp + 1), vR na, vR nl, vz lst, vz mst, vz bh]) f_RD_38 (Or.inl rfl) d_RD_enter_184 hd_.2.2 (Nat.le_of_ble_eq_true rfl) (fun _ => ⟨rfl, rfl⟩) (hd_.2.1 (by decide)) ?_
      obtain ⟨G84, eG84⟩ : ∃ z : ab_G, z = List.set G81 d_ (ab_ob 6 [vR x, vR a26, vz (dp + 1), vz ins, vz (grp + 1), vR na, vR nl, vz lst, vz mst, vz bh]) := ⟨_, rfl⟩
      have hx := hx.keep hd_ eG84 (by decide)
      have hna := hna.keep hd_ eG84 (by decide)
      have hnl := hnl.keep hd_ eG84 (by decide)
      have hg10 := hg10.keep hd_ eG84 (by decide)
      have hr10 := hr10.keep hd_ eG84 (by decide)
      have ha26 := ha26.keep hd_ eG84 (by decide)
      have ha44 := ha44.keep hd_ eG84 (by decide)
      have hfz := hfz.wl ppaI_0 hd_ eG84 (by decide)
      have hst := (fx.rf (o := o43) (S := [25]) (G := G81)).wr hd_ eG84 (List.mem_singleton.mpr rfl)
      have popI_0 := opI.fr hst ppaI_0 popI_0 (by decide) (by decide)
      have ppaI_0 := paI.fr hst ppaI_0 (by decide) (by decide) (by decide) (by decide)
      have hq85 := z_len eG84
      have hq86 := z_sl hd_ eG84 rfl
      have hfr := hfr.wr hd_ eG84 (by decide)
      have hd_ := hd_.kept eG84
      change ab_W _ _ _ (List.set G81 d_ (ab_ob 6 [vR x, vR a26, vz (dp + 1), vz ins, vz (grp + 1), vR na, vR nl, vz lst, vz mst, vz bh])) 187 [some (vR d_), some (vz at_), some (vz 1), some (vz ins), some (vz 0), some (vR a26)] [] _
      rw [← eG84]
      have popI_0 : opI o43 G84 0 ps61 (k + 1) G84.length (vR a26) := ⟨a26, a44, (vR g10), (vN), rfl, ⟨hp70, hpa61⟩, ⟨by omega, by omega⟩, by unfold pf; rw [ha26.2.2]; rfl, by unfold pf; rw [ha26.2.2]; rfl, by unfold pf; rw [ha44.2.2]; rfl, (Or.inl rfl), (opn_up popI_0 (by omega))⟩
      have pszJ_0 : szJ o43 G84 0 ps61 ((at_, flg, (grp + 1), 0, 0) :: fr) G84.length (vR a26) wh 0 0 := szJ.entC hsz9 hnfg_ hnfr_ hnog_ hnor_ (fun x h1 h2 => (hxo61 x h2).trans (hxo52 x h1)) hp70 hpa61 hfz ha26 ha44 (by omega) (by first | rfl | (unfold pin; rw [if_pos rfl, if_neg (by omega)])) (by omega) (by omega) (fun t => absurd t (by omega))
      refine ab_vret rfl d_RD_enter_187 ?_
      rw [hQ]; exact (Or.inr ⟨_, _, _, _, _, _, _, rfl, hfr, hd_, hx, hna, hnl, ppaI_0, popI_0, pszJ_0, (by omega), (by omega), (by exact nmok_s hnm (by omega) (by omega)), (by omega), (by exact (hx52.tr hx61 (by omega)).lt (by omega)), (by omega), (by omega), (by omega)⟩)
    · refine ab_aload_n d_RD_enter_22 rfl ?_
      refine ab_getf (fs := [vR x, inn, vz dp, vz flg, vz grp, vR na, vR nl, vz lst, vz mst, vz bh]) f_RD_12 d_RD_enter_23 hd_.2.2 rfl ?_
      refine ab_aload_n d_RD_enter_26 rfl ?_
      refine ab_getf (fs := [vR x, inn, vz dp, vz flg, vz grp, vR na, vR nl, vz lst, vz mst, vz bh]) f_RD_45 d_RD_enter_27 hd_.2.2 rfl ?_
      refine zz_bipush d_RD_enter_30 (by decide) ?_
      refine zz_icmp_lt (tgt := 40) d_RD_enter_32 (by decide) (by omega) (by decide) (fun c87 => ?_) (fun c87 => absurd c87 (by omega))
      refine zz_bipush d_RD_enter_40 (by decide) ?_
      refine ab_iload_n d_RD_enter_42 rfl ?_
      refine ab_callV (d' := d - 1) (as := [vz 13, vz at_]) (st := []) (r := _) (z_TX_fail (o := o) (x := x) (lx := 24) (se := se) (by_ := by_) (n := n) (pl := pl) (fa := fa) (fp := fp) (kd := kd) (kn := kn) (w := 13) (p := at_) hx (by omega) (by omega) (by omega)) (fun oc G2 h => by rcases h with ⟨h, _⟩ | ⟨h, _⟩ <;> exact ⟨_, h⟩) (by omega) m_TX_fail ml_RD_69 im_TX_fail se_TX_fail c_TX hx.2.2 (Nat.le_of_ble_eq_true rfl) d_RD_enter_43 rfl ?_
      intro v G88 hq
      rcases hq with ⟨hv, hfk, hlk, hsk, hNx, hq89⟩ | ⟨hv, hGe, hq90⟩
      · cases hv
        have hd_ := hfk.get hd_ (by decide)
        have hna := hfk.get hna (by decide)
        have hnl := hfk.get hnl (by decide)
        have popI_0 := opI.fr hfk ppaI_0 popI_0 (by decide) (by decide)
        have pszJ_0 := szJ.fr hfk ppaI_0 pszJ_0 (by decide) (by decide)
        have ppaI_0 := paI.fr hfk ppaI_0 (by decide) (by decide) (by decide) (by decide)
        have hfr := hfr.tr hfk (by decide)
        have hq91 := hlk
        have hq92 := hsk
        have hx := hNx
        change ab_W _ _ _ G88 46 [some (vR d_), some (vz at_), some (vz 1), some (vz ins), some (vz 0), none] [vz (-1)] _
        refine ab_pop d_RD_enter_46 rfl ?_
        refine ab_vret rfl d_RD_enter_47 ?_
        rw [hQ]; exact (Or.inl ⟨_, _, _, rfl, hfr, hd_, hx, hna, hnl, ppaI_0, popI_0, pszJ_0, (by unfold entF; first | (left; omega) | (right; omega)), (by omega), (by omega), (by omega)⟩)
      · cases hv
        rw [hGe]
        change ab_W _ _ _ G 46 [some (vR d_), some (vz at_), some (vz 1), some (vz ins), some (vz 0), none] [vz (-1)] _
        exfalso; omega
set_option maxRecDepth 100000 in
set_option maxHeartbeats 4000000 in
theorem zb_RD_enter {X : ab_X} {d : Nat} {o : Nat → Nat} {G : ab_G} {d_ : Nat} {inn : Value} {dp : Int} {flg : Int} {grp : Int} {na : Nat} {nl : Nat} {lst : Int} {mst : Int} {bh : Int} {NA : Int → Int} {NL : Int → Int} {x : Nat} {se : Nat} {by_ : Nat} {m : Nat} {n : Int} {pl : Int} {fa : Int} {fp : Int} {kd : Nat} {kn : Int} {ps : Nat → Nat} {wt : Nat → Nat} {bs : Nat} {ph : Int} {k : Nat} {hi : Nat} {wh : Nat} {fr : List Fr} {at_ : Int} {ins : Int} {nm : Int} (hd_ : cc o G d_ 25 (ab_ob 6 [vR x, inn, vz dp, vz flg, vz grp, vR na, vR nl, vz lst, vz mst, vz bh])) (hx : cc o G x 24 (ab_ob 10 [vR se, vR by_, vz n, vz pl, vz fa, vz fp, vR kd, vz kn])) (hna : cc o G na 86 (za 10 NA)) (hnl : cc o G nl 87 (za 10 NL)) (ppaI_0 : paI o G 0 ps wt bs grp pr0 ph) (popI_0 : opI o G 0 ps k hi inn) (pszJ_0 : szJ o G 0 ps fr hi inn wh 0 0) (n18 : ab_n0 = 18) (cn_ : 0 ≤ n ∧ n ≤ ↑m ∧ m ≤ 2000) (cf : 0 ≤ flg ∧ flg ≤ 31) (cg : 0 ≤ grp ∧ grp ≤ 9) (ck : 0 ≤ dp ∧ dp ≤ 30 ∧ ↑k = dp + 1 ∧ hi ≤ G.length) (hnm : nmok NA NL grp n) (cbs : bs ≤ G.length ∧ 18 ≤ G.length) (cfa : fa = 0) (hkf : k = fr.length) (ca : 0 ≤ at_ ∧ at_ ≤ 2000 ∧ 0 ≤ ins ∧ ins ≤ 31) (cnm : 1 ≤ nm ∧ nm ≤ 12 ∧ at_ + 4 + nm ≤ n) (rc : G.length + 9 ≤ ab_n0 + room_1.cells) (rs : ab_slots G + 30 ≤ room_1.slots) (hd : 4 ≤ d) : ab_F X d y_RD_enter (.code y_RD_enter b_RD_enter 6 none) [vR d_, vz at_, vz 1, vz ins, vz nm] G (fun oc G2 => (∃ o2 : Nat → Nat, ∃ fa2 : Int, ∃ fp2 : Int, oc = .returned none ∧ fx o o2 [24, 25, 86, 87, 90, 94] G G2 ∧ cc o2 G2 d_ 25 (ab_ob 6 [vR x, inn, vz dp, vz flg, vz grp, vR na, vR nl, vz lst, vz mst, vz bh]) ∧ cc o2 G2 x 24 (ab_ob 10 [vR se, vR by_, vz n, vz pl, vz fa2, vz fp2, vR kd, vz kn]) ∧ cc o2 G2 na 86 (za 10 NA) ∧ cc o2 G2 nl 87 (za 10 NL) ∧ paI o2 G2 0 ps wt bs grp pr0 ph ∧ opI o2 G2 0 ps k hi inn ∧ szJ o2 G2 0 ps fr hi inn wh 0 0 ∧ (entF dp grp 1 at_ fa2 fp2) ∧ (1 ≤ fa2 ∧ fa2 ≤ 14) ∧ (G2.length = G.length) ∧ (ab_slots G2 = ab_slots G)) ∨ (∃ o2 : Nat → Nat, ∃ inn2 : Value, ∃ k2 : Nat, ∃ hi2 : Nat, ∃ ps2 : Nat → Nat, ∃ wt2 : Nat → Nat, ∃ ph2 : Int, oc = .returned none ∧ fx o o2 [24, 25, 86, 87, 90, 94] G G2 ∧ cc o2 G2 d_ 25 (ab_ob 6 [vR x, inn2, vz (dp + 1), vz ins, vz (grp + 1), vR na, vR nl, vz lst, vz mst, vz bh]) ∧ cc o2 G2 x 24 (ab_ob 10 [vR se, vR by_, vz n, vz pl, vz fa, vz fp, vR kd, vz kn]) ∧ cc o2 G2 na 86 (za 10 (zu NA (grp + 1) (at_ + 4))) ∧ cc o2 G2 nl 87 (za 10 (zu NL (grp + 1) nm)) ∧ paI o2 G2 0 ps2 wt2 bs (grp + 1) pr0 ph2 ∧ opI o2 G2 0 ps2 k2 hi2 inn2 ∧ szJ o2 G2 0 ps2 ((at_, flg, (grp + 1), 0, 0) :: fr) hi2 inn2 wh 0 0 ∧ (dp < 30 ∧ grp < 9) ∧ (k2 = k + 1) ∧ (nmok (zu NA (grp + 1) (at_ + 4)) (zu NL (grp + 1) nm) (grp + 1) n) ∧ (hi2 ≤ G2.length) ∧ (psx ps ps2 G.length) ∧ (ph2 ≤ ph) ∧ (G2.length ≤ G.length + 2) ∧ (ab_slots G2 ≤ ab_slots G + 30))) := by
  refine ab_F_of (by decide +kernel) (Nat.le_of_ble_eq_true rfl) ?_
  obtain ⟨Q, hQ⟩ : ∃ z : Outcome → ab_G → Prop, z = (fun oc G2 => (∃ o2 : Nat → Nat, ∃ fa2 : Int, ∃ fp2 : Int, oc = .returned none ∧ fx o o2 [24, 25, 86, 87, 90, 94] G G2 ∧ cc o2 G2 d_ 25 (ab_ob 6 [vR x, inn, vz dp, vz flg, vz grp, vR na, vR nl, vz lst, vz mst, vz bh]) ∧ cc o2 G2 x 24 (ab_ob 10 [vR se, vR by_, vz n, vz pl, vz fa2, vz fp2, vR kd, vz kn]) ∧ cc o2 G2 na 86 (za 10 NA) ∧ cc o2 G2 nl 87 (za 10 NL) ∧ paI o2 G2 0 ps wt bs grp pr0 ph ∧ opI o2 G2 0 ps k hi inn ∧ szJ o2 G2 0 ps fr hi inn wh 0 0 ∧ (entF dp grp 1 at_ fa2 fp2) ∧ (1 ≤ fa2 ∧ fa2 ≤ 14) ∧ (G2.length = G.length) ∧ (ab_slots G2 = ab_slots G)) ∨ (∃ o2 : Nat → Nat, ∃ inn2 : Value, ∃ k2 : Nat, ∃ hi2 : Nat, ∃ ps2 : Nat → Nat, ∃ wt2 : Nat → Nat, ∃ ph2 : Int, oc = .returned none ∧ fx o o2 [24, 25, 86, 87, 90, 94] G G2 ∧ cc o2 G2 d_ 25 (ab_ob 6 [vR x, inn2, vz (dp + 1), vz ins, vz (grp + 1), vR na, vR nl, vz lst, vz mst, vz bh]) ∧ cc o2 G2 x 24 (ab_ob 10 [vR se, vR by_, vz n, vz pl, vz fa, vz fp, vR kd, vz kn]) ∧ cc o2 G2 na 86 (za 10 (zu NA (grp + 1) (at_ + 4))) ∧ cc o2 G2 nl 87 (za 10 (zu NL (grp + 1) nm)) ∧ paI o2 G2 0 ps2 wt2 bs (grp + 1) pr0 ph2 ∧ opI o2 G2 0 ps2 k2 hi2 inn2 ∧ szJ o2 G2 0 ps2 ((at_, flg, (grp + 1), 0, 0) :: fr) hi2 inn2 wh 0 0 ∧ (dp < 30 ∧ grp < 9) ∧ (k2 = k + 1) ∧ (nmok (zu NA (grp + 1) (at_ + 4)) (zu NL (grp + 1) nm) (grp + 1) n) ∧ (hi2 ≤ G2.length) ∧ (psx ps ps2 G.length) ∧ (ph2 ≤ ph) ∧ (G2.length ≤ G.length + 2) ∧ (ab_slots G2 ≤ ab_slots G + 30))) := ⟨_, rfl⟩
  rw [← hQ]
  change ab_W X (ab_pl y_RD_enter b_RD_enter 6 none) d G 0 [some (vR d_), some (vz at_), some (vz 1), some (vz ins), some (vz nm), none] [] Q
  have hfr : fx o o [24, 25, 86, 87, 90, 94] G G := fx.rf
  refine ab_aload_n d_RD_enter_0 rfl ?_
  refine ab_getf (fs := [vR x, inn, vz dp, vz flg, vz grp, vR na, vR nl, vz lst, vz mst, vz bh]) f_RD_45 d_RD_enter_1 hd_.2.2 rfl ?_
  refine zz_bipush d_RD_enter_4 (by decide) ?_
  refine zz_icmp_ge (tgt := 22) d_RD_enter_6 (by decide) (by omega) (by decide) (fun c1 => ?_) (fun c1 => ?_)
  · refine ab_aload_n d_RD_enter_22 rfl ?_
    refine ab_getf (fs := [vR x, inn, vz dp, vz flg, vz grp, vR na, vR nl, vz lst, vz mst, vz bh]) f_RD_12 d_RD_enter_23 hd_.2.2 rfl ?_
    refine ab_aload_n d_RD_enter_26 rfl ?_
    refine ab_getf (fs := [vR x, inn, vz dp, vz flg, vz grp, vR na, vR nl, vz lst, vz mst, vz bh]) f_RD_45 d_RD_enter_27 hd_.2.2 rfl ?_
    refine zz_bipush d_RD_enter_30 (by decide) ?_
    refine zz_icmp_lt (tgt := 40) d_RD_enter_32 (by decide) (by omega) (by decide) (fun c2 => absurd c2 (by omega)) (fun c2 => ?_)
    refine zz_bipush d_RD_enter_35 (by decide) ?_
    refine ab_goto (tgt := 42) d_RD_enter_37 (by decide) ?_
    refine ab_iload_n d_RD_enter_42 rfl ?_
    refine ab_callV (d' := d - 1) (as := [vz 12, vz at_]) (st := []) (r := _) (z_TX_fail (o := o) (x := x) (lx := 24) (se := se) (by_ := by_) (n := n) (pl := pl) (fa := fa) (fp := fp) (kd := kd) (kn := kn) (w := 12) (p := at_) hx (by omega) (by omega) (by omega)) (fun oc G2 h => by rcases h with ⟨h, _⟩ | ⟨h, _⟩ <;> exact ⟨_, h⟩) (by omega) m_TX_fail ml_RD_69 im_TX_fail se_TX_fail c_TX hx.2.2 (Nat.le_of_ble_eq_true rfl) d_RD_enter_43 rfl ?_
    intro v G3 hq
    rcases hq with ⟨hv, hfk, hlk, hsk, hNx, hq4⟩ | ⟨hv, hGe, hq5⟩
    · cases hv
      have hd_ := hfk.get hd_ (by decide)
      have hna := hfk.get hna (by decide)
      have hnl := hfk.get hnl (by decide)
      have popI_0 := opI.fr hfk ppaI_0 popI_0 (by decide) (by decide)
      have pszJ_0 := szJ.fr hfk ppaI_0 pszJ_0 (by decide) (by decide)
      have ppaI_0 := paI.fr hfk ppaI_0 (by decide) (by decide) (by decide) (by decide)
      have hfr := hfr.tr hfk (by decide)
      have hq6 := hlk
      have hq7 := hsk
      have hx := hNx
      change ab_W _ _ _ G3 46 [some (vR d_), some (vz at_), some (vz 1), some (vz ins), some (vz nm), none] [vz (-1)] _
      refine ab_pop d_RD_enter_46 rfl ?_
      refine ab_vret rfl d_RD_enter_47 ?_
      rw [hQ]; exact (Or.inl ⟨_, _, _, rfl, hfr, hd_, hx, hna, hnl, ppaI_0, popI_0, pszJ_0, (by unfold entF; first | (left; omega) | (right; omega)), (by omega), (by omega), (by omega)⟩)
    · cases hv
      rw [hGe]
      change ab_W _ _ _ G 46 [some (vR d_), some (vz at_), some (vz 1), some (vz ins), some (vz nm), none] [vz (-1)] _
      exfalso; omega
  · refine ab_iload_n d_RD_enter_9 rfl ?_
    refine zz_if_eq (tgt := 48) d_RD_enter_10 (by decide) (by decide) (fun c8 => absurd c8 (by decide)) (fun c8 => ?_)
    refine ab_aload_n d_RD_enter_13 rfl ?_
    refine ab_getf (fs := [vR x, inn, vz dp, vz flg, vz grp, vR na, vR nl, vz lst, vz mst, vz bh]) f_RD_42 d_RD_enter_14 hd_.2.2 rfl ?_
    refine zz_bipush d_RD_enter_17 (by decide) ?_
    refine zz_icmp_lt (tgt := 48) d_RD_enter_19 (by decide) (by omega) (by decide) (fun c9 => ?_) (fun c9 => ?_)
    · obtain ⟨j10, hj10⟩ : ∃ j, k = j + 1 := ⟨k - 1, by omega⟩
      rw [hj10] at popI_0
      obtain ⟨g10, r10, w10, lv10, hv10, ⟨hpg10, hpr10⟩, ⟨hgl10, hrl10⟩, hf610, hf510, hr610, hlv10, hop10⟩ := popI_0
      subst hv10
      obtain ⟨k_11, v_11, rg_11, pl_11, fl_11, ou_11, ls_11, bf_11, sz_11, mb_11, oe_11, le_11, mo_11, la_11, rc_11, hg10, hn11, hb11, hg11, ho11, hl11, hf11⟩ := ppaI_0.1 g10 hpg10
      have hB11 := hb11
      unfold pnB at hB11
      have hK11 := hn11.1
      obtain ⟨ls12, bf12, sz12, mb12, hr10, hB12, hl12, hf12⟩ := ppaI_0.2.1 r10 hpr10
      have e610 : some ls_11 = some (vR r10) := by have t := hf610; unfold pf at t; rw [hg10.2.2] at t; exact t
      have e610 := Option.some.inj e610
      subst e610
      have e510 : some ou_11 = some w10 := by have t := hf510; unfold pf at t; rw [hg10.2.2] at t; exact t
      have e510 := Option.some.inj e510
      subst e510
      have e710 : some ls12 = some lv10 := by have t := hr610; unfold pf at t; rw [hr10.2.2] at t; exact t
      have e710 := Option.some.inj e710
      subst e710
      have popI_0 : opI o G 0 ps j10 g10 ou_11 := hop10
      have hnq10 : nq g10 r10 := hg10.ne hr10 (by decide)
      change ab_W _ _ _ G 48 [some (vR d_), some (vz at_), some (vz 1), some (vz ins), some (vz nm), none] [] _
      have popI_0 : opI o G 0 ps (j10 + 1) hi (vR g10) := ⟨g10, r10, ou_11, ls12, rfl, ⟨hpg10, hpr10⟩, ⟨by omega, by omega⟩, by unfold pf; rw [hg10.2.2]; rfl, by unfold pf; rw [hg10.2.2]; rfl, by unfold pf; rw [hr10.2.2]; rfl, (hlv10.up (by omega)), popI_0⟩
      rw [← hj10] at popI_0
      refine ab_iload_n d_RD_enter_48 rfl ?_
      refine zz_if_eq (tgt := 94) d_RD_enter_49 (by decide) (by decide) (fun c13 => absurd c13 (by decide)) (fun c13 => ?_)
      refine ab_aload_n d_RD_enter_52 rfl ?_
      refine ab_dup d_RD_enter_53 rfl ?_
      refine ab_getf (fs := [vR x, vR g10, vz dp, vz flg, vz grp, vR na, vR nl, vz lst, vz mst, vz bh]) f_RD_42 d_RD_enter_54 hd_.2.2 rfl ?_
      refine zz_iconst d_RD_enter_57 ?_
      refine zz_iadd d_RD_enter_58 ?_
      refine ab_putf (fs := [vR x, vR g10, vz dp, vz flg, vz grp, vR na, vR nl, vz lst, vz mst, vz bh]) f_RD_42 (Or.inl rfl) d_RD_enter_59 hd_.2.2 (Nat.le_of_ble_eq_true rfl) (fun _ => ⟨rfl, rfl⟩) (hd_.2.1 (by decide)) ?_
      obtain ⟨G14, eG14⟩ : ∃ z : ab_G, z = List.set G d_ (ab_ob 6 [vR x, vR g10, vz dp, vz flg, vz (grp + 1), vR na, vR nl, vz lst, vz mst, vz bh]) := ⟨_, rfl⟩
      have hx := hx.keep hd_ eG14 (by decide)
      have hna := hna.keep hd_ eG14 (by decide)
      have hnl := hnl.keep hd_ eG14 (by decide)
      have hg10 := hg10.keep hd_ eG14 (by decide)
      have hr10 := hr10.keep hd_ eG14 (by decide)
      have hst := (fx.rf (o := o) (S := [25]) (G := G)).wr hd_ eG14 (List.mem_singleton.mpr rfl)
      have pszJ_0 := szJ.fr hst ppaI_0 pszJ_0 (by decide) (by decide)
      have popI_0 := opI.fr hst ppaI_0 popI_0 (by decide) (by decide)
      have ppaI_0 := paI.fr hst ppaI_0 (by decide) (by decide) (by decide) (by decide)
      have hq15 := z_len eG14
      have hq16 := z_sl hd_ eG14 rfl
      have hfr := hfr.wr hd_ eG14 (by decide)
      have hd_ := hd_.kept eG14
      change ab_W _ _ _ (List.set G d_ (ab_ob 6 [vR x, vR g10, vz dp, vz flg, vz (grp + 1), vR na, vR nl, vz lst, vz mst, vz bh])) 62 [some (vR d_), some (vz at_), some (vz 1), some (vz ins), some (vz nm), none] [] _
      rw [← eG14]
      refine ab_aload_n d_RD_enter_62 rfl ?_
      refine ab_getf (fs := [vR x, vR g10, vz dp, vz flg, vz (grp + 1), vR na, vR nl, vz lst, vz mst, vz bh]) f_RD_27 d_RD_enter_63 hd_.2.2 rfl ?_
      refine ab_aload_n d_RD_enter_66 rfl ?_
      refine ab_getf (fs := [vR x, vR g10, vz dp, vz flg, vz (grp + 1), vR na, vR nl, vz lst, vz mst, vz bh]) f_RD_42 d_RD_enter_67 hd_.2.2 rfl ?_
      refine ab_iload d_RD_enter_70 rfl ?_
      refine zz_if_le (tgt := 81) d_RD_enter_72 (by decide) (by omega) (fun c17 => absurd c17 (by omega)) (fun c17 => ?_)
      refine ab_iload_n d_RD_enter_75 rfl ?_
      refine zz_iconst d_RD_enter_76 ?_
      refine zz_iadd d_RD_enter_77 ?_
      refine ab_goto (tgt := 82) d_RD_enter_78 (by decide) ?_
      refine zz_iast d_RD_enter_82 hna (by omega) (hna.2.1 (by decide)) ?_
      obtain ⟨G18, eG18⟩ : ∃ z : ab_G, z = List.set G14 na (za 10 (zu NA (grp + 1) (at_ + 4))) := ⟨_, rfl⟩
      have hd_ := hd_.keep hna eG18 (by decide)
      have hx := hx.keep hna eG18 (by decide)
      have hnl := hnl.keep hna eG18 (by decide)
      have hg10 := hg10.keep hna eG18 (by decide)
      have hr10 := hr10.keep hna eG18 (by decide)
      have hst := (fx.rf (o := o) (S := [86]) (G := G14)).wr hna eG18 (List.mem_singleton.mpr rfl)
      have pszJ_0 := szJ.fr hst ppaI_0 pszJ_0 (by decide) (by decide)
      have popI_0 := opI.fr hst ppaI_0 popI_0 (by decide) (by decide)
      have ppaI_0 := paI.fr hst ppaI_0 (by decide) (by decide) (by decide) (by decide)
      have hq19 := z_len eG18
      have hq20 := z_sl hna eG18 rfl
      have hfr := hfr.wr hna eG18 (by decide)
      have hna := hna.kept eG18
      change ab_W _ _ _ (List.set G14 na (za 10 (zu NA (grp + 1) (at_ + 4)))) 83 [some (vR d_), some (vz at_), some (vz 1), some (vz ins), some (vz nm), none] [] _
      rw [← eG18]
      refine ab_aload_n d_RD_enter_83 rfl ?_
      refine ab_getf (fs := [vR x, vR g10, vz dp, vz flg, vz (grp + 1), vR na, vR nl, vz lst, vz mst, vz bh]) f_RD_31 d_RD_enter_84 hd_.2.2 rfl ?_
      refine ab_aload_n d_RD_enter_87 rfl ?_
      refine ab_getf (fs := [vR x, vR g10, vz dp, vz flg, vz (grp + 1), vR na, vR nl, vz lst, vz mst, vz bh]) f_RD_42 d_RD_enter_88 hd_.2.2 rfl ?_
      refine ab_iload d_RD_enter_91 rfl ?_
      refine zz_iast d_RD_enter_93 hnl (by omega) (hnl.2.1 (by decide)) ?_
      obtain ⟨G21, eG21⟩ : ∃ z : ab_G, z = List.set G18 nl (za 10 (zu NL (grp + 1) nm)) := ⟨_, rfl⟩
      have hd_ := hd_.keep hnl eG21 (by decide)
      have hx := hx.keep hnl eG21 (by decide)
      have hna := hna.keep hnl eG21 (by decide)
      have hg10 := hg10.keep hnl eG21 (by decide)
      have hr10 := hr10.keep hnl eG21 (by decide)
      have hst := (fx.rf (o := o) (S := [87]) (G := G18)).wr hnl eG21 (List.mem_singleton.mpr rfl)
      have pszJ_0 := szJ.fr hst ppaI_0 pszJ_0 (by decide) (by decide)
      have popI_0 := opI.fr hst ppaI_0 popI_0 (by decide) (by decide)
      have ppaI_0 := paI.fr hst ppaI_0 (by decide) (by decide) (by decide) (by decide)
      have hq22 := z_len eG21
      have hq23 := z_sl hnl eG21 rfl
      have hfr := hfr.wr hnl eG21 (by decide)
      have hnl := hnl.kept eG21
      change ab_W _ _ _ (List.set G18 nl (za 10 (zu NL (grp + 1) nm))) 94 [some (vR d_), some (vz at_), some (vz 1), some (vz ins), some (vz nm), none] [] _
      rw [← eG21]
      refine ab_new (fs := [vz 0, vz 0, vN, vz 0, vz 0, vN, vN, vN, vz 0, vz 0, vz 0, vz 0, vz 0, vz 0, vz 0]) k_PA rfl cl_RD_18 inst_PA ini_PA d_RD_enter_94 (by decide) (fun _ => rfl) (by omega) (by omega) ?_
      obtain ⟨G24, eG24⟩ : ∃ z : ab_G, z = G21 ++ [ab_ob 4 [vz 0, vz 0, vN, vz 0, vz 0, vN, vN, vN, vz 0, vz 0, vz 0, vz 0, vz 0, vz 0, vz 0]] := ⟨_, rfl⟩
      obtain ⟨o25, eo25⟩ : ∃ z : Nat → Nat, z = ol o G21.length 90 := ⟨_, rfl⟩
      obtain ⟨a26, ea26⟩ : ∃ z : Nat, z = G21.length := ⟨_, rfl⟩
      have hq27 := hr10.n0 (by first | decide | omega)
      have ne_a26_d_ : nq a26 d_ := by have hlt := hd_.lt; unfold nq; omega
      have ne_a26_x : nq a26 x := by have hlt := hx.lt; unfold nq; omega
      have ne_a26_na : nq a26 na := by have hlt := hna.lt; unfold nq; omega
      have ne_a26_nl : nq a26 nl := by have hlt := hnl.lt; unfold nq; omega
      have ne_a26_g10 : nq a26 g10 := by have hlt := hg10.lt; unfold nq; omega
      have ne_a26_r10 : nq a26 r10 := by have hlt := hr10.lt; unfold nq; omega
      have hd_ := hd_.akeep (k := 90) eG24
      rw [← eo25] at hd_
      have hx := hx.akeep (k := 90) eG24
      rw [← eo25] at hx
      have hna := hna.akeep (k := 90) eG24
      rw [← eo25] at hna
      have hnl := hnl.akeep (k := 90) eG24
      rw [← eo25] at hnl
      have hg10 := hg10.akeep (k := 90) eG24
      rw [← eo25] at hg10
      have hr10 := hr10.akeep (k := 90) eG24
      rw [← eo25] at hr10
      have hst := (fx.rf (o := o) (S := []) (G := G21)).ap (k := 90) eG24
      rw [← eo25] at hst
      have hnpa26 := ppaI_0.new (a := a26) (by omega)
      have pszJ_0 := szJ.fr hst ppaI_0 pszJ_0 (by decide) (by decide)
      have popI_0 := opI.fr hst ppaI_0 popI_0 (by decide) (by decide)
      have ppaI_0 := paI.fr hst ppaI_0 (by decide) (by decide) (by decide) (by simp)
      have ha26 := cc.anew (o := o) 90 eG24 hq27
      rw [← eo25, ← ea26] at ha26
      have hfr := hfr.ap (k := 90) eG24
      rw [← eo25] at hfr
      have hq28 := z_alen eG24
      have hq29 : ab_slots G24 = ab_slots G21 + 15 := z_asl eG24 hq27
      change ab_W _ _ _ (G21 ++ [ab_ob 4 [vz 0, vz 0, vN, vz 0, vz 0, vN, vN, vN, vz 0, vz 0, vz 0, vz 0, vz 0, vz 0, vz 0]]) 97 [some (vR d_), some (vz at_), some (vz 1), some (vz ins), some (vz nm), none] [.ref G21.length] _
      rw [← eG24, ← ea26]
      change ab_W _ _ _ G24 97 [some (vR d_), some (vz at_), some (vz 1), some (vz ins), some (vz nm), none] [vR a26] _
      refine ab_dup d_RD_enter_97 rfl ?_
      refine zz_iconst d_RD_enter_98 ?_
      refine ab_iload_n d_RD_enter_99 rfl ?_
      refine zz_if_eq (tgt := 110) d_RD_enter_100 (by decide) (by decide) (fun c30 => absurd c30 (by decide)) (fun c30 => ?_)
      refine ab_aload_n d_RD_enter_103 rfl ?_
      refine ab_getf (fs := [vR x, vR g10, vz dp, vz flg, vz (grp + 1), vR na, vR nl, vz lst, vz mst, vz bh]) f_RD_42 d_RD_enter_104 hd_.2.2 rfl ?_
      refine ab_goto (tgt := 111) d_RD_enter_107 (by decide) ?_
      refine ab_iload_n d_RD_enter_111 rfl ?_
      refine zz_if_eq (tgt := 119) d_RD_enter_112 (by decide) (by decide) (fun c31 => absurd c31 (by decide)) (fun c31 => ?_)
      refine zz_iconst d_RD_enter_115 ?_
      refine ab_goto (tgt := 120) d_RD_enter_116 (by decide) ?_
      refine zz_iconst d_RD_enter_120 ?_
      refine ab_callI (d' := d - 1) (as := [vz 4, vz (grp + 1), vz 2, vz 0]) (st := [vR a26]) (z90_PA_init (o := o25) (a := a26) (k0 := 4) (v0 := (grp + 1)) (s0 := 2) (m0 := 0) (ps := ps) (wt := wt) (bs := bs) (gr := grp) (Pr := pr0) (ph := ph) ha26 ppaI_0 (by omega) (by omega) (by omega) (by omega)) (fun oc G2 h => by rcases h with ⟨h, _⟩ <;> exact ⟨_, h⟩) (by omega) m_PA_init ml_RD_20 im_PA_init rfl (Nat.le_of_ble_eq_true rfl) d_RD_enter_121 rfl ?_
      intro v G32 hq
      rcases hq with ⟨hv, hfk, hlk, hsk, hNa26, pNpaI_0, hq33⟩
      cases hv
      have hd_ := hfk.get hd_ (by decide)
      have hx := hfk.get hx (by decide)
      have hna := hfk.get hna (by decide)
      have hnl := hfk.get hnl (by decide)
      have hKg10 := hq33.get hfk hg10 (Or.inl hpg10) (by simp only [List.mem_cons, List.not_mem_nil, or_false, not_or]; exact not_false)
      have hr10 := hfk.get hr10 (by decide)
      have hg10 := hKg10
      have pszJ_0 := pszJ_0.fzk (o2 := o25) hq33
      have popI_0 := popI_0.fz (o2 := o25) hq33 (by simp)
      have ppaI_0 := pNpaI_0
      have hfr := hfr.tr hfk (by decide)
      have hq34 := hlk
      have hq35 := hsk
      have ha26 := hNa26
      change ab_W _ _ _ G32 124 [some (vR d_), some (vz at_), some (vz 1), some (vz ins), some (vz nm), none] [vR a26] _
      refine ab_astore d_RD_enter_124 (Nat.le_of_ble_eq_true rfl) (Nat.le_of_ble_eq_true rfl) rfl ?_
      change ab_W _ _ _ G32 126 [some (vR d_), some (vz at_), some (vz 1), some (vz ins), some (vz nm), some (vR a26)] [] _
      refine ab_aload d_RD_enter_126 rfl ?_
      refine ab_iload_n d_RD_enter_128 rfl ?_
      refine ab_putf (fs := [vz 4, vz (grp + 1), vN, vz (-1), vz 0, vN, vN, vN, vz 2, vz 0, vz 0, vz 0, vz 0, vz 0, vz (-1)]) f_RD_68 (Or.inl rfl) d_RD_enter_129 ha26.2.2 (Nat.le_of_ble_eq_true rfl) (fun _ => ⟨rfl, rfl⟩) (ha26.2.1 (by decide)) ?_
      obtain ⟨G36, eG36⟩ : ∃ z : ab_G, z = List.set G32 a26 (ab_ob 4 [vz 4, vz (grp + 1), vN, vz at_, vz 0, vN, vN, vN, vz 2, vz 0, vz 0, vz 0, vz 0, vz 0, vz (-1)]) := ⟨_, rfl⟩
      have hd_ := hd_.keep ha26 eG36 (by decide)
      have hx := hx.keep ha26 eG36 (by decide)
      have hna := hna.keep ha26 eG36 (by decide)
      have hnl := hnl.keep ha26 eG36 (by decide)
      have hg10 := hg10.keep' eG36 ne_a26_g10
      have hr10 := hr10.keep ha26 eG36 (by decide)
      have hst := (fx.rf (o := o25) (S := [90]) (G := G32)).wr ha26 eG36 (List.mem_singleton.mpr rfl)
      have pszJ_0 := pszJ_0.wnp eG36 hnpa26
      have popI_0 := popI_0.wnp eG36 hnpa26
      have ppaI_0 := ppaI_0.wnp hnpa26 ha26 eG36 (by decide)
      have hq37 := z_len eG36
      have hq38 := z_sl ha26 eG36 rfl
      have hfr := hfr.wn (show G.length ≤ a26 by have := hfr.1; omega) eG36
      have ha26 := ha26.kept eG36
      change ab_W _ _ _ (List.set G32 a26 (ab_ob 4 [vz 4, vz (grp + 1), vN, vz at_, vz 0, vN, vN, vN, vz 2, vz 0, vz 0, vz 0, vz 0, vz 0, vz (-1)])) 132 [some (vR d_), some (vz at_), some (vz 1), some (vz ins), some (vz nm), some (vR a26)] [] _
      rw [← eG36]
      refine ab_aload d_RD_enter_132 rfl ?_
      refine ab_aload_n d_RD_enter_134 rfl ?_
      refine ab_getf (fs := [vR x, vR g10, vz dp, vz flg, vz (grp + 1), vR na, vR nl, vz lst, vz mst, vz bh]) f_RD_38 d_RD_enter_135 hd_.2.2 rfl ?_
      refine ab_putf (fs := [vz 4, vz (grp + 1), vN, vz at_, vz 0, vN, vN, vN, vz 2, vz 0, vz 0, vz 0, vz 0, vz 0, vz (-1)]) f_RD_169 (Or.inl rfl) d_RD_enter_138 ha26.2.2 (Nat.le_of_ble_eq_true rfl) (fun _ => ⟨rfl, rfl⟩) (ha26.2.1 (by decide)) ?_
      obtain ⟨G39, eG39⟩ : ∃ z : ab_G, z = List.set G36 a26 (ab_ob 4 [vz 4, vz (grp + 1), vN, vz at_, vz flg, vN, vN, vN, vz 2, vz 0, vz 0, vz 0, vz 0, vz 0, vz (-1)]) := ⟨_, rfl⟩
      have hd_ := hd_.keep ha26 eG39 (by decide)
      have hx := hx.keep ha26 eG39 (by decide)
      have hna := hna.keep ha26 eG39 (by decide)
      have hnl := hnl.keep ha26 eG39 (by decide)
      have hg10 := hg10.keep' eG39 ne_a26_g10
      have hr10 := hr10.keep ha26 eG39 (by decide)
      have hst := (fx.rf (o := o25) (S := [90]) (G := G36)).wr ha26 eG39 (List.mem_singleton.mpr rfl)
      have pszJ_0 := pszJ_0.wnp eG39 hnpa26
      have popI_0 := popI_0.wnp eG39 hnpa26
      have ppaI_0 := ppaI_0.wnp hnpa26 ha26 eG39 (by decide)
      have hq40 := z_len eG39
      have hq41 := z_sl ha26 eG39 rfl
      have hfr := hfr.wn (show G.length ≤ a26 by have := hfr.1; omega) eG39
      have ha26 := ha26.kept eG39
      change ab_W _ _ _ (List.set G36 a26 (ab_ob 4 [vz 4, vz (grp + 1), vN, vz at_, vz flg, vN, vN, vN, vz 2, vz 0, vz 0, vz 0, vz 0, vz 0, vz (-1)])) 141 [some (vR d_), some (vz at_), some (vz 1), some (vz ins), some (vz nm), some (vR a26)] [] _
      rw [← eG39]
      refine ab_aload d_RD_enter_141 rfl ?_
      refine ab_new (fs := [vz 0, vz 0, vN, vz 0, vz 0, vN, vN, vN, vz 0, vz 0, vz 0, vz 0, vz 0, vz 0, vz 0]) k_PA rfl cl_RD_18 inst_PA ini_PA d_RD_enter_143 (by decide) (fun _ => rfl) (by omega) (by omega) ?_
      obtain ⟨G42, eG42⟩ : ∃ z : ab_G, z = G39 ++ [ab_ob 4 [vz 0, vz 0, vN, vz 0, vz 0, vN, vN, vN, vz 0, vz 0, vz 0, vz 0, vz 0, vz 0, vz 0]] := ⟨_, rfl⟩
      obtain ⟨o43, eo43⟩ : ∃ z : Nat → Nat, z = ol o25 G39.length 94 := ⟨_, rfl⟩
      obtain ⟨a44, ea44⟩ : ∃ z : Nat, z = G39.length := ⟨_, rfl⟩
      have hq45 := ha26.n0 (by first | decide | omega)
      have ne_a44_d_ : nq a44 d_ := by have hlt := hd_.lt; unfold nq; omega
      have ne_a44_x : nq a44 x := by have hlt := hx.lt; unfold nq; omega
      have ne_a44_na : nq a44 na := by have hlt := hna.lt; unfold nq; omega
      have ne_a44_nl : nq a44 nl := by have hlt := hnl.lt; unfold nq; omega
      have ne_a44_g10 : nq a44 g10 := by have hlt := hg10.lt; unfold nq; omega
      have ne_a44_r10 : nq a44 r10 := by have hlt := hr10.lt; unfold nq; omega
      have ne_a44_a26 : nq a44 a26 := by have hlt := ha26.lt; unfold nq; omega
      have hd_ := hd_.akeep (k := 94) eG42
      rw [← eo43] at hd_
      have hx := hx.akeep (k := 94) eG42
      rw [← eo43] at hx
      have hna := hna.akeep (k := 94) eG42
      rw [← eo43] at hna
      have hnl := hnl.akeep (k := 94) eG42
      rw [← eo43] at hnl
      have hg10 := hg10.akeep (k := 94) eG42
      rw [← eo43] at hg10
      have hr10 := hr10.akeep (k := 94) eG42
      rw [← eo43] at hr10
      have ha26 := ha26.akeep (k := 94) eG42
      rw [← eo43] at ha26
      have hst := (fx.rf (o := o25) (S := []) (G := G39)).ap (k := 94) eG42
      rw [← eo43] at hst
      have hnpa44 := ppaI_0.new (a := a44) (by omega)
      have pszJ_0 := szJ.fr hst ppaI_0 pszJ_0 (by decide) (by decide)
      have popI_0 := opI.fr hst ppaI_0 popI_0 (by decide) (by decide)
      have ppaI_0 := paI.fr hst ppaI_0 (by decide) (by decide) (by decide) (by simp)
      have ha44 := cc.anew (o := o25) 94 eG42 hq45
      rw [← eo43, ← ea44] at ha44
      have hfr := hfr.ap (k := 94) eG42
      rw [← eo43] at hfr
      have hq46 := z_alen eG42
      have hq47 : ab_slots G42 = ab_slots G39 + 15 := z_asl eG42 hq45
      change ab_W _ _ _ (G39 ++ [ab_ob 4 [vz 0, vz 0, vN, vz 0, vz 0, vN, vN, vN, vz 0, vz 0, vz 0, vz 0, vz 0, vz 0, vz 0]]) 146 [some (vR d_), some (vz at_), some (vz 1), some (vz ins), some (vz nm), some (vR a26)] [.ref G39.length, vR a26] _
      rw [← eG42, ← ea44]
      change ab_W _ _ _ G42 146 [some (vR d_), some (vz at_), some (vz 1), some (vz ins), some (vz nm), some (vR a26)] [vR a44, vR a26] _
      refine ab_dup d_RD_enter_146 rfl ?_
      refine zz_iconst d_RD_enter_147 ?_
      refine zz_iconst d_RD_enter_148 ?_
      refine zz_iconst d_RD_enter_149 ?_
      refine zz_iconst d_RD_enter_150 ?_
      refine ab_callI (d' := d - 1) (as := [vz 5, vz 0, vz 0, vz 1]) (st := [vR a44, vR a26]) (z94_PA_init (o := o43) (a := a44) (k0 := 5) (v0 := 0) (s0 := 0) (m0 := 1) (ps := ps) (wt := wt) (bs := bs) (gr := grp) (Pr := pr0) (ph := ph) ha44 ppaI_0 (by omega) (by omega) (by omega) (by omega)) (fun oc G2 h => by rcases h with ⟨h, _⟩ <;> exact ⟨_, h⟩) (by omega) m_PA_init ml_RD_20 im_PA_init rfl (Nat.le_of_ble_eq_true rfl) d_RD_enter_151 rfl ?_
      intro v G48 hq
      rcases hq with ⟨hv, hfk, hlk, hsk, hNa44, pNpaI_0, hq49⟩
      cases hv
      have hd_ := hfk.get hd_ (by decide)
      have hx := hfk.get hx (by decide)
      have hna := hfk.get hna (by decide)
      have hnl := hfk.get hnl (by decide)
      have hg10 := hfk.get hg10 (by decide)
      have hKr10 := hq49.get hfk hr10 (Or.inr hpr10) (by simp only [List.mem_cons, List.not_mem_nil, or_false, not_or]; exact not_false)
      have ha26 := hfk.get ha26 (by decide)
      have hr10 := hKr10
      have pszJ_0 := pszJ_0.fzk (o2 := o43) hq49
      have popI_0 := popI_0.fz (o2 := o43) hq49 (by simp)
      have ppaI_0 := pNpaI_0
      have hfr := hfr.tr hfk (by decide)
      have hq50 := hlk
      have hq51 := hsk
      have ha44 := hNa44
      change ab_W _ _ _ G48 154 [some (vR d_), some (vz at_), some (vz 1), some (vz ins), some (vz nm), some (vR a26)] [vR a44, vR a26] _
      have hnfg_ := ppaI_0.nref hnpa26
      have hnog_ := hnpa26
      have hnfr_ := ppaI_0.nref hnpa44
      have hnor_ := hnpa44
      have hsz9 := pszJ_0
      have ppaI_0 := ppaI_0.gr (gr2 := grp + 1) (by omega) (Int.le_refl _)
      have hlt52 := ha26.lt
      have hn52 : paN (grp + 1) pr0 4 (grp + 1) (-1) := ⟨by omega, by intro _; omega, by intro _; omega, by intro _; omega, pr0_⟩
      obtain ⟨ps52, wt52, hx52, hxo52, hpa52, ppaI_0⟩ : ∃ pz wz : Nat → Nat, psx ps pz a26 ∧ (∀ x, ¬ x = a26 → pz x = ps x) ∧ pz a26 = 90 ∧ paI o43 G48 0 pz wz bs (grp + 1) pr0 (ph + 0) := ⟨_, _, psx.ol (Nat.le_refl _), fun x hx => if_neg hx, ol_self, ppaI_0.ad90 0 hnpa26 (by omega) ha26 hn52 (by unfold pnB; omega) (Or.inl ⟨by omega, rfl⟩) (Or.inl rfl) (Or.inl rfl) (Or.inl rfl)⟩
      have hnpa44 : ¬ ps52 a44 = 90 ∧ ¬ ps52 a44 = 94 := by rw [hxo52 a44 (by omega)]; exact hnpa44
      have hp53 : ps52 g10 = 90 := hx52.at (by have hlt := hg10.lt; omega) hpg10
      have hp54 : ps52 r10 = 94 := hx52.at (by have hlt := hr10.lt; omega) hpr10
      have hl55 := ho11.ps (by have hlt := hg10.lt; omega) hx52
      have hl56 := hl11.ps (by omega) hx52
      have hl57 := hf11.ps (by have hlt := hg10.lt; omega) hx52
      have hl58 := hl12.ps (by omega) hx52
      have hl59 := hf12.ps (by have hlt := hr10.lt; omega) hx52
      have hl60 := hlv10.ps (by omega) hx52
      have popI_0 : opI o43 G48 0 ps52 k hi (vR g10) := opn_ps _ _ _ popI_0 (psx.lt hx52 (by omega))
      have hlt61 := ha44.lt
      obtain ⟨ps61, hx61, hxo61, hpa61, ppaI_0⟩ : ∃ pz : Nat → Nat, psx ps52 pz a44 ∧ (∀ x, ¬ x = a44 → pz x = ps52 x) ∧ pz a44 = 94 ∧ paI o43 G48 0 pz wt52 bs (grp + 1) pr0 (ph + 0) := ⟨_, psx.ol (Nat.le_refl _), fun x hx => if_neg hx, ol_self, ppaI_0.ad94 hnpa44 ha44 (by omega) (Or.inl rfl) (Or.inl rfl)⟩
      have hp62 : ps61 g10 = 90 := hx61.at (by have hlt := hg10.lt; omega) hp53
      have hp63 : ps61 r10 = 94 := hx61.at (by have hlt := hr10.lt; omega) hp54
      have hl64 := hl55.ps (by have hlt := hg10.lt; omega) hx61
      have hl65 := hl56.ps (by omega) hx61
      have hl66 := hl57.ps (by have hlt := hg10.lt; omega) hx61
      have hl67 := hl58.ps (by omega) hx61
      have hl68 := hl59.ps (by have hlt := hr10.lt; omega) hx61
      have hl69 := hl60.ps (by omega) hx61
      have hp70 : ps61 a26 = 90 := hx61.at (by have hlt := ha26.lt; omega) hpa52
      have popI_0 : opI o43 G48 0 ps61 k hi (vR g10) := opn_ps _ _ _ popI_0 (psx.lt hx61 (by omega))
      have hfz : fz ps61 [a26, a44] G48 G48 := fz.rf
      refine ab_callV (d' := d - 1) (as := [vR a44]) (st := []) (r := _) (z90_PA_push (o := o43) (k := 4) (v := (grp + 1)) (rg := vN) (pl := at_) (fl := flg) (ou := vN) (ls := vN) (bf := vN) (sz := 2) (mb := 0) (oe := 0) (le := 0) (mo := 0) (la := 0) (rc := (-1)) (lr := vN) (br := vN) (sr := 0) (mr := 1) (ps := ps61) (wt := wt52) (bs := bs) (gr := (grp + 1)) (Pr := pr0) (ph := (ph + 0)) (r := a44) (p := a26) ha26 ha44 ppaI_0 (by omega) hp70 hpa61 hn52 (by omega) (by omega) (Or.inl rfl) (Or.inl rfl) (Or.inl rfl) (Or.inl rfl) (Or.inl rfl) (Or.inl rfl) (by omega)) (fun oc G2 h => by rcases h with ⟨h, _⟩ <;> exact ⟨_, h⟩) (by omega) m_PA_push ml_RD_48 im_PA_push se_PA_push c_PA ha26.2.2 (Nat.le_of_ble_eq_true rfl) d_RD_enter_154 rfl ?_
      intro v G71 hq
      rcases hq with ⟨hv, hfk, hlk, hsk, hNa26, hNa44, pNpaI_0, hq72⟩
      cases hv
      have hd_ := hfk.get hd_ (by decide)
      have hx := hfk.get hx (by decide)
      have hna := hfk.get hna (by decide)
      have hnl := hfk.get hnl (by decide)
      have hKg10 := hq72.get hfk hg10 (Or.inl hp62) (by simp only [List.mem_cons, List.not_mem_nil, or_false, not_or]; exact ⟨(nq.s ne_a26_g10), (hg10.ne ha44 (by decide))⟩)
      have hKr10 := hq72.get hfk hr10 (Or.inr hp63) (by simp only [List.mem_cons, List.not_mem_nil, or_false, not_or]; exact ⟨(hr10.ne ha26 (by decide)), (nq.s ne_a44_r10)⟩)
      have hg10 := hKg10
      have hr10 := hKr10
      have hfz := hfz.tr hq72 (by simp)
      have popI_0 := popI_0.fz (o2 := o43) hq72 (by intro y hy; simp only [List.mem_cons, List.not_mem_nil, or_false] at hy; omega)
      have ppaI_0 := pNpaI_0
      have hfr := hfr.tr hfk (by decide)
      have hq73 := hlk
      have hq74 := hsk
      have ha26 := hNa26
      have ha44 := hNa44
      change ab_W _ _ _ G71 157 [some (vR d_), some (vz at_), some (vz 1), some (vz ins), some (vz nm), some (vR a26)] [] _
      refine ab_aload d_RD_enter_157 rfl ?_
      refine ab_aload_n d_RD_enter_159 rfl ?_
      refine ab_getf (fs := [vR x, vR g10, vz dp, vz flg, vz (grp + 1), vR na, vR nl, vz lst, vz mst, vz bh]) f_RD_23 d_RD_enter_160 hd_.2.2 rfl ?_
      refine ab_putf (fs := [vz 4, vz (grp + 1), vN, vz at_, vz flg, vN, vR a44, vN, vz 2, vz 0, vz 0, vz 0, vz 0, vz 0, vz (-1)]) f_RD_172 (Or.inl rfl) d_RD_enter_163 ha26.2.2 (Nat.le_of_ble_eq_true rfl) (fun _ => ⟨rfl, rfl⟩) (ha26.2.1 (by decide)) ?_
      obtain ⟨G75, eG75⟩ : ∃ z : ab_G, z = List.set G71 a26 (ab_ob 4 [vz 4, vz (grp + 1), vN, vz at_, vz flg, vR g10, vR a44, vN, vz 2, vz 0, vz 0, vz 0, vz 0, vz 0, vz (-1)]) := ⟨_, rfl⟩
      have hd_ := hd_.keep ha26 eG75 (by decide)
      have hx := hx.keep ha26 eG75 (by decide)
      have hna := hna.keep ha26 eG75 (by decide)
      have hnl := hnl.keep ha26 eG75 (by decide)
      have hg10 := hg10.keep' eG75 ne_a26_g10
      have hr10 := hr10.keep ha26 eG75 (by decide)
      have ha44 := ha44.keep ha26 eG75 (by decide)
      have hfz := hfz.wr eG75 (by simp)
      have hst := (fx.rf (o := o43) (S := [90]) (G := G71)).wr ha26 eG75 (List.mem_singleton.mpr rfl)
      have popI_0 := popI_0.wge eG75 (by omega)
      have ppaI_0 := ppaI_0.w90 hp70 ha26 hn52 eG75 (by unfold pnB; omega) (Or.inr ⟨_, rfl, hp62, by have hlt := hg10.lt; omega⟩) (Or.inr ⟨_, rfl, hpa61, by have hlt := ha44.lt; omega⟩) (Or.inl rfl)
      have hq76 := z_len eG75
      have hq77 := z_sl ha26 eG75 rfl
      have hfr := hfr.wn (show G.length ≤ a26 by have := hfr.1; omega) eG75
      have ha26 := ha26.kept eG75
      change ab_W _ _ _ (List.set G71 a26 (ab_ob 4 [vz 4, vz (grp + 1), vN, vz at_, vz flg, vR g10, vR a44, vN, vz 2, vz 0, vz 0, vz 0, vz 0, vz 0, vz (-1)])) 166 [some (vR d_), some (vz at_), some (vz 1), some (vz ins), some (vz nm), some (vR a26)] [] _
      rw [← eG75]
      refine ab_aload_n d_RD_enter_166 rfl ?_
      refine ab_aload d_RD_enter_167 rfl ?_
      refine ab_putf (fs := [vR x, vR g10, vz dp, vz flg, vz (grp + 1), vR na, vR nl, vz lst, vz mst, vz bh]) f_RD_23 (Or.inl rfl) d_RD_enter_169 hd_.2.2 (Nat.le_of_ble_eq_true rfl) (fun _ => ⟨rfl, rfl⟩) (hd_.2.1 (by decide)) ?_
      obtain ⟨G78, eG78⟩ : ∃ z : ab_G, z = List.set G75 d_ (ab_ob 6 [vR x, vR a26, vz dp, vz flg, vz (grp + 1), vR na, vR nl, vz lst, vz mst, vz bh]) := ⟨_, rfl⟩
      have hx := hx.keep hd_ eG78 (by decide)
      have hna := hna.keep hd_ eG78 (by decide)
      have hnl := hnl.keep hd_ eG78 (by decide)
      have hg10 := hg10.keep hd_ eG78 (by decide)
      have hr10 := hr10.keep hd_ eG78 (by decide)
      have ha26 := ha26.keep hd_ eG78 (by decide)
      have ha44 := ha44.keep hd_ eG78 (by decide)
      have hfz := hfz.wl ppaI_0 hd_ eG78 (by decide)
      have hst := (fx.rf (o := o43) (S := [25]) (G := G75)).wr hd_ eG78 (List.mem_singleton.mpr rfl)
      have popI_0 := opI.fr hst ppaI_0 popI_0 (by decide) (by decide)
      have ppaI_0 := paI.fr hst ppaI_0 (by decide) (by decide) (by decide) (by decide)
      have hq79 := z_len eG78
      have hq80 := z_sl hd_ eG78 rfl
      have hfr := hfr.wr hd_ eG78 (by decide)
      have hd_ := hd_.kept eG78
      change ab_W _ _ _ (List.set G75 d_ (ab_ob 6 [vR x, vR a26, vz dp, vz flg, vz (grp + 1), vR na, vR nl, vz lst, vz mst, vz bh])) 172 [some (vR d_), some (vz at_), some (vz 1), some (vz ins), some (vz nm), some (vR a26)] [] _
      rw [← eG78]
      refine ab_aload_n d_RD_enter_172 rfl ?_
      refine ab_dup d_RD_enter_173 rfl ?_
      refine ab_getf (fs := [vR x, vR a26, vz dp, vz flg, vz (grp + 1), vR na, vR nl, vz lst, vz mst, vz bh]) f_RD_45 d_RD_enter_174 hd_.2.2 rfl ?_
      refine zz_iconst d_RD_enter_177 ?_
      refine zz_iadd d_RD_enter_178 ?_
      refine ab_putf (fs := [vR x, vR a26, vz dp, vz flg, vz (grp + 1), vR na, vR nl, vz lst, vz mst, vz bh]) f_RD_45 (Or.inl rfl) d_RD_enter_179 hd_.2.2 (Nat.le_of_ble_eq_true rfl) (fun _ => ⟨rfl, rfl⟩) (hd_.2.1 (by decide)) ?_
      obtain ⟨G81, eG81⟩ : ∃ z : ab_G, z = List.set G78 d_ (ab_ob 6 [vR x, vR a26, vz (dp + 1), vz flg, vz (grp + 1), vR na, vR nl, vz lst, vz mst, vz bh]) := ⟨_, rfl⟩
      have hx := hx.keep hd_ eG81 (by decide)
      have hna := hna.keep hd_ eG81 (by decide)
      have hnl := hnl.keep hd_ eG81 (by decide)
      have hg10 := hg10.keep hd_ eG81 (by decide)
      have hr10 := hr10.keep hd_ eG81 (by decide)
      have ha26 := ha26.keep hd_ eG81 (by decide)
      have ha44 := ha44.keep hd_ eG81 (by decide)
      have hfz := hfz.wl ppaI_0 hd_ eG81 (by decide)
      have hst := (fx.rf (o := o43) (S := [25]) (G := G78)).wr hd_ eG81 (List.mem_singleton.mpr rfl)
      have popI_0 := opI.fr hst ppaI_0 popI_0 (by decide) (by decide)
      have ppaI_0 := paI.fr hst ppaI_0 (by decide) (by decide) (by decide) (by decide)
      have hq82 := z_len eG81
      have hq83 := z_sl hd_ eG81 rfl
      have hfr := hfr.wr hd_ eG81 (by decide)
      have hd_ := hd_.kept eG81
      change ab_W _ _ _ (List.set G78 d_ (ab_ob 6 [vR x, vR a26, vz (dp + 1), vz flg, vz (grp + 1), vR na, vR nl, vz lst, vz mst, vz bh])) 182 [some (vR d_), some (vz at_), some (vz 1), some (vz ins), some (vz nm), some (vR a26)] [] _
      rw [← eG81]
      refine ab_aload_n d_RD_enter_182 rfl ?_
      refine ab_iload_n d_RD_enter_183 rfl ?_
      refine ab_putf (fs := [vR x, vR a26, vz (dp + 1), vz flg, vz (grp + 1), vR na, vR nl, vz lst, vz mst, vz bh]) f_RD_38 (Or.inl rfl) d_RD_enter_184 hd_.2.2 (Nat.le_of_ble_eq_true rfl) (fun _ => ⟨rfl, rfl⟩) (hd_.2.1 (by decide)) ?_
      obtain ⟨G84, eG84⟩ : ∃ z : ab_G, z = List.set G81 d_ (ab_ob 6 [vR x, vR a26, vz (dp + 1), vz ins, vz (grp + 1), vR na, vR nl, vz lst, vz mst, vz bh]) := ⟨_, rfl⟩
      have hx := hx.keep hd_ eG84 (by decide)
      have hna := hna.keep hd_ eG84 (by decide)
      have hnl := hnl.keep hd_ eG84 (by decide)
      have hg10 := hg10.keep hd_ eG84 (by decide)
      have hr10 := hr10.keep hd_ eG84 (by decide)
      have ha26 := ha26.keep hd_ eG84 (by decide)
      have ha44 := ha44.keep hd_ eG84 (by decide)
      have hfz := hfz.wl ppaI_0 hd_ eG84 (by decide)
      have hst := (fx.rf (o := o43) (S := [25]) (G := G81)).wr hd_ eG84 (List.mem_singleton.mpr rfl)
      have popI_0 := opI.fr hst ppaI_0 popI_0 (by decide) (by decide)
      have ppaI_0 := paI.fr hst ppaI_0 (by decide) (by decide) (by decide) (by decide)
      have hq85 := z_len eG84
      have hq86 := z_sl hd_ eG84 rfl
      have hfr := hfr.wr hd_ eG84 (by decide)
      have hd_ := hd_.kept eG84
      change ab_W _ _ _ (List.set G81 d_ (ab_ob 6 [vR x, vR a26, vz (dp + 1), vz ins, vz (grp + 1), vR na, vR nl, vz lst, vz mst, vz bh])) 187 [some (vR d_), some (vz at_), some (vz 1), some (vz ins), some (vz nm), some (vR a26)] [] _
      rw [← eG84]
      have popI_0 : opI o43 G84 0 ps61 (k + 1) G84.length (vR a26) := ⟨a26, a44, (vR g10), (vN), rfl, ⟨hp70, hpa61⟩, ⟨by omega, by omega⟩, by unfold pf; rw [ha26.2.2]; rfl, by unfold pf; rw [ha26.2.2]; rfl, by unfold pf; rw [ha44.2.2]; rfl, (Or.inl rfl), (opn_up popI_0 (by omega))⟩
      have pszJ_0 : szJ o43 G84 0 ps61 ((at_, flg, (grp + 1), 0, 0) :: fr) G84.length (vR a26) wh 0 0 := szJ.entC hsz9 hnfg_ hnfr_ hnog_ hnor_ (fun x h1 h2 => (hxo61 x h2).trans (hxo52 x h1)) hp70 hpa61 hfz ha26 ha44 (by omega) (by first | rfl | (unfold pin; rw [if_pos rfl, if_neg (by omega)])) (by omega) (by omega) (fun t => absurd t (by omega))
      refine ab_vret rfl d_RD_enter_187 ?_
      rw [hQ]; exact (Or.inr ⟨_, _, _, _, _, _, _, rfl, hfr, hd_, hx, hna, hnl, ppaI_0, popI_0, pszJ_0, (by omega), (by omega), (by exact nmok_s hnm (by omega) (by omega)), (by omega), (by exact (hx52.tr hx61 (by omega)).lt (by omega)), (by omega), (by omega), (by omega)⟩)
    · refine ab_aload_n d_RD_enter_22 rfl ?_
      refine ab_getf (fs := [vR x, inn, vz dp, vz flg, vz grp, vR na, vR nl, vz lst, vz mst, vz bh]) f_RD_12 d_RD_enter_23 hd_.2.2 rfl ?_
      refine ab_aload_n d_RD_enter_26 rfl ?_
      refine ab_getf (fs := [vR x, inn, vz dp, vz flg, vz grp, vR na, vR nl, vz lst, vz mst, vz bh]) f_RD_45 d_RD_enter_27 hd_.2.2 rfl ?_
      refine zz_bipush d_RD_enter_30 (by decide) ?_
      refine zz_icmp_lt (tgt := 40) d_RD_enter_32 (by decide) (by omega) (by decide) (fun c87 => ?_) (fun c87 => absurd c87 (by omega))
      refine zz_bipush d_RD_enter_40 (by decide) ?_
      refine ab_iload_n d_RD_enter_42 rfl ?_
      refine ab_callV (d' := d - 1) (as := [vz 13, vz at_]) (st := []) (r := _) (z_TX_fail (o := o) (x := x) (lx := 24) (se := se) (by_ := by_) (n := n) (pl := pl) (fa := fa) (fp := fp) (kd := kd) (kn := kn) (w := 13) (p := at_) hx (by omega) (by omega) (by omega)) (fun oc G2 h => by rcases h with ⟨h, _⟩ | ⟨h, _⟩ <;> exact ⟨_, h⟩) (by omega) m_TX_fail ml_RD_69 im_TX_fail se_TX_fail c_TX hx.2.2 (Nat.le_of_ble_eq_true rfl) d_RD_enter_43 rfl ?_
      intro v G88 hq
      rcases hq with ⟨hv, hfk, hlk, hsk, hNx, hq89⟩ | ⟨hv, hGe, hq90⟩
      · cases hv
        have hd_ := hfk.get hd_ (by decide)
        have hna := hfk.get hna (by decide)
        have hnl := hfk.get hnl (by decide)
        have popI_0 := opI.fr hfk ppaI_0 popI_0 (by decide) (by decide)
        have pszJ_0 := szJ.fr hfk ppaI_0 pszJ_0 (by decide) (by decide)
        have ppaI_0 := paI.fr hfk ppaI_0 (by decide) (by decide) (by decide) (by decide)
        have hfr := hfr.tr hfk (by decide)
        have hq91 := hlk
        have hq92 := hsk
        have hx := hNx
        change ab_W _ _ _ G88 46 [some (vR d_), some (vz at_), some (vz 1), some (vz ins), some (vz nm), none] [vz (-1)] _
        refine ab_pop d_RD_enter_46 rfl ?_
        refine ab_vret rfl d_RD_enter_47 ?_
        rw [hQ]; exact (Or.inl ⟨_, _, _, rfl, hfr, hd_, hx, hna, hnl, ppaI_0, popI_0, pszJ_0, (by unfold entF; first | (left; omega) | (right; omega)), (by omega), (by omega), (by omega)⟩)
      · cases hv
        rw [hGe]
        change ab_W _ _ _ G 46 [some (vR d_), some (vz at_), some (vz 1), some (vz ins), some (vz nm), none] [vz (-1)] _
        exfalso; omega
set_option maxRecDepth 100000 in
set_option maxHeartbeats 4000000 in
theorem zc_RD_enter {X : ab_X} {d : Nat} {o : Nat → Nat} {G : ab_G} {d_ : Nat} {inn : Value} {dp : Int} {flg : Int} {grp : Int} {na : Nat} {nl : Nat} {lst : Int} {mst : Int} {bh : Int} {NA : Int → Int} {NL : Int → Int} {x : Nat} {se : Nat} {by_ : Nat} {m : Nat} {n : Int} {pl : Int} {fa : Int} {fp : Int} {kd : Nat} {kn : Int} {ps : Nat → Nat} {wt : Nat → Nat} {bs : Nat} {ph : Int} {k : Nat} {hi : Nat} {wh : Nat} {fr : List Fr} {at_ : Int} {ins : Int} (hd_ : cc o G d_ 25 (ab_ob 6 [vR x, inn, vz dp, vz flg, vz grp, vR na, vR nl, vz lst, vz mst, vz bh])) (hx : cc o G x 24 (ab_ob 10 [vR se, vR by_, vz n, vz pl, vz fa, vz fp, vR kd, vz kn])) (hna : cc o G na 86 (za 10 NA)) (hnl : cc o G nl 87 (za 10 NL)) (ppaI_0 : paI o G 0 ps wt bs grp pr0 ph) (popI_0 : opI o G 0 ps k hi inn) (pszJ_0 : szJ o G 0 ps fr hi inn wh 0 0) (n18 : ab_n0 = 18) (cn_ : 0 ≤ n ∧ n ≤ ↑m ∧ m ≤ 2000) (cf : 0 ≤ flg ∧ flg ≤ 31) (cg : 0 ≤ grp ∧ grp ≤ 9) (ck : 0 ≤ dp ∧ dp ≤ 30 ∧ ↑k = dp + 1 ∧ hi ≤ G.length) (hnm : nmok NA NL grp n) (cbs : bs ≤ G.length ∧ 18 ≤ G.length) (cfa : fa = 0) (hkf : k = fr.length) (ca : 0 ≤ at_ ∧ at_ ≤ 2000 ∧ 0 ≤ ins ∧ ins ≤ 31) (rc : G.length + 9 ≤ ab_n0 + room_1.cells) (rs : ab_slots G + 30 ≤ room_1.slots) (hd : 4 ≤ d) : ab_F X d y_RD_enter (.code y_RD_enter b_RD_enter 6 none) [vR d_, vz at_, vz 0, vz ins, vz 0] G (fun oc G2 => (∃ o2 : Nat → Nat, ∃ fa2 : Int, ∃ fp2 : Int, oc = .returned none ∧ fx o o2 [24, 25, 86, 87, 90, 94] G G2 ∧ cc o2 G2 d_ 25 (ab_ob 6 [vR x, inn, vz dp, vz flg, vz grp, vR na, vR nl, vz lst, vz mst, vz bh]) ∧ cc o2 G2 x 24 (ab_ob 10 [vR se, vR by_, vz n, vz pl, vz fa2, vz fp2, vR kd, vz kn]) ∧ cc o2 G2 na 86 (za 10 NA) ∧ cc o2 G2 nl 87 (za 10 NL) ∧ paI o2 G2 0 ps wt bs grp pr0 ph ∧ opI o2 G2 0 ps k hi inn ∧ szJ o2 G2 0 ps fr hi inn wh 0 0 ∧ (entF dp grp 0 at_ fa2 fp2) ∧ (1 ≤ fa2 ∧ fa2 ≤ 14) ∧ (G2.length = G.length) ∧ (ab_slots G2 = ab_slots G)) ∨ (∃ o2 : Nat → Nat, ∃ inn2 : Value, ∃ k2 : Nat, ∃ hi2 : Nat, ∃ ps2 : Nat → Nat, ∃ wt2 : Nat → Nat, ∃ ph2 : Int, oc = .returned none ∧ fx o o2 [24, 25, 86, 87, 90, 94] G G2 ∧ cc o2 G2 d_ 25 (ab_ob 6 [vR x, inn2, vz (dp + 1), vz ins, vz grp, vR na, vR nl, vz lst, vz mst, vz bh]) ∧ cc o2 G2 x 24 (ab_ob 10 [vR se, vR by_, vz n, vz pl, vz fa, vz fp, vR kd, vz kn]) ∧ cc o2 G2 na 86 (za 10 NA) ∧ cc o2 G2 nl 87 (za 10 NL) ∧ paI o2 G2 0 ps2 wt2 bs grp pr0 ph2 ∧ opI o2 G2 0 ps2 k2 hi2 inn2 ∧ szJ o2 G2 0 ps2 ((at_, flg, 0, 0, 0) :: fr) hi2 inn2 wh 0 0 ∧ (dp < 30) ∧ (k2 = k + 1) ∧ (nmok NA NL grp n) ∧ (hi2 ≤ G2.length) ∧ (psx ps ps2 G.length) ∧ (ph2 ≤ ph) ∧ (G2.length ≤ G.length + 2) ∧ (ab_slots G2 ≤ ab_slots G + 30))) := by
  refine ab_F_of (by decide +kernel) (Nat.le_of_ble_eq_true rfl) ?_
  obtain ⟨Q, hQ⟩ : ∃ z : Outcome → ab_G → Prop, z = (fun oc G2 => (∃ o2 : Nat → Nat, ∃ fa2 : Int, ∃ fp2 : Int, oc = .returned none ∧ fx o o2 [24, 25, 86, 87, 90, 94] G G2 ∧ cc o2 G2 d_ 25 (ab_ob 6 [vR x, inn, vz dp, vz flg, vz grp, vR na, vR nl, vz lst, vz mst, vz bh]) ∧ cc o2 G2 x 24 (ab_ob 10 [vR se, vR by_, vz n, vz pl, vz fa2, vz fp2, vR kd, vz kn]) ∧ cc o2 G2 na 86 (za 10 NA) ∧ cc o2 G2 nl 87 (za 10 NL) ∧ paI o2 G2 0 ps wt bs grp pr0 ph ∧ opI o2 G2 0 ps k hi inn ∧ szJ o2 G2 0 ps fr hi inn wh 0 0 ∧ (entF dp grp 0 at_ fa2 fp2) ∧ (1 ≤ fa2 ∧ fa2 ≤ 14) ∧ (G2.length = G.length) ∧ (ab_slots G2 = ab_slots G)) ∨ (∃ o2 : Nat → Nat, ∃ inn2 : Value, ∃ k2 : Nat, ∃ hi2 : Nat, ∃ ps2 : Nat → Nat, ∃ wt2 : Nat → Nat, ∃ ph2 : Int, oc = .returned none ∧ fx o o2 [24, 25, 86, 87, 90, 94] G G2 ∧ cc o2 G2 d_ 25 (ab_ob 6 [vR x, inn2, vz (dp + 1), vz ins, vz grp, vR na, vR nl, vz lst, vz mst, vz bh]) ∧ cc o2 G2 x 24 (ab_ob 10 [vR se, vR by_, vz n, vz pl, vz fa, vz fp, vR kd, vz kn]) ∧ cc o2 G2 na 86 (za 10 NA) ∧ cc o2 G2 nl 87 (za 10 NL) ∧ paI o2 G2 0 ps2 wt2 bs grp pr0 ph2 ∧ opI o2 G2 0 ps2 k2 hi2 inn2 ∧ szJ o2 G2 0 ps2 ((at_, flg, 0, 0, 0) :: fr) hi2 inn2 wh 0 0 ∧ (dp < 30) ∧ (k2 = k + 1) ∧ (nmok NA NL grp n) ∧ (hi2 ≤ G2.length) ∧ (psx ps ps2 G.length) ∧ (ph2 ≤ ph) ∧ (G2.length ≤ G.length + 2) ∧ (ab_slots G2 ≤ ab_slots G + 30))) := ⟨_, rfl⟩
  rw [← hQ]
  change ab_W X (ab_pl y_RD_enter b_RD_enter 6 none) d G 0 [some (vR d_), some (vz at_), some (vz 0), some (vz ins), some (vz 0), none] [] Q
  have hfr : fx o o [24, 25, 86, 87, 90, 94] G G := fx.rf
  refine ab_aload_n d_RD_enter_0 rfl ?_
  refine ab_getf (fs := [vR x, inn, vz dp, vz flg, vz grp, vR na, vR nl, vz lst, vz mst, vz bh]) f_RD_45 d_RD_enter_1 hd_.2.2 rfl ?_
  refine zz_bipush d_RD_enter_4 (by decide) ?_
  refine zz_icmp_ge (tgt := 22) d_RD_enter_6 (by decide) (by omega) (by decide) (fun c1 => ?_) (fun c1 => ?_)
  · refine ab_aload_n d_RD_enter_22 rfl ?_
    refine ab_getf (fs := [vR x, inn, vz dp, vz flg, vz grp, vR na, vR nl, vz lst, vz mst, vz bh]) f_RD_12 d_RD_enter_23 hd_.2.2 rfl ?_
    refine ab_aload_n d_RD_enter_26 rfl ?_
    refine ab_getf (fs := [vR x, inn, vz dp, vz flg, vz grp, vR na, vR nl, vz lst, vz mst, vz bh]) f_RD_45 d_RD_enter_27 hd_.2.2 rfl ?_
    refine zz_bipush d_RD_enter_30 (by decide) ?_
    refine zz_icmp_lt (tgt := 40) d_RD_enter_32 (by decide) (by omega) (by decide) (fun c2 => absurd c2 (by omega)) (fun c2 => ?_)
    refine zz_bipush d_RD_enter_35 (by decide) ?_
    refine ab_goto (tgt := 42) d_RD_enter_37 (by decide) ?_
    refine ab_iload_n d_RD_enter_42 rfl ?_
    refine ab_callV (d' := d - 1) (as := [vz 12, vz at_]) (st := []) (r := _) (z_TX_fail (o := o) (x := x) (lx := 24) (se := se) (by_ := by_) (n := n) (pl := pl) (fa := fa) (fp := fp) (kd := kd) (kn := kn) (w := 12) (p := at_) hx (by omega) (by omega) (by omega)) (fun oc G2 h => by rcases h with ⟨h, _⟩ | ⟨h, _⟩ <;> exact ⟨_, h⟩) (by omega) m_TX_fail ml_RD_69 im_TX_fail se_TX_fail c_TX hx.2.2 (Nat.le_of_ble_eq_true rfl) d_RD_enter_43 rfl ?_
    intro v G3 hq
    rcases hq with ⟨hv, hfk, hlk, hsk, hNx, hq4⟩ | ⟨hv, hGe, hq5⟩
    · cases hv
      have hd_ := hfk.get hd_ (by decide)
      have hna := hfk.get hna (by decide)
      have hnl := hfk.get hnl (by decide)
      have popI_0 := opI.fr hfk ppaI_0 popI_0 (by decide) (by decide)
      have pszJ_0 := szJ.fr hfk ppaI_0 pszJ_0 (by decide) (by decide)
      have ppaI_0 := paI.fr hfk ppaI_0 (by decide) (by decide) (by decide) (by decide)
      have hfr := hfr.tr hfk (by decide)
      have hq6 := hlk
      have hq7 := hsk
      have hx := hNx
      change ab_W _ _ _ G3 46 [some (vR d_), some (vz at_), some (vz 0), some (vz ins), some (vz 0), none] [vz (-1)] _
      refine ab_pop d_RD_enter_46 rfl ?_
      refine ab_vret rfl d_RD_enter_47 ?_
      rw [hQ]; exact (Or.inl ⟨_, _, _, rfl, hfr, hd_, hx, hna, hnl, ppaI_0, popI_0, pszJ_0, (by unfold entF; first | (left; omega) | (right; omega)), (by omega), (by omega), (by omega)⟩)
    · cases hv
      rw [hGe]
      change ab_W _ _ _ G 46 [some (vR d_), some (vz at_), some (vz 0), some (vz ins), some (vz 0), none] [vz (-1)] _
      exfalso; omega
  · refine ab_iload_n d_RD_enter_9 rfl ?_
    refine zz_if_eq (tgt := 48) d_RD_enter_10 (by decide) (by decide) (fun c8 => ?_) (fun c8 => absurd c8 (by decide))
    obtain ⟨j9, hj9⟩ : ∃ j, k = j + 1 := ⟨k - 1, by omega⟩
    rw [hj9] at popI_0
    obtain ⟨g9, r9, w9, lv9, hv9, ⟨hpg9, hpr9⟩, ⟨hgl9, hrl9⟩, hf69, hf59, hr69, hlv9, hop9⟩ := popI_0
    subst hv9
    obtain ⟨k_10, v_10, rg_10, pl_10, fl_10, ou_10, ls_10, bf_10, sz_10, mb_10, oe_10, le_10, mo_10, la_10, rc_10, hg9, hn10, hb10, hg10, ho10, hl10, hf10⟩ := ppaI_0.1 g9 hpg9
    have hB10 := hb10
    unfold pnB at hB10
    have hK10 := hn10.1
    obtain ⟨ls11, bf11, sz11, mb11, hr9, hB11, hl11, hf11⟩ := ppaI_0.2.1 r9 hpr9
    have e69 : some ls_10 = some (vR r9) := by have t := hf69; unfold pf at t; rw [hg9.2.2] at t; exact t
    have e69 := Option.some.inj e69
    subst e69
    have e59 : some ou_10 = some w9 := by have t := hf59; unfold pf at t; rw [hg9.2.2] at t; exact t
    have e59 := Option.some.inj e59
    subst e59
    have e79 : some ls11 = some lv9 := by have t := hr69; unfold pf at t; rw [hr9.2.2] at t; exact t
    have e79 := Option.some.inj e79
    subst e79
    have popI_0 : opI o G 0 ps j9 g9 ou_10 := hop9
    have hnq9 : nq g9 r9 := hg9.ne hr9 (by decide)
    change ab_W _ _ _ G 48 [some (vR d_), some (vz at_), some (vz 0), some (vz ins), some (vz 0), none] [] _
    have popI_0 : opI o G 0 ps (j9 + 1) hi (vR g9) := ⟨g9, r9, ou_10, ls11, rfl, ⟨hpg9, hpr9⟩, ⟨by omega, by omega⟩, by unfold pf; rw [hg9.2.2]; rfl, by unfold pf; rw [hg9.2.2]; rfl, by unfold pf; rw [hr9.2.2]; rfl, (hlv9.up (by omega)), popI_0⟩
    rw [← hj9] at popI_0
    refine ab_iload_n d_RD_enter_48 rfl ?_
    refine zz_if_eq (tgt := 94) d_RD_enter_49 (by decide) (by decide) (fun c12 => ?_) (fun c12 => absurd c12 (by decide))
    refine ab_new (fs := [vz 0, vz 0, vN, vz 0, vz 0, vN, vN, vN, vz 0, vz 0, vz 0, vz 0, vz 0, vz 0, vz 0]) k_PA rfl cl_RD_18 inst_PA ini_PA d_RD_enter_94 (by decide) (fun _ => rfl) (by omega) (by omega) ?_
    obtain ⟨G13, eG13⟩ : ∃ z : ab_G, z = G ++ [ab_ob 4 [vz 0, vz 0, vN, vz 0, vz 0, vN, vN, vN, vz 0, vz 0, vz 0, vz 0, vz 0, vz 0, vz 0]] := ⟨_, rfl⟩
    obtain ⟨o14, eo14⟩ : ∃ z : Nat → Nat, z = ol o G.length 90 := ⟨_, rfl⟩
    obtain ⟨a15, ea15⟩ : ∃ z : Nat, z = G.length := ⟨_, rfl⟩
    have hq16 := hr9.n0 (by first | decide | omega)
    have ne_a15_d_ : nq a15 d_ := by have hlt := hd_.lt; unfold nq; omega
    have ne_a15_x : nq a15 x := by have hlt := hx.lt; unfold nq; omega
    have ne_a15_na : nq a15 na := by have hlt := hna.lt; unfold nq; omega
    have ne_a15_nl : nq a15 nl := by have hlt := hnl.lt; unfold nq; omega
    have ne_a15_g9 : nq a15 g9 := by have hlt := hg9.lt; unfold nq; omega
    have ne_a15_r9 : nq a15 r9 := by have hlt := hr9.lt; unfold nq; omega
    have hd_ := hd_.akeep (k := 90) eG13
    rw [← eo14] at hd_
    have hx := hx.akeep (k := 90) eG13
    rw [← eo14] at hx
    have hna := hna.akeep (k := 90) eG13
    rw [← eo14] at hna
    have hnl := hnl.akeep (k := 90) eG13
    rw [← eo14] at hnl
    have hg9 := hg9.akeep (k := 90) eG13
    rw [← eo14] at hg9
    have hr9 := hr9.akeep (k := 90) eG13
    rw [← eo14] at hr9
    have hst := (fx.rf (o := o) (S := []) (G := G)).ap (k := 90) eG13
    rw [← eo14] at hst
    have hnpa15 := ppaI_0.new (a := a15) (by omega)
    have pszJ_0 := szJ.fr hst ppaI_0 pszJ_0 (by decide) (by decide)
    have popI_0 := opI.fr hst ppaI_0 popI_0 (by decide) (by decide)
    have ppaI_0 := paI.fr hst ppaI_0 (by decide) (by decide) (by decide) (by simp)
    have ha15 := cc.anew (o := o) 90 eG13 hq16
    rw [← eo14, ← ea15] at ha15
    have hfr := hfr.ap (k := 90) eG13
    rw [← eo14] at hfr
    have hq17 := z_alen eG13
    have hq18 : ab_slots G13 = ab_slots G + 15 := z_asl eG13 hq16
    change ab_W _ _ _ (G ++ [ab_ob 4 [vz 0, vz 0, vN, vz 0, vz 0, vN, vN, vN, vz 0, vz 0, vz 0, vz 0, vz 0, vz 0, vz 0]]) 97 [some (vR d_), some (vz at_), some (vz 0), some (vz ins), some (vz 0), none] [.ref G.length] _
    rw [← eG13, ← ea15]
    change ab_W _ _ _ G13 97 [some (vR d_), some (vz at_), some (vz 0), some (vz ins), some (vz 0), none] [vR a15] _
    refine ab_dup d_RD_enter_97 rfl ?_
    refine zz_iconst d_RD_enter_98 ?_
    refine ab_iload_n d_RD_enter_99 rfl ?_
    refine zz_if_eq (tgt := 110) d_RD_enter_100 (by decide) (by decide) (fun c19 => ?_) (fun c19 => absurd c19 (by decide))
    refine zz_iconst d_RD_enter_110 ?_
    refine ab_iload_n d_RD_enter_111 rfl ?_
    refine zz_if_eq (tgt := 119) d_RD_enter_112 (by decide) (by decide) (fun c20 => ?_) (fun c20 => absurd c20 (by decide))
    refine zz_iconst d_RD_enter_119 ?_
    refine zz_iconst d_RD_enter_120 ?_
    refine ab_callI (d' := d - 1) (as := [vz 4, vz 0, vz 0, vz 0]) (st := [vR a15]) (z90_PA_init (o := o14) (a := a15) (k0 := 4) (v0 := 0) (s0 := 0) (m0 := 0) (ps := ps) (wt := wt) (bs := bs) (gr := grp) (Pr := pr0) (ph := ph) ha15 ppaI_0 (by omega) (by omega) (by omega) (by omega)) (fun oc G2 h => by rcases h with ⟨h, _⟩ <;> exact ⟨_, h⟩) (by omega) m_PA_init ml_RD_20 im_PA_init rfl (Nat.le_of_ble_eq_true rfl) d_RD_enter_121 rfl ?_
    intro v G21 hq
    rcases hq with ⟨hv, hfk, hlk, hsk, hNa15, pNpaI_0, hq22⟩
    cases hv
    have hd_ := hfk.get hd_ (by decide)
    have hx := hfk.get hx (by decide)
    have hna := hfk.get hna (by decide)
    have hnl := hfk.get hnl (by decide)
    have hKg9 := hq22.get hfk hg9 (Or.inl hpg9) (by simp only [List.mem_cons, List.not_mem_nil, or_false, not_or]; exact not_false)
    have hr9 := hfk.get hr9 (by decide)
    have hg9 := hKg9
    have pszJ_0 := pszJ_0.fzk (o2 := o14) hq22
    have popI_0 := popI_0.fz (o2 := o14) hq22 (by simp)
    have ppaI_0 := pNpaI_0
    have hfr := hfr.tr hfk (by decide)
    have hq23 := hlk
    have hq24 := hsk
    have ha15 := hNa15
    change ab_W _ _ _ G21 124 [some (vR d_), some (vz at_), some (vz 0), some (vz ins), some (vz 0), none] [vR a15] _
    refine ab_astore d_RD_enter_124 (Nat.le_of_ble_eq_true rfl) (Nat.le_of_ble_eq_true rfl) rfl ?_
    change ab_W _ _ _ G21 126 [some (vR d_), some (vz at_), some (vz 0), some (vz ins), some (vz 0), some (vR a15)] [] _
    refine ab_aload d_RD_enter_126 rfl ?_
    refine ab_iload_n d_RD_enter_128 rfl ?_
    refine ab_putf (fs := [vz 4, vz 0, vN, vz (-1), vz 0, vN, vN, vN, vz 0, vz 0, vz 0, vz 0, vz 0, vz 0, vz (-1)]) f_RD_68 (Or.inl rfl) d_RD_enter_129 ha15.2.2 (Nat.le_of_ble_eq_true rfl) (fun _ => ⟨rfl, rfl⟩) (ha15.2.1 (by decide)) ?_
    obtain ⟨G25, eG25⟩ : ∃ z : ab_G, z = List.set G21 a15 (ab_ob 4 [vz 4, vz 0, vN, vz at_, vz 0, vN, vN, vN, vz 0, vz 0, vz 0, vz 0, vz 0, vz 0, vz (-1)]) := ⟨_, rfl⟩
    have hd_ := hd_.keep ha15 eG25 (by decide)
    have hx := hx.keep ha15 eG25 (by decide)
    have hna := hna.keep ha15 eG25 (by decide)
    have hnl := hnl.keep ha15 eG25 (by decide)
    have hg9 := hg9.keep' eG25 ne_a15_g9
    have hr9 := hr9.keep ha15 eG25 (by decide)
    have hst := (fx.rf (o := o14) (S := [90]) (G := G21)).wr ha15 eG25 (List.mem_singleton.mpr rfl)
    have pszJ_0 := pszJ_0.wnp eG25 hnpa15
    have popI_0 := popI_0.wnp eG25 hnpa15
    have ppaI_0 := ppaI_0.wnp hnpa15 ha15 eG25 (by decide)
    have hq26 := z_len eG25
    have hq27 := z_sl ha15 eG25 rfl
    have hfr := hfr.wn (show G.length ≤ a15 by have := hfr.1; omega) eG25
    have ha15 := ha15.kept eG25
    change ab_W _ _ _ (List.set G21 a15 (ab_ob 4 [vz 4, vz 0, vN, vz at_, vz 0, vN, vN, vN, vz 0, vz 0, vz 0, vz 0, vz 0, vz 0, vz (-1)])) 132 [some (vR d_), some (vz at_), some (vz 0), some (vz ins), some (vz 0), some (vR a15)] [] _
    rw [← eG25]
    refine ab_aload d_RD_enter_132 rfl ?_
    refine ab_aload_n d_RD_enter_134 rfl ?_
    refine ab_getf (fs := [vR x, vR g9, vz dp, vz flg, vz grp, vR na, vR nl, vz lst, vz mst, vz bh]) f_RD_38 d_RD_enter_135 hd_.2.2 rfl ?_
    refine ab_putf (fs := [vz 4, vz 0, vN, vz at_, vz 0, vN, vN, vN, vz 0, vz 0, vz 0, vz 0, vz 0, vz 0, vz (-1)]) f_RD_169 (Or.inl rfl) d_RD_enter_138 ha15.2.2 (Nat.le_of_ble_eq_true rfl) (fun _ => ⟨rfl, rfl⟩) (ha15.2.1 (by decide)) ?_
    obtain ⟨G28, eG28⟩ : ∃ z : ab_G, z = List.set G25 a15 (ab_ob 4 [vz 4, vz 0, vN, vz at_, vz flg, vN, vN, vN, vz 0, vz 0, vz 0, vz 0, vz 0, vz 0, vz (-1)]) := ⟨_, rfl⟩
    have hd_ := hd_.keep ha15 eG28 (by decide)
    have hx := hx.keep ha15 eG28 (by decide)
    have hna := hna.keep ha15 eG28 (by decide)
    have hnl := hnl.keep ha15 eG28 (by decide)
    have hg9 := hg9.keep' eG28 ne_a15_g9
    have hr9 := hr9.keep ha15 eG28 (by decide)
    have hst := (fx.rf (o := o14) (S := [90]) (G := G25)).wr ha15 eG28 (List.mem_singleton.mpr rfl)
    have pszJ_0 := pszJ_0.wnp eG28 hnpa15
    have popI_0 := popI_0.wnp eG28 hnpa15
    have ppaI_0 := ppaI_0.wnp hnpa15 ha15 eG28 (by decide)
    have hq29 := z_len eG28
    have hq30 := z_sl ha15 eG28 rfl
    have hfr := hfr.wn (show G.length ≤ a15 by have := hfr.1; omega) eG28
    have ha15 := ha15.kept eG28
    change ab_W _ _ _ (List.set G25 a15 (ab_ob 4 [vz 4, vz 0, vN, vz at_, vz flg, vN, vN, vN, vz 0, vz 0, vz 0, vz 0, vz 0, vz 0, vz (-1)])) 141 [some (vR d_), some (vz at_), some (vz 0), some (vz ins), some (vz 0), some (vR a15)] [] _
    rw [← eG28]
    refine ab_aload d_RD_enter_141 rfl ?_
    refine ab_new (fs := [vz 0, vz 0, vN, vz 0, vz 0, vN, vN, vN, vz 0, vz 0, vz 0, vz 0, vz 0, vz 0, vz 0]) k_PA rfl cl_RD_18 inst_PA ini_PA d_RD_enter_143 (by decide) (fun _ => rfl) (by omega) (by omega) ?_
    obtain ⟨G31, eG31⟩ : ∃ z : ab_G, z = G28 ++ [ab_ob 4 [vz 0, vz 0, vN, vz 0, vz 0, vN, vN, vN, vz 0, vz 0, vz 0, vz 0, vz 0, vz 0, vz 0]] := ⟨_, rfl⟩
    obtain ⟨o32, eo32⟩ : ∃ z : Nat → Nat, z = ol o14 G28.length 94 := ⟨_, rfl⟩
    obtain ⟨a33, ea33⟩ : ∃ z : Nat, z = G28.length := ⟨_, rfl⟩
    have hq34 := ha15.n0 (by first | decide | omega)
    have ne_a33_d_ : nq a33 d_ := by have hlt := hd_.lt; unfold nq; omega
    have ne_a33_x : nq a33 x := by have hlt := hx.lt; unfold nq; omega
    have ne_a33_na : nq a33 na := by have hlt := hna.lt; unfold nq; omega
    have ne_a33_nl : nq a33 nl := by have hlt := hnl.lt; unfold nq; omega
    have ne_a33_g9 : nq a33 g9 := by have hlt := hg9.lt; unfold nq; omega
    have ne_a33_r9 : nq a33 r9 := by have hlt := hr9.lt; unfold nq; omega
    have ne_a33_a15 : nq a33 a15 := by have hlt := ha15.lt; unfold nq; omega
    have hd_ := hd_.akeep (k := 94) eG31
    rw [← eo32] at hd_
    have hx := hx.akeep (k := 94) eG31
    rw [← eo32] at hx
    have hna := hna.akeep (k := 94) eG31
    rw [← eo32] at hna
    have hnl := hnl.akeep (k := 94) eG31
    rw [← eo32] at hnl
    have hg9 := hg9.akeep (k := 94) eG31
    rw [← eo32] at hg9
    have hr9 := hr9.akeep (k := 94) eG31
    rw [← eo32] at hr9
    have ha15 := ha15.akeep (k := 94) eG31
    rw [← eo32] at ha15
    have hst := (fx.rf (o := o14) (S := []) (G := G28)).ap (k := 94) eG31
    rw [← eo32] at hst
    have hnpa33 := ppaI_0.new (a := a33) (by omega)
    have pszJ_0 := szJ.fr hst ppaI_0 pszJ_0 (by decide) (by decide)
    have popI_0 := opI.fr hst ppaI_0 popI_0 (by decide) (by decide)
    have ppaI_0 := paI.fr hst ppaI_0 (by decide) (by decide) (by decide) (by simp)
    have ha33 := cc.anew (o := o14) 94 eG31 hq34
    rw [← eo32, ← ea33] at ha33
    have hfr := hfr.ap (k := 94) eG31
    rw [← eo32] at hfr
    have hq35 := z_alen eG31
    have hq36 : ab_slots G31 = ab_slots G28 + 15 := z_asl eG31 hq34
    change ab_W _ _ _ (G28 ++ [ab_ob 4 [vz 0, vz 0, vN, vz 0, vz 0, vN, vN, vN, vz 0, vz 0, vz 0, vz 0, vz 0, vz 0, vz 0]]) 146 [some (vR d_), some (vz at_), some (vz 0), some (vz ins), some (vz 0), some (vR a15)] [.ref G28.length, vR a15] _
    rw [← eG31, ← ea33]
    change ab_W _ _ _ G31 146 [some (vR d_), some (vz at_), some (vz 0), some (vz ins), some (vz 0), some (vR a15)] [vR a33, vR a15] _
    refine ab_dup d_RD_enter_146 rfl ?_
    refine zz_iconst d_RD_enter_147 ?_
    refine zz_iconst d_RD_enter_148 ?_
    refine zz_iconst d_RD_enter_149 ?_
    refine zz_iconst d_RD_enter_150 ?_
    refine ab_callI (d' := d - 1) (as := [vz 5, vz 0, vz 0, vz 1]) (st := [vR a33, vR a15]) (z94_PA_init (o := o32) (a := a33) (k0 := 5) (v0 := 0) (s0 := 0) (m0 := 1) (ps := ps) (wt := wt) (bs := bs) (gr := grp) (Pr := pr0) (ph := ph) ha33 ppaI_0 (by omega) (by omega) (by omega) (by omega)) (fun oc G2 h => by rcases h with ⟨h, _⟩ <;> exact ⟨_, h⟩) (by omega) m_PA_init ml_RD_20 im_PA_init rfl (Nat.le_of_ble_eq_true rfl) d_RD_enter_151 rfl ?_
    intro v G37 hq
    rcases hq with ⟨hv, hfk, hlk, hsk, hNa33, pNpaI_0, hq38⟩
    cases hv
    have hd_ := hfk.get hd_ (by decide)
    have hx := hfk.get hx (by decide)
    have hna := hfk.get hna (by decide)
    have hnl := hfk.get hnl (by decide)
    have hg9 := hfk.get hg9 (by decide)
    have hKr9 := hq38.get hfk hr9 (Or.inr hpr9) (by simp only [List.mem_cons, List.not_mem_nil, or_false, not_or]; exact not_false)
    have ha15 := hfk.get ha15 (by decide)
    have hr9 := hKr9
    have pszJ_0 := pszJ_0.fzk (o2 := o32) hq38
    have popI_0 := popI_0.fz (o2 := o32) hq38 (by simp)
    have ppaI_0 := pNpaI_0
    have hfr := hfr.tr hfk (by decide)
    have hq39 := hlk
    have hq40 := hsk
    have ha33 := hNa33
    change ab_W _ _ _ G37 154 [some (vR d_), some (vz at_), some (vz 0), some (vz ins), some (vz 0), some (vR a15)] [vR a33, vR a15] _
    have hnfg_ := ppaI_0.nref hnpa15
    have hnog_ := hnpa15
    have hnfr_ := ppaI_0.nref hnpa33
    have hnor_ := hnpa33
    have hsz9 := pszJ_0
    have hlt41 := ha15.lt
    have hn41 : paN grp pr0 4 0 (-1) := ⟨by omega, by intro _; omega, by intro _; omega, by intro _; omega, pr0_⟩
    obtain ⟨ps41, wt41, hx41, hxo41, hpa41, ppaI_0⟩ : ∃ pz wz : Nat → Nat, psx ps pz a15 ∧ (∀ x, ¬ x = a15 → pz x = ps x) ∧ pz a15 = 90 ∧ paI o32 G37 0 pz wz bs grp pr0 (ph + 0) := ⟨_, _, psx.ol (Nat.le_refl _), fun x hx => if_neg hx, ol_self, ppaI_0.ad90 0 hnpa15 (by omega) ha15 hn41 (by unfold pnB; omega) (Or.inl ⟨by omega, rfl⟩) (Or.inl rfl) (Or.inl rfl) (Or.inl rfl)⟩
    have hnpa33 : ¬ ps41 a33 = 90 ∧ ¬ ps41 a33 = 94 := by rw [hxo41 a33 (by omega)]; exact hnpa33
    have hp42 : ps41 g9 = 90 := hx41.at (by have hlt := hg9.lt; omega) hpg9
    have hp43 : ps41 r9 = 94 := hx41.at (by have hlt := hr9.lt; omega) hpr9
    have hl44 := ho10.ps (by have hlt := hg9.lt; omega) hx41
    have hl45 := hl10.ps (by omega) hx41
    have hl46 := hf10.ps (by have hlt := hg9.lt; omega) hx41
    have hl47 := hl11.ps (by omega) hx41
    have hl48 := hf11.ps (by have hlt := hr9.lt; omega) hx41
    have hl49 := hlv9.ps (by omega) hx41
    have popI_0 : opI o32 G37 0 ps41 k hi (vR g9) := opn_ps _ _ _ popI_0 (psx.lt hx41 (by omega))
    have hlt50 := ha33.lt
    obtain ⟨ps50, hx50, hxo50, hpa50, ppaI_0⟩ : ∃ pz : Nat → Nat, psx ps41 pz a33 ∧ (∀ x, ¬ x = a33 → pz x = ps41 x) ∧ pz a33 = 94 ∧ paI o32 G37 0 pz wt41 bs grp pr0 (ph + 0) := ⟨_, psx.ol (Nat.le_refl _), fun x hx => if_neg hx, ol_self, ppaI_0.ad94 hnpa33 ha33 (by omega) (Or.inl rfl) (Or.inl rfl)⟩
    have hp51 : ps50 g9 = 90 := hx50.at (by have hlt := hg9.lt; omega) hp42
    have hp52 : ps50 r9 = 94 := hx50.at (by have hlt := hr9.lt; omega) hp43
    have hl53 := hl44.ps (by have hlt := hg9.lt; omega) hx50
    have hl54 := hl45.ps (by omega) hx50
    have hl55 := hl46.ps (by have hlt := hg9.lt; omega) hx50
    have hl56 := hl47.ps (by omega) hx50
    have hl57 := hl48.ps (by have hlt := hr9.lt; omega) hx50
    have hl58 := hl49.ps (by omega) hx50
    have hp59 : ps50 a15 = 90 := hx50.at (by have hlt := ha15.lt; omega) hpa41
    have popI_0 : opI o32 G37 0 ps50 k hi (vR g9) := opn_ps _ _ _ popI_0 (psx.lt hx50 (by omega))
    have hfz : fz ps50 [a15, a33] G37 G37 := fz.rf
    refine ab_callV (d' := d - 1) (as := [vR a33]) (st := []) (r := _) (z90_PA_push (o := o32) (k := 4) (v := 0) (rg := vN) (pl := at_) (fl := flg) (ou := vN) (ls := vN) (bf := vN) (sz := 0) (mb := 0) (oe := 0) (le := 0) (mo := 0) (la := 0) (rc := (-1)) (lr := vN) (br := vN) (sr := 0) (mr := 1) (ps := ps50) (wt := wt41) (bs := bs) (gr := grp) (Pr := pr0) (ph := (ph + 0)) (r := a33) (p := a15) ha15 ha33 ppaI_0 (by omega) hp59 hpa50 hn41 (by omega) (by omega) (Or.inl rfl) (Or.inl rfl) (Or.inl rfl) (Or.inl rfl) (Or.inl rfl) (Or.inl rfl) (by omega)) (fun oc G2 h => by rcases h with ⟨h, _⟩ <;> exact ⟨_, h⟩) (by omega) m_PA_push ml_RD_48 im_PA_push se_PA_push c_PA ha15.2.2 (Nat.le_of_ble_eq_true rfl) d_RD_enter_154 rfl ?_
    intro v G60 hq
    rcases hq with ⟨hv, hfk, hlk, hsk, hNa15, hNa33, pNpaI_0, hq61⟩
    cases hv
    have hd_ := hfk.get hd_ (by decide)
    have hx := hfk.get hx (by decide)
    have hna := hfk.get hna (by decide)
    have hnl := hfk.get hnl (by decide)
    have hKg9 := hq61.get hfk hg9 (Or.inl hp51) (by simp only [List.mem_cons, List.not_mem_nil, or_false, not_or]; exact ⟨(nq.s ne_a15_g9), (hg9.ne ha33 (by decide))⟩)
    have hKr9 := hq61.get hfk hr9 (Or.inr hp52) (by simp only [List.mem_cons, List.not_mem_nil, or_false, not_or]; exact ⟨(hr9.ne ha15 (by decide)), (nq.s ne_a33_r9)⟩)
    have hg9 := hKg9
    have hr9 := hKr9
    have hfz := hfz.tr hq61 (by simp)
    have popI_0 := popI_0.fz (o2 := o32) hq61 (by intro y hy; simp only [List.mem_cons, List.not_mem_nil, or_false] at hy; omega)
    have ppaI_0 := pNpaI_0
    have hfr := hfr.tr hfk (by decide)
    have hq62 := hlk
    have hq63 := hsk
    have ha15 := hNa15
    have ha33 := hNa33
    change ab_W _ _ _ G60 157 [some (vR d_), some (vz at_), some (vz 0), some (vz ins), some (vz 0), some (vR a15)] [] _
    refine ab_aload d_RD_enter_157 rfl ?_
    refine ab_aload_n d_RD_enter_159 rfl ?_
    refine ab_getf (fs := [vR x, vR g9, vz dp, vz flg, vz grp, vR na, vR nl, vz lst, vz mst, vz bh]) f_RD_23 d_RD_enter_160 hd_.2.2 rfl ?_
    refine ab_putf (fs := [vz 4, vz 0, vN, vz at_, vz flg, vN, vR a33, vN, vz 0, vz 0, vz 0, vz 0, vz 0, vz 0, vz (-1)]) f_RD_172 (Or.inl rfl) d_RD_enter_163 ha15.2.2 (Nat.le_of_ble_eq_true rfl) (fun _ => ⟨rfl, rfl⟩) (ha15.2.1 (by decide)) ?_
    obtain ⟨G64, eG64⟩ : ∃ z : ab_G, z = List.set G60 a15 (ab_ob 4 [vz 4, vz 0, vN, vz at_, vz flg, vR g9, vR a33, vN, vz 0, vz 0, vz 0, vz 0, vz 0, vz 0, vz (-1)]) := ⟨_, rfl⟩
    have hd_ := hd_.keep ha15 eG64 (by decide)
    have hx := hx.keep ha15 eG64 (by decide)
    have hna := hna.keep ha15 eG64 (by decide)
    have hnl := hnl.keep ha15 eG64 (by decide)
    have hg9 := hg9.keep' eG64 ne_a15_g9
    have hr9 := hr9.keep ha15 eG64 (by decide)
    have ha33 := ha33.keep ha15 eG64 (by decide)
    have hfz := hfz.wr eG64 (by simp)
    have hst := (fx.rf (o := o32) (S := [90]) (G := G60)).wr ha15 eG64 (List.mem_singleton.mpr rfl)
    have popI_0 := popI_0.wge eG64 (by omega)
    have ppaI_0 := ppaI_0.w90 hp59 ha15 hn41 eG64 (by unfold pnB; omega) (Or.inr ⟨_, rfl, hp51, by have hlt := hg9.lt; omega⟩) (Or.inr ⟨_, rfl, hpa50, by have hlt := ha33.lt; omega⟩) (Or.inl rfl)
    have hq65 := z_len eG64
    have hq66 := z_sl ha15 eG64 rfl
    have hfr := hfr.wn (show G.length ≤ a15 by have := hfr.1; omega) eG64
    have ha15 := ha15.kept eG64
    change ab_W _ _ _ (List.set G60 a15 (ab_ob 4 [vz 4, vz 0, vN, vz at_, vz flg, vR g9, vR a33, vN, vz 0, vz 0, vz 0, vz 0, vz 0, vz 0, vz (-1)])) 166 [some (vR d_), some (vz at_), some (vz 0), some (vz ins), some (vz 0), some (vR a15)] [] _
    rw [← eG64]
    refine ab_aload_n d_RD_enter_166 rfl ?_
    refine ab_aload d_RD_enter_167 rfl ?_
    refine ab_putf (fs := [vR x, vR g9, vz dp, vz flg, vz grp, vR na, vR nl, vz lst, vz mst, vz bh]) f_RD_23 (Or.inl rfl) d_RD_enter_169 hd_.2.2 (Nat.le_of_ble_eq_true rfl) (fun _ => ⟨rfl, rfl⟩) (hd_.2.1 (by decide)) ?_
    obtain ⟨G67, eG67⟩ : ∃ z : ab_G, z = List.set G64 d_ (ab_ob 6 [vR x, vR a15, vz dp, vz flg, vz grp, vR na, vR nl, vz lst, vz mst, vz bh]) := ⟨_, rfl⟩
    have hx := hx.keep hd_ eG67 (by decide)
    have hna := hna.keep hd_ eG67 (by decide)
    have hnl := hnl.keep hd_ eG67 (by decide)
    have hg9 := hg9.keep hd_ eG67 (by decide)
    have hr9 := hr9.keep hd_ eG67 (by decide)
    have ha15 := ha15.keep hd_ eG67 (by decide)
    have ha33 := ha33.keep hd_ eG67 (by decide)
    have hfz := hfz.wl ppaI_0 hd_ eG67 (by decide)
    have hst := (fx.rf (o := o32) (S := [25]) (G := G64)).wr hd_ eG67 (List.mem_singleton.mpr rfl)
    have popI_0 := opI.fr hst ppaI_0 popI_0 (by decide) (by decide)
    have ppaI_0 := paI.fr hst ppaI_0 (by decide) (by decide) (by decide) (by decide)
    have hq68 := z_len eG67
    have hq69 := z_sl hd_ eG67 rfl
    have hfr := hfr.wr hd_ eG67 (by decide)
    have hd_ := hd_.kept eG67
    change ab_W _ _ _ (List.set G64 d_ (ab_ob 6 [vR x, vR a15, vz dp, vz flg, vz grp, vR na, vR nl, vz lst, vz mst, vz bh])) 172 [some (vR d_), some (vz at_), some (vz 0), some (vz ins), some (vz 0), some (vR a15)] [] _
    rw [← eG67]
    refine ab_aload_n d_RD_enter_172 rfl ?_
    refine ab_dup d_RD_enter_173 rfl ?_
    refine ab_getf (fs := [vR x, vR a15, vz dp, vz flg, vz grp, vR na, vR nl, vz lst, vz mst, vz bh]) f_RD_45 d_RD_enter_174 hd_.2.2 rfl ?_
    refine zz_iconst d_RD_enter_177 ?_
    refine zz_iadd d_RD_enter_178 ?_
    refine ab_putf (fs := [vR x, vR a15, vz dp, vz flg, vz grp, vR na, vR nl, vz lst, vz mst, vz bh]) f_RD_45 (Or.inl rfl) d_RD_enter_179 hd_.2.2 (Nat.le_of_ble_eq_true rfl) (fun _ => ⟨rfl, rfl⟩) (hd_.2.1 (by decide)) ?_
    obtain ⟨G70, eG70⟩ : ∃ z : ab_G, z = List.set G67 d_ (ab_ob 6 [vR x, vR a15, vz (dp + 1), vz flg, vz grp, vR na, vR nl, vz lst, vz mst, vz bh]) := ⟨_, rfl⟩
    have hx := hx.keep hd_ eG70 (by decide)
    have hna := hna.keep hd_ eG70 (by decide)
    have hnl := hnl.keep hd_ eG70 (by decide)
    have hg9 := hg9.keep hd_ eG70 (by decide)
    have hr9 := hr9.keep hd_ eG70 (by decide)
    have ha15 := ha15.keep hd_ eG70 (by decide)
    have ha33 := ha33.keep hd_ eG70 (by decide)
    have hfz := hfz.wl ppaI_0 hd_ eG70 (by decide)
    have hst := (fx.rf (o := o32) (S := [25]) (G := G67)).wr hd_ eG70 (List.mem_singleton.mpr rfl)
    have popI_0 := opI.fr hst ppaI_0 popI_0 (by decide) (by decide)
    have ppaI_0 := paI.fr hst ppaI_0 (by decide) (by decide) (by decide) (by decide)
    have hq71 := z_len eG70
    have hq72 := z_sl hd_ eG70 rfl
    have hfr := hfr.wr hd_ eG70 (by decide)
    have hd_ := hd_.kept eG70
    change ab_W _ _ _ (List.set G67 d_ (ab_ob 6 [vR x, vR a15, vz (dp + 1), vz flg, vz grp, vR na, vR nl, vz lst, vz mst, vz bh])) 182 [some (vR d_), some (vz at_), some (vz 0), some (vz ins), some (vz 0), some (vR a15)] [] _
    rw [← eG70]
    refine ab_aload_n d_RD_enter_182 rfl ?_
    refine ab_iload_n d_RD_enter_183 rfl ?_
    refine ab_putf (fs := [vR x, vR a15, vz (dp + 1), vz flg, vz grp, vR na, vR nl, vz lst, vz mst, vz bh]) f_RD_38 (Or.inl rfl) d_RD_enter_184 hd_.2.2 (Nat.le_of_ble_eq_true rfl) (fun _ => ⟨rfl, rfl⟩) (hd_.2.1 (by decide)) ?_
    obtain ⟨G73, eG73⟩ : ∃ z : ab_G, z = List.set G70 d_ (ab_ob 6 [vR x, vR a15, vz (dp + 1), vz ins, vz grp, vR na, vR nl, vz lst, vz mst, vz bh]) := ⟨_, rfl⟩
    have hx := hx.keep hd_ eG73 (by decide)
    have hna := hna.keep hd_ eG73 (by decide)
    have hnl := hnl.keep hd_ eG73 (by decide)
    have hg9 := hg9.keep hd_ eG73 (by decide)
    have hr9 := hr9.keep hd_ eG73 (by decide)
    have ha15 := ha15.keep hd_ eG73 (by decide)
    have ha33 := ha33.keep hd_ eG73 (by decide)
    have hfz := hfz.wl ppaI_0 hd_ eG73 (by decide)
    have hst := (fx.rf (o := o32) (S := [25]) (G := G70)).wr hd_ eG73 (List.mem_singleton.mpr rfl)
    have popI_0 := opI.fr hst ppaI_0 popI_0 (by decide) (by decide)
    have ppaI_0 := paI.fr hst ppaI_0 (by decide) (by decide) (by decide) (by decide)
    have hq74 := z_len eG73
    have hq75 := z_sl hd_ eG73 rfl
    have hfr := hfr.wr hd_ eG73 (by decide)
    have hd_ := hd_.kept eG73
    change ab_W _ _ _ (List.set G70 d_ (ab_ob 6 [vR x, vR a15, vz (dp + 1), vz ins, vz grp, vR na, vR nl, vz lst, vz mst, vz bh])) 187 [some (vR d_), some (vz at_), some (vz 0), some (vz ins), some (vz 0), some (vR a15)] [] _
    rw [← eG73]
    have popI_0 : opI o32 G73 0 ps50 (k + 1) G73.length (vR a15) := ⟨a15, a33, (vR g9), (vN), rfl, ⟨hp59, hpa50⟩, ⟨by omega, by omega⟩, by unfold pf; rw [ha15.2.2]; rfl, by unfold pf; rw [ha15.2.2]; rfl, by unfold pf; rw [ha33.2.2]; rfl, (Or.inl rfl), (opn_up popI_0 (by omega))⟩
    have pszJ_0 : szJ o32 G73 0 ps50 ((at_, flg, 0, 0, 0) :: fr) G73.length (vR a15) wh 0 0 := szJ.entC hsz9 hnfg_ hnfr_ hnog_ hnor_ (fun x h1 h2 => (hxo50 x h2).trans (hxo41 x h1)) hp59 hpa50 hfz ha15 ha33 (by omega) (by first | rfl | (unfold pin; rw [if_pos rfl, if_neg (by omega)])) (by omega) (by omega) (fun t => absurd t (by omega))
    refine ab_vret rfl d_RD_enter_187 ?_
    rw [hQ]; exact (Or.inr ⟨_, _, _, _, _, _, _, rfl, hfr, hd_, hx, hna, hnl, ppaI_0, popI_0, pszJ_0, (by omega), (by omega), (by exact hnm), (by omega), (by exact (hx41.tr hx50 (by omega)).lt (by omega)), (by omega), (by omega), (by omega)⟩)
set_option maxRecDepth 100000 in
set_option maxHeartbeats 4000000 in
theorem z_RD_close {X : ab_X} {d : Nat} {o : Nat → Nat} {G : ab_G} {d_ : Nat} {inn : Value} {dp : Int} {flg : Int} {grp : Int} {na : Nat} {nl : Nat} {lst : Int} {mst : Int} {bh : Int} {x : Nat} {se : Nat} {by_ : Nat} {n : Int} {pl : Int} {fa : Int} {fp : Int} {kd : Nat} {kn : Int} {ps : Nat → Nat} {wt : Nat → Nat} {bs : Nat} {ph : Int} {k : Nat} {hi : Nat} {wh : Nat} {fr : List Fr} (hd_ : cc o G d_ 25 (ab_ob 6 [vR x, inn, vz dp, vz flg, vz grp, vR na, vR nl, vz lst, vz mst, vz bh])) (hx : cc o G x 24 (ab_ob 10 [vR se, vR by_, vz n, vz pl, vz fa, vz fp, vR kd, vz kn])) (ppaI_0 : paI o G 0 ps wt bs grp pr0 ph) (popI_0 : opI o G 0 ps k hi inn) (pszJ_0 : szJ o G 0 ps fr hi inn wh 0 0) (hkf : k = fr.length) (n18 : ab_n0 = 18) (cf : 0 ≤ flg ∧ flg ≤ 31) (cg : 0 ≤ grp ∧ grp ≤ 9) (ck : 0 ≤ dp ∧ dp ≤ 30 ∧ ↑k = dp + 1 ∧ hi ≤ G.length) (cfa : fa = 0) (cp : 0 ≤ pl ∧ pl ≤ 2000) (hd : 3 ≤ d) : ab_F X d y_RD_close (.code y_RD_close b_RD_close 2 (some (.object "PatternWorks$Part"))) [vR d_] G (fun oc G2 => (∃ inn2 : Value, ∃ dp2 : Int, ∃ flg2 : Int, ∃ p2 : Int, ∃ fa2 : Int, ∃ fp2 : Int, ∃ k2 : Nat, ∃ hi2 : Nat, oc = .returned (some (vN)) ∧ fx o o [24, 25, 90] G G2 ∧ G2.length = G.length ∧ ab_slots G2 = ab_slots G ∧ cc o G2 d_ 25 (ab_ob 6 [vR x, inn2, vz dp2, vz flg2, vz grp, vR na, vR nl, vz lst, vz mst, vz bh]) ∧ cc o G2 x 24 (ab_ob 10 [vR se, vR by_, vz n, vz p2, vz fa2, vz fp2, vR kd, vz kn]) ∧ paI o G2 0 ps wt bs grp pr0 ph ∧ opI o G2 0 ps k2 hi2 inn2 ∧ szJ o G2 0 ps fr hi2 inn2 wh 0 0 ∧ (fa2 = 3 ∧ fp2 = pl) ∧ (dp = 0) ∧ (0 ≤ flg2 ∧ flg2 ≤ 31) ∧ (0 ≤ dp2 ∧ dp2 ≤ 30 ∧ ↑k2 = dp2 + 1) ∧ (0 ≤ fa2 ∧ fa2 ≤ 14) ∧ (pl ≤ p2 ∧ p2 ≤ pl + 1) ∧ (hi2 ≤ G2.length)) ∨ (∃ p : Nat, ∃ a1_ : Int, ∃ b1_ : Int, ∃ c1_ : Int, ∃ d1_ : Int, ∃ e1_ : Int, ∃ t_ : List Fr, ∃ inn2 : Value, ∃ dp2 : Int, ∃ flg2 : Int, ∃ p2 : Int, ∃ fa2 : Int, ∃ fp2 : Int, ∃ k2 : Nat, oc = .returned (some (vR p)) ∧ fx o o [24, 25, 90] G G2 ∧ G2.length = G.length ∧ ab_slots G2 = ab_slots G ∧ cc o G2 d_ 25 (ab_ob 6 [vR x, inn2, vz dp2, vz flg2, vz grp, vR na, vR nl, vz lst, vz mst, vz bh]) ∧ cc o G2 x 24 (ab_ob 10 [vR se, vR by_, vz n, vz p2, vz fa2, vz fp2, vR kd, vz kn]) ∧ paI o G2 0 ps wt bs grp pr0 ph ∧ opI o G2 0 ps k2 p inn2 ∧ szJ o G2 0 ps t_ p inn2 wh p (pin 4 c1_ + e1_ + d1_) ∧ (fr = (a1_, b1_, c1_, d1_, e1_) :: t_) ∧ (flg2 = b1_) ∧ (k = k2 + 1) ∧ (0 ≤ flg2 ∧ flg2 ≤ 31) ∧ (0 ≤ dp2 ∧ dp2 ≤ 30 ∧ ↑k2 = dp2 + 1) ∧ (0 ≤ fa2 ∧ fa2 ≤ 14) ∧ (pl ≤ p2 ∧ p2 ≤ pl + 1) ∧ (ps p = 90) ∧ (p < G2.length))) := by
  refine ab_F_of (by decide +kernel) (Nat.le_of_ble_eq_true rfl) ?_
  obtain ⟨Q, hQ⟩ : ∃ z : Outcome → ab_G → Prop, z = (fun oc G2 => (∃ inn2 : Value, ∃ dp2 : Int, ∃ flg2 : Int, ∃ p2 : Int, ∃ fa2 : Int, ∃ fp2 : Int, ∃ k2 : Nat, ∃ hi2 : Nat, oc = .returned (some (vN)) ∧ fx o o [24, 25, 90] G G2 ∧ G2.length = G.length ∧ ab_slots G2 = ab_slots G ∧ cc o G2 d_ 25 (ab_ob 6 [vR x, inn2, vz dp2, vz flg2, vz grp, vR na, vR nl, vz lst, vz mst, vz bh]) ∧ cc o G2 x 24 (ab_ob 10 [vR se, vR by_, vz n, vz p2, vz fa2, vz fp2, vR kd, vz kn]) ∧ paI o G2 0 ps wt bs grp pr0 ph ∧ opI o G2 0 ps k2 hi2 inn2 ∧ szJ o G2 0 ps fr hi2 inn2 wh 0 0 ∧ (fa2 = 3 ∧ fp2 = pl) ∧ (dp = 0) ∧ (0 ≤ flg2 ∧ flg2 ≤ 31) ∧ (0 ≤ dp2 ∧ dp2 ≤ 30 ∧ ↑k2 = dp2 + 1) ∧ (0 ≤ fa2 ∧ fa2 ≤ 14) ∧ (pl ≤ p2 ∧ p2 ≤ pl + 1) ∧ (hi2 ≤ G2.length)) ∨ (∃ p : Nat, ∃ a1_ : Int, ∃ b1_ : Int, ∃ c1_ : Int, ∃ d1_ : Int, ∃ e1_ : Int, ∃ t_ : List Fr, ∃ inn2 : Value, ∃ dp2 : Int, ∃ flg2 : Int, ∃ p2 : Int, ∃ fa2 : Int, ∃ fp2 : Int, ∃ k2 : Nat, oc = .returned (some (vR p)) ∧ fx o o [24, 25, 90] G G2 ∧ G2.length = G.length ∧ ab_slots G2 = ab_slots G ∧ cc o G2 d_ 25 (ab_ob 6 [vR x, inn2, vz dp2, vz flg2, vz grp, vR na, vR nl, vz lst, vz mst, vz bh]) ∧ cc o G2 x 24 (ab_ob 10 [vR se, vR by_, vz n, vz p2, vz fa2, vz fp2, vR kd, vz kn]) ∧ paI o G2 0 ps wt bs grp pr0 ph ∧ opI o G2 0 ps k2 p inn2 ∧ szJ o G2 0 ps t_ p inn2 wh p (pin 4 c1_ + e1_ + d1_) ∧ (fr = (a1_, b1_, c1_, d1_, e1_) :: t_) ∧ (flg2 = b1_) ∧ (k = k2 + 1) ∧ (0 ≤ flg2 ∧ flg2 ≤ 31) ∧ (0 ≤ dp2 ∧ dp2 ≤ 30 ∧ ↑k2 = dp2 + 1) ∧ (0 ≤ fa2 ∧ fa2 ≤ 14) ∧ (pl ≤ p2 ∧ p2 ≤ pl + 1) ∧ (ps p = 90) ∧ (p < G2.length))) := ⟨_, rfl⟩
  rw [← hQ]
  change ab_W X (ab_pl y_RD_close b_RD_close 2 (some (.object "PatternWorks$Part"))) d G 0 [some (vR d_), none] [] Q
  have hfr : fx o o [24, 25, 90] G G := fx.rf
  have hlen : G.length = G.length := rfl
  have hsl : ab_slots G = ab_slots G := rfl
  obtain ⟨j1, hj1⟩ : ∃ j, k = j + 1 := ⟨k - 1, by omega⟩
  rw [hj1] at popI_0
  obtain ⟨g1, r1, w1, lv1, hv1, ⟨hpg1, hpr1⟩, ⟨hgl1, hrl1⟩, hf61, hf51, hr61, hlv1, hop1⟩ := popI_0
  subst hv1
  obtain ⟨k_2, v_2, rg_2, pl_2, fl_2, ou_2, ls_2, bf_2, sz_2, mb_2, oe_2, le_2, mo_2, la_2, rc_2, hg1, hn2, hb2, hg2, ho2, hl2, hf2⟩ := ppaI_0.1 g1 hpg1
  have hB2 := hb2
  unfold pnB at hB2
  have hK2 := hn2.1
  obtain ⟨ls3, bf3, sz3, mb3, hr1, hB3, hl3, hf3⟩ := ppaI_0.2.1 r1 hpr1
  have e61 : some ls_2 = some (vR r1) := by have t := hf61; unfold pf at t; rw [hg1.2.2] at t; exact t
  have e61 := Option.some.inj e61
  subst e61
  have e51 : some ou_2 = some w1 := by have t := hf51; unfold pf at t; rw [hg1.2.2] at t; exact t
  have e51 := Option.some.inj e51
  subst e51
  have e71 : some ls3 = some lv1 := by have t := hr61; unfold pf at t; rw [hr1.2.2] at t; exact t
  have e71 := Option.some.inj e71
  subst e71
  have popI_0 : opI o G 0 ps j1 g1 ou_2 := hop1
  have hnq1 : nq g1 r1 := hg1.ne hr1 (by decide)
  change ab_W _ _ _ G 0 [some (vR d_), none] [] _
  refine ab_aload_n d_RD_close_0 rfl ?_
  refine ab_getf (fs := [vR x, vR g1, vz dp, vz flg, vz grp, vR na, vR nl, vz lst, vz mst, vz bh]) f_RD_23 d_RD_close_1 hd_.2.2 rfl ?_
  refine ab_getf (fs := [vz k_2, vz v_2, rg_2, vz pl_2, vz fl_2, ou_2, vR r1, bf_2, vz sz_2, vz mb_2, vz oe_2, vz le_2, vz mo_2, vz la_2, vz rc_2]) f_RD_172 d_RD_close_4 hg1.2.2 rfl ?_
  change ab_W _ _ _ G 7 [some (vR d_), none] [ou_2] _
  rcases ho2 with hz5 | ⟨b4, hz5, hp6, hl7⟩
  · subst hz5
    change ab_W _ _ _ G 7 [some (vR d_), none] [vN] _
    refine ab_ifnonnullN d_RD_close_7 ?_
    have hk0_ := opn_nul popI_0
    have popI_0 : opI o G 0 ps (j1 + 1) hi (vR g1) := ⟨g1, r1, (vN), ls3, rfl, ⟨hpg1, hpr1⟩, ⟨by omega, by omega⟩, by unfold pf; rw [hg1.2.2]; rfl, by unfold pf; rw [hg1.2.2]; rfl, by unfold pf; rw [hr1.2.2]; rfl, (hlv1.up (by omega)), popI_0⟩
    rw [← hj1] at popI_0
    refine ab_aload_n d_RD_close_10 rfl ?_
    refine ab_getf (fs := [vR x, vR g1, vz dp, vz flg, vz grp, vR na, vR nl, vz lst, vz mst, vz bh]) f_RD_12 d_RD_close_11 hd_.2.2 rfl ?_
    refine zz_iconst d_RD_close_14 ?_
    refine ab_aload_n d_RD_close_15 rfl ?_
    refine ab_getf (fs := [vR x, vR g1, vz dp, vz flg, vz grp, vR na, vR nl, vz lst, vz mst, vz bh]) f_RD_12 d_RD_close_16 hd_.2.2 rfl ?_
    refine ab_getf (fs := [vR se, vR by_, vz n, vz pl, vz fa, vz fp, vR kd, vz kn]) f_RD_55 d_RD_close_19 hx.2.2 rfl ?_
    refine ab_callV (d' := d - 1) (as := [vz 3, vz pl]) (st := []) (r := _) (z_TX_fail (o := o) (x := x) (lx := 24) (se := se) (by_ := by_) (n := n) (pl := pl) (fa := fa) (fp := fp) (kd := kd) (kn := kn) (w := 3) (p := pl) hx (by omega) (by omega) (by omega)) (fun oc G2 h => by rcases h with ⟨h, _⟩ | ⟨h, _⟩ <;> exact ⟨_, h⟩) (by omega) m_TX_fail ml_RD_69 im_TX_fail se_TX_fail c_TX hx.2.2 (Nat.le_of_ble_eq_true rfl) d_RD_close_22 rfl ?_
    intro v G8 hq
    rcases hq with ⟨hv, hfk, hlk, hsk, hNx, hq9⟩ | ⟨hv, hGe, hq10⟩
    · cases hv
      have hd_ := hfk.get hd_ (by decide)
      have hg1 := hfk.get hg1 (by decide)
      have hr1 := hfk.get hr1 (by decide)
      have pszJ_0 := szJ.fr hfk ppaI_0 pszJ_0 (by decide) (by decide)
      have popI_0 := opI.fr hfk ppaI_0 popI_0 (by decide) (by decide)
      have ppaI_0 := paI.fr hfk ppaI_0 (by decide) (by decide) (by decide) (by decide)
      have hfr := hfr.tr hfk (by decide)
      have hlen := hlk.trans hlen
      have hsl := hsk.trans hsl
      have hx := hNx
      change ab_W _ _ _ G8 25 [some (vR d_), none] [vz (-1)] _
      refine ab_pop d_RD_close_25 rfl ?_
      refine ab_null d_RD_close_26 ?_
      refine ab_aret (rt := _) rfl (Or.inl ⟨_, rfl⟩) (Or.inl rfl) d_RD_close_27 ?_
      rw [hQ]; exact (Or.inl ⟨_, _, _, _, _, _, _, _, rfl, hfr, hlen, hsl, hd_, hx, ppaI_0, popI_0, pszJ_0, (by omega), (by omega), (by omega), (by omega), (by omega), (by omega), (by omega)⟩)
    · cases hv
      rw [hGe]
      change ab_W _ _ _ G 25 [some (vR d_), none] [vz (-1)] _
      exfalso; omega
  · subst hz5
    change ab_W _ _ _ G 7 [some (vR d_), none] [vR b4] _
    refine ab_ifnonnull (tgt := 28) d_RD_close_7 (by decide) ?_
    have hkp := opn_pos popI_0
    refine ab_aload_n d_RD_close_28 rfl ?_
    refine ab_getf (fs := [vR x, vR g1, vz dp, vz flg, vz grp, vR na, vR nl, vz lst, vz mst, vz bh]) f_RD_23 d_RD_close_29 hd_.2.2 rfl ?_
    refine ab_astore_n d_RD_close_32 (Nat.le_of_ble_eq_true rfl) (Nat.le_of_ble_eq_true rfl) rfl ?_
    change ab_W _ _ _ G 33 [some (vR d_), some (vR g1)] [] _
    refine ab_aload_n d_RD_close_33 rfl ?_
    refine ab_aload_n d_RD_close_34 rfl ?_
    refine ab_getf (fs := [vz k_2, vz v_2, rg_2, vz pl_2, vz fl_2, vR b4, vR r1, bf_2, vz sz_2, vz mb_2, vz oe_2, vz le_2, vz mo_2, vz la_2, vz rc_2]) f_RD_172 d_RD_close_35 hg1.2.2 rfl ?_
    refine ab_putf (fs := [vR x, vR g1, vz dp, vz flg, vz grp, vR na, vR nl, vz lst, vz mst, vz bh]) f_RD_23 (Or.inl rfl) d_RD_close_38 hd_.2.2 (Nat.le_of_ble_eq_true rfl) (fun _ => ⟨rfl, rfl⟩) (hd_.2.1 (by decide)) ?_
    obtain ⟨G11, eG11⟩ : ∃ z : ab_G, z = List.set G d_ (ab_ob 6 [vR x, vR b4, vz dp, vz flg, vz grp, vR na, vR nl, vz lst, vz mst, vz bh]) := ⟨_, rfl⟩
    have hx := hx.keep hd_ eG11 (by decide)
    have hg1 := hg1.keep hd_ eG11 (by decide)
    have hr1 := hr1.keep hd_ eG11 (by decide)
    have hst := (fx.rf (o := o) (S := [25]) (G := G)).wr hd_ eG11 (List.mem_singleton.mpr rfl)
    have pszJ_0 := szJ.fr hst ppaI_0 pszJ_0 (by decide) (by decide)
    have popI_0 := opI.fr hst ppaI_0 popI_0 (by decide) (by decide)
    have ppaI_0 := paI.fr hst ppaI_0 (by decide) (by decide) (by decide) (by decide)
    have hlen := (z_len eG11).trans hlen
    have hsl := (z_sl hd_ eG11 rfl).trans hsl
    have hfr := hfr.wr hd_ eG11 (by decide)
    have hd_ := hd_.kept eG11
    change ab_W _ _ _ (List.set G d_ (ab_ob 6 [vR x, vR b4, vz dp, vz flg, vz grp, vR na, vR nl, vz lst, vz mst, vz bh])) 41 [some (vR d_), some (vR g1)] [] _
    rw [← eG11]
    refine ab_aload_n d_RD_close_41 rfl ?_
    refine ab_dup d_RD_close_42 rfl ?_
    refine ab_getf (fs := [vR x, vR b4, vz dp, vz flg, vz grp, vR na, vR nl, vz lst, vz mst, vz bh]) f_RD_45 d_RD_close_43 hd_.2.2 rfl ?_
    refine zz_iconst d_RD_close_46 ?_
    refine zz_isub d_RD_close_47 ?_
    refine ab_putf (fs := [vR x, vR b4, vz dp, vz flg, vz grp, vR na, vR nl, vz lst, vz mst, vz bh]) f_RD_45 (Or.inl rfl) d_RD_close_48 hd_.2.2 (Nat.le_of_ble_eq_true rfl) (fun _ => ⟨rfl, rfl⟩) (hd_.2.1 (by decide)) ?_
    obtain ⟨G12, eG12⟩ : ∃ z : ab_G, z = List.set G11 d_ (ab_ob 6 [vR x, vR b4, vz (dp - 1), vz flg, vz grp, vR na, vR nl, vz lst, vz mst, vz bh]) := ⟨_, rfl⟩
    have hx := hx.keep hd_ eG12 (by decide)
    have hg1 := hg1.keep hd_ eG12 (by decide)
    have hr1 := hr1.keep hd_ eG12 (by decide)
    have hst := (fx.rf (o := o) (S := [25]) (G := G11)).wr hd_ eG12 (List.mem_singleton.mpr rfl)
    have pszJ_0 := szJ.fr hst ppaI_0 pszJ_0 (by decide) (by decide)
    have popI_0 := opI.fr hst ppaI_0 popI_0 (by decide) (by decide)
    have ppaI_0 := paI.fr hst ppaI_0 (by decide) (by decide) (by decide) (by decide)
    have hlen := (z_len eG12).trans hlen
    have hsl := (z_sl hd_ eG12 rfl).trans hsl
    have hfr := hfr.wr hd_ eG12 (by decide)
    have hd_ := hd_.kept eG12
    change ab_W _ _ _ (List.set G11 d_ (ab_ob 6 [vR x, vR b4, vz (dp - 1), vz flg, vz grp, vR na, vR nl, vz lst, vz mst, vz bh])) 51 [some (vR d_), some (vR g1)] [] _
    rw [← eG12]
    refine ab_aload_n d_RD_close_51 rfl ?_
    refine ab_getf (fs := [vR x, vR b4, vz (dp - 1), vz flg, vz grp, vR na, vR nl, vz lst, vz mst, vz bh]) f_RD_12 d_RD_close_52 hd_.2.2 rfl ?_
    refine ab_dup d_RD_close_55 rfl ?_
    refine ab_getf (fs := [vR se, vR by_, vz n, vz pl, vz fa, vz fp, vR kd, vz kn]) f_RD_55 d_RD_close_56 hx.2.2 rfl ?_
    refine zz_iconst d_RD_close_59 ?_
    refine zz_iadd d_RD_close_60 ?_
    refine ab_putf (fs := [vR se, vR by_, vz n, vz pl, vz fa, vz fp, vR kd, vz kn]) f_RD_55 (Or.inl rfl) d_RD_close_61 hx.2.2 (Nat.le_of_ble_eq_true rfl) (fun _ => ⟨rfl, rfl⟩) (hx.2.1 (by decide)) ?_
    obtain ⟨G13, eG13⟩ : ∃ z : ab_G, z = List.set G12 x (ab_ob 10 [vR se, vR by_, vz n, vz (pl + 1), vz fa, vz fp, vR kd, vz kn]) := ⟨_, rfl⟩
    have hd_ := hd_.keep hx eG13 (by decide)
    have hg1 := hg1.keep hx eG13 (by decide)
    have hr1 := hr1.keep hx eG13 (by decide)
    have hst := (fx.rf (o := o) (S := [24]) (G := G12)).wr hx eG13 (List.mem_singleton.mpr rfl)
    have pszJ_0 := szJ.fr hst ppaI_0 pszJ_0 (by decide) (by decide)
    have popI_0 := opI.fr hst ppaI_0 popI_0 (by decide) (by decide)
    have ppaI_0 := paI.fr hst ppaI_0 (by decide) (by decide) (by decide) (by decide)
    have hlen := (z_len eG13).trans hlen
    have hsl := (z_sl hx eG13 rfl).trans hsl
    have hfr := hfr.wr hx eG13 (by decide)
    have hx := hx.kept eG13
    change ab_W _ _ _ (List.set G12 x (ab_ob 10 [vR se, vR by_, vz n, vz (pl + 1), vz fa, vz fp, vR kd, vz kn])) 64 [some (vR d_), some (vR g1)] [] _
    rw [← eG13]
    refine ab_aload_n d_RD_close_64 rfl ?_
    refine ab_aload_n d_RD_close_65 rfl ?_
    refine ab_getf (fs := [vz k_2, vz v_2, rg_2, vz pl_2, vz fl_2, vR b4, vR r1, bf_2, vz sz_2, vz mb_2, vz oe_2, vz le_2, vz mo_2, vz la_2, vz rc_2]) f_RD_169 d_RD_close_66 hg1.2.2 rfl ?_
    refine ab_putf (fs := [vR x, vR b4, vz (dp - 1), vz flg, vz grp, vR na, vR nl, vz lst, vz mst, vz bh]) f_RD_38 (Or.inl rfl) d_RD_close_69 hd_.2.2 (Nat.le_of_ble_eq_true rfl) (fun _ => ⟨rfl, rfl⟩) (hd_.2.1 (by decide)) ?_
    obtain ⟨G14, eG14⟩ : ∃ z : ab_G, z = List.set G13 d_ (ab_ob 6 [vR x, vR b4, vz (dp - 1), vz fl_2, vz grp, vR na, vR nl, vz lst, vz mst, vz bh]) := ⟨_, rfl⟩
    have hx := hx.keep hd_ eG14 (by decide)
    have hg1 := hg1.keep hd_ eG14 (by decide)
    have hr1 := hr1.keep hd_ eG14 (by decide)
    have hst := (fx.rf (o := o) (S := [25]) (G := G13)).wr hd_ eG14 (List.mem_singleton.mpr rfl)
    have pszJ_0 := szJ.fr hst ppaI_0 pszJ_0 (by decide) (by decide)
    have popI_0 := opI.fr hst ppaI_0 popI_0 (by decide) (by decide)
    have ppaI_0 := paI.fr hst ppaI_0 (by decide) (by decide) (by decide) (by decide)
    have hlen := (z_len eG14).trans hlen
    have hsl := (z_sl hd_ eG14 rfl).trans hsl
    have hfr := hfr.wr hd_ eG14 (by decide)
    have hd_ := hd_.kept eG14
    change ab_W _ _ _ (List.set G13 d_ (ab_ob 6 [vR x, vR b4, vz (dp - 1), vz fl_2, vz grp, vR na, vR nl, vz lst, vz mst, vz bh])) 72 [some (vR d_), some (vR g1)] [] _
    rw [← eG14]
    obtain ⟨a1_, b1_, c1_, d1_, e1_, t_, hft_⟩ := pszJ_0.hd (by omega)
    rw [hft_] at pszJ_0
    obtain ⟨cu, hsx_, hso_, hfm_, -⟩ := pszJ_0
    have hg9 := hg1
    have hpa9 := ppaI_0
    have hfz : fz ps [g1] G14 G14 := fz.rf
    refine ab_aload_n d_RD_close_72 rfl ?_
    refine ab_callV (d' := d - 1) (as := []) (st := []) (r := _) (z_PA_closeRows (o := o) (k := k_2) (v := v_2) (rg := rg_2) (pl := pl_2) (fl := fl_2) (ou := vR b4) (ls := vR r1) (bf := bf_2) (sz := sz_2) (mb := mb_2) (oe := oe_2) (le := le_2) (mo := mo_2) (la := la_2) (rc := rc_2) (ps := ps) (wt := wt) (bs := bs) (ph := ph) (gr := grp) (Pr := pr0) (p := g1) (cu := cu) hg1 ppaI_0 (by omega) hpg1 hn2 (by omega) (Or.inr ⟨_, rfl, hp6, by omega⟩) (Or.inr ⟨_, rfl, hpr1, by have hlt := hr1.lt; omega⟩) (hf2.up (by omega)) hsx_.rqs hsx_.1 (by omega)) (fun oc G2 h => by rcases h with ⟨_, _, h, _⟩ <;> exact ⟨_, h⟩) (by omega) m_PA_closeRows ml_RD_73 im_PA_closeRows se_PA_closeRows c_PA hg1.2.2 (Nat.le_of_ble_eq_true rfl) d_RD_close_73 rfl ?_
    intro v G15 hq
    rcases hq with ⟨sz216, mb217, hv, hfk, hlk, hsk, hNg1, pNpaI_0, hq18, hq19, hq20⟩
    cases hv
    have hd_ := hfk.get hd_ (by decide)
    have hx := hfk.get hx (by decide)
    have hr1 := hfk.get hr1 (by decide)
    have hfz := hfz.tr hq19 (by simp)
    have popI_0 := popI_0.fz (o2 := o) hq19 (by intro y hy; simp only [List.mem_cons, List.not_mem_nil, or_false] at hy; omega)
    have ppaI_0 := pNpaI_0
    have hfr := hfr.tr hfk (by decide)
    have hlen := hlk.trans hlen
    have hsl := hsk.trans hsl
    have hg1 := hNg1
    change ab_W _ _ _ G15 76 [some (vR d_), some (vR g1)] [] _
    refine ab_aload_n d_RD_close_76 rfl ?_
    have pszJ_0 : szJ o G15 0 ps t_ g1 (vR b4) wh g1 (pin 4 c1_ + e1_ + d1_) := hsx_.cloJC hso_ hfm_ hpa9 hfz hg9 hg1 (by omega) (by omega) (by omega) hq20
    refine ab_aret (rt := _) rfl (Or.inl ⟨_, rfl⟩) (Or.inr ⟨_, rfl⟩) d_RD_close_77 ?_
    rw [hQ]; exact (Or.inr ⟨_, _, _, _, _, _, _, _, _, _, _, _, _, _, rfl, hfr, hlen, hsl, hd_, hx, ppaI_0, popI_0, pszJ_0, (by exact hft_), (by exact frm_fo hfm_ hg9 (by omega)), (by omega), (by omega), (by omega), (by omega), (by omega), (by exact hpg1), (by have hlt := hg1.lt; omega)⟩)
