set_option maxRecDepth 100000 in
set_option maxHeartbeats 4000000 in
theorem y_PA_closeRows_5 {X : ab_X} {d : Nat} {Q : Outcome → ab_G → Prop} {o : Nat → Nat} {G0 : ab_G} {k : Int} {v : Int} {rg : Value} {pl : Int} {fl : Int} {ou : Value} {ls : Value} {bf : Value} {oe : Int} {le : Int} {mo : Int} {la : Int} {rc : Int} {ps : Nat → Nat} {wt : Nat → Nat} {bs : Nat} {ph : Int} {gr : Int} {Pr : Int → Prop} {p : Nat} {cu : Nat → Int} {s9 : Int} (n18 : ab_n0 = 18) (hpp : ps p = 90) (hn : paN gr Pr k v rc) (ho : plk ps 90 p ou) (hl : plk ps 94 G0.length ls) (hf : plk ps 90 p bf) (hrq : rqs ps cu G0) (hc0 : ∀ a, 0 ≤ cu a) (hd : 1 ≤ d) : ∀ (mz : Nat) {G : ab_G} {rw : Value} {hb_ : Nat} {sz : Int} {mb : Int}, (cc o G p 90 (ab_ob 4 [vz k, vz v, rg, vz pl, vz fl, ou, ls, bf, vz sz, vz mb, vz oe, vz le, vz mo, vz la, vz rc])) → (paI o G 0 ps wt bs gr Pr ph) → ((-1 ≤ pl ∧ pl ≤ 2100) ∧ (0 ≤ fl ∧ fl ≤ 31) ∧ (0 ≤ sz ∧ sz ≤ 1000000) ∧ (0 ≤ mb ∧ mb ≤ 1) ∧ (0 ≤ oe ∧ oe ≤ 1) ∧ (0 ≤ le ∧ le ≤ 1000) ∧ (0 ≤ mo ∧ mo ≤ 1000) ∧ (0 ≤ la ∧ la ≤ 1)) → (plk ps 94 hb_ rw) → (fz ps [p] G0 G) → (ceq (sz + lvc cu rw) s9) → (fx o o [90] G0 G) → (G.length = G0.length) → (ab_slots G = ab_slots G0) → (Int.toNat (↑hb_ : Int) < mz) → (∀ (G2 : ab_G) (sz2 : Int) (mb2 : Int), (cc o G2 p 90 (ab_ob 4 [vz k, vz v, rg, vz pl, vz fl, ou, ls, bf, vz sz2, vz mb2, vz oe, vz le, vz mo, vz la, vz rc])) → (paI o G2 0 ps wt bs gr Pr ph) → ((0 ≤ sz2 ∧ sz2 ≤ 1000000) ∧ (0 ≤ mb2 ∧ mb2 ≤ 1)) → (fz ps [p] G0 G2) → (ceq sz2 s9) → (fx o o [90] G0 G2) → (G2.length = G0.length) → (ab_slots G2 = ab_slots G0) → Q (.returned none) G2) → ab_W X (ab_pl y_PA_closeRows b_PA_closeRows 3 none) d G 5 [some (vR p), some (rw), none] [] Q := by
  intro mz
  induction mz with
  | zero => intro G rw hb_ sz mb hp ppaI_0 cb hrw hfz hcq hfr hlen hsl hm hk0; exact absurd hm (Nat.not_lt_zero _)
  | succ mz ih =>
    intro G rw hb_ sz mb hp ppaI_0 cb hrw hfz hcq hfr hlen hsl hm hk0
    rcases hrw with hz2 | ⟨b1, hz2, hp3, hl4⟩
    · subst hz2
      change ab_W _ _ _ G 5 [some (vR p), some (vN), none] [] _
      refine ab_aload_nN d_PA_closeRows_5 rfl ?_
      refine ab_ifnullN (tgt := 63) d_PA_closeRows_6 (by decide) ?_
      refine ab_vret rfl d_PA_closeRows_63 ?_
      exact hk0 _ _ _ hp ppaI_0 (by omega) (by exact hfz) (by exact cq_end hcq) hfr hlen hsl
    · subst hz2
      change ab_W _ _ _ G 5 [some (vR p), some (vR b1), none] [] _
      refine ab_aload_n d_PA_closeRows_5 rfl ?_
      refine ab_ifnull d_PA_closeRows_6 ?_
      refine ab_aload_n d_PA_closeRows_9 rfl ?_
      obtain ⟨ls5, bf5, sz5, mb5, hb1, hB5, hl5, hf5⟩ := ppaI_0.2.1 b1 hp3
      have hcu_ := (hrq.same hfz (by intro a ha; rw [List.mem_singleton.mp ha]; exact hpp)).at hp3 hb1 (by omega)
      refine ab_getf (fs := [vz 5, vz 0, vN, vz (-1), vz 0, vN, ls5, bf5, vz sz5, vz mb5, vz 0, vz 0, vz 0, vz 0, vz (-1)]) f_PA_35 d_PA_closeRows_10 hb1.2.2 rfl ?_
      change ab_W _ _ _ G 13 [some (vR p), some (vR b1), none] [bf5] _
      rcases hf5 with hz7 | ⟨b6, hz7, hp8, hl9⟩
      · subst hz7
        change ab_W _ _ _ G 13 [some (vR p), some (vR b1), none] [vN] _
        refine ab_ifnonnullN d_PA_closeRows_13 ?_
        refine zz_iconst d_PA_closeRows_16 ?_
        refine ab_goto (tgt := 21) d_PA_closeRows_17 (by decide) ?_
        refine ab_istore_n d_PA_closeRows_21 (Nat.le_of_ble_eq_true rfl) (Nat.le_of_ble_eq_true rfl) rfl ?_
        change ab_W _ _ _ G 22 [some (vR p), some (vR b1), some (vz 0)] [] _
        refine ab_aload_n d_PA_closeRows_22 rfl ?_
        refine zz_ldc 1000000 d_PA_closeRows_23 cn_PA_42 (by decide) ?_
        refine ab_aload_n d_PA_closeRows_25 rfl ?_
        refine ab_getf (fs := [vz k, vz v, rg, vz pl, vz fl, ou, ls, bf, vz sz, vz mb, vz oe, vz le, vz mo, vz la, vz rc]) f_PA_24 d_PA_closeRows_26 hp.2.2 rfl ?_
        refine ab_aload_n d_PA_closeRows_29 rfl ?_
        refine ab_getf (fs := [vz 5, vz 0, vN, vz (-1), vz 0, vN, ls5, vN, vz sz5, vz mb5, vz 0, vz 0, vz 0, vz 0, vz (-1)]) f_PA_24 d_PA_closeRows_30 hb1.2.2 rfl ?_
        refine zz_iadd d_PA_closeRows_33 ?_
        refine ab_iload_n d_PA_closeRows_34 rfl ?_
        refine zz_iadd d_PA_closeRows_35 ?_
        refine zz_mmin mj_PA_43 d_PA_closeRows_36 (by decide) (by omega) (Nat.le_of_ble_eq_true rfl) (by omega) ?_
        obtain ⟨v10, hv10⟩ : ∃ z : Int, z = (min 1000000 ((sz + sz5) + 0)) := ⟨_, rfl⟩
        rw [← hv10]
        have hv10 : (1000000 ≤ ((sz + sz5) + 0) ∧ v10 = 1000000) ∨ (((sz + sz5) + 0) < 1000000 ∧ v10 = ((sz + sz5) + 0)) := by omega
        change ab_W _ _ _ G 39 [some (vR p), some (vR b1), some (vz 0)] [vz v10, vR p] _
        refine ab_putf (fs := [vz k, vz v, rg, vz pl, vz fl, ou, ls, bf, vz sz, vz mb, vz oe, vz le, vz mo, vz la, vz rc]) f_PA_24 (Or.inl rfl) d_PA_closeRows_39 hp.2.2 (Nat.le_of_ble_eq_true rfl) (fun _ => ⟨rfl, rfl⟩) (hp.2.1 (by decide)) ?_
        obtain ⟨G11, eG11⟩ : ∃ z : ab_G, z = List.set G p (ab_ob 4 [vz k, vz v, rg, vz pl, vz fl, ou, ls, bf, vz v10, vz mb, vz oe, vz le, vz mo, vz la, vz rc]) := ⟨_, rfl⟩
        have hb1 := hb1.keep hp eG11 (by decide)
        have hfz := hfz.wr eG11 (by simp)
        have hst := (fx.rf (o := o) (S := [90]) (G := G)).wr hp eG11 (List.mem_singleton.mpr rfl)
        have ppaI_0 := ppaI_0.w90 hpp hp hn eG11 (by unfold pnB; omega) (ho.up (by omega)) (hl.up (by omega)) (hf.up (by omega))
        have hlen := (z_len eG11).trans hlen
        have hsl := (z_sl hp eG11 rfl).trans hsl
        have hfr := hfr.wr hp eG11 (by decide)
        have hp := hp.kept eG11
        change ab_W _ _ _ (List.set G p (ab_ob 4 [vz k, vz v, rg, vz pl, vz fl, ou, ls, bf, vz v10, vz mb, vz oe, vz le, vz mo, vz la, vz rc])) 42 [some (vR p), some (vR b1), some (vz 0)] [] _
        rw [← eG11]
        refine ab_aload_n d_PA_closeRows_42 rfl ?_
        refine ab_dup d_PA_closeRows_43 rfl ?_
        refine ab_getf (fs := [vz k, vz v, rg, vz pl, vz fl, ou, ls, bf, vz v10, vz mb, vz oe, vz le, vz mo, vz la, vz rc]) f_PA_27 d_PA_closeRows_44 hp.2.2 rfl ?_
        refine ab_aload_n d_PA_closeRows_47 rfl ?_
        refine ab_getf (fs := [vz 5, vz 0, vN, vz (-1), vz 0, vN, ls5, vN, vz sz5, vz mb5, vz 0, vz 0, vz 0, vz 0, vz (-1)]) f_PA_27 d_PA_closeRows_48 hb1.2.2 rfl ?_
        refine zz_ior01 d_PA_closeRows_51 (by omega) (by omega) ?_
        obtain ⟨v12, hv12⟩ : ∃ z : Int, z = (max mb mb5) := ⟨_, rfl⟩
        rw [← hv12]
        have hv12b : v12 = 0 ∨ v12 = 1 := by omega
        change ab_W _ _ _ G11 52 [some (vR p), some (vR b1), some (vz 0)] [vz v12, vR p] _
        refine ab_putf (fs := [vz k, vz v, rg, vz pl, vz fl, ou, ls, bf, vz v10, vz mb, vz oe, vz le, vz mo, vz la, vz rc]) f_PA_27 (Or.inl rfl) d_PA_closeRows_52 hp.2.2 (Nat.le_of_ble_eq_true rfl) (ab_fbz (by omega)) (hp.2.1 (by decide)) ?_
        obtain ⟨G13, eG13⟩ : ∃ z : ab_G, z = List.set G11 p (ab_ob 4 [vz k, vz v, rg, vz pl, vz fl, ou, ls, bf, vz v10, vz v12, vz oe, vz le, vz mo, vz la, vz rc]) := ⟨_, rfl⟩
        have hb1 := hb1.keep hp eG13 (by decide)
        have hfz := hfz.wr eG13 (by simp)
        have hst := (fx.rf (o := o) (S := [90]) (G := G11)).wr hp eG13 (List.mem_singleton.mpr rfl)
        have ppaI_0 := ppaI_0.w90 hpp hp hn eG13 (by unfold pnB; omega) (ho.up (by omega)) (hl.up (by omega)) (hf.up (by omega))
        have hlen := (z_len eG13).trans hlen
        have hsl := (z_sl hp eG13 rfl).trans hsl
        have hfr := hfr.wr hp eG13 (by decide)
        have hp := hp.kept eG13
        change ab_W _ _ _ (List.set G11 p (ab_ob 4 [vz k, vz v, rg, vz pl, vz fl, ou, ls, bf, vz v10, vz v12, vz oe, vz le, vz mo, vz la, vz rc])) 55 [some (vR p), some (vR b1), some (vz 0)] [] _
        rw [← eG13]
        refine ab_aload_n d_PA_closeRows_55 rfl ?_
        refine ab_getf (fs := [vz 5, vz 0, vN, vz (-1), vz 0, vN, ls5, vN, vz sz5, vz mb5, vz 0, vz 0, vz 0, vz 0, vz (-1)]) f_PA_35 d_PA_closeRows_56 hb1.2.2 rfl ?_
        refine ab_astore_nN d_PA_closeRows_59 (Nat.le_of_ble_eq_true rfl) (Nat.le_of_ble_eq_true rfl) rfl ?_
        change ab_W _ _ _ G13 60 [some (vR p), some (vN), some (vz 0)] [] _
        refine ab_goto (tgt := 5) d_PA_closeRows_60 (by decide) ?_
        refine ab_less (L' := [some (vR p), some (vN), none]) (fun i v h => by rcases i with _ | _ | _ | i <;> first | exact h | (simp at h)) ?_
        exact ih (rw := vN) (hb_ := b1) (sz := v10) (mb := v12) hp ppaI_0 (by omega) (Or.inl rfl) hfz (cq_step hcq (by have e3 : lvc cu (vR b1) = cu b1 := rfl; have e1 : lvb cu vN = 0 := rfl; have e2 : lvc cu vN = 0 := rfl; omega)) hfr hlen hsl (by omega) hk0
      · subst hz7
        change ab_W _ _ _ G 13 [some (vR p), some (vR b1), none] [vR b6] _
        refine ab_ifnonnull (tgt := 20) d_PA_closeRows_13 (by decide) ?_
        refine zz_iconst d_PA_closeRows_20 ?_
        refine ab_istore_n d_PA_closeRows_21 (Nat.le_of_ble_eq_true rfl) (Nat.le_of_ble_eq_true rfl) rfl ?_
        change ab_W _ _ _ G 22 [some (vR p), some (vR b1), some (vz 1)] [] _
        refine ab_aload_n d_PA_closeRows_22 rfl ?_
        refine zz_ldc 1000000 d_PA_closeRows_23 cn_PA_42 (by decide) ?_
        refine ab_aload_n d_PA_closeRows_25 rfl ?_
        refine ab_getf (fs := [vz k, vz v, rg, vz pl, vz fl, ou, ls, bf, vz sz, vz mb, vz oe, vz le, vz mo, vz la, vz rc]) f_PA_24 d_PA_closeRows_26 hp.2.2 rfl ?_
        refine ab_aload_n d_PA_closeRows_29 rfl ?_
        refine ab_getf (fs := [vz 5, vz 0, vN, vz (-1), vz 0, vN, ls5, vR b6, vz sz5, vz mb5, vz 0, vz 0, vz 0, vz 0, vz (-1)]) f_PA_24 d_PA_closeRows_30 hb1.2.2 rfl ?_
        refine zz_iadd d_PA_closeRows_33 ?_
        refine ab_iload_n d_PA_closeRows_34 rfl ?_
        refine zz_iadd d_PA_closeRows_35 ?_
        refine zz_mmin mj_PA_43 d_PA_closeRows_36 (by decide) (by omega) (Nat.le_of_ble_eq_true rfl) (by omega) ?_
        obtain ⟨v14, hv14⟩ : ∃ z : Int, z = (min 1000000 ((sz + sz5) + 1)) := ⟨_, rfl⟩
        rw [← hv14]
        have hv14 : (1000000 ≤ ((sz + sz5) + 1) ∧ v14 = 1000000) ∨ (((sz + sz5) + 1) < 1000000 ∧ v14 = ((sz + sz5) + 1)) := by omega
        change ab_W _ _ _ G 39 [some (vR p), some (vR b1), some (vz 1)] [vz v14, vR p] _
        refine ab_putf (fs := [vz k, vz v, rg, vz pl, vz fl, ou, ls, bf, vz sz, vz mb, vz oe, vz le, vz mo, vz la, vz rc]) f_PA_24 (Or.inl rfl) d_PA_closeRows_39 hp.2.2 (Nat.le_of_ble_eq_true rfl) (fun _ => ⟨rfl, rfl⟩) (hp.2.1 (by decide)) ?_
        obtain ⟨G15, eG15⟩ : ∃ z : ab_G, z = List.set G p (ab_ob 4 [vz k, vz v, rg, vz pl, vz fl, ou, ls, bf, vz v14, vz mb, vz oe, vz le, vz mo, vz la, vz rc]) := ⟨_, rfl⟩
        have hb1 := hb1.keep hp eG15 (by decide)
        have hfz := hfz.wr eG15 (by simp)
        have hst := (fx.rf (o := o) (S := [90]) (G := G)).wr hp eG15 (List.mem_singleton.mpr rfl)
        have ppaI_0 := ppaI_0.w90 hpp hp hn eG15 (by unfold pnB; omega) (ho.up (by omega)) (hl.up (by omega)) (hf.up (by omega))
        have hlen := (z_len eG15).trans hlen
        have hsl := (z_sl hp eG15 rfl).trans hsl
        have hfr := hfr.wr hp eG15 (by decide)
        have hp := hp.kept eG15
        change ab_W _ _ _ (List.set G p (ab_ob 4 [vz k, vz v, rg, vz pl, vz fl, ou, ls, bf, vz v14, vz mb, vz oe, vz le, vz mo, vz la, vz rc])) 42 [some (vR p), some (vR b1), some (vz 1)] [] _
        rw [← eG15]
        refine ab_aload_n d_PA_closeRows_42 rfl ?_
        refine ab_dup d_PA_closeRows_43 rfl ?_
        refine ab_getf (fs := [vz k, vz v, rg, vz pl, vz fl, ou, ls, bf, vz v14, vz mb, vz oe, vz le, vz mo, vz la, vz rc]) f_PA_27 d_PA_closeRows_44 hp.2.2 rfl ?_
        refine ab_aload_n d_PA_closeRows_47 rfl ?_
        refine ab_getf (fs := [vz 5, vz 0, vN, vz (-1), vz 0, vN, ls5, vR b6, vz sz5, vz mb5, vz 0, vz 0, vz 0, vz 0, vz (-1)]) f_PA_27 d_PA_closeRows_48 hb1.2.2 rfl ?_
        refine zz_ior01 d_PA_closeRows_51 (by omega) (by omega) ?_
        obtain ⟨v16, hv16⟩ : ∃ z : Int, z = (max mb mb5) := ⟨_, rfl⟩
        rw [← hv16]
        have hv16b : v16 = 0 ∨ v16 = 1 := by omega
        change ab_W _ _ _ G15 52 [some (vR p), some (vR b1), some (vz 1)] [vz v16, vR p] _
        refine ab_putf (fs := [vz k, vz v, rg, vz pl, vz fl, ou, ls, bf, vz v14, vz mb, vz oe, vz le, vz mo, vz la, vz rc]) f_PA_27 (Or.inl rfl) d_PA_closeRows_52 hp.2.2 (Nat.le_of_ble_eq_true rfl) (ab_fbz (by omega)) (hp.2.1 (by decide)) ?_
        obtain ⟨G17, eG17⟩ : ∃ z : ab_G, z = List.set G15 p (ab_ob 4 [vz k, vz v, rg, vz pl, vz fl, ou, ls, bf, vz v14, vz v16, vz oe, vz le, vz mo, vz la, vz rc]) := ⟨_, rfl⟩
        have hb1 := hb1.keep hp eG17 (by decide)
        have hfz := hfz.wr eG17 (by simp)
        have hst := (fx.rf (o := o) (S := [90]) (G := G15)).wr hp eG17 (List.mem_singleton.mpr rfl)
        have ppaI_0 := ppaI_0.w90 hpp hp hn eG17 (by unfold pnB; omega) (ho.up (by omega)) (hl.up (by omega)) (hf.up (by omega))
        have hlen := (z_len eG17).trans hlen
        have hsl := (z_sl hp eG17 rfl).trans hsl
        have hfr := hfr.wr hp eG17 (by decide)
        have hp := hp.kept eG17
        change ab_W _ _ _ (List.set G15 p (ab_ob 4 [vz k, vz v, rg, vz pl, vz fl, ou, ls, bf, vz v14, vz v16, vz oe, vz le, vz mo, vz la, vz rc])) 55 [some (vR p), some (vR b1), some (vz 1)] [] _
        rw [← eG17]
        refine ab_aload_n d_PA_closeRows_55 rfl ?_
        refine ab_getf (fs := [vz 5, vz 0, vN, vz (-1), vz 0, vN, ls5, vR b6, vz sz5, vz mb5, vz 0, vz 0, vz 0, vz 0, vz (-1)]) f_PA_35 d_PA_closeRows_56 hb1.2.2 rfl ?_
        refine ab_astore_n d_PA_closeRows_59 (Nat.le_of_ble_eq_true rfl) (Nat.le_of_ble_eq_true rfl) rfl ?_
        change ab_W _ _ _ G17 60 [some (vR p), some (vR b6), some (vz 1)] [] _
        refine ab_goto (tgt := 5) d_PA_closeRows_60 (by decide) ?_
        refine ab_less (L' := [some (vR p), some (vR b6), none]) (fun i v h => by rcases i with _ | _ | _ | i <;> first | exact h | (simp at h)) ?_
        exact ih (rw := vR b6) (hb_ := b1) (sz := v14) (mb := v16) hp ppaI_0 (by omega) (Or.inr ⟨_, rfl, hp8, by omega⟩) hfz (cq_step hcq (by have e3 : lvc cu (vR b1) = cu b1 := rfl; have e1 : lvb cu (vR b6) = 1 + cu b6 := rfl; have e2 : lvc cu (vR b6) = cu b6 := rfl; have e4 := hc0 b6; omega)) hfr hlen hsl (by omega) hk0
set_option maxRecDepth 100000 in
set_option maxHeartbeats 4000000 in
theorem z_PA_closeRows {X : ab_X} {d : Nat} {o : Nat → Nat} {G : ab_G} {k : Int} {v : Int} {rg : Value} {pl : Int} {fl : Int} {ou : Value} {ls : Value} {bf : Value} {sz : Int} {mb : Int} {oe : Int} {le : Int} {mo : Int} {la : Int} {rc : Int} {ps : Nat → Nat} {wt : Nat → Nat} {bs : Nat} {ph : Int} {gr : Int} {Pr : Int → Prop} {p : Nat} {cu : Nat → Int} (hp : cc o G p 90 (ab_ob 4 [vz k, vz v, rg, vz pl, vz fl, ou, ls, bf, vz sz, vz mb, vz oe, vz le, vz mo, vz la, vz rc])) (ppaI_0 : paI o G 0 ps wt bs gr Pr ph) (n18 : ab_n0 = 18) (hpp : ps p = 90) (hn : paN gr Pr k v rc) (cb : (-1 ≤ pl ∧ pl ≤ 2100) ∧ (0 ≤ fl ∧ fl ≤ 31) ∧ (0 ≤ sz ∧ sz ≤ 1000000) ∧ (0 ≤ mb ∧ mb ≤ 1) ∧ (0 ≤ oe ∧ oe ≤ 1) ∧ (0 ≤ le ∧ le ≤ 1000) ∧ (0 ≤ mo ∧ mo ≤ 1000) ∧ (0 ≤ la ∧ la ≤ 1)) (ho : plk ps 90 p ou) (hl : plk ps 94 G.length ls) (hf : plk ps 90 p bf) (hrq : rqs ps cu G) (hc0 : ∀ a, 0 ≤ cu a) (hd : 2 ≤ d) : ab_F X d y_PA_closeRows (.code y_PA_closeRows b_PA_closeRows 3 none) [vR p] G (fun oc G2 => ∃ sz2 : Int, ∃ mb2 : Int, oc = .returned none ∧ fx o o [90] G G2 ∧ G2.length = G.length ∧ ab_slots G2 = ab_slots G ∧ cc o G2 p 90 (ab_ob 4 [vz k, vz v, rg, vz pl, vz fl, ou, ls, bf, vz sz2, vz mb2, vz oe, vz le, vz mo, vz la, vz rc]) ∧ paI o G2 0 ps wt bs gr Pr ph ∧ ((0 ≤ sz2 ∧ sz2 ≤ 1000000) ∧ (0 ≤ mb2 ∧ mb2 ≤ 1)) ∧ (fz ps [p] G G2) ∧ (ceq sz2 (sz + lvc cu ls))) := by
  refine ab_F_of (by decide +kernel) (Nat.le_of_ble_eq_true rfl) ?_
  obtain ⟨Q, hQ⟩ : ∃ z : Outcome → ab_G → Prop, z = (fun oc G2 => ∃ sz2 : Int, ∃ mb2 : Int, oc = .returned none ∧ fx o o [90] G G2 ∧ G2.length = G.length ∧ ab_slots G2 = ab_slots G ∧ cc o G2 p 90 (ab_ob 4 [vz k, vz v, rg, vz pl, vz fl, ou, ls, bf, vz sz2, vz mb2, vz oe, vz le, vz mo, vz la, vz rc]) ∧ paI o G2 0 ps wt bs gr Pr ph ∧ ((0 ≤ sz2 ∧ sz2 ≤ 1000000) ∧ (0 ≤ mb2 ∧ mb2 ≤ 1)) ∧ (fz ps [p] G G2) ∧ (ceq sz2 (sz + lvc cu ls))) := ⟨_, rfl⟩
  rw [← hQ]
  change ab_W X (ab_pl y_PA_closeRows b_PA_closeRows 3 none) d G 0 [some (vR p), none, none] [] Q
  have hfr : fx o o [90] G G := fx.rf
  have hlen : G.length = G.length := rfl
  have hsl : ab_slots G = ab_slots G := rfl
  have hfz : fz ps [p] G G := fz.rf
  refine ab_aload_n d_PA_closeRows_0 rfl ?_
  refine ab_getf (fs := [vz k, vz v, rg, vz pl, vz fl, ou, ls, bf, vz sz, vz mb, vz oe, vz le, vz mo, vz la, vz rc]) f_PA_31 d_PA_closeRows_1 hp.2.2 rfl ?_
  change ab_W _ _ _ G 4 [some (vR p), none, none] [ls] _
  rcases hl with hz2 | ⟨b1, hz2, hp3, hl4⟩
  · subst hz2
    change ab_W _ _ _ G 4 [some (vR p), none, none] [vN] _
    refine ab_astore_nN d_PA_closeRows_4 (Nat.le_of_ble_eq_true rfl) (Nat.le_of_ble_eq_true rfl) rfl ?_
    change ab_W _ _ _ G 5 [some (vR p), some (vN), none] [] _
    refine y_PA_closeRows_5 (k := k) (v := v) (rg := rg) (pl := pl) (fl := fl) (ou := ou) (ls := vN) (bf := bf) (oe := oe) (le := le) (mo := mo) (la := la) (rc := rc) (ps := ps) (wt := wt) (bs := bs) (ph := ph) (gr := gr) (Pr := Pr) (p := p) (cu := cu) (s9 := (sz + lvc cu (vN))) (G0 := G) (rw := vN) (hb_ := G.length) (sz := sz) (mb := mb) (by omega) hpp hn (ho.up (by omega)) (Or.inl rfl) (hf.up (by omega)) hrq hc0 (by omega) (Int.toNat (↑G.length : Int) + 1) hp ppaI_0 (by omega) (Or.inl rfl) fz.rf ceq.rf fx.rf rfl rfl (by omega) (fun G5 sz26 mb27 hNp pNpaI_0 hq8 hq9 hq10 hfk hlk hsk => ?_)
    · have hfr := hfr.tr hfk (by decide)
      have hlen := hlk.trans hlen
      have hsl := hsk.trans hsl
      have hp := hNp
      have ppaI_0 := pNpaI_0
      rw [hQ]; exact ⟨_, _, rfl, hfr, hlen, hsl, hp, ppaI_0, (by omega), (by exact hq9), (by exact hq10)⟩
  · subst hz2
    change ab_W _ _ _ G 4 [some (vR p), none, none] [vR b1] _
    refine ab_astore_n d_PA_closeRows_4 (Nat.le_of_ble_eq_true rfl) (Nat.le_of_ble_eq_true rfl) rfl ?_
    change ab_W _ _ _ G 5 [some (vR p), some (vR b1), none] [] _
    refine y_PA_closeRows_5 (k := k) (v := v) (rg := rg) (pl := pl) (fl := fl) (ou := ou) (ls := vR b1) (bf := bf) (oe := oe) (le := le) (mo := mo) (la := la) (rc := rc) (ps := ps) (wt := wt) (bs := bs) (ph := ph) (gr := gr) (Pr := Pr) (p := p) (cu := cu) (s9 := (sz + lvc cu (vR b1))) (G0 := G) (rw := vR b1) (hb_ := G.length) (sz := sz) (mb := mb) (by omega) hpp hn (ho.up (by omega)) (Or.inr ⟨_, rfl, hp3, by omega⟩) (hf.up (by omega)) hrq hc0 (by omega) (Int.toNat (↑G.length : Int) + 1) hp ppaI_0 (by omega) (Or.inr ⟨_, rfl, hp3, by omega⟩) fz.rf ceq.rf fx.rf rfl rfl (by omega) (fun G11 sz212 mb213 hNp pNpaI_0 hq14 hq15 hq16 hfk hlk hsk => ?_)
    · have hfr := hfr.tr hfk (by decide)
      have hlen := hlk.trans hlen
      have hsl := hsk.trans hsl
      have hp := hNp
      have ppaI_0 := pNpaI_0
      rw [hQ]; exact ⟨_, _, rfl, hfr, hlen, hsl, hp, ppaI_0, (by omega), (by exact hq15), (by exact hq16)⟩
