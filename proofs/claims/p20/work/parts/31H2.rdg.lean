set_option maxRecDepth 100000 in
set_option maxHeartbeats 4000000 in
theorem y_PA_closeRows_5 {X : ab_X} {d : Nat} {Q : Outcome → ab_G → Prop} {o : Nat → Nat} {G0 : ab_G} {k : Int} {v : Int} {rg : Value} {pl : Int} {fl : Int} {ou : Value} {ls : Value} {bf : Value} {oe : Int} {le : Int} {mo : Int} {la : Int} {rc : Int} {ps : Nat → Nat} {wt : Nat → Nat} {bs : Nat} {ph : Int} {gr : Int} {Pr : Int → Prop} {p : Nat} {cu : Nat → Int} {s9 : Int} (n18 : ab_n0 = 18) (hpp : ps p = 90) (hn : paN gr Pr k v rc) (ho : plk ps 90 p ou) (hl : plk ps 94 G0.length ls) (hf : plk ps 90 p bf) (hrq : rqs ps cu G0) (hc0 : ∀ a, 0 ≤ cu a) (hd : 1 ≤ d) : ∀ (mz : Nat) {G : ab_G} {rw : Value} {hb_ : Nat} {sz : Int} {mb : Int}, (cc o G p 90 (ab_ob 4 [vz k, vz v, rg, vz pl, vz fl, ou, ls, bf, vz sz, vz mb, vz oe, vz le, vz mo, vz la, vz rc])) → (paI o G 0 ps wt bs gr Pr ph) → ((-1 ≤ pl ∧ pl ≤ 2100) ∧ (0 ≤ fl ∧ fl ≤ 31) ∧ (0 ≤ sz ∧ sz ≤ 1000000) ∧ (0 ≤ mb ∧ mb ≤ 1) ∧ (0 ≤ oe ∧ oe ≤ 1) ∧ (0 ≤ le ∧ le ≤ 1000) ∧ (0 ≤ mo ∧ mo ≤ 1000) ∧ (0 ≤ la ∧ la ≤ 1)) → (plk ps 94 hb_ rw) → (fz ps [p] G0 G) → (cl9 s9 (sz + lvc cu rw)) → (fx o o [90] G0 G) → (G.length = G0.length) → (ab_slots G = ab_slots G0) → (Int.toNat (↑hb_ : Int) < mz) → (∀ (G2 : ab_G) (sz2 : Int) (mb2 : Int), (cc o G2 p 90 (ab_ob 4 [vz k, vz v, rg, vz pl, vz fl, ou, ls, bf, vz sz2, vz mb2, vz oe, vz le, vz mo, vz la, vz rc])) → (paI o G2 0 ps wt bs gr Pr ph) → ((0 ≤ sz2 ∧ sz2 ≤ 1000000) ∧ (0 ≤ mb2 ∧ mb2 ≤ 1)) → (fz ps [p] G0 G2) → (cl9 s9 sz2) → (fx o o [90] G0 G2) → (G2.length = G0.length) → (ab_slots G2 = ab_slots G0) → Q (.returned none) G2) → ab_W X (ab_pl y_PA_closeRows b_PA_closeRows 3 none) d G 5 [some (vR p), some (rw), none] [] Q := by
  intro mz
  induction mz with
  | zero => intro G rw hb_ sz mb hp ppaI_0 cb hrw hfz hcq hfr hlen hsl hm hk0; exact absurd hm (Nat.not_lt_zero _)
  | succ mz ih =>
    intro G rw hb_ sz mb hp ppaI_0 cb hrw hfz hcq hfr hlen hsl hm hk0
    rcases hrw with hz2 | ⟨b1, hz2, hp3, hl4⟩
    · subst hz2
      change ab_W _ _ _ G 5 [some (vR p), some (vN), none] [] _
      refine ab_aload_nN d_PA_closeRows_5 rfl ?_
      refine ab_ifnullN (tgt := 63) d_PA_closeRows_6 (by decide) ?_
      refine ab_vret rfl d_PA_closeRows_63 ?_
      exact hk0 _ _ _ hp ppaI_0 (by omega) (by exact hfz) (by exact cl_end hcq) hfr hlen hsl
    · subst hz2
      change ab_W _ _ _ G 5 [some (vR p), some (vR b1), none] [] _
      refine ab_aload_n d_PA_closeRows_5 rfl ?_
      refine ab_ifnull d_PA_closeRows_6 ?_
      refine ab_aload_n d_PA_closeRows_9 rfl ?_
      obtain ⟨ls5, bf5, sz5, mb5, hb1, hB5, hl5, hf5⟩ := ppaI_0.2.1 b1 hp3
      have hcu_ := (hrq.same hfz (by intro a ha; rw [List.mem_singleton.mp ha]; exact hpp)).at hp3 hb1 (by omega)
      refine ab_getf (fs := [vz 5, vz 0, vN, vz (-1), vz 0, vN, ls5, bf5, vz sz5, vz mb5, vz 0, vz 0, vz 0, vz 0, vz (-1)]) f_PA_35 d_PA_closeRows_10 hb1.2.2 rfl ?_
      change ab_W _ _ _ G 13 [some (vR p), some (vR b1), none] [bf5] _
      rcases hf5 with hz7 | ⟨b6, hz7, hp8, hl9⟩
      · subst hz7
        change ab_W _ _ _ G 13 [some (vR p), some (vR b1), none] [vN] _
        refine ab_ifnonnullN d_PA_closeRows_13 ?_
        refine zz_iconst d_PA_closeRows_16 ?_
        refine ab_goto (tgt := 21) d_PA_closeRows_17 (by decide) ?_
        refine ab_istore_n d_PA_closeRows_21 (Nat.le_of_ble_eq_true rfl) (Nat.le_of_ble_eq_true rfl) rfl ?_
        change ab_W _ _ _ G 22 [some (vR p), some (vR b1), some (vz 0)] [] _
        refine ab_aload_n d_PA_closeRows_22 rfl ?_
        refine zz_ldc 1000000 d_PA_closeRows_23 cn_PA_42 (by decide) ?_
        refine ab_aload_n d_PA_closeRows_25 rfl ?_
        refine ab_getf (fs := [vz k, vz v, rg, vz pl, vz fl, ou, ls, bf, vz sz, vz mb, vz oe, vz le, vz mo, vz la, vz rc]) f_PA_24 d_PA_closeRows_26 hp.2.2 rfl ?_
        refine ab_aload_n d_PA_closeRows_29 rfl ?_
        refine ab_getf (fs := [vz 5, vz 0, vN, vz (-1), vz 0, vN, ls5, vN, vz sz5, vz mb5, vz 0, vz 0, vz 0, vz 0, vz (-1)]) f_PA_24 d_PA_closeRows_30 hb1.2.2 rfl ?_
        refine zz_iadd d_PA_closeRows_33 ?_
        refine ab_iload_n d_PA_closeRows_34 rfl ?_
        refine zz_iadd d_PA_closeRows_35 ?_
        refine zz_mmin mj_PA_43 d_PA_closeRows_36 (by decide) (by omega) (Nat.le_of_ble_eq_true rfl) (by omega) ?_
        obtain ⟨v10, hv10⟩ : ∃ z : Int, z = (min 1000000 ((sz + sz5) + 0)) := ⟨_, rfl⟩
        rw [← hv10]
        have hv10 : (1000000 ≤ ((sz + sz5) + 0) ∧ v10 = 1000000) ∨ (((sz + sz5) + 0) < 1000000 ∧ v10 = ((sz + sz5) + 0)) := by omega
        change ab_W _ _ _ G 39 [some (vR p), some (vR b1), some (vz 0)] [vz v10, vR p] _
        refine ab_putf (fs := [vz k, vz v, rg, vz pl, vz fl, ou, ls, bf, vz sz, vz mb, vz oe, vz le, vz mo, vz la, vz rc]) f_PA_24 (Or.inl rfl) d_PA_closeRows_39 hp.2.2 (Nat.le_of_ble_eq_true rfl) (fun _ => ⟨rfl, rfl⟩) (hp.2.1 (by decide)) ?_
        obtain ⟨G11, eG11⟩ : ∃ z : ab_G, z = List.set G p (ab_ob 4 [vz k, vz v, rg, vz pl, vz fl, ou, ls, bf, vz v10, vz mb, vz oe, vz le, vz mo, vz la, vz rc]) := ⟨_, rfl⟩
        have hb1 := hb1.keep hp eG11 (by decide)
        have hfz := hfz.wr eG11 (by simp)
        have hst := (fx.rf (o := o) (S := [90]) (G := G)).wr hp eG11 (List.mem_singleton.mpr rfl)
        have ppaI_0 := ppaI_0.w90 hpp hp hn eG11 (by unfold pnB; omega) (ho.up (by omega)) (hl.up (by omega)) (hf.up (by omega))
        have hlen := (z_len eG11).trans hlen
        have hsl := (z_sl hp eG11 rfl).trans hsl
        have hfr := hfr.wr hp eG11 (by decide)
        have hp := hp.kept eG11
        change ab_W _ _ _ (List.set G p (ab_ob 4 [vz k, vz v, rg, vz pl, vz fl, ou, ls, bf, vz v10, vz mb, vz oe, vz le, vz mo, vz la, vz rc])) 42 [some (vR p), some (vR b1), some (vz 0)] [] _
        rw [← eG11]
        refine ab_aload_n d_PA_closeRows_42 rfl ?_
        refine ab_dup d_PA_closeRows_43 rfl ?_
        refine ab_getf (fs := [vz k, vz v, rg, vz pl, vz fl, ou, ls, bf, vz v10, vz mb, vz oe, vz le, vz mo, vz la, vz rc]) f_PA_27 d_PA_closeRows_44 hp.2.2 rfl ?_
        refine ab_aload_n d_PA_closeRows_47 rfl ?_
        refine ab_getf (fs := [vz 5, vz 0, vN, vz (-1), vz 0, vN, ls5, vN, vz sz5, vz mb5, vz 0, vz 0, vz 0, vz 0, vz (-1)]) f_PA_27 d_PA_closeRows_48 hb1.2.2 rfl ?_
        refine zz_ior01 d_PA_closeRows_51 (by omega) (by omega) ?_
        obtain ⟨v12, hv12⟩ : ∃ z : Int, z = (max mb mb5) := ⟨_, rfl⟩
        rw [← hv12]
        have hv12b : v12 = 0 ∨ v12 = 1 := by omega
        change ab_W _ _ _ G11 52 [some (vR p), some (vR b1), some (vz 0)] [vz v12, vR p] _
        refine ab_putf (fs := [vz k, vz v, rg, vz pl, vz fl, ou, ls, bf, vz v10, vz mb, vz oe, vz le, vz mo, vz la, vz rc]) f_PA_27 (Or.inl rfl) d_PA_closeRows_52 hp.2.2 (Nat.le_of_ble_eq_true rfl) (ab_fbz (by omega)) (hp.2.1 (by decide)) ?_
        obtain ⟨G13, eG13⟩ : ∃ z : ab_G, z = List.set G11 p (ab_ob 4 [vz k, vz v, rg, vz pl, vz fl, ou, ls, bf, vz v10, vz v12, vz oe, vz le, vz mo, vz la, vz rc]) := ⟨_, rfl⟩
        have hb1 := hb1.keep hp eG13 (by decide)
        have hfz := hfz.wr eG13 (by simp)
        have hst := (fx.rf (o := o) (S := [90]) (G := G11)).wr hp eG13 (List.mem_singleton.mpr rfl)
        have ppaI_0 := ppaI_0.w90 hpp hp hn eG13 (by unfold pnB; omega) (ho.up (by omega)) (hl.up (by omega)) (hf.up (by omega))
        have hlen := (z_len eG13).trans hlen
        have hsl := (z_sl hp eG13 rfl).trans hsl
        have hfr := hfr.wr hp eG13 (by decide)
        have hp := hp.kept eG13
        change ab_W _ _ _ (List.set G11 p (ab_ob 4 [vz k, vz v, rg, vz pl, vz fl, ou, ls, bf, vz v10, vz v12, vz oe, vz le, vz mo, vz la, vz rc])) 55 [some (vR p), some (vR b1), some (vz 0)] [] _
        rw [← eG13]
        refine ab_aload_n d_PA_closeRows_55 rfl ?_
        refine ab_getf (fs := [vz 5, vz 0, vN, vz (-1), vz 0, vN, ls5, vN, vz sz5, vz mb5, vz 0, vz 0, vz 0, vz 0, vz (-1)]) f_PA_35 d_PA_closeRows_56 hb1.2.2 rfl ?_
        refine ab_astore_nN d_PA_closeRows_59 (Nat.le_of_ble_eq_true rfl) (Nat.le_of_ble_eq_true rfl) rfl ?_
        change ab_W _ _ _ G13 60 [some (vR p), some (vN), some (vz 0)] [] _
        refine ab_goto (tgt := 5) d_PA_closeRows_60 (by decide) ?_
        refine ab_less (L' := [some (vR p), some (vN), none]) (fun i v h => by rcases i with _ | _ | _ | i <;> first | exact h | (simp at h)) ?_
        exact ih (rw := vN) (hb_ := b1) (sz := v10) (mb := v12) hp ppaI_0 (by omega) (Or.inl rfl) hfz (cl_step hcq (by have e3 : lvc cu (vR b1) = cu b1 := rfl; have e1 : lvb cu vN = 0 := rfl; have e2 : lvc cu vN = 0 := rfl; omega)) hfr hlen hsl (by omega) hk0
      · subst hz7
        change ab_W _ _ _ G 13 [some (vR p), some (vR b1), none] [vR b6] _
        refine ab_ifnonnull (tgt := 20) d_PA_closeRows_13 (by decide) ?_
        refine zz_iconst d_PA_closeRows_20 ?_
        refine ab_istore_n d_PA_closeRows_21 (Nat.le_of_ble_eq_true rfl) (Nat.le_of_ble_eq_true rfl) rfl ?_
        change ab_W _ _ _ G 22 [some (vR p), some (vR b1), some (vz 1)] [] _
        refine ab_aload_n d_PA_closeRows_22 rfl ?_
        refine zz_ldc 1000000 d_PA_closeRows_23 cn_PA_42 (by decide) ?_
        refine ab_aload_n d_PA_closeRows_25 rfl ?_
        refine ab_getf (fs := [vz k, vz v, rg, vz pl, vz fl, ou, ls, bf, vz sz, vz mb, vz oe, vz le, vz mo, vz la, vz rc]) f_PA_24 d_PA_closeRows_26 hp.2.2 rfl ?_
        refine ab_aload_n d_PA_closeRows_29 rfl ?_
        refine ab_getf (fs := [vz 5, vz 0, vN, vz (-1), vz 0, vN, ls5, vR b6, vz sz5, vz mb5, vz 0, vz 0, vz 0, vz 0, vz (-1)]) f_PA_24 d_PA_closeRows_30 hb1.2.2 rfl ?_
        refine zz_iadd d_PA_closeRows_33 ?_
        refine ab_iload_n d_PA_closeRows_34 rfl ?_
        refine zz_iadd d_PA_closeRows_35 ?_
        refine zz_mmin mj_PA_43 d_PA_closeRows_36 (by decide) (by omega) (Nat.le_of_ble_eq_true rfl) (by omega) ?_
        obtain ⟨v14, hv14⟩ : ∃ z : Int, z = (min 1000000 ((sz + sz5) + 1)) := ⟨_, rfl⟩
        rw [← hv14]
        have hv14 : (1000000 ≤ ((sz + sz5) + 1) ∧ v14 = 1000000) ∨ (((sz + sz5) + 1) < 1000000 ∧ v14 = ((sz + sz5) + 1)) := by omega
        change ab_W _ _ _ G 39 [some (vR p), some (vR b1), some (vz 1)] [vz v14, vR p] _
        refine ab_putf (fs := [vz k, vz v, rg, vz pl, vz fl, ou, ls, bf, vz sz, vz mb, vz oe, vz le, vz mo, vz la, vz rc]) f_PA_24 (Or.inl rfl) d_PA_closeRows_39 hp.2.2 (Nat.le_of_ble_eq_true rfl) (fun _ => ⟨rfl, rfl⟩) (hp.2.1 (by decide)) ?_
        obtain ⟨G15, eG15⟩ : ∃ z : ab_G, z = List.set G p (ab_ob 4 [vz k, vz v, rg, vz pl, vz fl, ou, ls, bf, vz v14, vz mb, vz oe, vz le, vz mo, vz la, vz rc]) := ⟨_, rfl⟩
        have hb1 := hb1.keep hp eG15 (by decide)
        have hfz := hfz.wr eG15 (by simp)
        have hst := (fx.rf (o := o) (S := [90]) (G := G)).wr hp eG15 (List.mem_singleton.mpr rfl)
        have ppaI_0 := ppaI_0.w90 hpp hp hn eG15 (by unfold pnB; omega) (ho.up (by omega)) (hl.up (by omega)) (hf.up (by omega))
        have hlen := (z_len eG15).trans hlen
        have hsl := (z_sl hp eG15 rfl).trans hsl
        have hfr := hfr.wr hp eG15 (by decide)
        have hp := hp.kept eG15
        change ab_W _ _ _ (List.set G p (ab_ob 4 [vz k, vz v, rg, vz pl, vz fl, ou, ls, bf, vz v14, vz mb, vz oe, vz le, vz mo, vz la, vz rc])) 42 [some (vR p), some (vR b1), some (vz 1)] [] _
        rw [← eG15]
        refine ab_aload_n d_PA_closeRows_42 rfl ?_
        refine ab_dup d_PA_closeRows_43 rfl ?_
        refine ab_getf (fs := [vz k, vz v, rg, vz pl, vz fl, ou, ls, bf, vz v14, vz mb, vz oe, vz le, vz mo, vz la, vz rc]) f_PA_27 d_PA_closeRows_44 hp.2.2 rfl ?_
        refine ab_aload_n d_PA_closeRows_47 rfl ?_
        refine ab_getf (fs := [vz 5, vz 0, vN, vz (-1), vz 0, vN, ls5, vR b6, vz sz5, vz mb5, vz 0, vz 0, vz 0, vz 0, vz (-1)]) f_PA_27 d_PA_closeRows_48 hb1.2.2 rfl ?_
        refine zz_ior01 d_PA_closeRows_51 (by omega) (by omega) ?_
        obtain ⟨v16, hv16⟩ : ∃ z : Int, z = (max mb mb5) := ⟨_, rfl⟩
        rw [← hv16]
        have hv16b : v16 = 0 ∨ v16 = 1 := by omega
        change ab_W _ _ _ G15 52 [some (vR p), some (vR b1), some (vz 1)] [vz v16, vR p] _
        refine ab_putf (fs := [vz k, vz v, rg, vz pl, vz fl, ou, ls, bf, vz v14, vz mb, vz oe, vz le, vz mo, vz la, vz rc]) f_PA_27 (Or.inl rfl) d_PA_closeRows_52 hp.2.2 (Nat.le_of_ble_eq_true rfl) (ab_fbz (by omega)) (hp.2.1 (by decide)) ?_
        obtain ⟨G17, eG17⟩ : ∃ z : ab_G, z = List.set G15 p (ab_ob 4 [vz k, vz v, rg, vz pl, vz fl, ou, ls, bf, vz v14, vz v16, vz oe, vz le, vz mo, vz la, vz rc]) := ⟨_, rfl⟩
        have hb1 := hb1.keep hp eG17 (by decide)
        have hfz := hfz.wr eG17 (by simp)
        have hst := (fx.rf (o := o) (S := [90]) (G := G15)).wr hp eG17 (List.mem_singleton.mpr rfl)
        have ppaI_0 := ppaI_0.w90 hpp hp hn eG17 (by unfold pnB; omega) (ho.up (by omega)) (hl.up (by omega)) (hf.up (by omega))
        have hlen := (z_len eG17).trans hlen
        have hsl := (z_sl hp eG17 rfl).trans hsl
        have hfr := hfr.wr hp eG17 (by decide)
        have hp := hp.kept eG17
        change ab_W _ _ _ (List.set G15 p (ab_ob 4 [vz k, vz v, rg, vz pl, vz fl, ou, ls, bf, vz v14, vz v16, vz oe, vz le, vz mo, vz la, vz rc])) 55 [some (vR p), some (vR b1), some (vz 1)] [] _
        rw [← eG17]
        refine ab_aload_n d_PA_closeRows_55 rfl ?_
        refine ab_getf (fs := [vz 5, vz 0, vN, vz (-1), vz 0, vN, ls5, vR b6, vz sz5, vz mb5, vz 0, vz 0, vz 0, vz 0, vz (-1)]) f_PA_35 d_PA_closeRows_56 hb1.2.2 rfl ?_
        refine ab_astore_n d_PA_closeRows_59 (Nat.le_of_ble_eq_true rfl) (Nat.le_of_ble_eq_true rfl) rfl ?_
        change ab_W _ _ _ G17 60 [some (vR p), some (vR b6), some (vz 1)] [] _
        refine ab_goto (tgt := 5) d_PA_closeRows_60 (by decide) ?_
        refine ab_less (L' := [some (vR p), some (vR b6), none]) (fun i v h => by rcases i with _ | _ | _ | i <;> first | exact h | (simp at h)) ?_
        exact ih (rw := vR b6) (hb_ := b1) (sz := v14) (mb := v16) hp ppaI_0 (by omega) (Or.inr ⟨_, rfl, hp8, by omega⟩) hfz (cl_step hcq (by have e3 : lvc cu (vR b1) = cu b1 := rfl; have e1 : lvb cu (vR b6) = 1 + cu b6 := rfl; have e2 : lvc cu (vR b6) = cu b6 := rfl; have e4 := hc0 b6; omega)) hfr hlen hsl (by omega) hk0
set_option maxRecDepth 100000 in
set_option maxHeartbeats 4000000 in
theorem z_PA_closeRows {X : ab_X} {d : Nat} {o : Nat → Nat} {G : ab_G} {k : Int} {v : Int} {rg : Value} {pl : Int} {fl : Int} {ou : Value} {ls : Value} {bf : Value} {sz : Int} {mb : Int} {oe : Int} {le : Int} {mo : Int} {la : Int} {rc : Int} {ps : Nat → Nat} {wt : Nat → Nat} {bs : Nat} {ph : Int} {gr : Int} {Pr : Int → Prop} {p : Nat} {cu : Nat → Int} (hp : cc o G p 90 (ab_ob 4 [vz k, vz v, rg, vz pl, vz fl, ou, ls, bf, vz sz, vz mb, vz oe, vz le, vz mo, vz la, vz rc])) (ppaI_0 : paI o G 0 ps wt bs gr Pr ph) (n18 : ab_n0 = 18) (hpp : ps p = 90) (hn : paN gr Pr k v rc) (cb : (-1 ≤ pl ∧ pl ≤ 2100) ∧ (0 ≤ fl ∧ fl ≤ 31) ∧ (0 ≤ sz ∧ sz ≤ 1000000) ∧ (0 ≤ mb ∧ mb ≤ 1) ∧ (0 ≤ oe ∧ oe ≤ 1) ∧ (0 ≤ le ∧ le ≤ 1000) ∧ (0 ≤ mo ∧ mo ≤ 1000) ∧ (0 ≤ la ∧ la ≤ 1)) (ho : plk ps 90 p ou) (hl : plk ps 94 G.length ls) (hf : plk ps 90 p bf) (hrq : rqs ps cu G) (hc0 : ∀ a, 0 ≤ cu a) (hd : 2 ≤ d) : ab_F X d y_PA_closeRows (.code y_PA_closeRows b_PA_closeRows 3 none) [vR p] G (fun oc G2 => ∃ sz2 : Int, ∃ mb2 : Int, oc = .returned none ∧ fx o o [90] G G2 ∧ G2.length = G.length ∧ ab_slots G2 = ab_slots G ∧ cc o G2 p 90 (ab_ob 4 [vz k, vz v, rg, vz pl, vz fl, ou, ls, bf, vz sz2, vz mb2, vz oe, vz le, vz mo, vz la, vz rc]) ∧ paI o G2 0 ps wt bs gr Pr ph ∧ ((0 ≤ sz2 ∧ sz2 ≤ 1000000) ∧ (0 ≤ mb2 ∧ mb2 ≤ 1)) ∧ (fz ps [p] G G2) ∧ (cl9 (sz + lvc cu ls) sz2)) := by
  refine ab_F_of (by decide +kernel) (Nat.le_of_ble_eq_true rfl) ?_
  obtain ⟨Q, hQ⟩ : ∃ z : Outcome → ab_G → Prop, z = (fun oc G2 => ∃ sz2 : Int, ∃ mb2 : Int, oc = .returned none ∧ fx o o [90] G G2 ∧ G2.length = G.length ∧ ab_slots G2 = ab_slots G ∧ cc o G2 p 90 (ab_ob 4 [vz k, vz v, rg, vz pl, vz fl, ou, ls, bf, vz sz2, vz mb2, vz oe, vz le, vz mo, vz la, vz rc]) ∧ paI o G2 0 ps wt bs gr Pr ph ∧ ((0 ≤ sz2 ∧ sz2 ≤ 1000000) ∧ (0 ≤ mb2 ∧ mb2 ≤ 1)) ∧ (fz ps [p] G G2) ∧ (cl9 (sz + lvc cu ls) sz2)) := ⟨_, rfl⟩
  rw [← hQ]
  change ab_W X (ab_pl y_PA_closeRows b_PA_closeRows 3 none) d G 0 [some (vR p), none, none] [] Q
  have hfr : fx o o [90] G G := fx.rf
  have hlen : G.length = G.length := rfl
  have hsl : ab_slots G = ab_slots G := rfl
  have hfz : fz ps [p] G G := fz.rf
  refine ab_aload_n d_PA_closeRows_0 rfl ?_
  refine ab_getf (fs := [vz k, vz v, rg, vz pl, vz fl, ou, ls, bf, vz sz, vz mb, vz oe, vz le, vz mo, vz la, vz rc]) f_PA_31 d_PA_closeRows_1 hp.2.2 rfl ?_
  change ab_W _ _ _ G 4 [some (vR p), none, none] [ls] _
  rcases hl with hz2 | ⟨b1, hz2, hp3, hl4⟩
  · subst hz2
    change ab_W _ _ _ G 4 [some (vR p), none, none] [vN] _
    refine ab_astore_nN d_PA_closeRows_4 (Nat.le_of_ble_eq_true rfl) (Nat.le_of_ble_eq_true rfl) rfl ?_
    change ab_W _ _ _ G 5 [some (vR p), some (vN), none] [] _
    refine y_PA_closeRows_5 (k := k) (v := v) (rg := rg) (pl := pl) (fl := fl) (ou := ou) (ls := vN) (bf := bf) (oe := oe) (le := le) (mo := mo) (la := la) (rc := rc) (ps := ps) (wt := wt) (bs := bs) (ph := ph) (gr := gr) (Pr := Pr) (p := p) (cu := cu) (s9 := (sz + lvc cu (vN))) (G0 := G) (rw := vN) (hb_ := G.length) (sz := sz) (mb := mb) (by omega) hpp hn (ho.up (by omega)) (Or.inl rfl) (hf.up (by omega)) hrq hc0 (by omega) (Int.toNat (↑G.length : Int) + 1) hp ppaI_0 (by omega) (Or.inl rfl) fz.rf cl_rf fx.rf rfl rfl (by omega) (fun G5 sz26 mb27 hNp pNpaI_0 hq8 hq9 hq10 hfk hlk hsk => ?_)
    · have hfr := hfr.tr hfk (by decide)
      have hlen := hlk.trans hlen
      have hsl := hsk.trans hsl
      have hp := hNp
      have ppaI_0 := pNpaI_0
      rw [hQ]; exact ⟨_, _, rfl, hfr, hlen, hsl, hp, ppaI_0, (by omega), (by exact hq9), (by exact hq10)⟩
  · subst hz2
    change ab_W _ _ _ G 4 [some (vR p), none, none] [vR b1] _
    refine ab_astore_n d_PA_closeRows_4 (Nat.le_of_ble_eq_true rfl) (Nat.le_of_ble_eq_true rfl) rfl ?_
    change ab_W _ _ _ G 5 [some (vR p), some (vR b1), none] [] _
    refine y_PA_closeRows_5 (k := k) (v := v) (rg := rg) (pl := pl) (fl := fl) (ou := ou) (ls := vR b1) (bf := bf) (oe := oe) (le := le) (mo := mo) (la := la) (rc := rc) (ps := ps) (wt := wt) (bs := bs) (ph := ph) (gr := gr) (Pr := Pr) (p := p) (cu := cu) (s9 := (sz + lvc cu (vR b1))) (G0 := G) (rw := vR b1) (hb_ := G.length) (sz := sz) (mb := mb) (by omega) hpp hn (ho.up (by omega)) (Or.inr ⟨_, rfl, hp3, by omega⟩) (hf.up (by omega)) hrq hc0 (by omega) (Int.toNat (↑G.length : Int) + 1) hp ppaI_0 (by omega) (Or.inr ⟨_, rfl, hp3, by omega⟩) fz.rf cl_rf fx.rf rfl rfl (by omega) (fun G11 sz212 mb213 hNp pNpaI_0 hq14 hq15 hq16 hfk hlk hsk => ?_)
    · have hfr := hfr.tr hfk (by decide)
      have hlen := hlk.trans hlen
      have hsl := hsk.trans hsl
      have hp := hNp
      have ppaI_0 := pNpaI_0
      rw [hQ]; exact ⟨_, _, rfl, hfr, hlen, hsl, hp, ppaI_0, (by omega), (by exact hq15), (by exact hq16)⟩
set_option maxRecDepth 100000 in
set_option maxHeartbeats 4000000 in
theorem za_RD_enter {X : ab_X} {d : Nat} {o : Nat → Nat} {G : ab_G} {d_ : Nat} {inn : Value} {dp : Int} {flg : Int} {grp : Int} {na : Nat} {nl : Nat} {lst : Int} {mst : Int} {bh : Int} {NA : Int → Int} {NL : Int → Int} {x : Nat} {se : Nat} {by_ : Nat} {m : Nat} {n : Int} {pl : Int} {fa : Int} {fp : Int} {kd : Nat} {kn : Int} {ps : Nat → Nat} {wt : Nat → Nat} {bs : Nat} {ph : Int} {k : Nat} {hi : Nat} {wh : Nat} {at_ : Int} {ins : Int} (hd_ : cc o G d_ 25 (ab_ob 6 [vR x, inn, vz dp, vz flg, vz grp, vR na, vR nl, vz lst, vz mst, vz bh])) (hx : cc o G x 24 (ab_ob 10 [vR se, vR by_, vz n, vz pl, vz fa, vz fp, vR kd, vz kn])) (hna : cc o G na 86 (za 10 NA)) (hnl : cc o G nl 87 (za 10 NL)) (ppaI_0 : paI o G 0 ps wt bs grp pr0 ph) (popI_0 : opI o G 0 ps k hi inn) (pszI_0 : szI o G 0 ps k hi inn wh 0) (n18 : ab_n0 = 18) (cn_ : 0 ≤ n ∧ n ≤ ↑m ∧ m ≤ 2000) (cf : 0 ≤ flg ∧ flg ≤ 31) (cg : 0 ≤ grp ∧ grp ≤ 9) (ck : 0 ≤ dp ∧ dp ≤ 30 ∧ ↑k = dp + 1 ∧ hi ≤ G.length) (hnm : nmok NA NL grp n) (cbs : bs ≤ G.length ∧ 18 ≤ G.length) (cfa : fa = 0) (ca : 0 ≤ at_ ∧ at_ ≤ 2000 ∧ 0 ≤ ins ∧ ins ≤ 31) (rc : G.length + 9 ≤ ab_n0 + room_1.cells) (rs : ab_slots G + 30 ≤ room_1.slots) (hd : 4 ≤ d) : ab_F X d y_RD_enter (.code y_RD_enter b_RD_enter 6 none) [vR d_, vz at_, vz 1, vz ins, vz 0] G (fun oc G2 => ∃ o2 : Nat → Nat, ∃ inn2 : Value, ∃ dp2 : Int, ∃ flg2 : Int, ∃ grp2 : Int, ∃ NA2 : Int → Int, ∃ NL2 : Int → Int, ∃ fa2 : Int, ∃ fp2 : Int, ∃ k2 : Nat, ∃ hi2 : Nat, ∃ ps2 : Nat → Nat, ∃ wt2 : Nat → Nat, ∃ ph2 : Int, oc = .returned none ∧ fx o o2 [24, 25, 86, 87, 90, 94] G G2 ∧ cc o2 G2 d_ 25 (ab_ob 6 [vR x, inn2, vz dp2, vz flg2, vz grp2, vR na, vR nl, vz lst, vz mst, vz bh]) ∧ cc o2 G2 x 24 (ab_ob 10 [vR se, vR by_, vz n, vz pl, vz fa2, vz fp2, vR kd, vz kn]) ∧ cc o2 G2 na 86 (za 10 NA2) ∧ cc o2 G2 nl 87 (za 10 NL2) ∧ paI o2 G2 0 ps2 wt2 bs grp2 pr0 ph2 ∧ opI o2 G2 0 ps2 k2 hi2 inn2 ∧ szI o2 G2 0 ps2 k2 hi2 inn2 wh 0 ∧ (0 ≤ flg2 ∧ flg2 ≤ 31) ∧ (0 ≤ grp2 ∧ grp2 ≤ 9) ∧ (0 ≤ dp2 ∧ dp2 ≤ 30 ∧ ↑k2 = dp2 + 1) ∧ (nmok NA2 NL2 grp2 n) ∧ (hi2 ≤ G2.length) ∧ (psx ps ps2 G.length) ∧ (0 ≤ fa2 ∧ fa2 ≤ 14) ∧ (ph2 ≤ ph) ∧ (G2.length ≤ G.length + 2) ∧ (ab_slots G2 ≤ ab_slots G + 30)) := by
  refine ab_F_of (by decide +kernel) (Nat.le_of_ble_eq_true rfl) ?_
  obtain ⟨Q, hQ⟩ : ∃ z : Outcome → ab_G → Prop, z = (fun oc G2 => ∃ o2 : Nat → Nat, ∃ inn2 : Value, ∃ dp2 : Int, ∃ flg2 : Int, ∃ grp2 : Int, ∃ NA2 : Int → Int, ∃ NL2 : Int → Int, ∃ fa2 : Int, ∃ fp2 : Int, ∃ k2 : Nat, ∃ hi2 : Nat, ∃ ps2 : Nat → Nat, ∃ wt2 : Nat → Nat, ∃ ph2 : Int, oc = .returned none ∧ fx o o2 [24, 25, 86, 87, 90, 94] G G2 ∧ cc o2 G2 d_ 25 (ab_ob 6 [vR x, inn2, vz dp2, vz flg2, vz grp2, vR na, vR nl, vz lst, vz mst, vz bh]) ∧ cc o2 G2 x 24 (ab_ob 10 [vR se, vR by_, vz n, vz pl, vz fa2, vz fp2, vR kd, vz kn]) ∧ cc o2 G2 na 86 (za 10 NA2) ∧ cc o2 G2 nl 87 (za 10 NL2) ∧ paI o2 G2 0 ps2 wt2 bs grp2 pr0 ph2 ∧ opI o2 G2 0 ps2 k2 hi2 inn2 ∧ szI o2 G2 0 ps2 k2 hi2 inn2 wh 0 ∧ (0 ≤ flg2 ∧ flg2 ≤ 31) ∧ (0 ≤ grp2 ∧ grp2 ≤ 9) ∧ (0 ≤ dp2 ∧ dp2 ≤ 30 ∧ ↑k2 = dp2 + 1) ∧ (nmok NA2 NL2 grp2 n) ∧ (hi2 ≤ G2.length) ∧ (psx ps ps2 G.length) ∧ (0 ≤ fa2 ∧ fa2 ≤ 14) ∧ (ph2 ≤ ph) ∧ (G2.length ≤ G.length + 2) ∧ (ab_slots G2 ≤ ab_slots G + 30)) := ⟨_, rfl⟩
  rw [← hQ]
  change ab_W X (ab_pl y_RD_enter b_RD_enter 6 none) d G 0 [some (vR d_), some (vz at_), some (vz 1), some (vz ins), some (vz 0), none] [] Q
  have hfr : fx o o [24, 25, 86, 87, 90, 94] G G := fx.rf
  refine ab_aload_n d_RD_enter_0 rfl ?_
  refine ab_getf (fs := [vR x, inn, vz dp, vz flg, vz grp, vR na, vR nl, vz lst, vz mst, vz bh]) f_RD_45 d_RD_enter_1 hd_.2.2 rfl ?_
  refine zz_bipush d_RD_enter_4 (by decide) ?_
  refine zz_icmp_ge (tgt := 22) d_RD_enter_6 (by decide) (by omega) (by decide) (fun c1 => ?_) (fun c1 => ?_)
  · refine ab_aload_n d_RD_enter_22 rfl ?_
    refine ab_getf (fs := [vR x, inn, vz dp, vz flg, vz grp, vR na, vR nl, vz lst, vz mst, vz bh]) f_RD_12 d_RD_enter_23 hd_.2.2 rfl ?_
    refine ab_aload_n d_RD_enter_26 rfl ?_
    refine ab_getf (fs := [vR x, inn, vz dp, vz flg, vz grp, vR na, vR nl, vz lst, vz mst, vz bh]) f_RD_45 d_RD_enter_27 hd_.2.2 rfl ?_
    refine zz_bipush d_RD_enter_30 (by decide) ?_
    refine zz_icmp_lt (tgt := 40) d_RD_enter_32 (by decide) (by omega) (by decide) (fun c2 => absurd c2 (by omega)) (fun c2 => ?_)
    refine zz_bipush d_RD_enter_35 (by decide) ?_
    refine ab_goto (tgt := 42) d_RD_enter_37 (by decide) ?_
    refine ab_iload_n d_RD_enter_42 rfl ?_
    refine ab_callV (d' := d - 1) (as := [vz 12, vz at_]) (st := []) (r := _) (z_TX_fail (o := o) (x := x) (lx := 24) (se := se) (by_ := by_) (n := n) (pl := pl) (fa := fa) (fp := fp) (kd := kd) (kn := kn) (w := 12) (p := at_) hx (by omega) (by omega) (by omega)) (fun oc G2 h => by rcases h with ⟨h, _⟩ | ⟨h, _⟩ <;> exact ⟨_, h⟩) (by omega) m_TX_fail ml_RD_69 im_TX_fail se_TX_fail c_TX hx.2.2 (Nat.le_of_ble_eq_true rfl) d_RD_enter_43 rfl ?_
    intro v G3 hq
    rcases hq with ⟨hv, hfk, hlk, hsk, hNx, hq4⟩ | ⟨hv, hGe, hq5⟩
    · cases hv
      have hd_ := hfk.get hd_ (by decide)
      have hna := hfk.get hna (by decide)
      have hnl := hfk.get hnl (by decide)
      have popI_0 := opI.fr hfk ppaI_0 popI_0 (by decide) (by decide)
      have pszI_0 := szI.fr hfk ppaI_0 pszI_0 (by decide) (by decide)
      have ppaI_0 := paI.fr hfk ppaI_0 (by decide) (by decide) (by decide) (by decide)
      have hfr := hfr.tr hfk (by decide)
      have hq6 := hlk
      have hq7 := hsk
      have hx := hNx
      change ab_W _ _ _ G3 46 [some (vR d_), some (vz at_), some (vz 1), some (vz ins), some (vz 0), none] [vz (-1)] _
      refine ab_pop d_RD_enter_46 rfl ?_
      refine ab_vret rfl d_RD_enter_47 ?_
      rw [hQ]; exact ⟨_, _, _, _, _, _, _, _, _, _, _, _, _, _, rfl, hfr, hd_, hx, hna, hnl, ppaI_0, popI_0, pszI_0, (by omega), (by omega), (by omega), (by exact hnm), (by omega), (by exact psx.rf), (by omega), (by omega), (by omega), (by omega)⟩
    · cases hv
      rw [hGe]
      change ab_W _ _ _ G 46 [some (vR d_), some (vz at_), some (vz 1), some (vz ins), some (vz 0), none] [vz (-1)] _
      exfalso; omega
  · refine ab_iload_n d_RD_enter_9 rfl ?_
    refine zz_if_eq (tgt := 48) d_RD_enter_10 (by decide) (by decide) (fun c8 => absurd c8 (by decide)) (fun c8 => ?_)
    refine ab_aload_n d_RD_enter_13 rfl ?_
    refine ab_getf (fs := [vR x, inn, vz dp, vz flg, vz grp, vR na, vR nl, vz lst, vz mst, vz bh]) f_RD_42 d_RD_enter_14 hd_.2.2 rfl ?_
    refine zz_bipush d_RD_enter_17 (by decide) ?_
    refine zz_icmp_lt (tgt := 48) d_RD_enter_19 (by decide) (by omega) (by decide) (fun c9 => ?_) (fun c9 => ?_)
    · obtain ⟨j10, hj10⟩ : ∃ j, k = j + 1 := ⟨k - 1, by omega⟩
      rw [hj10] at popI_0
      obtain ⟨g10, r10, w10, lv10, hv10, ⟨hpg10, hpr10⟩, ⟨hgl10, hrl10⟩, hf610, hf510, hr610, hlv10, hop10⟩ := popI_0
      subst hv10
      obtain ⟨k_11, v_11, rg_11, pl_11, fl_11, ou_11, ls_11, bf_11, sz_11, mb_11, oe_11, le_11, mo_11, la_11, rc_11, hg10, hn11, hb11, hg11, ho11, hl11, hf11⟩ := ppaI_0.1 g10 hpg10
      have hB11 := hb11
      unfold pnB at hB11
      have hK11 := hn11.1
      obtain ⟨ls12, bf12, sz12, mb12, hr10, hB12, hl12, hf12⟩ := ppaI_0.2.1 r10 hpr10
      have e610 : some ls_11 = some (vR r10) := by have t := hf610; unfold pf at t; rw [hg10.2.2] at t; exact t
      have e610 := Option.some.inj e610
      subst e610
      have e510 : some ou_11 = some w10 := by have t := hf510; unfold pf at t; rw [hg10.2.2] at t; exact t
      have e510 := Option.some.inj e510
      subst e510
      have e710 : some ls12 = some lv10 := by have t := hr610; unfold pf at t; rw [hr10.2.2] at t; exact t
      have e710 := Option.some.inj e710
      subst e710
      have popI_0 : opI o G 0 ps j10 g10 ou_11 := hop10
      have hnq10 : nq g10 r10 := hg10.ne hr10 (by decide)
      change ab_W _ _ _ G 48 [some (vR d_), some (vz at_), some (vz 1), some (vz ins), some (vz 0), none] [] _
      have popI_0 : opI o G 0 ps (j10 + 1) hi (vR g10) := ⟨g10, r10, ou_11, ls12, rfl, ⟨hpg10, hpr10⟩, ⟨by omega, by omega⟩, by unfold pf; rw [hg10.2.2]; rfl, by unfold pf; rw [hg10.2.2]; rfl, by unfold pf; rw [hr10.2.2]; rfl, (hlv10.up (by omega)), popI_0⟩
      rw [← hj10] at popI_0
      refine ab_iload_n d_RD_enter_48 rfl ?_
      refine zz_if_eq (tgt := 94) d_RD_enter_49 (by decide) (by decide) (fun c13 => absurd c13 (by decide)) (fun c13 => ?_)
      refine ab_aload_n d_RD_enter_52 rfl ?_
      refine ab_dup d_RD_enter_53 rfl ?_
      refine ab_getf (fs := [vR x, vR g10, vz dp, vz flg, vz grp, vR na, vR nl, vz lst, vz mst, vz bh]) f_RD_42 d_RD_enter_54 hd_.2.2 rfl ?_
      refine zz_iconst d_RD_enter_57 ?_
      refine zz_iadd d_RD_enter_58 ?_
      refine ab_putf (fs := [vR x, vR g10, vz dp, vz flg, vz grp, vR na, vR nl, vz lst, vz mst, vz bh]) f_RD_42 (Or.inl rfl) d_RD_enter_59 hd_.2.2 (Nat.le_of_ble_eq_true rfl) (fun _ => ⟨rfl, rfl⟩) (hd_.2.1 (by decide)) ?_
      obtain ⟨G14, eG14⟩ : ∃ z : ab_G, z = List.set G d_ (ab_ob 6 [vR x, vR g10, vz dp, vz flg, vz (grp + 1), vR na, vR nl, vz lst, vz mst, vz bh]) := ⟨_, rfl⟩
      have hx := hx.keep hd_ eG14 (by decide)
      have hna := hna.keep hd_ eG14 (by decide)
      have hnl := hnl.keep hd_ eG14 (by decide)
      have hg10 := hg10.keep hd_ eG14 (by decide)
      have hr10 := hr10.keep hd_ eG14 (by decide)
      have hst := (fx.rf (o := o) (S := [25]) (G := G)).wr hd_ eG14 (List.mem_singleton.mpr rfl)
      have pszI_0 := szI.fr hst ppaI_0 pszI_0 (by decide) (by decide)
      have popI_0 := opI.fr hst ppaI_0 popI_0 (by decide) (by decide)
      have ppaI_0 := paI.fr hst ppaI_0 (by decide) (by decide) (by decide) (by decide)
      have hq15 := z_len eG14
      have hq16 := z_sl hd_ eG14 rfl
      have hfr := hfr.wr hd_ eG14 (by decide)
      have hd_ := hd_.kept eG14
      change ab_W _ _ _ (List.set G d_ (ab_ob 6 [vR x, vR g10, vz dp, vz flg, vz (grp + 1), vR na, vR nl, vz lst, vz mst, vz bh])) 62 [some (vR d_), some (vz at_), some (vz 1), some (vz ins), some (vz 0), none] [] _
      rw [← eG14]
      refine ab_aload_n d_RD_enter_62 rfl ?_
      refine ab_getf (fs := [vR x, vR g10, vz dp, vz flg, vz (grp + 1), vR na, vR nl, vz lst, vz mst, vz bh]) f_RD_27 d_RD_enter_63 hd_.2.2 rfl ?_
      refine ab_aload_n d_RD_enter_66 rfl ?_
      refine ab_getf (fs := [vR x, vR g10, vz dp, vz flg, vz (grp + 1), vR na, vR nl, vz lst, vz mst, vz bh]) f_RD_42 d_RD_enter_67 hd_.2.2 rfl ?_
      refine ab_iload d_RD_enter_70 rfl ?_
      refine zz_if_le (tgt := 81) d_RD_enter_72 (by decide) (by decide) (fun c17 => ?_) (fun c17 => absurd c17 (by decide))
      refine zz_iconst d_RD_enter_81 ?_
      refine zz_iast d_RD_enter_82 hna (by omega) (hna.2.1 (by decide)) ?_
      obtain ⟨G18, eG18⟩ : ∃ z : ab_G, z = List.set G14 na (za 10 (zu NA (grp + 1) 0)) := ⟨_, rfl⟩
      have hd_ := hd_.keep hna eG18 (by decide)
      have hx := hx.keep hna eG18 (by decide)
      have hnl := hnl.keep hna eG18 (by decide)
      have hg10 := hg10.keep hna eG18 (by decide)
      have hr10 := hr10.keep hna eG18 (by decide)
      have hst := (fx.rf (o := o) (S := [86]) (G := G14)).wr hna eG18 (List.mem_singleton.mpr rfl)
      have pszI_0 := szI.fr hst ppaI_0 pszI_0 (by decide) (by decide)
      have popI_0 := opI.fr hst ppaI_0 popI_0 (by decide) (by decide)
      have ppaI_0 := paI.fr hst ppaI_0 (by decide) (by decide) (by decide) (by decide)
      have hq19 := z_len eG18
      have hq20 := z_sl hna eG18 rfl
      have hfr := hfr.wr hna eG18 (by decide)
      have hna := hna.kept eG18
      change ab_W _ _ _ (List.set G14 na (za 10 (zu NA (grp + 1) 0))) 83 [some (vR d_), some (vz at_), some (vz 1), some (vz ins), some (vz 0), none] [] _
      rw [← eG18]
      refine ab_aload_n d_RD_enter_83 rfl ?_
      refine ab_getf (fs := [vR x, vR g10, vz dp, vz flg, vz (grp + 1), vR na, vR nl, vz lst, vz mst, vz bh]) f_RD_31 d_RD_enter_84 hd_.2.2 rfl ?_
      refine ab_aload_n d_RD_enter_87 rfl ?_
      refine ab_getf (fs := [vR x, vR g10, vz dp, vz flg, vz (grp + 1), vR na, vR nl, vz lst, vz mst, vz bh]) f_RD_42 d_RD_enter_88 hd_.2.2 rfl ?_
      refine ab_iload d_RD_enter_91 rfl ?_
      refine zz_iast d_RD_enter_93 hnl (by omega) (hnl.2.1 (by decide)) ?_
      obtain ⟨G21, eG21⟩ : ∃ z : ab_G, z = List.set G18 nl (za 10 (zu NL (grp + 1) 0)) := ⟨_, rfl⟩
      have hd_ := hd_.keep hnl eG21 (by decide)
      have hx := hx.keep hnl eG21 (by decide)
      have hna := hna.keep hnl eG21 (by decide)
      have hg10 := hg10.keep hnl eG21 (by decide)
      have hr10 := hr10.keep hnl eG21 (by decide)
      have hst := (fx.rf (o := o) (S := [87]) (G := G18)).wr hnl eG21 (List.mem_singleton.mpr rfl)
      have pszI_0 := szI.fr hst ppaI_0 pszI_0 (by decide) (by decide)
      have popI_0 := opI.fr hst ppaI_0 popI_0 (by decide) (by decide)
      have ppaI_0 := paI.fr hst ppaI_0 (by decide) (by decide) (by decide) (by decide)
      have hq22 := z_len eG21
      have hq23 := z_sl hnl eG21 rfl
      have hfr := hfr.wr hnl eG21 (by decide)
      have hnl := hnl.kept eG21
      change ab_W _ _ _ (List.set G18 nl (za 10 (zu NL (grp + 1) 0))) 94 [some (vR d_), some (vz at_), some (vz 1), some (vz ins), some (vz 0), none] [] _
      rw [← eG21]
      refine ab_new (fs := [vz 0, vz 0, vN, vz 0, vz 0, vN, vN, vN, vz 0, vz 0, vz 0, vz 0, vz 0, vz 0, vz 0]) k_PA rfl cl_RD_18 inst_PA ini_PA d_RD_enter_94 (by decide) (fun _ => rfl) (by omega) (by omega) ?_
      obtain ⟨G24, eG24⟩ : ∃ z : ab_G, z = G21 ++ [ab_ob 4 [vz 0, vz 0, vN, vz 0, vz 0, vN, vN, vN, vz 0, vz 0, vz 0, vz 0, vz 0, vz 0, vz 0]] := ⟨_, rfl⟩
      obtain ⟨o25, eo25⟩ : ∃ z : Nat → Nat, z = ol o G21.length 90 := ⟨_, rfl⟩
      obtain ⟨a26, ea26⟩ : ∃ z : Nat, z = G21.length := ⟨_, rfl⟩
      have hq27 := hr10.n0 (by first | decide | omega)
      have ne_a26_d_ : nq a26 d_ := by have hlt := hd_.lt; unfold nq; omega
      have ne_a26_x : nq a26 x := by have hlt := hx.lt; unfold nq; omega
      have ne_a26_na : nq a26 na := by have hlt := hna.lt; unfold nq; omega
      have ne_a26_nl : nq a26 nl := by have hlt := hnl.lt; unfold nq; omega
      have ne_a26_g10 : nq a26 g10 := by have hlt := hg10.lt; unfold nq; omega
      have ne_a26_r10 : nq a26 r10 := by have hlt := hr10.lt; unfold nq; omega
      have hd_ := hd_.akeep (k := 90) eG24
      rw [← eo25] at hd_
      have hx := hx.akeep (k := 90) eG24
      rw [← eo25] at hx
      have hna := hna.akeep (k := 90) eG24
      rw [← eo25] at hna
      have hnl := hnl.akeep (k := 90) eG24
      rw [← eo25] at hnl
      have hg10 := hg10.akeep (k := 90) eG24
      rw [← eo25] at hg10
      have hr10 := hr10.akeep (k := 90) eG24
      rw [← eo25] at hr10
      have hst := (fx.rf (o := o) (S := []) (G := G21)).ap (k := 90) eG24
      rw [← eo25] at hst
      have hnpa26 := ppaI_0.new (a := a26) (by omega)
      have pszI_0 := szI.fr hst ppaI_0 pszI_0 (by decide) (by decide)
      have popI_0 := opI.fr hst ppaI_0 popI_0 (by decide) (by decide)
      have ppaI_0 := paI.fr hst ppaI_0 (by decide) (by decide) (by decide) (by simp)
      have ha26 := cc.anew (o := o) 90 eG24 hq27
      rw [← eo25, ← ea26] at ha26
      have hfr := hfr.ap (k := 90) eG24
      rw [← eo25] at hfr
      have hq28 := z_alen eG24
      have hq29 : ab_slots G24 = ab_slots G21 + 15 := z_asl eG24 hq27
      change ab_W _ _ _ (G21 ++ [ab_ob 4 [vz 0, vz 0, vN, vz 0, vz 0, vN, vN, vN, vz 0, vz 0, vz 0, vz 0, vz 0, vz 0, vz 0]]) 97 [some (vR d_), some (vz at_), some (vz 1), some (vz ins), some (vz 0), none] [.ref G21.length] _
      rw [← eG24, ← ea26]
      change ab_W _ _ _ G24 97 [some (vR d_), some (vz at_), some (vz 1), some (vz ins), some (vz 0), none] [vR a26] _
      refine ab_dup d_RD_enter_97 rfl ?_
      refine zz_iconst d_RD_enter_98 ?_
      refine ab_iload_n d_RD_enter_99 rfl ?_
      refine zz_if_eq (tgt := 110) d_RD_enter_100 (by decide) (by decide) (fun c30 => absurd c30 (by decide)) (fun c30 => ?_)
      refine ab_aload_n d_RD_enter_103 rfl ?_
      refine ab_getf (fs := [vR x, vR g10, vz dp, vz flg, vz (grp + 1), vR na, vR nl, vz lst, vz mst, vz bh]) f_RD_42 d_RD_enter_104 hd_.2.2 rfl ?_
      refine ab_goto (tgt := 111) d_RD_enter_107 (by decide) ?_
      refine ab_iload_n d_RD_enter_111 rfl ?_
      refine zz_if_eq (tgt := 119) d_RD_enter_112 (by decide) (by decide) (fun c31 => absurd c31 (by decide)) (fun c31 => ?_)
      refine zz_iconst d_RD_enter_115 ?_
      refine ab_goto (tgt := 120) d_RD_enter_116 (by decide) ?_
      refine zz_iconst d_RD_enter_120 ?_
      refine ab_callI (d' := d - 1) (as := [vz 4, vz (grp + 1), vz 2, vz 0]) (st := [vR a26]) (z90_PA_init (o := o25) (a := a26) (k0 := 4) (v0 := (grp + 1)) (s0 := 2) (m0 := 0) (ps := ps) (wt := wt) (bs := bs) (gr := grp) (Pr := pr0) (ph := ph) ha26 ppaI_0 (by omega) (by omega) (by omega) (by omega)) (fun oc G2 h => by rcases h with ⟨h, _⟩ <;> exact ⟨_, h⟩) (by omega) m_PA_init ml_RD_20 im_PA_init rfl (Nat.le_of_ble_eq_true rfl) d_RD_enter_121 rfl ?_
      intro v G32 hq
      rcases hq with ⟨hv, hfk, hlk, hsk, hNa26, pNpaI_0, hq33⟩
      cases hv
      have hd_ := hfk.get hd_ (by decide)
      have hx := hfk.get hx (by decide)
      have hna := hfk.get hna (by decide)
      have hnl := hfk.get hnl (by decide)
      have hKg10 := hq33.get hfk hg10 (Or.inl hpg10) (by simp only [List.mem_cons, List.not_mem_nil, or_false, not_or]; exact not_false)
      have hr10 := hfk.get hr10 (by decide)
      have hg10 := hKg10
      have pszI_0 := pszI_0.fzk (o2 := o25) hq33
      have popI_0 := popI_0.fz (o2 := o25) hq33 (by simp)
      have ppaI_0 := pNpaI_0
      have hfr := hfr.tr hfk (by decide)
      have hq34 := hlk
      have hq35 := hsk
      have ha26 := hNa26
      change ab_W _ _ _ G32 124 [some (vR d_), some (vz at_), some (vz 1), some (vz ins), some (vz 0), none] [vR a26] _
      refine ab_astore d_RD_enter_124 (Nat.le_of_ble_eq_true rfl) (Nat.le_of_ble_eq_true rfl) rfl ?_
      change ab_W _ _ _ G32 126 [some (vR d_), some (vz at_), some (vz 1), some (vz ins), some (vz 0), some (vR a26)] [] _
      refine ab_aload d_RD_enter_126 rfl ?_
      refine ab_iload_n d_RD_enter_128 rfl ?_
      refine ab_putf (fs := [vz 4, vz (grp + 1), vN, vz (-1), vz 0, vN, vN, vN, vz 2, vz 0, vz 0, vz 0, vz 0, vz 0, vz (-1)]) f_RD_68 (Or.inl rfl) d_RD_enter_129 ha26.2.2 (Nat.le_of_ble_eq_true rfl) (fun _ => ⟨rfl, rfl⟩) (ha26.2.1 (by decide)) ?_
      obtain ⟨G36, eG36⟩ : ∃ z : ab_G, z = List.set G32 a26 (ab_ob 4 [vz 4, vz (grp + 1), vN, vz at_, vz 0, vN, vN, vN, vz 2, vz 0, vz 0, vz 0, vz 0, vz 0, vz (-1)]) := ⟨_, rfl⟩
      have hd_ := hd_.keep ha26 eG36 (by decide)
      have hx := hx.keep ha26 eG36 (by decide)
      have hna := hna.keep ha26 eG36 (by decide)
      have hnl := hnl.keep ha26 eG36 (by decide)
      have hg10 := hg10.keep' eG36 ne_a26_g10
      have hr10 := hr10.keep ha26 eG36 (by decide)
      have hst := (fx.rf (o := o25) (S := [90]) (G := G32)).wr ha26 eG36 (List.mem_singleton.mpr rfl)
      have pszI_0 := pszI_0.wnp eG36 hnpa26
      have popI_0 := popI_0.wnp eG36 hnpa26
      have ppaI_0 := ppaI_0.wnp hnpa26 ha26 eG36 (by decide)
      have hq37 := z_len eG36
      have hq38 := z_sl ha26 eG36 rfl
      have hfr := hfr.wn (show G.length ≤ a26 by have := hfr.1; omega) eG36
      have ha26 := ha26.kept eG36
      change ab_W _ _ _ (List.set G32 a26 (ab_ob 4 [vz 4, vz (grp + 1), vN, vz at_, vz 0, vN, vN, vN, vz 2, vz 0, vz 0, vz 0, vz 0, vz 0, vz (-1)])) 132 [some (vR d_), some (vz at_), some (vz 1), some (vz ins), some (vz 0), some (vR a26)] [] _
      rw [← eG36]
      refine ab_aload d_RD_enter_132 rfl ?_
      refine ab_aload_n d_RD_enter_134 rfl ?_
      refine ab_getf (fs := [vR x, vR g10, vz dp, vz flg, vz (grp + 1), vR na, vR nl, vz lst, vz mst, vz bh]) f_RD_38 d_RD_enter_135 hd_.2.2 rfl ?_
      refine ab_putf (fs := [vz 4, vz (grp + 1), vN, vz at_, vz 0, vN, vN, vN, vz 2, vz 0, vz 0, vz 0, vz 0, vz 0, vz (-1)]) f_RD_169 (Or.inl rfl) d_RD_enter_138 ha26.2.2 (Nat.le_of_ble_eq_true rfl) (fun _ => ⟨rfl, rfl⟩) (ha26.2.1 (by decide)) ?_
      obtain ⟨G39, eG39⟩ : ∃ z : ab_G, z = List.set G36 a26 (ab_ob 4 [vz 4, vz (grp + 1), vN, vz at_, vz flg, vN, vN, vN, vz 2, vz 0, vz 0, vz 0, vz 0, vz 0, vz (-1)]) := ⟨_, rfl⟩
      have hd_ := hd_.keep ha26 eG39 (by decide)
      have hx := hx.keep ha26 eG39 (by decide)
      have hna := hna.keep ha26 eG39 (by decide)
      have hnl := hnl.keep ha26 eG39 (by decide)
      have hg10 := hg10.keep' eG39 ne_a26_g10
      have hr10 := hr10.keep ha26 eG39 (by decide)
      have hst := (fx.rf (o := o25) (S := [90]) (G := G36)).wr ha26 eG39 (List.mem_singleton.mpr rfl)
      have pszI_0 := pszI_0.wnp eG39 hnpa26
      have popI_0 := popI_0.wnp eG39 hnpa26
      have ppaI_0 := ppaI_0.wnp hnpa26 ha26 eG39 (by decide)
      have hq40 := z_len eG39
      have hq41 := z_sl ha26 eG39 rfl
      have hfr := hfr.wn (show G.length ≤ a26 by have := hfr.1; omega) eG39
      have ha26 := ha26.kept eG39
      change ab_W _ _ _ (List.set G36 a26 (ab_ob 4 [vz 4, vz (grp + 1), vN, vz at_, vz flg, vN, vN, vN, vz 2, vz 0, vz 0, vz 0, vz 0, vz 0, vz (-1)])) 141 [some (vR d_), some (vz at_), some (vz 1), some (vz ins), some (vz 0), some (vR a26)] [] _
      rw [← eG39]
      refine ab_aload d_RD_enter_141 rfl ?_
      refine ab_new (fs := [vz 0, vz 0, vN, vz 0, vz 0, vN, vN, vN, vz 0, vz 0, vz 0, vz 0, vz 0, vz 0, vz 0]) k_PA rfl cl_RD_18 inst_PA ini_PA d_RD_enter_143 (by decide) (fun _ => rfl) (by omega) (by omega) ?_
      obtain ⟨G42, eG42⟩ : ∃ z : ab_G, z = G39 ++ [ab_ob 4 [vz 0, vz 0, vN, vz 0, vz 0, vN, vN, vN, vz 0, vz 0, vz 0, vz 0, vz 0, vz 0, vz 0]] := ⟨_, rfl⟩
      obtain ⟨o43, eo43⟩ : ∃ z : Nat → Nat, z = ol o25 G39.length 94 := ⟨_, rfl⟩
      obtain ⟨a44, ea44⟩ : ∃ z : Nat, z = G39.length := ⟨_, rfl⟩
      have hq45 := ha26.n0 (by first | decide | omega)
      have ne_a44_d_ : nq a44 d_ := by have hlt := hd_.lt; unfold nq; omega
      have ne_a44_x : nq a44 x := by have hlt := hx.lt; unfold nq; omega
      have ne_a44_na : nq a44 na := by have hlt := hna.lt; unfold nq; omega
      have ne_a44_nl : nq a44 nl := by have hlt := hnl.lt; unfold nq; omega
      have ne_a44_g10 : nq a44 g10 := by have hlt := hg10.lt; unfold nq; omega
      have ne_a44_r10 : nq a44 r10 := by have hlt := hr10.lt; unfold nq; omega
      have ne_a44_a26 : nq a44 a26 := by have hlt := ha26.lt; unfold nq; omega
      have hd_ := hd_.akeep (k := 94) eG42
      rw [← eo43] at hd_
      have hx := hx.akeep (k := 94) eG42
      rw [← eo43] at hx
      have hna := hna.akeep (k := 94) eG42
      rw [← eo43] at hna
      have hnl := hnl.akeep (k := 94) eG42
      rw [← eo43] at hnl
      have hg10 := hg10.akeep (k := 94) eG42
      rw [← eo43] at hg10
      have hr10 := hr10.akeep (k := 94) eG42
      rw [← eo43] at hr10
      have ha26 := ha26.akeep (k := 94) eG42
      rw [← eo43] at ha26
      have hst := (fx.rf (o := o25) (S := []) (G := G39)).ap (k := 94) eG42
      rw [← eo43] at hst
      have hnpa44 := ppaI_0.new (a := a44) (by omega)
      have pszI_0 := szI.fr hst ppaI_0 pszI_0 (by decide) (by decide)
      have popI_0 := opI.fr hst ppaI_0 popI_0 (by decide) (by decide)
      have ppaI_0 := paI.fr hst ppaI_0 (by decide) (by decide) (by decide) (by simp)
      have ha44 := cc.anew (o := o25) 94 eG42 hq45
      rw [← eo43, ← ea44] at ha44
      have hfr := hfr.ap (k := 94) eG42
      rw [← eo43] at hfr
      have hq46 := z_alen eG42
      have hq47 : ab_slots G42 = ab_slots G39 + 15 := z_asl eG42 hq45
      change ab_W _ _ _ (G39 ++ [ab_ob 4 [vz 0, vz 0, vN, vz 0, vz 0, vN, vN, vN, vz 0, vz 0, vz 0, vz 0, vz 0, vz 0, vz 0]]) 146 [some (vR d_), some (vz at_), some (vz 1), some (vz ins), some (vz 0), some (vR a26)] [.ref G39.length, vR a26] _
      rw [← eG42, ← ea44]
      change ab_W _ _ _ G42 146 [some (vR d_), some (vz at_), some (vz 1), some (vz ins), some (vz 0), some (vR a26)] [vR a44, vR a26] _
      refine ab_dup d_RD_enter_146 rfl ?_
      refine zz_iconst d_RD_enter_147 ?_
      refine zz_iconst d_RD_enter_148 ?_
      refine zz_iconst d_RD_enter_149 ?_
      refine zz_iconst d_RD_enter_150 ?_
      refine ab_callI (d' := d - 1) (as := [vz 5, vz 0, vz 0, vz 1]) (st := [vR a44, vR a26]) (z94_PA_init (o := o43) (a := a44) (k0 := 5) (v0 := 0) (s0 := 0) (m0 := 1) (ps := ps) (wt := wt) (bs := bs) (gr := grp) (Pr := pr0) (ph := ph) ha44 ppaI_0 (by omega) (by omega) (by omega) (by omega)) (fun oc G2 h => by rcases h with ⟨h, _⟩ <;> exact ⟨_, h⟩) (by omega) m_PA_init ml_RD_20 im_PA_init rfl (Nat.le_of_ble_eq_true rfl) d_RD_enter_151 rfl ?_
      intro v G48 hq
      rcases hq with ⟨hv, hfk, hlk, hsk, hNa44, pNpaI_0, hq49⟩
      cases hv
      have hd_ := hfk.get hd_ (by decide)
      have hx := hfk.get hx (by decide)
      have hna := hfk.get hna (by decide)
      have hnl := hfk.get hnl (by decide)
      have hg10 := hfk.get hg10 (by decide)
      have hKr10 := hq49.get hfk hr10 (Or.inr hpr10) (by simp only [List.mem_cons, List.not_mem_nil, or_false, not_or]; exact not_false)
      have ha26 := hfk.get ha26 (by decide)
      have hr10 := hKr10
      have pszI_0 := pszI_0.fzk (o2 := o43) hq49
      have popI_0 := popI_0.fz (o2 := o43) hq49 (by simp)
      have ppaI_0 := pNpaI_0
      have hfr := hfr.tr hfk (by decide)
      have hq50 := hlk
      have hq51 := hsk
      have ha44 := hNa44
      change ab_W _ _ _ G48 154 [some (vR d_), some (vz at_), some (vz 1), some (vz ins), some (vz 0), some (vR a26)] [vR a44, vR a26] _
      have hnfg_ := ppaI_0.nref hnpa26
      have hnog_ := hnpa26
      have hnfr_ := ppaI_0.nref hnpa44
      have hnor_ := hnpa44
      have hsz9 := pszI_0
      have ppaI_0 := ppaI_0.gr (gr2 := grp + 1) (by omega) (Int.le_refl _)
      have hlt52 := ha26.lt
      have hn52 : paN (grp + 1) pr0 4 (grp + 1) (-1) := ⟨by omega, by intro _; omega, by intro _; omega, by intro _; omega, pr0_⟩
      obtain ⟨ps52, wt52, hx52, hxo52, hpa52, ppaI_0⟩ : ∃ pz wz : Nat → Nat, psx ps pz a26 ∧ (∀ x, ¬ x = a26 → pz x = ps x) ∧ pz a26 = 90 ∧ paI o43 G48 0 pz wz bs (grp + 1) pr0 (ph + 0) := ⟨_, _, psx.ol (Nat.le_refl _), fun x hx => if_neg hx, ol_self, ppaI_0.ad90 0 hnpa26 (by omega) ha26 hn52 (by unfold pnB; omega) (Or.inl ⟨by omega, rfl⟩) (Or.inl rfl) (Or.inl rfl) (Or.inl rfl)⟩
      have hnpa44 : ¬ ps52 a44 = 90 ∧ ¬ ps52 a44 = 94 := by rw [hxo52 a44 (by omega)]; exact hnpa44
      have hp53 : ps52 g10 = 90 := hx52.at (by have hlt := hg10.lt; omega) hpg10
      have hp54 : ps52 r10 = 94 := hx52.at (by have hlt := hr10.lt; omega) hpr10
      have hl55 := ho11.ps (by have hlt := hg10.lt; omega) hx52
      have hl56 := hl11.ps (by omega) hx52
      have hl57 := hf11.ps (by have hlt := hg10.lt; omega) hx52
      have hl58 := hl12.ps (by omega) hx52
      have hl59 := hf12.ps (by have hlt := hr10.lt; omega) hx52
      have hl60 := hlv10.ps (by omega) hx52
      have popI_0 : opI o43 G48 0 ps52 k hi (vR g10) := opn_ps _ _ _ popI_0 (psx.lt hx52 (by omega))
      have hlt61 := ha44.lt
      obtain ⟨ps61, hx61, hxo61, hpa61, ppaI_0⟩ : ∃ pz : Nat → Nat, psx ps52 pz a44 ∧ (∀ x, ¬ x = a44 → pz x = ps52 x) ∧ pz a44 = 94 ∧ paI o43 G48 0 pz wt52 bs (grp + 1) pr0 (ph + 0) := ⟨_, psx.ol (Nat.le_refl _), fun x hx => if_neg hx, ol_self, ppaI_0.ad94 hnpa44 ha44 (by omega) (Or.inl rfl) (Or.inl rfl)⟩
      have hp62 : ps61 g10 = 90 := hx61.at (by have hlt := hg10.lt; omega) hp53
      have hp63 : ps61 r10 = 94 := hx61.at (by have hlt := hr10.lt; omega) hp54
      have hl64 := hl55.ps (by have hlt := hg10.lt; omega) hx61
      have hl65 := hl56.ps (by omega) hx61
      have hl66 := hl57.ps (by have hlt := hg10.lt; omega) hx61
      have hl67 := hl58.ps (by omega) hx61
      have hl68 := hl59.ps (by have hlt := hr10.lt; omega) hx61
      have hl69 := hl60.ps (by omega) hx61
      have hp70 : ps61 a26 = 90 := hx61.at (by have hlt := ha26.lt; omega) hpa52
      have popI_0 : opI o43 G48 0 ps61 k hi (vR g10) := opn_ps _ _ _ popI_0 (psx.lt hx61 (by omega))
      have hfz : fz ps61 [a26, a44] G48 G48 := fz.rf
      refine ab_callV (d' := d - 1) (as := [vR a44]) (st := []) (r := _) (z90_PA_push (o := o43) (k := 4) (v := (grp + 1)) (rg := vN) (pl := at_) (fl := flg) (ou := vN) (ls := vN) (bf := vN) (sz := 2) (mb := 0) (oe := 0) (le := 0) (mo := 0) (la := 0) (rc := (-1)) (lr := vN) (br := vN) (sr := 0) (mr := 1) (ps := ps61) (wt := wt52) (bs := bs) (gr := (grp + 1)) (Pr := pr0) (ph := (ph + 0)) (r := a44) (p := a26) ha26 ha44 ppaI_0 (by omega) hp70 hpa61 hn52 (by omega) (by omega) (Or.inl rfl) (Or.inl rfl) (Or.inl rfl) (Or.inl rfl) (Or.inl rfl) (Or.inl rfl) (by omega)) (fun oc G2 h => by rcases h with ⟨h, _⟩ <;> exact ⟨_, h⟩) (by omega) m_PA_push ml_RD_48 im_PA_push se_PA_push c_PA ha26.2.2 (Nat.le_of_ble_eq_true rfl) d_RD_enter_154 rfl ?_
      intro v G71 hq
      rcases hq with ⟨hv, hfk, hlk, hsk, hNa26, hNa44, pNpaI_0, hq72⟩
      cases hv
      have hd_ := hfk.get hd_ (by decide)
      have hx := hfk.get hx (by decide)
      have hna := hfk.get hna (by decide)
      have hnl := hfk.get hnl (by decide)
      have hKg10 := hq72.get hfk hg10 (Or.inl hp62) (by simp only [List.mem_cons, List.not_mem_nil, or_false, not_or]; exact ⟨(nq.s ne_a26_g10), (hg10.ne ha44 (by decide))⟩)
      have hKr10 := hq72.get hfk hr10 (Or.inr hp63) (by simp only [List.mem_cons, List.not_mem_nil, or_false, not_or]; exact ⟨(hr10.ne ha26 (by decide)), (nq.s ne_a44_r10)⟩)
      have hg10 := hKg10
      have hr10 := hKr10
      have hfz := hfz.tr hq72 (by simp)
      have popI_0 := popI_0.fz (o2 := o43) hq72 (by intro y hy; simp only [List.mem_cons, List.not_mem_nil, or_false] at hy; omega)
      have ppaI_0 := pNpaI_0
      have hfr := hfr.tr hfk (by decide)
      have hq73 := hlk
      have hq74 := hsk
      have ha26 := hNa26
      have ha44 := hNa44
      change ab_W _ _ _ G71 157 [some (vR d_), some (vz at_), some (vz 1), some (vz ins), some (vz 0), some (vR a26)] [] _
      refine ab_aload d_RD_enter_157 rfl ?_
      refine ab_aload_n d_RD_enter_159 rfl ?_
      refine ab_getf (fs := [vR x, vR g10, vz dp, vz flg, vz (grp + 1), vR na, vR nl, vz lst, vz mst, vz bh]) f_RD_23 d_RD_enter_160 hd_.2.2 rfl ?_
      refine ab_putf (fs := [vz 4, vz (grp + 1), vN, vz at_, vz flg, vN, vR a44, vN, vz 2, vz 0, vz 0, vz 0, vz 0, vz 0, vz (-1)]) f_RD_172 (Or.inl rfl) d_RD_enter_163 ha26.2.2 (Nat.le_of_ble_eq_true rfl) (fun _ => ⟨rfl, rfl⟩) (ha26.2.1 (by decide)) ?_
      obtain ⟨G75, eG75⟩ : ∃ z : ab_G, z = List.set G71 a26 (ab_ob 4 [vz 4, vz (grp + 1), vN, vz at_, vz flg, vR g10, vR a44, vN, vz 2, vz 0, vz 0, vz 0, vz 0, vz 0, vz (-1)]) := ⟨_, rfl⟩
      have hd_ := hd_.keep ha26 eG75 (by decide)
      have hx := hx.keep ha26 eG75 (by decide)
      have hna := hna.keep ha26 eG75 (by decide)
      have hnl := hnl.keep ha26 eG75 (by decide)
      have hg10 := hg10.keep' eG75 ne_a26_g10
      have hr10 := hr10.keep ha26 eG75 (by decide)
      have ha44 := ha44.keep ha26 eG75 (by decide)
      have hfz := hfz.wr eG75 (by simp)
      have hst := (fx.rf (o := o43) (S := [90]) (G := G71)).wr ha26 eG75 (List.mem_singleton.mpr rfl)
      have popI_0 := popI_0.wge eG75 (by omega)
      have ppaI_0 := ppaI_0.w90 hp70 ha26 hn52 eG75 (by unfold pnB; omega) (Or.inr ⟨_, rfl, hp62, by have hlt := hg10.lt; omega⟩) (Or.inr ⟨_, rfl, hpa61, by have hlt := ha44.lt; omega⟩) (Or.inl rfl)
      have hq76 := z_len eG75
      have hq77 := z_sl ha26 eG75 rfl
      have hfr := hfr.wn (show G.length ≤ a26 by have := hfr.1; omega) eG75
      have ha26 := ha26.kept eG75
      change ab_W _ _ _ (List.set G71 a26 (ab_ob 4 [vz 4, vz (grp + 1), vN, vz at_, vz flg, vR g10, vR a44, vN, vz 2, vz 0, vz 0, vz 0, vz 0, vz 0, vz (-1)])) 166 [some (vR d_), some (vz at_), some (vz 1), some (vz ins), some (vz 0), some (vR a26)] [] _
      rw [← eG75]
      refine ab_aload_n d_RD_enter_166 rfl ?_
      refine ab_aload d_RD_enter_167 rfl ?_
      refine ab_putf (fs := [vR x, vR g10, vz dp, vz flg, vz (grp + 1), vR na, vR nl, vz lst, vz mst, vz bh]) f_RD_23 (Or.inl rfl) d_RD_enter_169 hd_.2.2 (Nat.le_of_ble_eq_true rfl) (fun _ => ⟨rfl, rfl⟩) (hd_.2.1 (by decide)) ?_
      obtain ⟨G78, eG78⟩ : ∃ z : ab_G, z = List.set G75 d_ (ab_ob 6 [vR x, vR a26, vz dp, vz flg, vz (grp + 1), vR na, vR nl, vz lst, vz mst, vz bh]) := ⟨_, rfl⟩
      have hx := hx.keep hd_ eG78 (by decide)
      have hna := hna.keep hd_ eG78 (by decide)
      have hnl := hnl.keep hd_ eG78 (by decide)
      have hg10 := hg10.keep hd_ eG78 (by decide)
      have hr10 := hr10.keep hd_ eG78 (by decide)
      have ha26 := ha26.keep hd_ eG78 (by decide)
      have ha44 := ha44.keep hd_ eG78 (by decide)
      have hfz := hfz.wl ppaI_0 hd_ eG78 (by decide)
      have hst := (fx.rf (o := o43) (S := [25]) (G := G75)).wr hd_ eG78 (List.mem_singleton.mpr rfl)
      have popI_0 := opI.fr hst ppaI_0 popI_0 (by decide) (by decide)
      have ppaI_0 := paI.fr hst ppaI_0 (by decide) (by decide) (by decide) (by decide)
      have hq79 := z_len eG78
      have hq80 := z_sl hd_ eG78 rfl
      have hfr := hfr.wr hd_ eG78 (by decide)
      have hd_ := hd_.kept eG78
      change ab_W _ _ _ (List.set G75 d_ (ab_ob 6 [vR x, vR a26, vz dp, vz flg, vz (grp + 1), vR na, vR nl, vz lst, vz mst, vz bh])) 172 [some (vR d_), some (vz at_), some (vz 1), some (vz ins), some (vz 0), some (vR a26)] [] _
      rw [← eG78]
      refine ab_aload_n d_RD_enter_172 rfl ?_
      refine ab_dup d_RD_enter_173 rfl ?_
      refine ab_getf (fs := [vR x, vR a26, vz dp, vz flg, vz (grp + 1), vR na, vR nl, vz lst, vz mst, vz bh]) f_RD_45 d_RD_enter_174 hd_.2.2 rfl ?_
      refine zz_iconst d_RD_enter_177 ?_
      refine zz_iadd d_RD_enter_178 ?_
      refine ab_putf (fs := [vR x, vR a26, vz dp, vz flg, vz (grp + 1), vR na, vR nl, vz lst, vz mst, vz bh]) f_RD_45 (Or.inl rfl) d_RD_enter_179 hd_.2.2 (Nat.le_of_ble_eq_true rfl) (fun _ => ⟨rfl, rfl⟩) (hd_.2.1 (by decide)) ?_
      obtain ⟨G81, eG81⟩ : ∃ z : ab_G, z = List.set G78 d_ (ab_ob 6 [vR x, vR a26, vz (dp + 1), vz flg, vz (grp + 1), vR na, vR nl, vz lst, vz mst, vz bh]) := ⟨_, rfl⟩
      have hx := hx.keep hd_ eG81 (by decide)
      have hna := hna.keep hd_ eG81 (by decide)
      have hnl := hnl.keep hd_ eG81 (by decide)
      have hg10 := hg10.keep hd_ eG81 (by decide)
      have hr10 := hr10.keep hd_ eG81 (by decide)
      have ha26 := ha26.keep hd_ eG81 (by decide)
      have ha44 := ha44.keep hd_ eG81 (by decide)
      have hfz := hfz.wl ppaI_0 hd_ eG81 (by decide)
      have hst := (fx.rf (o := o43) (S := [25]) (G := G78)).wr hd_ eG81 (List.mem_singleton.mpr rfl)
      have popI_0 := opI.fr hst ppaI_0 popI_0 (by decide) (by decide)
      have ppaI_0 := paI.fr hst ppaI_0 (by decide) (by decide) (by decide) (by decide)
      have hq82 := z_len eG81
      have hq83 := z_sl hd_ eG81 rfl
      have hfr := hfr.wr hd_ eG81 (by decide)
      have hd_ := hd_.kept eG81
      change ab_W _ _ _ (List.set G78 d_ (ab_ob 6 [vR x, vR a26, vz (dp + 1), vz flg, vz (grp + 1), vR na, vR nl, vz lst, vz mst, vz bh])) 182 [some (vR d_), some (vz at_), some (vz 1), some (vz ins), some (vz 0), some (vR a26)] [] _
      rw [← eG81]
      refine ab_aload_n d_RD_enter_182 rfl ?_
      refine ab_iload_n d_RD_enter_183 rfl ?_
      refine ab_putf (fs := [vR x, vR a26, vz (dp + 1), vz flg, vz (grp + 1), vR na, vR nl, vz lst, vz mst, vz bh]) f_RD_38 (Or.inl rfl) d_RD_enter_184 hd_.2.2 (Nat.le_of_ble_eq_true rfl) (fun _ => ⟨rfl, rfl⟩) (hd_.2.1 (by decide)) ?_
      obtain ⟨G84, eG84⟩ : ∃ z : ab_G, z = List.set G81 d_ (ab_ob 6 [vR x, vR a26, vz (dp + 1), vz ins, vz (grp + 1), vR na, vR nl, vz lst, vz mst, vz bh]) := ⟨_, rfl⟩
      have hx := hx.keep hd_ eG84 (by decide)
      have hna := hna.keep hd_ eG84 (by decide)
      have hnl := hnl.keep hd_ eG84 (by decide)
      have hg10 := hg10.keep hd_ eG84 (by decide)
      have hr10 := hr10.keep hd_ eG84 (by decide)
      have ha26 := ha26.keep hd_ eG84 (by decide)
      have ha44 := ha44.keep hd_ eG84 (by decide)
      have hfz := hfz.wl ppaI_0 hd_ eG84 (by decide)
      have hst := (fx.rf (o := o43) (S := [25]) (G := G81)).wr hd_ eG84 (List.mem_singleton.mpr rfl)
      have popI_0 := opI.fr hst ppaI_0 popI_0 (by decide) (by decide)
      have ppaI_0 := paI.fr hst ppaI_0 (by decide) (by decide) (by decide) (by decide)
      have hq85 := z_len eG84
      have hq86 := z_sl hd_ eG84 rfl
      have hfr := hfr.wr hd_ eG84 (by decide)
      have hd_ := hd_.kept eG84
      change ab_W _ _ _ (List.set G81 d_ (ab_ob 6 [vR x, vR a26, vz (dp + 1), vz ins, vz (grp + 1), vR na, vR nl, vz lst, vz mst, vz bh])) 187 [some (vR d_), some (vz at_), some (vz 1), some (vz ins), some (vz 0), some (vR a26)] [] _
      rw [← eG84]
      have popI_0 : opI o43 G84 0 ps61 (k + 1) G84.length (vR a26) := ⟨a26, a44, (vR g10), (vN), rfl, ⟨hp70, hpa61⟩, ⟨by omega, by omega⟩, by unfold pf; rw [ha26.2.2]; rfl, by unfold pf; rw [ha26.2.2]; rfl, by unfold pf; rw [ha44.2.2]; rfl, (Or.inl rfl), (opn_up popI_0 (by omega))⟩
      have pszI_0 : szI o43 G84 0 ps61 (k + 1) G84.length (vR a26) wh 0 := szI.entC hsz9 hnfg_ hnfr_ hnog_ hnor_ (fun x h1 h2 => (hxo61 x h2).trans (hxo52 x h1)) hp70 hpa61 hfz ha26 ha44 (by omega) (by first | rfl | (unfold pin; rw [if_pos rfl, if_neg (by omega)])) (by omega) (by omega) (fun t => absurd t (by omega))
      refine ab_vret rfl d_RD_enter_187 ?_
      rw [hQ]; exact ⟨_, _, _, _, _, _, _, _, _, _, _, _, _, _, rfl, hfr, hd_, hx, hna, hnl, ppaI_0, popI_0, pszI_0, (by omega), (by omega), (by omega), (by exact nmok_s hnm (by omega) (by omega)), (by omega), (by exact (hx52.tr hx61 (by omega)).lt (by omega)), (by omega), (by omega), (by omega), (by omega)⟩
    · refine ab_aload_n d_RD_enter_22 rfl ?_
      refine ab_getf (fs := [vR x, inn, vz dp, vz flg, vz grp, vR na, vR nl, vz lst, vz mst, vz bh]) f_RD_12 d_RD_enter_23 hd_.2.2 rfl ?_
      refine ab_aload_n d_RD_enter_26 rfl ?_
      refine ab_getf (fs := [vR x, inn, vz dp, vz flg, vz grp, vR na, vR nl, vz lst, vz mst, vz bh]) f_RD_45 d_RD_enter_27 hd_.2.2 rfl ?_
      refine zz_bipush d_RD_enter_30 (by decide) ?_
      refine zz_icmp_lt (tgt := 40) d_RD_enter_32 (by decide) (by omega) (by decide) (fun c87 => ?_) (fun c87 => absurd c87 (by omega))
      refine zz_bipush d_RD_enter_40 (by decide) ?_
      refine ab_iload_n d_RD_enter_42 rfl ?_
      refine ab_callV (d' := d - 1) (as := [vz 13, vz at_]) (st := []) (r := _) (z_TX_fail (o := o) (x := x) (lx := 24) (se := se) (by_ := by_) (n := n) (pl := pl) (fa := fa) (fp := fp) (kd := kd) (kn := kn) (w := 13) (p := at_) hx (by omega) (by omega) (by omega)) (fun oc G2 h => by rcases h with ⟨h, _⟩ | ⟨h, _⟩ <;> exact ⟨_, h⟩) (by omega) m_TX_fail ml_RD_69 im_TX_fail se_TX_fail c_TX hx.2.2 (Nat.le_of_ble_eq_true rfl) d_RD_enter_43 rfl ?_
      intro v G88 hq
      rcases hq with ⟨hv, hfk, hlk, hsk, hNx, hq89⟩ | ⟨hv, hGe, hq90⟩
      · cases hv
        have hd_ := hfk.get hd_ (by decide)
        have hna := hfk.get hna (by decide)
        have hnl := hfk.get hnl (by decide)
        have popI_0 := opI.fr hfk ppaI_0 popI_0 (by decide) (by decide)
        have pszI_0 := szI.fr hfk ppaI_0 pszI_0 (by decide) (by decide)
        have ppaI_0 := paI.fr hfk ppaI_0 (by decide) (by decide) (by decide) (by decide)
        have hfr := hfr.tr hfk (by decide)
        have hq91 := hlk
        have hq92 := hsk
        have hx := hNx
        change ab_W _ _ _ G88 46 [some (vR d_), some (vz at_), some (vz 1), some (vz ins), some (vz 0), none] [vz (-1)] _
        refine ab_pop d_RD_enter_46 rfl ?_
        refine ab_vret rfl d_RD_enter_47 ?_
        rw [hQ]; exact ⟨_, _, _, _, _, _, _, _, _, _, _, _, _, _, rfl, hfr, hd_, hx, hna, hnl, ppaI_0, popI_0, pszI_0, (by omega), (by omega), (by omega), (by exact hnm), (by omega), (by exact psx.rf), (by omega), (by omega), (by omega), (by omega)⟩
      · cases hv
        rw [hGe]
        change ab_W _ _ _ G 46 [some (vR d_), some (vz at_), some (vz 1), some (vz ins), some (vz 0), none] [vz (-1)] _
        exfalso; omega
set_option maxRecDepth 100000 in
set_option maxHeartbeats 4000000 in
theorem zb_RD_enter {X : ab_X} {d : Nat} {o : Nat → Nat} {G : ab_G} {d_ : Nat} {inn : Value} {dp : Int} {flg : Int} {grp : Int} {na : Nat} {nl : Nat} {lst : Int} {mst : Int} {bh : Int} {NA : Int → Int} {NL : Int → Int} {x : Nat} {se : Nat} {by_ : Nat} {m : Nat} {n : Int} {pl : Int} {fa : Int} {fp : Int} {kd : Nat} {kn : Int} {ps : Nat → Nat} {wt : Nat → Nat} {bs : Nat} {ph : Int} {k : Nat} {hi : Nat} {wh : Nat} {at_ : Int} {ins : Int} {nm : Int} (hd_ : cc o G d_ 25 (ab_ob 6 [vR x, inn, vz dp, vz flg, vz grp, vR na, vR nl, vz lst, vz mst, vz bh])) (hx : cc o G x 24 (ab_ob 10 [vR se, vR by_, vz n, vz pl, vz fa, vz fp, vR kd, vz kn])) (hna : cc o G na 86 (za 10 NA)) (hnl : cc o G nl 87 (za 10 NL)) (ppaI_0 : paI o G 0 ps wt bs grp pr0 ph) (popI_0 : opI o G 0 ps k hi inn) (pszI_0 : szI o G 0 ps k hi inn wh 0) (n18 : ab_n0 = 18) (cn_ : 0 ≤ n ∧ n ≤ ↑m ∧ m ≤ 2000) (cf : 0 ≤ flg ∧ flg ≤ 31) (cg : 0 ≤ grp ∧ grp ≤ 9) (ck : 0 ≤ dp ∧ dp ≤ 30 ∧ ↑k = dp + 1 ∧ hi ≤ G.length) (hnm : nmok NA NL grp n) (cbs : bs ≤ G.length ∧ 18 ≤ G.length) (cfa : fa = 0) (ca : 0 ≤ at_ ∧ at_ ≤ 2000 ∧ 0 ≤ ins ∧ ins ≤ 31) (cnm : 1 ≤ nm ∧ nm ≤ 12 ∧ at_ + 4 + nm ≤ n) (rc : G.length + 9 ≤ ab_n0 + room_1.cells) (rs : ab_slots G + 30 ≤ room_1.slots) (hd : 4 ≤ d) : ab_F X d y_RD_enter (.code y_RD_enter b_RD_enter 6 none) [vR d_, vz at_, vz 1, vz ins, vz nm] G (fun oc G2 => ∃ o2 : Nat → Nat, ∃ inn2 : Value, ∃ dp2 : Int, ∃ flg2 : Int, ∃ grp2 : Int, ∃ NA2 : Int → Int, ∃ NL2 : Int → Int, ∃ fa2 : Int, ∃ fp2 : Int, ∃ k2 : Nat, ∃ hi2 : Nat, ∃ ps2 : Nat → Nat, ∃ wt2 : Nat → Nat, ∃ ph2 : Int, oc = .returned none ∧ fx o o2 [24, 25, 86, 87, 90, 94] G G2 ∧ cc o2 G2 d_ 25 (ab_ob 6 [vR x, inn2, vz dp2, vz flg2, vz grp2, vR na, vR nl, vz lst, vz mst, vz bh]) ∧ cc o2 G2 x 24 (ab_ob 10 [vR se, vR by_, vz n, vz pl, vz fa2, vz fp2, vR kd, vz kn]) ∧ cc o2 G2 na 86 (za 10 NA2) ∧ cc o2 G2 nl 87 (za 10 NL2) ∧ paI o2 G2 0 ps2 wt2 bs grp2 pr0 ph2 ∧ opI o2 G2 0 ps2 k2 hi2 inn2 ∧ szI o2 G2 0 ps2 k2 hi2 inn2 wh 0 ∧ (0 ≤ flg2 ∧ flg2 ≤ 31) ∧ (0 ≤ grp2 ∧ grp2 ≤ 9) ∧ (0 ≤ dp2 ∧ dp2 ≤ 30 ∧ ↑k2 = dp2 + 1) ∧ (nmok NA2 NL2 grp2 n) ∧ (hi2 ≤ G2.length) ∧ (psx ps ps2 G.length) ∧ (0 ≤ fa2 ∧ fa2 ≤ 14) ∧ (ph2 ≤ ph) ∧ (G2.length ≤ G.length + 2) ∧ (ab_slots G2 ≤ ab_slots G + 30)) := by
  refine ab_F_of (by decide +kernel) (Nat.le_of_ble_eq_true rfl) ?_
  obtain ⟨Q, hQ⟩ : ∃ z : Outcome → ab_G → Prop, z = (fun oc G2 => ∃ o2 : Nat → Nat, ∃ inn2 : Value, ∃ dp2 : Int, ∃ flg2 : Int, ∃ grp2 : Int, ∃ NA2 : Int → Int, ∃ NL2 : Int → Int, ∃ fa2 : Int, ∃ fp2 : Int, ∃ k2 : Nat, ∃ hi2 : Nat, ∃ ps2 : Nat → Nat, ∃ wt2 : Nat → Nat, ∃ ph2 : Int, oc = .returned none ∧ fx o o2 [24, 25, 86, 87, 90, 94] G G2 ∧ cc o2 G2 d_ 25 (ab_ob 6 [vR x, inn2, vz dp2, vz flg2, vz grp2, vR na, vR nl, vz lst, vz mst, vz bh]) ∧ cc o2 G2 x 24 (ab_ob 10 [vR se, vR by_, vz n, vz pl, vz fa2, vz fp2, vR kd, vz kn]) ∧ cc o2 G2 na 86 (za 10 NA2) ∧ cc o2 G2 nl 87 (za 10 NL2) ∧ paI o2 G2 0 ps2 wt2 bs grp2 pr0 ph2 ∧ opI o2 G2 0 ps2 k2 hi2 inn2 ∧ szI o2 G2 0 ps2 k2 hi2 inn2 wh 0 ∧ (0 ≤ flg2 ∧ flg2 ≤ 31) ∧ (0 ≤ grp2 ∧ grp2 ≤ 9) ∧ (0 ≤ dp2 ∧ dp2 ≤ 30 ∧ ↑k2 = dp2 + 1) ∧ (nmok NA2 NL2 grp2 n) ∧ (hi2 ≤ G2.length) ∧ (psx ps ps2 G.length) ∧ (0 ≤ fa2 ∧ fa2 ≤ 14) ∧ (ph2 ≤ ph) ∧ (G2.length ≤ G.length + 2) ∧ (ab_slots G2 ≤ ab_slots G + 30)) := ⟨_, rfl⟩
  rw [← hQ]
  change ab_W X (ab_pl y_RD_enter b_RD_enter 6 none) d G 0 [some (vR d_), some (vz at_), some (vz 1), some (vz ins), some (vz nm), none] [] Q
  have hfr : fx o o [24, 25, 86, 87, 90, 94] G G := fx.rf
  refine ab_aload_n d_RD_enter_0 rfl ?_
  refine ab_getf (fs := [vR x, inn, vz dp, vz flg, vz grp, vR na, vR nl, vz lst, vz mst, vz bh]) f_RD_45 d_RD_enter_1 hd_.2.2 rfl ?_
  refine zz_bipush d_RD_enter_4 (by decide) ?_
  refine zz_icmp_ge (tgt := 22) d_RD_enter_6 (by decide) (by omega) (by decide) (fun c1 => ?_) (fun c1 => ?_)
  · refine ab_aload_n d_RD_enter_22 rfl ?_
    refine ab_getf (fs := [vR x, inn, vz dp, vz flg, vz grp, vR na, vR nl, vz lst, vz mst, vz bh]) f_RD_12 d_RD_enter_23 hd_.2.2 rfl ?_
    refine ab_aload_n d_RD_enter_26 rfl ?_
    refine ab_getf (fs := [vR x, inn, vz dp, vz flg, vz grp, vR na, vR nl, vz lst, vz mst, vz bh]) f_RD_45 d_RD_enter_27 hd_.2.2 rfl ?_
    refine zz_bipush d_RD_enter_30 (by decide) ?_
    refine zz_icmp_lt (tgt := 40) d_RD_enter_32 (by decide) (by omega) (by decide) (fun c2 => absurd c2 (by omega)) (fun c2 => ?_)
    refine zz_bipush d_RD_enter_35 (by decide) ?_
    refine ab_goto (tgt := 42) d_RD_enter_37 (by decide) ?_
    refine ab_iload_n d_RD_enter_42 rfl ?_
    refine ab_callV (d' := d - 1) (as := [vz 12, vz at_]) (st := []) (r := _) (z_TX_fail (o := o) (x := x) (lx := 24) (se := se) (by_ := by_) (n := n) (pl := pl) (fa := fa) (fp := fp) (kd := kd) (kn := kn) (w := 12) (p := at_) hx (by omega) (by omega) (by omega)) (fun oc G2 h => by rcases h with ⟨h, _⟩ | ⟨h, _⟩ <;> exact ⟨_, h⟩) (by omega) m_TX_fail ml_RD_69 im_TX_fail se_TX_fail c_TX hx.2.2 (Nat.le_of_ble_eq_true rfl) d_RD_enter_43 rfl ?_
    intro v G3 hq
    rcases hq with ⟨hv, hfk, hlk, hsk, hNx, hq4⟩ | ⟨hv, hGe, hq5⟩
    · cases hv
      have hd_ := hfk.get hd_ (by decide)
      have hna := hfk.get hna (by decide)
      have hnl := hfk.get hnl (by decide)
      have popI_0 := opI.fr hfk ppaI_0 popI_0 (by decide) (by decide)
      have pszI_0 := szI.fr hfk ppaI_0 pszI_0 (by decide) (by decide)
      have ppaI_0 := paI.fr hfk ppaI_0 (by decide) (by decide) (by decide) (by decide)
      have hfr := hfr.tr hfk (by decide)
      have hq6 := hlk
      have hq7 := hsk
      have hx := hNx
      change ab_W _ _ _ G3 46 [some (vR d_), some (vz at_), some (vz 1), some (vz ins), some (vz nm), none] [vz (-1)] _
      refine ab_pop d_RD_enter_46 rfl ?_
      refine ab_vret rfl d_RD_enter_47 ?_
      rw [hQ]; exact ⟨_, _, _, _, _, _, _, _, _, _, _, _, _, _, rfl, hfr, hd_, hx, hna, hnl, ppaI_0, popI_0, pszI_0, (by omega), (by omega), (by omega), (by exact hnm), (by omega), (by exact psx.rf), (by omega), (by omega), (by omega), (by omega)⟩
    · cases hv
      rw [hGe]
      change ab_W _ _ _ G 46 [some (vR d_), some (vz at_), some (vz 1), some (vz ins), some (vz nm), none] [vz (-1)] _
      exfalso; omega
  · refine ab_iload_n d_RD_enter_9 rfl ?_
    refine zz_if_eq (tgt := 48) d_RD_enter_10 (by decide) (by decide) (fun c8 => absurd c8 (by decide)) (fun c8 => ?_)
    refine ab_aload_n d_RD_enter_13 rfl ?_
    refine ab_getf (fs := [vR x, inn, vz dp, vz flg, vz grp, vR na, vR nl, vz lst, vz mst, vz bh]) f_RD_42 d_RD_enter_14 hd_.2.2 rfl ?_
    refine zz_bipush d_RD_enter_17 (by decide) ?_
    refine zz_icmp_lt (tgt := 48) d_RD_enter_19 (by decide) (by omega) (by decide) (fun c9 => ?_) (fun c9 => ?_)
    · obtain ⟨j10, hj10⟩ : ∃ j, k = j + 1 := ⟨k - 1, by omega⟩
      rw [hj10] at popI_0
      obtain ⟨g10, r10, w10, lv10, hv10, ⟨hpg10, hpr10⟩, ⟨hgl10, hrl10⟩, hf610, hf510, hr610, hlv10, hop10⟩ := popI_0
      subst hv10
      obtain ⟨k_11, v_11, rg_11, pl_11, fl_11, ou_11, ls_11, bf_11, sz_11, mb_11, oe_11, le_11, mo_11, la_11, rc_11, hg10, hn11, hb11, hg11, ho11, hl11, hf11⟩ := ppaI_0.1 g10 hpg10
      have hB11 := hb11
      unfold pnB at hB11
      have hK11 := hn11.1
      obtain ⟨ls12, bf12, sz12, mb12, hr10, hB12, hl12, hf12⟩ := ppaI_0.2.1 r10 hpr10
      have e610 : some ls_11 = some (vR r10) := by have t := hf610; unfold pf at t; rw [hg10.2.2] at t; exact t
      have e610 := Option.some.inj e610
      subst e610
      have e510 : some ou_11 = some w10 := by have t := hf510; unfold pf at t; rw [hg10.2.2] at t; exact t
      have e510 := Option.some.inj e510
      subst e510
      have e710 : some ls12 = some lv10 := by have t := hr610; unfold pf at t; rw [hr10.2.2] at t; exact t
      have e710 := Option.some.inj e710
      subst e710
      have popI_0 : opI o G 0 ps j10 g10 ou_11 := hop10
      have hnq10 : nq g10 r10 := hg10.ne hr10 (by decide)
      change ab_W _ _ _ G 48 [some (vR d_), some (vz at_), some (vz 1), some (vz ins), some (vz nm), none] [] _
      have popI_0 : opI o G 0 ps (j10 + 1) hi (vR g10) := ⟨g10, r10, ou_11, ls12, rfl, ⟨hpg10, hpr10⟩, ⟨by omega, by omega⟩, by unfold pf; rw [hg10.2.2]; rfl, by unfold pf; rw [hg10.2.2]; rfl, by unfold pf; rw [hr10.2.2]; rfl, (hlv10.up (by omega)), popI_0⟩
      rw [← hj10] at popI_0
      refine ab_iload_n d_RD_enter_48 rfl ?_
      refine zz_if_eq (tgt := 94) d_RD_enter_49 (by decide) (by decide) (fun c13 => absurd c13 (by decide)) (fun c13 => ?_)
      refine ab_aload_n d_RD_enter_52 rfl ?_
      refine ab_dup d_RD_enter_53 rfl ?_
      refine ab_getf (fs := [vR x, vR g10, vz dp, vz flg, vz grp, vR na, vR nl, vz lst, vz mst, vz bh]) f_RD_42 d_RD_enter_54 hd_.2.2 rfl ?_
      refine zz_iconst d_RD_enter_57 ?_
      refine zz_iadd d_RD_enter_58 ?_
      refine ab_putf (fs := [vR x, vR g10, vz dp, vz flg, vz grp, vR na, vR nl, vz lst, vz mst, vz bh]) f_RD_42 (Or.inl rfl) d_RD_enter_59 hd_.2.2 (Nat.le_of_ble_eq_true rfl) (fun _ => ⟨rfl, rfl⟩) (hd_.2.1 (by decide)) ?_
      obtain ⟨G14, eG14⟩ : ∃ z : ab_G, z = List.set G d_ (ab_ob 6 [vR x, vR g10, vz dp, vz flg, vz (grp + 1), vR na, vR nl, vz lst, vz mst, vz bh]) := ⟨_, rfl⟩
      have hx := hx.keep hd_ eG14 (by decide)
      have hna := hna.keep hd_ eG14 (by decide)
      have hnl := hnl.keep hd_ eG14 (by decide)
      have hg10 := hg10.keep hd_ eG14 (by decide)
      have hr10 := hr10.keep hd_ eG14 (by decide)
      have hst := (fx.rf (o := o) (S := [25]) (G := G)).wr hd_ eG14 (List.mem_singleton.mpr rfl)
      have pszI_0 := szI.fr hst ppaI_0 pszI_0 (by decide) (by decide)
      have popI_0 := opI.fr hst ppaI_0 popI_0 (by decide) (by decide)
      have ppaI_0 := paI.fr hst ppaI_0 (by decide) (by decide) (by decide) (by decide)
      have hq15 := z_len eG14
      have hq16 := z_sl hd_ eG14 rfl
      have hfr := hfr.wr hd_ eG14 (by decide)
      have hd_ := hd_.kept eG14
      change ab_W _ _ _ (List.set G d_ (ab_ob 6 [vR x, vR g10, vz dp, vz flg, vz (grp + 1), vR na, vR nl, vz lst, vz mst, vz bh])) 62 [some (vR d_), some (vz at_), some (vz 1), some (vz ins), some (vz nm), none] [] _
      rw [← eG14]
      refine ab_aload_n d_RD_enter_62 rfl ?_
      refine ab_getf (fs := [vR x, vR g10, vz dp, vz flg, vz (grp + 1), vR na, vR nl, vz lst, vz mst, vz bh]) f_RD_27 d_RD_enter_63 hd_.2.2 rfl ?_
      refine ab_aload_n d_RD_enter_66 rfl ?_
      refine ab_getf (fs := [vR x, vR g10, vz dp, vz flg, vz (grp + 1), vR na, vR nl, vz lst, vz mst, vz bh]) f_RD_42 d_RD_enter_67 hd_.2.2 rfl ?_
      refine ab_iload d_RD_enter_70 rfl ?_
      refine zz_if_le (tgt := 81) d_RD_enter_72 (by decide) (by omega) (fun c17 => absurd c17 (by omega)) (fun c17 => ?_)
      refine ab_iload_n d_RD_enter_75 rfl ?_
      refine zz_iconst d_RD_enter_76 ?_
      refine zz_iadd d_RD_enter_77 ?_
      refine ab_goto (tgt := 82) d_RD_enter_78 (by decide) ?_
      refine zz_iast d_RD_enter_82 hna (by omega) (hna.2.1 (by decide)) ?_
      obtain ⟨G18, eG18⟩ : ∃ z : ab_G, z = List.set G14 na (za 10 (zu NA (grp + 1) (at_ + 4))) := ⟨_, rfl⟩
      have hd_ := hd_.keep hna eG18 (by decide)
      have hx := hx.keep hna eG18 (by decide)
      have hnl := hnl.keep hna eG18 (by decide)
      have hg10 := hg10.keep hna eG18 (by decide)
      have hr10 := hr10.keep hna eG18 (by decide)
      have hst := (fx.rf (o := o) (S := [86]) (G := G14)).wr hna eG18 (List.mem_singleton.mpr rfl)
      have pszI_0 := szI.fr hst ppaI_0 pszI_0 (by decide) (by decide)
      have popI_0 := opI.fr hst ppaI_0 popI_0 (by decide) (by decide)
      have ppaI_0 := paI.fr hst ppaI_0 (by decide) (by decide) (by decide) (by decide)
      have hq19 := z_len eG18
      have hq20 := z_sl hna eG18 rfl
      have hfr := hfr.wr hna eG18 (by decide)
      have hna := hna.kept eG18
      change ab_W _ _ _ (List.set G14 na (za 10 (zu NA (grp + 1) (at_ + 4)))) 83 [some (vR d_), some (vz at_), some (vz 1), some (vz ins), some (vz nm), none] [] _
      rw [← eG18]
      refine ab_aload_n d_RD_enter_83 rfl ?_
      refine ab_getf (fs := [vR x, vR g10, vz dp, vz flg, vz (grp + 1), vR na, vR nl, vz lst, vz mst, vz bh]) f_RD_31 d_RD_enter_84 hd_.2.2 rfl ?_
      refine ab_aload_n d_RD_enter_87 rfl ?_
      refine ab_getf (fs := [vR x, vR g10, vz dp, vz flg, vz (grp + 1), vR na, vR nl, vz lst, vz mst, vz bh]) f_RD_42 d_RD_enter_88 hd_.2.2 rfl ?_
      refine ab_iload d_RD_enter_91 rfl ?_
      refine zz_iast d_RD_enter_93 hnl (by omega) (hnl.2.1 (by decide)) ?_
      obtain ⟨G21, eG21⟩ : ∃ z : ab_G, z = List.set G18 nl (za 10 (zu NL (grp + 1) nm)) := ⟨_, rfl⟩
      have hd_ := hd_.keep hnl eG21 (by decide)
      have hx := hx.keep hnl eG21 (by decide)
      have hna := hna.keep hnl eG21 (by decide)
      have hg10 := hg10.keep hnl eG21 (by decide)
      have hr10 := hr10.keep hnl eG21 (by decide)
      have hst := (fx.rf (o := o) (S := [87]) (G := G18)).wr hnl eG21 (List.mem_singleton.mpr rfl)
      have pszI_0 := szI.fr hst ppaI_0 pszI_0 (by decide) (by decide)
      have popI_0 := opI.fr hst ppaI_0 popI_0 (by decide) (by decide)
      have ppaI_0 := paI.fr hst ppaI_0 (by decide) (by decide) (by decide) (by decide)
      have hq22 := z_len eG21
      have hq23 := z_sl hnl eG21 rfl
      have hfr := hfr.wr hnl eG21 (by decide)
      have hnl := hnl.kept eG21
      change ab_W _ _ _ (List.set G18 nl (za 10 (zu NL (grp + 1) nm))) 94 [some (vR d_), some (vz at_), some (vz 1), some (vz ins), some (vz nm), none] [] _
      rw [← eG21]
      refine ab_new (fs := [vz 0, vz 0, vN, vz 0, vz 0, vN, vN, vN, vz 0, vz 0, vz 0, vz 0, vz 0, vz 0, vz 0]) k_PA rfl cl_RD_18 inst_PA ini_PA d_RD_enter_94 (by decide) (fun _ => rfl) (by omega) (by omega) ?_
      obtain ⟨G24, eG24⟩ : ∃ z : ab_G, z = G21 ++ [ab_ob 4 [vz 0, vz 0, vN, vz 0, vz 0, vN, vN, vN, vz 0, vz 0, vz 0, vz 0, vz 0, vz 0, vz 0]] := ⟨_, rfl⟩
      obtain ⟨o25, eo25⟩ : ∃ z : Nat → Nat, z = ol o G21.length 90 := ⟨_, rfl⟩
      obtain ⟨a26, ea26⟩ : ∃ z : Nat, z = G21.length := ⟨_, rfl⟩
      have hq27 := hr10.n0 (by first | decide | omega)
      have ne_a26_d_ : nq a26 d_ := by have hlt := hd_.lt; unfold nq; omega
      have ne_a26_x : nq a26 x := by have hlt := hx.lt; unfold nq; omega
      have ne_a26_na : nq a26 na := by have hlt := hna.lt; unfold nq; omega
      have ne_a26_nl : nq a26 nl := by have hlt := hnl.lt; unfold nq; omega
      have ne_a26_g10 : nq a26 g10 := by have hlt := hg10.lt; unfold nq; omega
      have ne_a26_r10 : nq a26 r10 := by have hlt := hr10.lt; unfold nq; omega
      have hd_ := hd_.akeep (k := 90) eG24
      rw [← eo25] at hd_
      have hx := hx.akeep (k := 90) eG24
      rw [← eo25] at hx
      have hna := hna.akeep (k := 90) eG24
      rw [← eo25] at hna
      have hnl := hnl.akeep (k := 90) eG24
      rw [← eo25] at hnl
      have hg10 := hg10.akeep (k := 90) eG24
      rw [← eo25] at hg10
      have hr10 := hr10.akeep (k := 90) eG24
      rw [← eo25] at hr10
      have hst := (fx.rf (o := o) (S := []) (G := G21)).ap (k := 90) eG24
      rw [← eo25] at hst
      have hnpa26 := ppaI_0.new (a := a26) (by omega)
      have pszI_0 := szI.fr hst ppaI_0 pszI_0 (by decide) (by decide)
      have popI_0 := opI.fr hst ppaI_0 popI_0 (by decide) (by decide)
      have ppaI_0 := paI.fr hst ppaI_0 (by decide) (by decide) (by decide) (by simp)
      have ha26 := cc.anew (o := o) 90 eG24 hq27
      rw [← eo25, ← ea26] at ha26
      have hfr := hfr.ap (k := 90) eG24
      rw [← eo25] at hfr
      have hq28 := z_alen eG24
      have hq29 : ab_slots G24 = ab_slots G21 + 15 := z_asl eG24 hq27
      change ab_W _ _ _ (G21 ++ [ab_ob 4 [vz 0, vz 0, vN, vz 0, vz 0, vN, vN, vN, vz 0, vz 0, vz 0, vz 0, vz 0, vz 0, vz 0]]) 97 [some (vR d_), some (vz at_), some (vz 1), some (vz ins), some (vz nm), none] [.ref G21.length] _
      rw [← eG24, ← ea26]
      change ab_W _ _ _ G24 97 [some (vR d_), some (vz at_), some (vz 1), some (vz ins), some (vz nm), none] [vR a26] _
      refine ab_dup d_RD_enter_97 rfl ?_
      refine zz_iconst d_RD_enter_98 ?_
      refine ab_iload_n d_RD_enter_99 rfl ?_
      refine zz_if_eq (tgt := 110) d_RD_enter_100 (by decide) (by decide) (fun c30 => absurd c30 (by decide)) (fun c30 => ?_)
      refine ab_aload_n d_RD_enter_103 rfl ?_
      refine ab_getf (fs := [vR x, vR g10, vz dp, vz flg, vz (grp + 1), vR na, vR nl, vz lst, vz mst, vz bh]) f_RD_42 d_RD_enter_104 hd_.2.2 rfl ?_
      refine ab_goto (tgt := 111) d_RD_enter_107 (by decide) ?_
      refine ab_iload_n d_RD_enter_111 rfl ?_
      refine zz_if_eq (tgt := 119) d_RD_enter_112 (by decide) (by decide) (fun c31 => absurd c31 (by decide)) (fun c31 => ?_)
      refine zz_iconst d_RD_enter_115 ?_
      refine ab_goto (tgt := 120) d_RD_enter_116 (by decide) ?_
      refine zz_iconst d_RD_enter_120 ?_
      refine ab_callI (d' := d - 1) (as := [vz 4, vz (grp + 1), vz 2, vz 0]) (st := [vR a26]) (z90_PA_init (o := o25) (a := a26) (k0 := 4) (v0 := (grp + 1)) (s0 := 2) (m0 := 0) (ps := ps) (wt := wt) (bs := bs) (gr := grp) (Pr := pr0) (ph := ph) ha26 ppaI_0 (by omega) (by omega) (by omega) (by omega)) (fun oc G2 h => by rcases h with ⟨h, _⟩ <;> exact ⟨_, h⟩) (by omega) m_PA_init ml_RD_20 im_PA_init rfl (Nat.le_of_ble_eq_true rfl) d_RD_enter_121 rfl ?_
      intro v G32 hq
      rcases hq with ⟨hv, hfk, hlk, hsk, hNa26, pNpaI_0, hq33⟩
      cases hv
      have hd_ := hfk.get hd_ (by decide)
      have hx := hfk.get hx (by decide)
      have hna := hfk.get hna (by decide)
      have hnl := hfk.get hnl (by decide)
      have hKg10 := hq33.get hfk hg10 (Or.inl hpg10) (by simp only [List.mem_cons, List.not_mem_nil, or_false, not_or]; exact not_false)
      have hr10 := hfk.get hr10 (by decide)
      have hg10 := hKg10
      have pszI_0 := pszI_0.fzk (o2 := o25) hq33
      have popI_0 := popI_0.fz (o2 := o25) hq33 (by simp)
      have ppaI_0 := pNpaI_0
      have hfr := hfr.tr hfk (by decide)
      have hq34 := hlk
      have hq35 := hsk
      have ha26 := hNa26
      change ab_W _ _ _ G32 124 [some (vR d_), some (vz at_), some (vz 1), some (vz ins), some (vz nm), none] [vR a26] _
      refine ab_astore d_RD_enter_124 (Nat.le_of_ble_eq_true rfl) (Nat.le_of_ble_eq_true rfl) rfl ?_
      change ab_W _ _ _ G32 126 [some (vR d_), some (vz at_), some (vz 1), some (vz ins), some (vz nm), some (vR a26)] [] _
      refine ab_aload d_RD_enter_126 rfl ?_
      refine ab_iload_n d_RD_enter_128 rfl ?_
      refine ab_putf (fs := [vz 4, vz (grp + 1), vN, vz (-1), vz 0, vN, vN, vN, vz 2, vz 0, vz 0, vz 0, vz 0, vz 0, vz (-1)]) f_RD_68 (Or.inl rfl) d_RD_enter_129 ha26.2.2 (Nat.le_of_ble_eq_true rfl) (fun _ => ⟨rfl, rfl⟩) (ha26.2.1 (by decide)) ?_
      obtain ⟨G36, eG36⟩ : ∃ z : ab_G, z = List.set G32 a26 (ab_ob 4 [vz 4, vz (grp + 1), vN, vz at_, vz 0, vN, vN, vN, vz 2, vz 0, vz 0, vz 0, vz 0, vz 0, vz (-1)]) := ⟨_, rfl⟩
      have hd_ := hd_.keep ha26 eG36 (by decide)
      have hx := hx.keep ha26 eG36 (by decide)
      have hna := hna.keep ha26 eG36 (by decide)
      have hnl := hnl.keep ha26 eG36 (by decide)
      have hg10 := hg10.keep' eG36 ne_a26_g10
      have hr10 := hr10.keep ha26 eG36 (by decide)
      have hst := (fx.rf (o := o25) (S := [90]) (G := G32)).wr ha26 eG36 (List.mem_singleton.mpr rfl)
      have pszI_0 := pszI_0.wnp eG36 hnpa26
      have popI_0 := popI_0.wnp eG36 hnpa26
      have ppaI_0 := ppaI_0.wnp hnpa26 ha26 eG36 (by decide)
      have hq37 := z_len eG36
      have hq38 := z_sl ha26 eG36 rfl
      have hfr := hfr.wn (show G.length ≤ a26 by have := hfr.1; omega) eG36
      have ha26 := ha26.kept eG36
      change ab_W _ _ _ (List.set G32 a26 (ab_ob 4 [vz 4, vz (grp + 1), vN, vz at_, vz 0, vN, vN, vN, vz 2, vz 0, vz 0, vz 0, vz 0, vz 0, vz (-1)])) 132 [some (vR d_), some (vz at_), some (vz 1), some (vz ins), some (vz nm), some (vR a26)] [] _
      rw [← eG36]
      refine ab_aload d_RD_enter_132 rfl ?_
      refine ab_aload_n d_RD_enter_134 rfl ?_
      refine ab_getf (fs := [vR x, vR g10, vz dp, vz flg, vz (grp + 1), vR na, vR nl, vz lst, vz mst, vz bh]) f_RD_38 d_RD_enter_135 hd_.2.2 rfl ?_
      refine ab_putf (fs := [vz 4, vz (grp + 1), vN, vz at_, vz 0, vN, vN, vN, vz 2, vz 0, vz 0, vz 0, vz 0, vz 0, vz (-1)]) f_RD_169 (Or.inl rfl) d_RD_enter_138 ha26.2.2 (Nat.le_of_ble_eq_true rfl) (fun _ => ⟨rfl, rfl⟩) (ha26.2.1 (by decide)) ?_
      obtain ⟨G39, eG39⟩ : ∃ z : ab_G, z = List.set G36 a26 (ab_ob 4 [vz 4, vz (grp + 1), vN, vz at_, vz flg, vN, vN, vN, vz 2, vz 0, vz 0, vz 0, vz 0, vz 0, vz (-1)]) := ⟨_, rfl⟩
      have hd_ := hd_.keep ha26 eG39 (by decide)
      have hx := hx.keep ha26 eG39 (by decide)
      have hna := hna.keep ha26 eG39 (by decide)
      have hnl := hnl.keep ha26 eG39 (by decide)
      have hg10 := hg10.keep' eG39 ne_a26_g10
      have hr10 := hr10.keep ha26 eG39 (by decide)
      have hst := (fx.rf (o := o25) (S := [90]) (G := G36)).wr ha26 eG39 (List.mem_singleton.mpr rfl)
      have pszI_0 := pszI_0.wnp eG39 hnpa26
      have popI_0 := popI_0.wnp eG39 hnpa26
      have ppaI_0 := ppaI_0.wnp hnpa26 ha26 eG39 (by decide)
      have hq40 := z_len eG39
      have hq41 := z_sl ha26 eG39 rfl
      have hfr := hfr.wn (show G.length ≤ a26 by have := hfr.1; omega) eG39
      have ha26 := ha26.kept eG39
      change ab_W _ _ _ (List.set G36 a26 (ab_ob 4 [vz 4, vz (grp + 1), vN, vz at_, vz flg, vN, vN, vN, vz 2, vz 0, vz 0, vz 0, vz 0, vz 0, vz (-1)])) 141 [some (vR d_), some (vz at_), some (vz 1), some (vz ins), some (vz nm), some (vR a26)] [] _
      rw [← eG39]
      refine ab_aload d_RD_enter_141 rfl ?_
      refine ab_new (fs := [vz 0, vz 0, vN, vz 0, vz 0, vN, vN, vN, vz 0, vz 0, vz 0, vz 0, vz 0, vz 0, vz 0]) k_PA rfl cl_RD_18 inst_PA ini_PA d_RD_enter_143 (by decide) (fun _ => rfl) (by omega) (by omega) ?_
      obtain ⟨G42, eG42⟩ : ∃ z : ab_G, z = G39 ++ [ab_ob 4 [vz 0, vz 0, vN, vz 0, vz 0, vN, vN, vN, vz 0, vz 0, vz 0, vz 0, vz 0, vz 0, vz 0]] := ⟨_, rfl⟩
      obtain ⟨o43, eo43⟩ : ∃ z : Nat → Nat, z = ol o25 G39.length 94 := ⟨_, rfl⟩
      obtain ⟨a44, ea44⟩ : ∃ z : Nat, z = G39.length := ⟨_, rfl⟩
      have hq45 := ha26.n0 (by first | decide | omega)
      have ne_a44_d_ : nq a44 d_ := by have hlt := hd_.lt; unfold nq; omega
      have ne_a44_x : nq a44 x := by have hlt := hx.lt; unfold nq; omega
      have ne_a44_na : nq a44 na := by have hlt := hna.lt; unfold nq; omega
      have ne_a44_nl : nq a44 nl := by have hlt := hnl.lt; unfold nq; omega
      have ne_a44_g10 : nq a44 g10 := by have hlt := hg10.lt; unfold nq; omega
      have ne_a44_r10 : nq a44 r10 := by have hlt := hr10.lt; unfold nq; omega
      have ne_a44_a26 : nq a44 a26 := by have hlt := ha26.lt; unfold nq; omega
      have hd_ := hd_.akeep (k := 94) eG42
      rw [← eo43] at hd_
      have hx := hx.akeep (k := 94) eG42
      rw [← eo43] at hx
      have hna := hna.akeep (k := 94) eG42
      rw [← eo43] at hna
      have hnl := hnl.akeep (k := 94) eG42
      rw [← eo43] at hnl
      have hg10 := hg10.akeep (k := 94) eG42
      rw [← eo43] at hg10
      have hr10 := hr10.akeep (k := 94) eG42
      rw [← eo43] at hr10
      have ha26 := ha26.akeep (k := 94) eG42
      rw [← eo43] at ha26
      have hst := (fx.rf (o := o25) (S := []) (G := G39)).ap (k := 94) eG42
      rw [← eo43] at hst
      have hnpa44 := ppaI_0.new (a := a44) (by omega)
      have pszI_0 := szI.fr hst ppaI_0 pszI_0 (by decide) (by decide)
      have popI_0 := opI.fr hst ppaI_0 popI_0 (by decide) (by decide)
      have ppaI_0 := paI.fr hst ppaI_0 (by decide) (by decide) (by decide) (by simp)
      have ha44 := cc.anew (o := o25) 94 eG42 hq45
      rw [← eo43, ← ea44] at ha44
      have hfr := hfr.ap (k := 94) eG42
      rw [← eo43] at hfr
      have hq46 := z_alen eG42
      have hq47 : ab_slots G42 = ab_slots G39 + 15 := z_asl eG42 hq45
      change ab_W _ _ _ (G39 ++ [ab_ob 4 [vz 0, vz 0, vN, vz 0, vz 0, vN, vN, vN, vz 0, vz 0, vz 0, vz 0, vz 0, vz 0, vz 0]]) 146 [some (vR d_), some (vz at_), some (vz 1), some (vz ins), some (vz nm), some (vR a26)] [.ref G39.length, vR a26] _
      rw [← eG42, ← ea44]
      change ab_W _ _ _ G42 146 [some (vR d_), some (vz at_), some (vz 1), some (vz ins), some (vz nm), some (vR a26)] [vR a44, vR a26] _
      refine ab_dup d_RD_enter_146 rfl ?_
      refine zz_iconst d_RD_enter_147 ?_
      refine zz_iconst d_RD_enter_148 ?_
      refine zz_iconst d_RD_enter_149 ?_
      refine zz_iconst d_RD_enter_150 ?_
      refine ab_callI (d' := d - 1) (as := [vz 5, vz 0, vz 0, vz 1]) (st := [vR a44, vR a26]) (z94_PA_init (o := o43) (a := a44) (k0 := 5) (v0 := 0) (s0 := 0) (m0 := 1) (ps := ps) (wt := wt) (bs := bs) (gr := grp) (Pr := pr0) (ph := ph) ha44 ppaI_0 (by omega) (by omega) (by omega) (by omega)) (fun oc G2 h => by rcases h with ⟨h, _⟩ <;> exact ⟨_, h⟩) (by omega) m_PA_init ml_RD_20 im_PA_init rfl (Nat.le_of_ble_eq_true rfl) d_RD_enter_151 rfl ?_
      intro v G48 hq
      rcases hq with ⟨hv, hfk, hlk, hsk, hNa44, pNpaI_0, hq49⟩
      cases hv
      have hd_ := hfk.get hd_ (by decide)
      have hx := hfk.get hx (by decide)
      have hna := hfk.get hna (by decide)
      have hnl := hfk.get hnl (by decide)
      have hg10 := hfk.get hg10 (by decide)
      have hKr10 := hq49.get hfk hr10 (Or.inr hpr10) (by simp only [List.mem_cons, List.not_mem_nil, or_false, not_or]; exact not_false)
      have ha26 := hfk.get ha26 (by decide)
      have hr10 := hKr10
      have pszI_0 := pszI_0.fzk (o2 := o43) hq49
      have popI_0 := popI_0.fz (o2 := o43) hq49 (by simp)
      have ppaI_0 := pNpaI_0
      have hfr := hfr.tr hfk (by decide)
      have hq50 := hlk
      have hq51 := hsk
      have ha44 := hNa44
      change ab_W _ _ _ G48 154 [some (vR d_), some (vz at_), some (vz 1), some (vz ins), some (vz nm), some (vR a26)] [vR a44, vR a26] _
      have hnfg_ := ppaI_0.nref hnpa26
      have hnog_ := hnpa26
      have hnfr_ := ppaI_0.nref hnpa44
      have hnor_ := hnpa44
      have hsz9 := pszI_0
      have ppaI_0 := ppaI_0.gr (gr2 := grp + 1) (by omega) (Int.le_refl _)
      have hlt52 := ha26.lt
      have hn52 : paN (grp + 1) pr0 4 (grp + 1) (-1) := ⟨by omega, by intro _; omega, by intro _; omega, by intro _; omega, pr0_⟩
      obtain ⟨ps52, wt52, hx52, hxo52, hpa52, ppaI_0⟩ : ∃ pz wz : Nat → Nat, psx ps pz a26 ∧ (∀ x, ¬ x = a26 → pz x = ps x) ∧ pz a26 = 90 ∧ paI o43 G48 0 pz wz bs (grp + 1) pr0 (ph + 0) := ⟨_, _, psx.ol (Nat.le_refl _), fun x hx => if_neg hx, ol_self, ppaI_0.ad90 0 hnpa26 (by omega) ha26 hn52 (by unfold pnB; omega) (Or.inl ⟨by omega, rfl⟩) (Or.inl rfl) (Or.inl rfl) (Or.inl rfl)⟩
      have hnpa44 : ¬ ps52 a44 = 90 ∧ ¬ ps52 a44 = 94 := by rw [hxo52 a44 (by omega)]; exact hnpa44
      have hp53 : ps52 g10 = 90 := hx52.at (by have hlt := hg10.lt; omega) hpg10
      have hp54 : ps52 r10 = 94 := hx52.at (by have hlt := hr10.lt; omega) hpr10
      have hl55 := ho11.ps (by have hlt := hg10.lt; omega) hx52
      have hl56 := hl11.ps (by omega) hx52
      have hl57 := hf11.ps (by have hlt := hg10.lt; omega) hx52
      have hl58 := hl12.ps (by omega) hx52
      have hl59 := hf12.ps (by have hlt := hr10.lt; omega) hx52
      have hl60 := hlv10.ps (by omega) hx52
      have popI_0 : opI o43 G48 0 ps52 k hi (vR g10) := opn_ps _ _ _ popI_0 (psx.lt hx52 (by omega))
      have hlt61 := ha44.lt
      obtain ⟨ps61, hx61, hxo61, hpa61, ppaI_0⟩ : ∃ pz : Nat → Nat, psx ps52 pz a44 ∧ (∀ x, ¬ x = a44 → pz x = ps52 x) ∧ pz a44 = 94 ∧ paI o43 G48 0 pz wt52 bs (grp + 1) pr0 (ph + 0) := ⟨_, psx.ol (Nat.le_refl _), fun x hx => if_neg hx, ol_self, ppaI_0.ad94 hnpa44 ha44 (by omega) (Or.inl rfl) (Or.inl rfl)⟩
      have hp62 : ps61 g10 = 90 := hx61.at (by have hlt := hg10.lt; omega) hp53
      have hp63 : ps61 r10 = 94 := hx61.at (by have hlt := hr10.lt; omega) hp54
      have hl64 := hl55.ps (by have hlt := hg10.lt; omega) hx61
      have hl65 := hl56.ps (by omega) hx61
      have hl66 := hl57.ps (by have hlt := hg10.lt; omega) hx61
      have hl67 := hl58.ps (by omega) hx61
      have hl68 := hl59.ps (by have hlt := hr10.lt; omega) hx61
      have hl69 := hl60.ps (by omega) hx61
      have hp70 : ps61 a26 = 90 := hx61.at (by have hlt := ha26.lt; omega) hpa52
      have popI_0 : opI o43 G48 0 ps61 k hi (vR g10) := opn_ps _ _ _ popI_0 (psx.lt hx61 (by omega))
      have hfz : fz ps61 [a26, a44] G48 G48 := fz.rf
      refine ab_callV (d' := d - 1) (as := [vR a44]) (st := []) (r := _) (z90_PA_push (o := o43) (k := 4) (v := (grp + 1)) (rg := vN) (pl := at_) (fl := flg) (ou := vN) (ls := vN) (bf := vN) (sz := 2) (mb := 0) (oe := 0) (le := 0) (mo := 0) (la := 0) (rc := (-1)) (lr := vN) (br := vN) (sr := 0) (mr := 1) (ps := ps61) (wt := wt52) (bs := bs) (gr := (grp + 1)) (Pr := pr0) (ph := (ph + 0)) (r := a44) (p := a26) ha26 ha44 ppaI_0 (by omega) hp70 hpa61 hn52 (by omega) (by omega) (Or.inl rfl) (Or.inl rfl) (Or.inl rfl) (Or.inl rfl) (Or.inl rfl) (Or.inl rfl) (by omega)) (fun oc G2 h => by rcases h with ⟨h, _⟩ <;> exact ⟨_, h⟩) (by omega) m_PA_push ml_RD_48 im_PA_push se_PA_push c_PA ha26.2.2 (Nat.le_of_ble_eq_true rfl) d_RD_enter_154 rfl ?_
      intro v G71 hq
      rcases hq with ⟨hv, hfk, hlk, hsk, hNa26, hNa44, pNpaI_0, hq72⟩
      cases hv
      have hd_ := hfk.get hd_ (by decide)
      have hx := hfk.get hx (by decide)
      have hna := hfk.get hna (by decide)
      have hnl := hfk.get hnl (by decide)
      have hKg10 := hq72.get hfk hg10 (Or.inl hp62) (by simp only [List.mem_cons, List.not_mem_nil, or_false, not_or]; exact ⟨(nq.s ne_a26_g10), (hg10.ne ha44 (by decide))⟩)
      have hKr10 := hq72.get hfk hr10 (Or.inr hp63) (by simp only [List.mem_cons, List.not_mem_nil, or_false, not_or]; exact ⟨(hr10.ne ha26 (by decide)), (nq.s ne_a44_r10)⟩)
      have hg10 := hKg10
      have hr10 := hKr10
      have hfz := hfz.tr hq72 (by simp)
      have popI_0 := popI_0.fz (o2 := o43) hq72 (by intro y hy; simp only [List.mem_cons, List.not_mem_nil, or_false] at hy; omega)
      have ppaI_0 := pNpaI_0
      have hfr := hfr.tr hfk (by decide)
      have hq73 := hlk
      have hq74 := hsk
      have ha26 := hNa26
      have ha44 := hNa44
      change ab_W _ _ _ G71 157 [some (vR d_), some (vz at_), some (vz 1), some (vz ins), some (vz nm), some (vR a26)] [] _
      refine ab_aload d_RD_enter_157 rfl ?_
      refine ab_aload_n d_RD_enter_159 rfl ?_
      refine ab_getf (fs := [vR x, vR g10, vz dp, vz flg, vz (grp + 1), vR na, vR nl, vz lst, vz mst, vz bh]) f_RD_23 d_RD_enter_160 hd_.2.2 rfl ?_
      refine ab_putf (fs := [vz 4, vz (grp + 1), vN, vz at_, vz flg, vN, vR a44, vN, vz 2, vz 0, vz 0, vz 0, vz 0, vz 0, vz (-1)]) f_RD_172 (Or.inl rfl) d_RD_enter_163 ha26.2.2 (Nat.le_of_ble_eq_true rfl) (fun _ => ⟨rfl, rfl⟩) (ha26.2.1 (by decide)) ?_
      obtain ⟨G75, eG75⟩ : ∃ z : ab_G, z = List.set G71 a26 (ab_ob 4 [vz 4, vz (grp + 1), vN, vz at_, vz flg, vR g10, vR a44, vN, vz 2, vz 0, vz 0, vz 0, vz 0, vz 0, vz (-1)]) := ⟨_, rfl⟩
      have hd_ := hd_.keep ha26 eG75 (by decide)
      have hx := hx.keep ha26 eG75 (by decide)
      have hna := hna.keep ha26 eG75 (by decide)
      have hnl := hnl.keep ha26 eG75 (by decide)
      have hg10 := hg10.keep' eG75 ne_a26_g10
      have hr10 := hr10.keep ha26 eG75 (by decide)
      have ha44 := ha44.keep ha26 eG75 (by decide)
      have hfz := hfz.wr eG75 (by simp)
      have hst := (fx.rf (o := o43) (S := [90]) (G := G71)).wr ha26 eG75 (List.mem_singleton.mpr rfl)
      have popI_0 := popI_0.wge eG75 (by omega)
      have ppaI_0 := ppaI_0.w90 hp70 ha26 hn52 eG75 (by unfold pnB; omega) (Or.inr ⟨_, rfl, hp62, by have hlt := hg10.lt; omega⟩) (Or.inr ⟨_, rfl, hpa61, by have hlt := ha44.lt; omega⟩) (Or.inl rfl)
      have hq76 := z_len eG75
      have hq77 := z_sl ha26 eG75 rfl
      have hfr := hfr.wn (show G.length ≤ a26 by have := hfr.1; omega) eG75
      have ha26 := ha26.kept eG75
      change ab_W _ _ _ (List.set G71 a26 (ab_ob 4 [vz 4, vz (grp + 1), vN, vz at_, vz flg, vR g10, vR a44, vN, vz 2, vz 0, vz 0, vz 0, vz 0, vz 0, vz (-1)])) 166 [some (vR d_), some (vz at_), some (vz 1), some (vz ins), some (vz nm), some (vR a26)] [] _
      rw [← eG75]
      refine ab_aload_n d_RD_enter_166 rfl ?_
      refine ab_aload d_RD_enter_167 rfl ?_
      refine ab_putf (fs := [vR x, vR g10, vz dp, vz flg, vz (grp + 1), vR na, vR nl, vz lst, vz mst, vz bh]) f_RD_23 (Or.inl rfl) d_RD_enter_169 hd_.2.2 (Nat.le_of_ble_eq_true rfl) (fun _ => ⟨rfl, rfl⟩) (hd_.2.1 (by decide)) ?_
      obtain ⟨G78, eG78⟩ : ∃ z : ab_G, z = List.set G75 d_ (ab_ob 6 [vR x, vR a26, vz dp, vz flg, vz (grp + 1), vR na, vR nl, vz lst, vz mst, vz bh]) := ⟨_, rfl⟩
      have hx := hx.keep hd_ eG78 (by decide)
      have hna := hna.keep hd_ eG78 (by decide)
      have hnl := hnl.keep hd_ eG78 (by decide)
      have hg10 := hg10.keep hd_ eG78 (by decide)
      have hr10 := hr10.keep hd_ eG78 (by decide)
      have ha26 := ha26.keep hd_ eG78 (by decide)
      have ha44 := ha44.keep hd_ eG78 (by decide)
      have hfz := hfz.wl ppaI_0 hd_ eG78 (by decide)
      have hst := (fx.rf (o := o43) (S := [25]) (G := G75)).wr hd_ eG78 (List.mem_singleton.mpr rfl)
      have popI_0 := opI.fr hst ppaI_0 popI_0 (by decide) (by decide)
      have ppaI_0 := paI.fr hst ppaI_0 (by decide) (by decide) (by decide) (by decide)
      have hq79 := z_len eG78
      have hq80 := z_sl hd_ eG78 rfl
      have hfr := hfr.wr hd_ eG78 (by decide)
      have hd_ := hd_.kept eG78
      change ab_W _ _ _ (List.set G75 d_ (ab_ob 6 [vR x, vR a26, vz dp, vz flg, vz (grp + 1), vR na, vR nl, vz lst, vz mst, vz bh])) 172 [some (vR d_), some (vz at_), some (vz 1), some (vz ins), some (vz nm), some (vR a26)] [] _
      rw [← eG78]
      refine ab_aload_n d_RD_enter_172 rfl ?_
      refine ab_dup d_RD_enter_173 rfl ?_
      refine ab_getf (fs := [vR x, vR a26, vz dp, vz flg, vz (grp + 1), vR na, vR nl, vz lst, vz mst, vz bh]) f_RD_45 d_RD_enter_174 hd_.2.2 rfl ?_
      refine zz_iconst d_RD_enter_177 ?_
      refine zz_iadd d_RD_enter_178 ?_
      refine ab_putf (fs := [vR x, vR a26, vz dp, vz flg, vz (grp + 1), vR na, vR nl, vz lst, vz mst, vz bh]) f_RD_45 (Or.inl rfl) d_RD_enter_179 hd_.2.2 (Nat.le_of_ble_eq_true rfl) (fun _ => ⟨rfl, rfl⟩) (hd_.2.1 (by decide)) ?_
      obtain ⟨G81, eG81⟩ : ∃ z : ab_G, z = List.set G78 d_ (ab_ob 6 [vR x, vR a26, vz (dp + 1), vz flg, vz (grp + 1), vR na, vR nl, vz lst, vz mst, vz bh]) := ⟨_, rfl⟩
      have hx := hx.keep hd_ eG81 (by decide)
      have hna := hna.keep hd_ eG81 (by decide)
      have hnl := hnl.keep hd_ eG81 (by decide)
      have hg10 := hg10.keep hd_ eG81 (by decide)
      have hr10 := hr10.keep hd_ eG81 (by decide)
      have ha26 := ha26.keep hd_ eG81 (by decide)
      have ha44 := ha44.keep hd_ eG81 (by decide)
      have hfz := hfz.wl ppaI_0 hd_ eG81 (by decide)
      have hst := (fx.rf (o := o43) (S := [25]) (G := G78)).wr hd_ eG81 (List.mem_singleton.mpr rfl)
      have popI_0 := opI.fr hst ppaI_0 popI_0 (by decide) (by decide)
      have ppaI_0 := paI.fr hst ppaI_0 (by decide) (by decide) (by decide) (by decide)
      have hq82 := z_len eG81
      have hq83 := z_sl hd_ eG81 rfl
      have hfr := hfr.wr hd_ eG81 (by decide)
      have hd_ := hd_.kept eG81
      change ab_W _ _ _ (List.set G78 d_ (ab_ob 6 [vR x, vR a26, vz (dp + 1), vz flg, vz (grp + 1), vR na, vR nl, vz lst, vz mst, vz bh])) 182 [some (vR d_), some (vz at_), some (vz 1), some (vz ins), some (vz nm), some (vR a26)] [] _
      rw [← eG81]
      refine ab_aload_n d_RD_enter_182 rfl ?_
      refine ab_iload_n d_RD_enter_183 rfl ?_
      refine ab_putf (fs := [vR x, vR a26, vz (dp + 1), vz flg, vz (grp + 1), vR na, vR nl, vz lst, vz mst, vz bh]) f_RD_38 (Or.inl rfl) d_RD_enter_184 hd_.2.2 (Nat.le_of_ble_eq_true rfl) (fun _ => ⟨rfl, rfl⟩) (hd_.2.1 (by decide)) ?_
      obtain ⟨G84, eG84⟩ : ∃ z : ab_G, z = List.set G81 d_ (ab_ob 6 [vR x, vR a26, vz (dp + 1), vz ins, vz (grp + 1), vR na, vR nl, vz lst, vz mst, vz bh]) := ⟨_, rfl⟩
      have hx := hx.keep hd_ eG84 (by decide)
      have hna := hna.keep hd_ eG84 (by decide)
      have hnl := hnl.keep hd_ eG84 (by decide)
      have hg10 := hg10.keep hd_ eG84 (by decide)
      have hr10 := hr10.keep hd_ eG84 (by decide)
      have ha26 := ha26.keep hd_ eG84 (by decide)
      have ha44 := ha44.keep hd_ eG84 (by decide)
      have hfz := hfz.wl ppaI_0 hd_ eG84 (by decide)
      have hst := (fx.rf (o := o43) (S := [25]) (G := G81)).wr hd_ eG84 (List.mem_singleton.mpr rfl)
      have popI_0 := opI.fr hst ppaI_0 popI_0 (by decide) (by decide)
      have ppaI_0 := paI.fr hst ppaI_0 (by decide) (by decide) (by decide) (by decide)
      have hq85 := z_len eG84
      have hq86 := z_sl hd_ eG84 rfl
      have hfr := hfr.wr hd_ eG84 (by decide)
      have hd_ := hd_.kept eG84
      change ab_W _ _ _ (List.set G81 d_ (ab_ob 6 [vR x, vR a26, vz (dp + 1), vz ins, vz (grp + 1), vR na, vR nl, vz lst, vz mst, vz bh])) 187 [some (vR d_), some (vz at_), some (vz 1), some (vz ins), some (vz nm), some (vR a26)] [] _
      rw [← eG84]
      have popI_0 : opI o43 G84 0 ps61 (k + 1) G84.length (vR a26) := ⟨a26, a44, (vR g10), (vN), rfl, ⟨hp70, hpa61⟩, ⟨by omega, by omega⟩, by unfold pf; rw [ha26.2.2]; rfl, by unfold pf; rw [ha26.2.2]; rfl, by unfold pf; rw [ha44.2.2]; rfl, (Or.inl rfl), (opn_up popI_0 (by omega))⟩
      have pszI_0 : szI o43 G84 0 ps61 (k + 1) G84.length (vR a26) wh 0 := szI.entC hsz9 hnfg_ hnfr_ hnog_ hnor_ (fun x h1 h2 => (hxo61 x h2).trans (hxo52 x h1)) hp70 hpa61 hfz ha26 ha44 (by omega) (by first | rfl | (unfold pin; rw [if_pos rfl, if_neg (by omega)])) (by omega) (by omega) (fun t => absurd t (by omega))
      refine ab_vret rfl d_RD_enter_187 ?_
      rw [hQ]; exact ⟨_, _, _, _, _, _, _, _, _, _, _, _, _, _, rfl, hfr, hd_, hx, hna, hnl, ppaI_0, popI_0, pszI_0, (by omega), (by omega), (by omega), (by exact nmok_s hnm (by omega) (by omega)), (by omega), (by exact (hx52.tr hx61 (by omega)).lt (by omega)), (by omega), (by omega), (by omega), (by omega)⟩
    · refine ab_aload_n d_RD_enter_22 rfl ?_
      refine ab_getf (fs := [vR x, inn, vz dp, vz flg, vz grp, vR na, vR nl, vz lst, vz mst, vz bh]) f_RD_12 d_RD_enter_23 hd_.2.2 rfl ?_
      refine ab_aload_n d_RD_enter_26 rfl ?_
      refine ab_getf (fs := [vR x, inn, vz dp, vz flg, vz grp, vR na, vR nl, vz lst, vz mst, vz bh]) f_RD_45 d_RD_enter_27 hd_.2.2 rfl ?_
      refine zz_bipush d_RD_enter_30 (by decide) ?_
      refine zz_icmp_lt (tgt := 40) d_RD_enter_32 (by decide) (by omega) (by decide) (fun c87 => ?_) (fun c87 => absurd c87 (by omega))
      refine zz_bipush d_RD_enter_40 (by decide) ?_
      refine ab_iload_n d_RD_enter_42 rfl ?_
      refine ab_callV (d' := d - 1) (as := [vz 13, vz at_]) (st := []) (r := _) (z_TX_fail (o := o) (x := x) (lx := 24) (se := se) (by_ := by_) (n := n) (pl := pl) (fa := fa) (fp := fp) (kd := kd) (kn := kn) (w := 13) (p := at_) hx (by omega) (by omega) (by omega)) (fun oc G2 h => by rcases h with ⟨h, _⟩ | ⟨h, _⟩ <;> exact ⟨_, h⟩) (by omega) m_TX_fail ml_RD_69 im_TX_fail se_TX_fail c_TX hx.2.2 (Nat.le_of_ble_eq_true rfl) d_RD_enter_43 rfl ?_
      intro v G88 hq
      rcases hq with ⟨hv, hfk, hlk, hsk, hNx, hq89⟩ | ⟨hv, hGe, hq90⟩
      · cases hv
        have hd_ := hfk.get hd_ (by decide)
        have hna := hfk.get hna (by decide)
        have hnl := hfk.get hnl (by decide)
        have popI_0 := opI.fr hfk ppaI_0 popI_0 (by decide) (by decide)
        have pszI_0 := szI.fr hfk ppaI_0 pszI_0 (by decide) (by decide)
        have ppaI_0 := paI.fr hfk ppaI_0 (by decide) (by decide) (by decide) (by decide)
        have hfr := hfr.tr hfk (by decide)
        have hq91 := hlk
        have hq92 := hsk
        have hx := hNx
        change ab_W _ _ _ G88 46 [some (vR d_), some (vz at_), some (vz 1), some (vz ins), some (vz nm), none] [vz (-1)] _
        refine ab_pop d_RD_enter_46 rfl ?_
        refine ab_vret rfl d_RD_enter_47 ?_
        rw [hQ]; exact ⟨_, _, _, _, _, _, _, _, _, _, _, _, _, _, rfl, hfr, hd_, hx, hna, hnl, ppaI_0, popI_0, pszI_0, (by omega), (by omega), (by omega), (by exact hnm), (by omega), (by exact psx.rf), (by omega), (by omega), (by omega), (by omega)⟩
      · cases hv
        rw [hGe]
        change ab_W _ _ _ G 46 [some (vR d_), some (vz at_), some (vz 1), some (vz ins), some (vz nm), none] [vz (-1)] _
        exfalso; omega
set_option maxRecDepth 100000 in
set_option maxHeartbeats 4000000 in
theorem zc_RD_enter {X : ab_X} {d : Nat} {o : Nat → Nat} {G : ab_G} {d_ : Nat} {inn : Value} {dp : Int} {flg : Int} {grp : Int} {na : Nat} {nl : Nat} {lst : Int} {mst : Int} {bh : Int} {NA : Int → Int} {NL : Int → Int} {x : Nat} {se : Nat} {by_ : Nat} {m : Nat} {n : Int} {pl : Int} {fa : Int} {fp : Int} {kd : Nat} {kn : Int} {ps : Nat → Nat} {wt : Nat → Nat} {bs : Nat} {ph : Int} {k : Nat} {hi : Nat} {wh : Nat} {at_ : Int} {ins : Int} (hd_ : cc o G d_ 25 (ab_ob 6 [vR x, inn, vz dp, vz flg, vz grp, vR na, vR nl, vz lst, vz mst, vz bh])) (hx : cc o G x 24 (ab_ob 10 [vR se, vR by_, vz n, vz pl, vz fa, vz fp, vR kd, vz kn])) (hna : cc o G na 86 (za 10 NA)) (hnl : cc o G nl 87 (za 10 NL)) (ppaI_0 : paI o G 0 ps wt bs grp pr0 ph) (popI_0 : opI o G 0 ps k hi inn) (pszI_0 : szI o G 0 ps k hi inn wh 0) (n18 : ab_n0 = 18) (cn_ : 0 ≤ n ∧ n ≤ ↑m ∧ m ≤ 2000) (cf : 0 ≤ flg ∧ flg ≤ 31) (cg : 0 ≤ grp ∧ grp ≤ 9) (ck : 0 ≤ dp ∧ dp ≤ 30 ∧ ↑k = dp + 1 ∧ hi ≤ G.length) (hnm : nmok NA NL grp n) (cbs : bs ≤ G.length ∧ 18 ≤ G.length) (cfa : fa = 0) (ca : 0 ≤ at_ ∧ at_ ≤ 2000 ∧ 0 ≤ ins ∧ ins ≤ 31) (rc : G.length + 9 ≤ ab_n0 + room_1.cells) (rs : ab_slots G + 30 ≤ room_1.slots) (hd : 4 ≤ d) : ab_F X d y_RD_enter (.code y_RD_enter b_RD_enter 6 none) [vR d_, vz at_, vz 0, vz ins, vz 0] G (fun oc G2 => ∃ o2 : Nat → Nat, ∃ inn2 : Value, ∃ dp2 : Int, ∃ flg2 : Int, ∃ grp2 : Int, ∃ NA2 : Int → Int, ∃ NL2 : Int → Int, ∃ fa2 : Int, ∃ fp2 : Int, ∃ k2 : Nat, ∃ hi2 : Nat, ∃ ps2 : Nat → Nat, ∃ wt2 : Nat → Nat, ∃ ph2 : Int, oc = .returned none ∧ fx o o2 [24, 25, 86, 87, 90, 94] G G2 ∧ cc o2 G2 d_ 25 (ab_ob 6 [vR x, inn2, vz dp2, vz flg2, vz grp2, vR na, vR nl, vz lst, vz mst, vz bh]) ∧ cc o2 G2 x 24 (ab_ob 10 [vR se, vR by_, vz n, vz pl, vz fa2, vz fp2, vR kd, vz kn]) ∧ cc o2 G2 na 86 (za 10 NA2) ∧ cc o2 G2 nl 87 (za 10 NL2) ∧ paI o2 G2 0 ps2 wt2 bs grp2 pr0 ph2 ∧ opI o2 G2 0 ps2 k2 hi2 inn2 ∧ szI o2 G2 0 ps2 k2 hi2 inn2 wh 0 ∧ (0 ≤ flg2 ∧ flg2 ≤ 31) ∧ (0 ≤ grp2 ∧ grp2 ≤ 9) ∧ (0 ≤ dp2 ∧ dp2 ≤ 30 ∧ ↑k2 = dp2 + 1) ∧ (nmok NA2 NL2 grp2 n) ∧ (hi2 ≤ G2.length) ∧ (psx ps ps2 G.length) ∧ (0 ≤ fa2 ∧ fa2 ≤ 14) ∧ (ph2 ≤ ph) ∧ (G2.length ≤ G.length + 2) ∧ (ab_slots G2 ≤ ab_slots G + 30)) := by
  refine ab_F_of (by decide +kernel) (Nat.le_of_ble_eq_true rfl) ?_
  obtain ⟨Q, hQ⟩ : ∃ z : Outcome → ab_G → Prop, z = (fun oc G2 => ∃ o2 : Nat → Nat, ∃ inn2 : Value, ∃ dp2 : Int, ∃ flg2 : Int, ∃ grp2 : Int, ∃ NA2 : Int → Int, ∃ NL2 : Int → Int, ∃ fa2 : Int, ∃ fp2 : Int, ∃ k2 : Nat, ∃ hi2 : Nat, ∃ ps2 : Nat → Nat, ∃ wt2 : Nat → Nat, ∃ ph2 : Int, oc = .returned none ∧ fx o o2 [24, 25, 86, 87, 90, 94] G G2 ∧ cc o2 G2 d_ 25 (ab_ob 6 [vR x, inn2, vz dp2, vz flg2, vz grp2, vR na, vR nl, vz lst, vz mst, vz bh]) ∧ cc o2 G2 x 24 (ab_ob 10 [vR se, vR by_, vz n, vz pl, vz fa2, vz fp2, vR kd, vz kn]) ∧ cc o2 G2 na 86 (za 10 NA2) ∧ cc o2 G2 nl 87 (za 10 NL2) ∧ paI o2 G2 0 ps2 wt2 bs grp2 pr0 ph2 ∧ opI o2 G2 0 ps2 k2 hi2 inn2 ∧ szI o2 G2 0 ps2 k2 hi2 inn2 wh 0 ∧ (0 ≤ flg2 ∧ flg2 ≤ 31) ∧ (0 ≤ grp2 ∧ grp2 ≤ 9) ∧ (0 ≤ dp2 ∧ dp2 ≤ 30 ∧ ↑k2 = dp2 + 1) ∧ (nmok NA2 NL2 grp2 n) ∧ (hi2 ≤ G2.length) ∧ (psx ps ps2 G.length) ∧ (0 ≤ fa2 ∧ fa2 ≤ 14) ∧ (ph2 ≤ ph) ∧ (G2.length ≤ G.length + 2) ∧ (ab_slots G2 ≤ ab_slots G + 30)) := ⟨_, rfl⟩
  rw [← hQ]
  change ab_W X (ab_pl y_RD_enter b_RD_enter 6 none) d G 0 [some (vR d_), some (vz at_), some (vz 0), some (vz ins), some (vz 0), none] [] Q
  have hfr : fx o o [24, 25, 86, 87, 90, 94] G G := fx.rf
  refine ab_aload_n d_RD_enter_0 rfl ?_
  refine ab_getf (fs := [vR x, inn, vz dp, vz flg, vz grp, vR na, vR nl, vz lst, vz mst, vz bh]) f_RD_45 d_RD_enter_1 hd_.2.2 rfl ?_
  refine zz_bipush d_RD_enter_4 (by decide) ?_
  refine zz_icmp_ge (tgt := 22) d_RD_enter_6 (by decide) (by omega) (by decide) (fun c1 => ?_) (fun c1 => ?_)
  · refine ab_aload_n d_RD_enter_22 rfl ?_
    refine ab_getf (fs := [vR x, inn, vz dp, vz flg, vz grp, vR na, vR nl, vz lst, vz mst, vz bh]) f_RD_12 d_RD_enter_23 hd_.2.2 rfl ?_
    refine ab_aload_n d_RD_enter_26 rfl ?_
    refine ab_getf (fs := [vR x, inn, vz dp, vz flg, vz grp, vR na, vR nl, vz lst, vz mst, vz bh]) f_RD_45 d_RD_enter_27 hd_.2.2 rfl ?_
    refine zz_bipush d_RD_enter_30 (by decide) ?_
    refine zz_icmp_lt (tgt := 40) d_RD_enter_32 (by decide) (by omega) (by decide) (fun c2 => absurd c2 (by omega)) (fun c2 => ?_)
    refine zz_bipush d_RD_enter_35 (by decide) ?_
    refine ab_goto (tgt := 42) d_RD_enter_37 (by decide) ?_
    refine ab_iload_n d_RD_enter_42 rfl ?_
    refine ab_callV (d' := d - 1) (as := [vz 12, vz at_]) (st := []) (r := _) (z_TX_fail (o := o) (x := x) (lx := 24) (se := se) (by_ := by_) (n := n) (pl := pl) (fa := fa) (fp := fp) (kd := kd) (kn := kn) (w := 12) (p := at_) hx (by omega) (by omega) (by omega)) (fun oc G2 h => by rcases h with ⟨h, _⟩ | ⟨h, _⟩ <;> exact ⟨_, h⟩) (by omega) m_TX_fail ml_RD_69 im_TX_fail se_TX_fail c_TX hx.2.2 (Nat.le_of_ble_eq_true rfl) d_RD_enter_43 rfl ?_
    intro v G3 hq
    rcases hq with ⟨hv, hfk, hlk, hsk, hNx, hq4⟩ | ⟨hv, hGe, hq5⟩
    · cases hv
      have hd_ := hfk.get hd_ (by decide)
      have hna := hfk.get hna (by decide)
      have hnl := hfk.get hnl (by decide)
      have popI_0 := opI.fr hfk ppaI_0 popI_0 (by decide) (by decide)
      have pszI_0 := szI.fr hfk ppaI_0 pszI_0 (by decide) (by decide)
      have ppaI_0 := paI.fr hfk ppaI_0 (by decide) (by decide) (by decide) (by decide)
      have hfr := hfr.tr hfk (by decide)
      have hq6 := hlk
      have hq7 := hsk
      have hx := hNx
      change ab_W _ _ _ G3 46 [some (vR d_), some (vz at_), some (vz 0), some (vz ins), some (vz 0), none] [vz (-1)] _
      refine ab_pop d_RD_enter_46 rfl ?_
      refine ab_vret rfl d_RD_enter_47 ?_
      rw [hQ]; exact ⟨_, _, _, _, _, _, _, _, _, _, _, _, _, _, rfl, hfr, hd_, hx, hna, hnl, ppaI_0, popI_0, pszI_0, (by omega), (by omega), (by omega), (by exact hnm), (by omega), (by exact psx.rf), (by omega), (by omega), (by omega), (by omega)⟩
    · cases hv
      rw [hGe]
      change ab_W _ _ _ G 46 [some (vR d_), some (vz at_), some (vz 0), some (vz ins), some (vz 0), none] [vz (-1)] _
      exfalso; omega
  · refine ab_iload_n d_RD_enter_9 rfl ?_
    refine zz_if_eq (tgt := 48) d_RD_enter_10 (by decide) (by decide) (fun c8 => ?_) (fun c8 => absurd c8 (by decide))
    obtain ⟨j9, hj9⟩ : ∃ j, k = j + 1 := ⟨k - 1, by omega⟩
    rw [hj9] at popI_0
    obtain ⟨g9, r9, w9, lv9, hv9, ⟨hpg9, hpr9⟩, ⟨hgl9, hrl9⟩, hf69, hf59, hr69, hlv9, hop9⟩ := popI_0
    subst hv9
    obtain ⟨k_10, v_10, rg_10, pl_10, fl_10, ou_10, ls_10, bf_10, sz_10, mb_10, oe_10, le_10, mo_10, la_10, rc_10, hg9, hn10, hb10, hg10, ho10, hl10, hf10⟩ := ppaI_0.1 g9 hpg9
    have hB10 := hb10
    unfold pnB at hB10
    have hK10 := hn10.1
    obtain ⟨ls11, bf11, sz11, mb11, hr9, hB11, hl11, hf11⟩ := ppaI_0.2.1 r9 hpr9
    have e69 : some ls_10 = some (vR r9) := by have t := hf69; unfold pf at t; rw [hg9.2.2] at t; exact t
    have e69 := Option.some.inj e69
    subst e69
    have e59 : some ou_10 = some w9 := by have t := hf59; unfold pf at t; rw [hg9.2.2] at t; exact t
    have e59 := Option.some.inj e59
    subst e59
    have e79 : some ls11 = some lv9 := by have t := hr69; unfold pf at t; rw [hr9.2.2] at t; exact t
    have e79 := Option.some.inj e79
    subst e79
    have popI_0 : opI o G 0 ps j9 g9 ou_10 := hop9
    have hnq9 : nq g9 r9 := hg9.ne hr9 (by decide)
    change ab_W _ _ _ G 48 [some (vR d_), some (vz at_), some (vz 0), some (vz ins), some (vz 0), none] [] _
    have popI_0 : opI o G 0 ps (j9 + 1) hi (vR g9) := ⟨g9, r9, ou_10, ls11, rfl, ⟨hpg9, hpr9⟩, ⟨by omega, by omega⟩, by unfold pf; rw [hg9.2.2]; rfl, by unfold pf; rw [hg9.2.2]; rfl, by unfold pf; rw [hr9.2.2]; rfl, (hlv9.up (by omega)), popI_0⟩
    rw [← hj9] at popI_0
    refine ab_iload_n d_RD_enter_48 rfl ?_
    refine zz_if_eq (tgt := 94) d_RD_enter_49 (by decide) (by decide) (fun c12 => ?_) (fun c12 => absurd c12 (by decide))
    refine ab_new (fs := [vz 0, vz 0, vN, vz 0, vz 0, vN, vN, vN, vz 0, vz 0, vz 0, vz 0, vz 0, vz 0, vz 0]) k_PA rfl cl_RD_18 inst_PA ini_PA d_RD_enter_94 (by decide) (fun _ => rfl) (by omega) (by omega) ?_
    obtain ⟨G13, eG13⟩ : ∃ z : ab_G, z = G ++ [ab_ob 4 [vz 0, vz 0, vN, vz 0, vz 0, vN, vN, vN, vz 0, vz 0, vz 0, vz 0, vz 0, vz 0, vz 0]] := ⟨_, rfl⟩
    obtain ⟨o14, eo14⟩ : ∃ z : Nat → Nat, z = ol o G.length 90 := ⟨_, rfl⟩
    obtain ⟨a15, ea15⟩ : ∃ z : Nat, z = G.length := ⟨_, rfl⟩
    have hq16 := hr9.n0 (by first | decide | omega)
    have ne_a15_d_ : nq a15 d_ := by have hlt := hd_.lt; unfold nq; omega
    have ne_a15_x : nq a15 x := by have hlt := hx.lt; unfold nq; omega
    have ne_a15_na : nq a15 na := by have hlt := hna.lt; unfold nq; omega
    have ne_a15_nl : nq a15 nl := by have hlt := hnl.lt; unfold nq; omega
    have ne_a15_g9 : nq a15 g9 := by have hlt := hg9.lt; unfold nq; omega
    have ne_a15_r9 : nq a15 r9 := by have hlt := hr9.lt; unfold nq; omega
    have hd_ := hd_.akeep (k := 90) eG13
    rw [← eo14] at hd_
    have hx := hx.akeep (k := 90) eG13
    rw [← eo14] at hx
    have hna := hna.akeep (k := 90) eG13
    rw [← eo14] at hna
    have hnl := hnl.akeep (k := 90) eG13
    rw [← eo14] at hnl
    have hg9 := hg9.akeep (k := 90) eG13
    rw [← eo14] at hg9
    have hr9 := hr9.akeep (k := 90) eG13
    rw [← eo14] at hr9
    have hst := (fx.rf (o := o) (S := []) (G := G)).ap (k := 90) eG13
    rw [← eo14] at hst
    have hnpa15 := ppaI_0.new (a := a15) (by omega)
    have pszI_0 := szI.fr hst ppaI_0 pszI_0 (by decide) (by decide)
    have popI_0 := opI.fr hst ppaI_0 popI_0 (by decide) (by decide)
    have ppaI_0 := paI.fr hst ppaI_0 (by decide) (by decide) (by decide) (by simp)
    have ha15 := cc.anew (o := o) 90 eG13 hq16
    rw [← eo14, ← ea15] at ha15
    have hfr := hfr.ap (k := 90) eG13
    rw [← eo14] at hfr
    have hq17 := z_alen eG13
    have hq18 : ab_slots G13 = ab_slots G + 15 := z_asl eG13 hq16
    change ab_W _ _ _ (G ++ [ab_ob 4 [vz 0, vz 0, vN, vz 0, vz 0, vN, vN, vN, vz 0, vz 0, vz 0, vz 0, vz 0, vz 0, vz 0]]) 97 [some (vR d_), some (vz at_), some (vz 0), some (vz ins), some (vz 0), none] [.ref G.length] _
    rw [← eG13, ← ea15]
    change ab_W _ _ _ G13 97 [some (vR d_), some (vz at_), some (vz 0), some (vz ins), some (vz 0), none] [vR a15] _
    refine ab_dup d_RD_enter_97 rfl ?_
    refine zz_iconst d_RD_enter_98 ?_
    refine ab_iload_n d_RD_enter_99 rfl ?_
    refine zz_if_eq (tgt := 110) d_RD_enter_100 (by decide) (by decide) (fun c19 => ?_) (fun c19 => absurd c19 (by decide))
    refine zz_iconst d_RD_enter_110 ?_
    refine ab_iload_n d_RD_enter_111 rfl ?_
    refine zz_if_eq (tgt := 119) d_RD_enter_112 (by decide) (by decide) (fun c20 => ?_) (fun c20 => absurd c20 (by decide))
    refine zz_iconst d_RD_enter_119 ?_
    refine zz_iconst d_RD_enter_120 ?_
    refine ab_callI (d' := d - 1) (as := [vz 4, vz 0, vz 0, vz 0]) (st := [vR a15]) (z90_PA_init (o := o14) (a := a15) (k0 := 4) (v0 := 0) (s0 := 0) (m0 := 0) (ps := ps) (wt := wt) (bs := bs) (gr := grp) (Pr := pr0) (ph := ph) ha15 ppaI_0 (by omega) (by omega) (by omega) (by omega)) (fun oc G2 h => by rcases h with ⟨h, _⟩ <;> exact ⟨_, h⟩) (by omega) m_PA_init ml_RD_20 im_PA_init rfl (Nat.le_of_ble_eq_true rfl) d_RD_enter_121 rfl ?_
    intro v G21 hq
    rcases hq with ⟨hv, hfk, hlk, hsk, hNa15, pNpaI_0, hq22⟩
    cases hv
    have hd_ := hfk.get hd_ (by decide)
    have hx := hfk.get hx (by decide)
    have hna := hfk.get hna (by decide)
    have hnl := hfk.get hnl (by decide)
    have hKg9 := hq22.get hfk hg9 (Or.inl hpg9) (by simp only [List.mem_cons, List.not_mem_nil, or_false, not_or]; exact not_false)
    have hr9 := hfk.get hr9 (by decide)
    have hg9 := hKg9
    have pszI_0 := pszI_0.fzk (o2 := o14) hq22
    have popI_0 := popI_0.fz (o2 := o14) hq22 (by simp)
    have ppaI_0 := pNpaI_0
    have hfr := hfr.tr hfk (by decide)
    have hq23 := hlk
    have hq24 := hsk
    have ha15 := hNa15
    change ab_W _ _ _ G21 124 [some (vR d_), some (vz at_), some (vz 0), some (vz ins), some (vz 0), none] [vR a15] _
    refine ab_astore d_RD_enter_124 (Nat.le_of_ble_eq_true rfl) (Nat.le_of_ble_eq_true rfl) rfl ?_
    change ab_W _ _ _ G21 126 [some (vR d_), some (vz at_), some (vz 0), some (vz ins), some (vz 0), some (vR a15)] [] _
    refine ab_aload d_RD_enter_126 rfl ?_
    refine ab_iload_n d_RD_enter_128 rfl ?_
    refine ab_putf (fs := [vz 4, vz 0, vN, vz (-1), vz 0, vN, vN, vN, vz 0, vz 0, vz 0, vz 0, vz 0, vz 0, vz (-1)]) f_RD_68 (Or.inl rfl) d_RD_enter_129 ha15.2.2 (Nat.le_of_ble_eq_true rfl) (fun _ => ⟨rfl, rfl⟩) (ha15.2.1 (by decide)) ?_
    obtain ⟨G25, eG25⟩ : ∃ z : ab_G, z = List.set G21 a15 (ab_ob 4 [vz 4, vz 0, vN, vz at_, vz 0, vN, vN, vN, vz 0, vz 0, vz 0, vz 0, vz 0, vz 0, vz (-1)]) := ⟨_, rfl⟩
    have hd_ := hd_.keep ha15 eG25 (by decide)
    have hx := hx.keep ha15 eG25 (by decide)
    have hna := hna.keep ha15 eG25 (by decide)
    have hnl := hnl.keep ha15 eG25 (by decide)
    have hg9 := hg9.keep' eG25 ne_a15_g9
    have hr9 := hr9.keep ha15 eG25 (by decide)
    have hst := (fx.rf (o := o14) (S := [90]) (G := G21)).wr ha15 eG25 (List.mem_singleton.mpr rfl)
    have pszI_0 := pszI_0.wnp eG25 hnpa15
    have popI_0 := popI_0.wnp eG25 hnpa15
    have ppaI_0 := ppaI_0.wnp hnpa15 ha15 eG25 (by decide)
    have hq26 := z_len eG25
    have hq27 := z_sl ha15 eG25 rfl
    have hfr := hfr.wn (show G.length ≤ a15 by have := hfr.1; omega) eG25
    have ha15 := ha15.kept eG25
    change ab_W _ _ _ (List.set G21 a15 (ab_ob 4 [vz 4, vz 0, vN, vz at_, vz 0, vN, vN, vN, vz 0, vz 0, vz 0, vz 0, vz 0, vz 0, vz (-1)])) 132 [some (vR d_), some (vz at_), some (vz 0), some (vz ins), some (vz 0), some (vR a15)] [] _
    rw [← eG25]
    refine ab_aload d_RD_enter_132 rfl ?_
    refine ab_aload_n d_RD_enter_134 rfl ?_
    refine ab_getf (fs := [vR x, vR g9, vz dp, vz flg, vz grp, vR na, vR nl, vz lst, vz mst, vz bh]) f_RD_38 d_RD_enter_135 hd_.2.2 rfl ?_
    refine ab_putf (fs := [vz 4, vz 0, vN, vz at_, vz 0, vN, vN, vN, vz 0, vz 0, vz 0, vz 0, vz 0, vz 0, vz (-1)]) f_RD_169 (Or.inl rfl) d_RD_enter_138 ha15.2.2 (Nat.le_of_ble_eq_true rfl) (fun _ => ⟨rfl, rfl⟩) (ha15.2.1 (by decide)) ?_
    obtain ⟨G28, eG28⟩ : ∃ z : ab_G, z = List.set G25 a15 (ab_ob 4 [vz 4, vz 0, vN, vz at_, vz flg, vN, vN, vN, vz 0, vz 0, vz 0, vz 0, vz 0, vz 0, vz (-1)]) := ⟨_, rfl⟩
    have hd_ := hd_.keep ha15 eG28 (by decide)
    have hx := hx.keep ha15 eG28 (by decide)
    have hna := hna.keep ha15 eG28 (by decide)
    have hnl := hnl.keep ha15 eG28 (by decide)
    have hg9 := hg9.keep' eG28 ne_a15_g9
    have hr9 := hr9.keep ha15 eG28 (by decide)
    have hst := (fx.rf (o := o14) (S := [90]) (G := G25)).wr ha15 eG28 (List.mem_singleton.mpr rfl)
    have pszI_0 := pszI_0.wnp eG28 hnpa15
    have popI_0 := popI_0.wnp eG28 hnpa15
    have ppaI_0 := ppaI_0.wnp hnpa15 ha15 eG28 (by decide)
    have hq29 := z_len eG28
    have hq30 := z_sl ha15 eG28 rfl
    have hfr := hfr.wn (show G.length ≤ a15 by have := hfr.1; omega) eG28
    have ha15 := ha15.kept eG28
    change ab_W _ _ _ (List.set G25 a15 (ab_ob 4 [vz 4, vz 0, vN, vz at_, vz flg, vN, vN, vN, vz 0, vz 0, vz 0, vz 0, vz 0, vz 0, vz (-1)])) 141 [some (vR d_), some (vz at_), some (vz 0), some (vz ins), some (vz 0), some (vR a15)] [] _
    rw [← eG28]
    refine ab_aload d_RD_enter_141 rfl ?_
    refine ab_new (fs := [vz 0, vz 0, vN, vz 0, vz 0, vN, vN, vN, vz 0, vz 0, vz 0, vz 0, vz 0, vz 0, vz 0]) k_PA rfl cl_RD_18 inst_PA ini_PA d_RD_enter_143 (by decide) (fun _ => rfl) (by omega) (by omega) ?_
    obtain ⟨G31, eG31⟩ : ∃ z : ab_G, z = G28 ++ [ab_ob 4 [vz 0, vz 0, vN, vz 0, vz 0, vN, vN, vN, vz 0, vz 0, vz 0, vz 0, vz 0, vz 0, vz 0]] := ⟨_, rfl⟩
    obtain ⟨o32, eo32⟩ : ∃ z : Nat → Nat, z = ol o14 G28.length 94 := ⟨_, rfl⟩
    obtain ⟨a33, ea33⟩ : ∃ z : Nat, z = G28.length := ⟨_, rfl⟩
    have hq34 := ha15.n0 (by first | decide | omega)
    have ne_a33_d_ : nq a33 d_ := by have hlt := hd_.lt; unfold nq; omega
    have ne_a33_x : nq a33 x := by have hlt := hx.lt; unfold nq; omega
    have ne_a33_na : nq a33 na := by have hlt := hna.lt; unfold nq; omega
    have ne_a33_nl : nq a33 nl := by have hlt := hnl.lt; unfold nq; omega
    have ne_a33_g9 : nq a33 g9 := by have hlt := hg9.lt; unfold nq; omega
    have ne_a33_r9 : nq a33 r9 := by have hlt := hr9.lt; unfold nq; omega
    have ne_a33_a15 : nq a33 a15 := by have hlt := ha15.lt; unfold nq; omega
    have hd_ := hd_.akeep (k := 94) eG31
    rw [← eo32] at hd_
    have hx := hx.akeep (k := 94) eG31
    rw [← eo32] at hx
    have hna := hna.akeep (k := 94) eG31
    rw [← eo32] at hna
    have hnl := hnl.akeep (k := 94) eG31
    rw [← eo32] at hnl
    have hg9 := hg9.akeep (k := 94) eG31
    rw [← eo32] at hg9
    have hr9 := hr9.akeep (k := 94) eG31
    rw [← eo32] at hr9
    have ha15 := ha15.akeep (k := 94) eG31
    rw [← eo32] at ha15
    have hst := (fx.rf (o := o14) (S := []) (G := G28)).ap (k := 94) eG31
    rw [← eo32] at hst
    have hnpa33 := ppaI_0.new (a := a33) (by omega)
    have pszI_0 := szI.fr hst ppaI_0 pszI_0 (by decide) (by decide)
    have popI_0 := opI.fr hst ppaI_0 popI_0 (by decide) (by decide)
    have ppaI_0 := paI.fr hst ppaI_0 (by decide) (by decide) (by decide) (by simp)
    have ha33 := cc.anew (o := o14) 94 eG31 hq34
    rw [← eo32, ← ea33] at ha33
    have hfr := hfr.ap (k := 94) eG31
    rw [← eo32] at hfr
    have hq35 := z_alen eG31
    have hq36 : ab_slots G31 = ab_slots G28 + 15 := z_asl eG31 hq34
    change ab_W _ _ _ (G28 ++ [ab_ob 4 [vz 0, vz 0, vN, vz 0, vz 0, vN, vN, vN, vz 0, vz 0, vz 0, vz 0, vz 0, vz 0, vz 0]]) 146 [some (vR d_), some (vz at_), some (vz 0), some (vz ins), some (vz 0), some (vR a15)] [.ref G28.length, vR a15] _
    rw [← eG31, ← ea33]
    change ab_W _ _ _ G31 146 [some (vR d_), some (vz at_), some (vz 0), some (vz ins), some (vz 0), some (vR a15)] [vR a33, vR a15] _
    refine ab_dup d_RD_enter_146 rfl ?_
    refine zz_iconst d_RD_enter_147 ?_
    refine zz_iconst d_RD_enter_148 ?_
    refine zz_iconst d_RD_enter_149 ?_
    refine zz_iconst d_RD_enter_150 ?_
    refine ab_callI (d' := d - 1) (as := [vz 5, vz 0, vz 0, vz 1]) (st := [vR a33, vR a15]) (z94_PA_init (o := o32) (a := a33) (k0 := 5) (v0 := 0) (s0 := 0) (m0 := 1) (ps := ps) (wt := wt) (bs := bs) (gr := grp) (Pr := pr0) (ph := ph) ha33 ppaI_0 (by omega) (by omega) (by omega) (by omega)) (fun oc G2 h => by rcases h with ⟨h, _⟩ <;> exact ⟨_, h⟩) (by omega) m_PA_init ml_RD_20 im_PA_init rfl (Nat.le_of_ble_eq_true rfl) d_RD_enter_151 rfl ?_
    intro v G37 hq
    rcases hq with ⟨hv, hfk, hlk, hsk, hNa33, pNpaI_0, hq38⟩
    cases hv
    have hd_ := hfk.get hd_ (by decide)
    have hx := hfk.get hx (by decide)
    have hna := hfk.get hna (by decide)
    have hnl := hfk.get hnl (by decide)
    have hg9 := hfk.get hg9 (by decide)
    have hKr9 := hq38.get hfk hr9 (Or.inr hpr9) (by simp only [List.mem_cons, List.not_mem_nil, or_false, not_or]; exact not_false)
    have ha15 := hfk.get ha15 (by decide)
    have hr9 := hKr9
    have pszI_0 := pszI_0.fzk (o2 := o32) hq38
    have popI_0 := popI_0.fz (o2 := o32) hq38 (by simp)
    have ppaI_0 := pNpaI_0
    have hfr := hfr.tr hfk (by decide)
    have hq39 := hlk
    have hq40 := hsk
    have ha33 := hNa33
    change ab_W _ _ _ G37 154 [some (vR d_), some (vz at_), some (vz 0), some (vz ins), some (vz 0), some (vR a15)] [vR a33, vR a15] _
    have hnfg_ := ppaI_0.nref hnpa15
    have hnog_ := hnpa15
    have hnfr_ := ppaI_0.nref hnpa33
    have hnor_ := hnpa33
    have hsz9 := pszI_0
    have hlt41 := ha15.lt
    have hn41 : paN grp pr0 4 0 (-1) := ⟨by omega, by intro _; omega, by intro _; omega, by intro _; omega, pr0_⟩
    obtain ⟨ps41, wt41, hx41, hxo41, hpa41, ppaI_0⟩ : ∃ pz wz : Nat → Nat, psx ps pz a15 ∧ (∀ x, ¬ x = a15 → pz x = ps x) ∧ pz a15 = 90 ∧ paI o32 G37 0 pz wz bs grp pr0 (ph + 0) := ⟨_, _, psx.ol (Nat.le_refl _), fun x hx => if_neg hx, ol_self, ppaI_0.ad90 0 hnpa15 (by omega) ha15 hn41 (by unfold pnB; omega) (Or.inl ⟨by omega, rfl⟩) (Or.inl rfl) (Or.inl rfl) (Or.inl rfl)⟩
    have hnpa33 : ¬ ps41 a33 = 90 ∧ ¬ ps41 a33 = 94 := by rw [hxo41 a33 (by omega)]; exact hnpa33
    have hp42 : ps41 g9 = 90 := hx41.at (by have hlt := hg9.lt; omega) hpg9
    have hp43 : ps41 r9 = 94 := hx41.at (by have hlt := hr9.lt; omega) hpr9
    have hl44 := ho10.ps (by have hlt := hg9.lt; omega) hx41
    have hl45 := hl10.ps (by omega) hx41
    have hl46 := hf10.ps (by have hlt := hg9.lt; omega) hx41
    have hl47 := hl11.ps (by omega) hx41
    have hl48 := hf11.ps (by have hlt := hr9.lt; omega) hx41
    have hl49 := hlv9.ps (by omega) hx41
    have popI_0 : opI o32 G37 0 ps41 k hi (vR g9) := opn_ps _ _ _ popI_0 (psx.lt hx41 (by omega))
    have hlt50 := ha33.lt
    obtain ⟨ps50, hx50, hxo50, hpa50, ppaI_0⟩ : ∃ pz : Nat → Nat, psx ps41 pz a33 ∧ (∀ x, ¬ x = a33 → pz x = ps41 x) ∧ pz a33 = 94 ∧ paI o32 G37 0 pz wt41 bs grp pr0 (ph + 0) := ⟨_, psx.ol (Nat.le_refl _), fun x hx => if_neg hx, ol_self, ppaI_0.ad94 hnpa33 ha33 (by omega) (Or.inl rfl) (Or.inl rfl)⟩
    have hp51 : ps50 g9 = 90 := hx50.at (by have hlt := hg9.lt; omega) hp42
    have hp52 : ps50 r9 = 94 := hx50.at (by have hlt := hr9.lt; omega) hp43
    have hl53 := hl44.ps (by have hlt := hg9.lt; omega) hx50
    have hl54 := hl45.ps (by omega) hx50
    have hl55 := hl46.ps (by have hlt := hg9.lt; omega) hx50
    have hl56 := hl47.ps (by omega) hx50
    have hl57 := hl48.ps (by have hlt := hr9.lt; omega) hx50
    have hl58 := hl49.ps (by omega) hx50
    have hp59 : ps50 a15 = 90 := hx50.at (by have hlt := ha15.lt; omega) hpa41
    have popI_0 : opI o32 G37 0 ps50 k hi (vR g9) := opn_ps _ _ _ popI_0 (psx.lt hx50 (by omega))
    have hfz : fz ps50 [a15, a33] G37 G37 := fz.rf
    refine ab_callV (d' := d - 1) (as := [vR a33]) (st := []) (r := _) (z90_PA_push (o := o32) (k := 4) (v := 0) (rg := vN) (pl := at_) (fl := flg) (ou := vN) (ls := vN) (bf := vN) (sz := 0) (mb := 0) (oe := 0) (le := 0) (mo := 0) (la := 0) (rc := (-1)) (lr := vN) (br := vN) (sr := 0) (mr := 1) (ps := ps50) (wt := wt41) (bs := bs) (gr := grp) (Pr := pr0) (ph := (ph + 0)) (r := a33) (p := a15) ha15 ha33 ppaI_0 (by omega) hp59 hpa50 hn41 (by omega) (by omega) (Or.inl rfl) (Or.inl rfl) (Or.inl rfl) (Or.inl rfl) (Or.inl rfl) (Or.inl rfl) (by omega)) (fun oc G2 h => by rcases h with ⟨h, _⟩ <;> exact ⟨_, h⟩) (by omega) m_PA_push ml_RD_48 im_PA_push se_PA_push c_PA ha15.2.2 (Nat.le_of_ble_eq_true rfl) d_RD_enter_154 rfl ?_
    intro v G60 hq
    rcases hq with ⟨hv, hfk, hlk, hsk, hNa15, hNa33, pNpaI_0, hq61⟩
    cases hv
    have hd_ := hfk.get hd_ (by decide)
    have hx := hfk.get hx (by decide)
    have hna := hfk.get hna (by decide)
    have hnl := hfk.get hnl (by decide)
    have hKg9 := hq61.get hfk hg9 (Or.inl hp51) (by simp only [List.mem_cons, List.not_mem_nil, or_false, not_or]; exact ⟨(nq.s ne_a15_g9), (hg9.ne ha33 (by decide))⟩)
    have hKr9 := hq61.get hfk hr9 (Or.inr hp52) (by simp only [List.mem_cons, List.not_mem_nil, or_false, not_or]; exact ⟨(hr9.ne ha15 (by decide)), (nq.s ne_a33_r9)⟩)
    have hg9 := hKg9
    have hr9 := hKr9
    have hfz := hfz.tr hq61 (by simp)
    have popI_0 := popI_0.fz (o2 := o32) hq61 (by intro y hy; simp only [List.mem_cons, List.not_mem_nil, or_false] at hy; omega)
    have ppaI_0 := pNpaI_0
    have hfr := hfr.tr hfk (by decide)
    have hq62 := hlk
    have hq63 := hsk
    have ha15 := hNa15
    have ha33 := hNa33
    change ab_W _ _ _ G60 157 [some (vR d_), some (vz at_), some (vz 0), some (vz ins), some (vz 0), some (vR a15)] [] _
    refine ab_aload d_RD_enter_157 rfl ?_
    refine ab_aload_n d_RD_enter_159 rfl ?_
    refine ab_getf (fs := [vR x, vR g9, vz dp, vz flg, vz grp, vR na, vR nl, vz lst, vz mst, vz bh]) f_RD_23 d_RD_enter_160 hd_.2.2 rfl ?_
    refine ab_putf (fs := [vz 4, vz 0, vN, vz at_, vz flg, vN, vR a33, vN, vz 0, vz 0, vz 0, vz 0, vz 0, vz 0, vz (-1)]) f_RD_172 (Or.inl rfl) d_RD_enter_163 ha15.2.2 (Nat.le_of_ble_eq_true rfl) (fun _ => ⟨rfl, rfl⟩) (ha15.2.1 (by decide)) ?_
    obtain ⟨G64, eG64⟩ : ∃ z : ab_G, z = List.set G60 a15 (ab_ob 4 [vz 4, vz 0, vN, vz at_, vz flg, vR g9, vR a33, vN, vz 0, vz 0, vz 0, vz 0, vz 0, vz 0, vz (-1)]) := ⟨_, rfl⟩
    have hd_ := hd_.keep ha15 eG64 (by decide)
    have hx := hx.keep ha15 eG64 (by decide)
    have hna := hna.keep ha15 eG64 (by decide)
    have hnl := hnl.keep ha15 eG64 (by decide)
    have hg9 := hg9.keep' eG64 ne_a15_g9
    have hr9 := hr9.keep ha15 eG64 (by decide)
    have ha33 := ha33.keep ha15 eG64 (by decide)
    have hfz := hfz.wr eG64 (by simp)
    have hst := (fx.rf (o := o32) (S := [90]) (G := G60)).wr ha15 eG64 (List.mem_singleton.mpr rfl)
    have popI_0 := popI_0.wge eG64 (by omega)
    have ppaI_0 := ppaI_0.w90 hp59 ha15 hn41 eG64 (by unfold pnB; omega) (Or.inr ⟨_, rfl, hp51, by have hlt := hg9.lt; omega⟩) (Or.inr ⟨_, rfl, hpa50, by have hlt := ha33.lt; omega⟩) (Or.inl rfl)
    have hq65 := z_len eG64
    have hq66 := z_sl ha15 eG64 rfl
    have hfr := hfr.wn (show G.length ≤ a15 by have := hfr.1; omega) eG64
    have ha15 := ha15.kept eG64
    change ab_W _ _ _ (List.set G60 a15 (ab_ob 4 [vz 4, vz 0, vN, vz at_, vz flg, vR g9, vR a33, vN, vz 0, vz 0, vz 0, vz 0, vz 0, vz 0, vz (-1)])) 166 [some (vR d_), some (vz at_), some (vz 0), some (vz ins), some (vz 0), some (vR a15)] [] _
    rw [← eG64]
    refine ab_aload_n d_RD_enter_166 rfl ?_
    refine ab_aload d_RD_enter_167 rfl ?_
    refine ab_putf (fs := [vR x, vR g9, vz dp, vz flg, vz grp, vR na, vR nl, vz lst, vz mst, vz bh]) f_RD_23 (Or.inl rfl) d_RD_enter_169 hd_.2.2 (Nat.le_of_ble_eq_true rfl) (fun _ => ⟨rfl, rfl⟩) (hd_.2.1 (by decide)) ?_
    obtain ⟨G67, eG67⟩ : ∃ z : ab_G, z = List.set G64 d_ (ab_ob 6 [vR x, vR a15, vz dp, vz flg, vz grp, vR na, vR nl, vz lst, vz mst, vz bh]) := ⟨_, rfl⟩
    have hx := hx.keep hd_ eG67 (by decide)
    have hna := hna.keep hd_ eG67 (by decide)
    have hnl := hnl.keep hd_ eG67 (by decide)
    have hg9 := hg9.keep hd_ eG67 (by decide)
    have hr9 := hr9.keep hd_ eG67 (by decide)
    have ha15 := ha15.keep hd_ eG67 (by decide)
    have ha33 := ha33.keep hd_ eG67 (by decide)
    have hfz := hfz.wl ppaI_0 hd_ eG67 (by decide)
    have hst := (fx.rf (o := o32) (S := [25]) (G := G64)).wr hd_ eG67 (List.mem_singleton.mpr rfl)
    have popI_0 := opI.fr hst ppaI_0 popI_0 (by decide) (by decide)
    have ppaI_0 := paI.fr hst ppaI_0 (by decide) (by decide) (by decide) (by decide)
    have hq68 := z_len eG67
    have hq69 := z_sl hd_ eG67 rfl
    have hfr := hfr.wr hd_ eG67 (by decide)
    have hd_ := hd_.kept eG67
    change ab_W _ _ _ (List.set G64 d_ (ab_ob 6 [vR x, vR a15, vz dp, vz flg, vz grp, vR na, vR nl, vz lst, vz mst, vz bh])) 172 [some (vR d_), some (vz at_), some (vz 0), some (vz ins), some (vz 0), some (vR a15)] [] _
    rw [← eG67]
    refine ab_aload_n d_RD_enter_172 rfl ?_
    refine ab_dup d_RD_enter_173 rfl ?_
    refine ab_getf (fs := [vR x, vR a15, vz dp, vz flg, vz grp, vR na, vR nl, vz lst, vz mst, vz bh]) f_RD_45 d_RD_enter_174 hd_.2.2 rfl ?_
    refine zz_iconst d_RD_enter_177 ?_
    refine zz_iadd d_RD_enter_178 ?_
    refine ab_putf (fs := [vR x, vR a15, vz dp, vz flg, vz grp, vR na, vR nl, vz lst, vz mst, vz bh]) f_RD_45 (Or.inl rfl) d_RD_enter_179 hd_.2.2 (Nat.le_of_ble_eq_true rfl) (fun _ => ⟨rfl, rfl⟩) (hd_.2.1 (by decide)) ?_
    obtain ⟨G70, eG70⟩ : ∃ z : ab_G, z = List.set G67 d_ (ab_ob 6 [vR x, vR a15, vz (dp + 1), vz flg, vz grp, vR na, vR nl, vz lst, vz mst, vz bh]) := ⟨_, rfl⟩
    have hx := hx.keep hd_ eG70 (by decide)
    have hna := hna.keep hd_ eG70 (by decide)
    have hnl := hnl.keep hd_ eG70 (by decide)
    have hg9 := hg9.keep hd_ eG70 (by decide)
    have hr9 := hr9.keep hd_ eG70 (by decide)
    have ha15 := ha15.keep hd_ eG70 (by decide)
    have ha33 := ha33.keep hd_ eG70 (by decide)
    have hfz := hfz.wl ppaI_0 hd_ eG70 (by decide)
    have hst := (fx.rf (o := o32) (S := [25]) (G := G67)).wr hd_ eG70 (List.mem_singleton.mpr rfl)
    have popI_0 := opI.fr hst ppaI_0 popI_0 (by decide) (by decide)
    have ppaI_0 := paI.fr hst ppaI_0 (by decide) (by decide) (by decide) (by decide)
    have hq71 := z_len eG70
    have hq72 := z_sl hd_ eG70 rfl
    have hfr := hfr.wr hd_ eG70 (by decide)
    have hd_ := hd_.kept eG70
    change ab_W _ _ _ (List.set G67 d_ (ab_ob 6 [vR x, vR a15, vz (dp + 1), vz flg, vz grp, vR na, vR nl, vz lst, vz mst, vz bh])) 182 [some (vR d_), some (vz at_), some (vz 0), some (vz ins), some (vz 0), some (vR a15)] [] _
    rw [← eG70]
    refine ab_aload_n d_RD_enter_182 rfl ?_
    refine ab_iload_n d_RD_enter_183 rfl ?_
    refine ab_putf (fs := [vR x, vR a15, vz (dp + 1), vz flg, vz grp, vR na, vR nl, vz lst, vz mst, vz bh]) f_RD_38 (Or.inl rfl) d_RD_enter_184 hd_.2.2 (Nat.le_of_ble_eq_true rfl) (fun _ => ⟨rfl, rfl⟩) (hd_.2.1 (by decide)) ?_
    obtain ⟨G73, eG73⟩ : ∃ z : ab_G, z = List.set G70 d_ (ab_ob 6 [vR x, vR a15, vz (dp + 1), vz ins, vz grp, vR na, vR nl, vz lst, vz mst, vz bh]) := ⟨_, rfl⟩
    have hx := hx.keep hd_ eG73 (by decide)
    have hna := hna.keep hd_ eG73 (by decide)
    have hnl := hnl.keep hd_ eG73 (by decide)
    have hg9 := hg9.keep hd_ eG73 (by decide)
    have hr9 := hr9.keep hd_ eG73 (by decide)
    have ha15 := ha15.keep hd_ eG73 (by decide)
    have ha33 := ha33.keep hd_ eG73 (by decide)
    have hfz := hfz.wl ppaI_0 hd_ eG73 (by decide)
    have hst := (fx.rf (o := o32) (S := [25]) (G := G70)).wr hd_ eG73 (List.mem_singleton.mpr rfl)
    have popI_0 := opI.fr hst ppaI_0 popI_0 (by decide) (by decide)
    have ppaI_0 := paI.fr hst ppaI_0 (by decide) (by decide) (by decide) (by decide)
    have hq74 := z_len eG73
    have hq75 := z_sl hd_ eG73 rfl
    have hfr := hfr.wr hd_ eG73 (by decide)
    have hd_ := hd_.kept eG73
    change ab_W _ _ _ (List.set G70 d_ (ab_ob 6 [vR x, vR a15, vz (dp + 1), vz ins, vz grp, vR na, vR nl, vz lst, vz mst, vz bh])) 187 [some (vR d_), some (vz at_), some (vz 0), some (vz ins), some (vz 0), some (vR a15)] [] _
    rw [← eG73]
    have popI_0 : opI o32 G73 0 ps50 (k + 1) G73.length (vR a15) := ⟨a15, a33, (vR g9), (vN), rfl, ⟨hp59, hpa50⟩, ⟨by omega, by omega⟩, by unfold pf; rw [ha15.2.2]; rfl, by unfold pf; rw [ha15.2.2]; rfl, by unfold pf; rw [ha33.2.2]; rfl, (Or.inl rfl), (opn_up popI_0 (by omega))⟩
    have pszI_0 : szI o32 G73 0 ps50 (k + 1) G73.length (vR a15) wh 0 := szI.entC hsz9 hnfg_ hnfr_ hnog_ hnor_ (fun x h1 h2 => (hxo50 x h2).trans (hxo41 x h1)) hp59 hpa50 hfz ha15 ha33 (by omega) (by first | rfl | (unfold pin; rw [if_pos rfl, if_neg (by omega)])) (by omega) (by omega) (fun t => absurd t (by omega))
    refine ab_vret rfl d_RD_enter_187 ?_
    rw [hQ]; exact ⟨_, _, _, _, _, _, _, _, _, _, _, _, _, _, rfl, hfr, hd_, hx, hna, hnl, ppaI_0, popI_0, pszI_0, (by omega), (by omega), (by omega), (by exact hnm), (by omega), (by exact (hx41.tr hx50 (by omega)).lt (by omega)), (by omega), (by omega), (by omega), (by omega)⟩
set_option maxRecDepth 100000 in
set_option maxHeartbeats 4000000 in
theorem z_RD_close {X : ab_X} {d : Nat} {o : Nat → Nat} {G : ab_G} {d_ : Nat} {inn : Value} {dp : Int} {flg : Int} {grp : Int} {na : Nat} {nl : Nat} {lst : Int} {mst : Int} {bh : Int} {x : Nat} {se : Nat} {by_ : Nat} {n : Int} {pl : Int} {fa : Int} {fp : Int} {kd : Nat} {kn : Int} {ps : Nat → Nat} {wt : Nat → Nat} {bs : Nat} {ph : Int} {k : Nat} {hi : Nat} {wh : Nat} (hd_ : cc o G d_ 25 (ab_ob 6 [vR x, inn, vz dp, vz flg, vz grp, vR na, vR nl, vz lst, vz mst, vz bh])) (hx : cc o G x 24 (ab_ob 10 [vR se, vR by_, vz n, vz pl, vz fa, vz fp, vR kd, vz kn])) (ppaI_0 : paI o G 0 ps wt bs grp pr0 ph) (popI_0 : opI o G 0 ps k hi inn) (pszI_0 : szI o G 0 ps k hi inn wh 0) (n18 : ab_n0 = 18) (cf : 0 ≤ flg ∧ flg ≤ 31) (cg : 0 ≤ grp ∧ grp ≤ 9) (ck : 0 ≤ dp ∧ dp ≤ 30 ∧ ↑k = dp + 1 ∧ hi ≤ G.length) (cfa : fa = 0) (cp : 0 ≤ pl ∧ pl ≤ 2000) (hd : 3 ≤ d) : ab_F X d y_RD_close (.code y_RD_close b_RD_close 2 (some (.object "PatternWorks$Part"))) [vR d_] G (fun oc G2 => (∃ inn2 : Value, ∃ dp2 : Int, ∃ flg2 : Int, ∃ p2 : Int, ∃ fa2 : Int, ∃ fp2 : Int, ∃ k2 : Nat, ∃ hi2 : Nat, oc = .returned (some (vN)) ∧ fx o o [24, 25, 90] G G2 ∧ G2.length = G.length ∧ ab_slots G2 = ab_slots G ∧ cc o G2 d_ 25 (ab_ob 6 [vR x, inn2, vz dp2, vz flg2, vz grp, vR na, vR nl, vz lst, vz mst, vz bh]) ∧ cc o G2 x 24 (ab_ob 10 [vR se, vR by_, vz n, vz p2, vz fa2, vz fp2, vR kd, vz kn]) ∧ paI o G2 0 ps wt bs grp pr0 ph ∧ opI o G2 0 ps k2 hi2 inn2 ∧ szI o G2 0 ps k2 hi2 inn2 wh 0 ∧ (0 ≤ flg2 ∧ flg2 ≤ 31) ∧ (0 ≤ dp2 ∧ dp2 ≤ 30 ∧ ↑k2 = dp2 + 1) ∧ (0 ≤ fa2 ∧ fa2 ≤ 14) ∧ (pl ≤ p2 ∧ p2 ≤ pl + 1) ∧ (hi2 ≤ G2.length)) ∨ (∃ p : Nat, ∃ inn2 : Value, ∃ dp2 : Int, ∃ flg2 : Int, ∃ p2 : Int, ∃ fa2 : Int, ∃ fp2 : Int, ∃ k2 : Nat, oc = .returned (some (vR p)) ∧ fx o o [24, 25, 90] G G2 ∧ G2.length = G.length ∧ ab_slots G2 = ab_slots G ∧ cc o G2 d_ 25 (ab_ob 6 [vR x, inn2, vz dp2, vz flg2, vz grp, vR na, vR nl, vz lst, vz mst, vz bh]) ∧ cc o G2 x 24 (ab_ob 10 [vR se, vR by_, vz n, vz p2, vz fa2, vz fp2, vR kd, vz kn]) ∧ paI o G2 0 ps wt bs grp pr0 ph ∧ opI o G2 0 ps k2 p inn2 ∧ szI o G2 0 ps k2 p inn2 wh p ∧ (0 ≤ flg2 ∧ flg2 ≤ 31) ∧ (0 ≤ dp2 ∧ dp2 ≤ 30 ∧ ↑k2 = dp2 + 1) ∧ (0 ≤ fa2 ∧ fa2 ≤ 14) ∧ (pl ≤ p2 ∧ p2 ≤ pl + 1) ∧ (ps p = 90) ∧ (p < G2.length))) := by
  refine ab_F_of (by decide +kernel) (Nat.le_of_ble_eq_true rfl) ?_
  obtain ⟨Q, hQ⟩ : ∃ z : Outcome → ab_G → Prop, z = (fun oc G2 => (∃ inn2 : Value, ∃ dp2 : Int, ∃ flg2 : Int, ∃ p2 : Int, ∃ fa2 : Int, ∃ fp2 : Int, ∃ k2 : Nat, ∃ hi2 : Nat, oc = .returned (some (vN)) ∧ fx o o [24, 25, 90] G G2 ∧ G2.length = G.length ∧ ab_slots G2 = ab_slots G ∧ cc o G2 d_ 25 (ab_ob 6 [vR x, inn2, vz dp2, vz flg2, vz grp, vR na, vR nl, vz lst, vz mst, vz bh]) ∧ cc o G2 x 24 (ab_ob 10 [vR se, vR by_, vz n, vz p2, vz fa2, vz fp2, vR kd, vz kn]) ∧ paI o G2 0 ps wt bs grp pr0 ph ∧ opI o G2 0 ps k2 hi2 inn2 ∧ szI o G2 0 ps k2 hi2 inn2 wh 0 ∧ (0 ≤ flg2 ∧ flg2 ≤ 31) ∧ (0 ≤ dp2 ∧ dp2 ≤ 30 ∧ ↑k2 = dp2 + 1) ∧ (0 ≤ fa2 ∧ fa2 ≤ 14) ∧ (pl ≤ p2 ∧ p2 ≤ pl + 1) ∧ (hi2 ≤ G2.length)) ∨ (∃ p : Nat, ∃ inn2 : Value, ∃ dp2 : Int, ∃ flg2 : Int, ∃ p2 : Int, ∃ fa2 : Int, ∃ fp2 : Int, ∃ k2 : Nat, oc = .returned (some (vR p)) ∧ fx o o [24, 25, 90] G G2 ∧ G2.length = G.length ∧ ab_slots G2 = ab_slots G ∧ cc o G2 d_ 25 (ab_ob 6 [vR x, inn2, vz dp2, vz flg2, vz grp, vR na, vR nl, vz lst, vz mst, vz bh]) ∧ cc o G2 x 24 (ab_ob 10 [vR se, vR by_, vz n, vz p2, vz fa2, vz fp2, vR kd, vz kn]) ∧ paI o G2 0 ps wt bs grp pr0 ph ∧ opI o G2 0 ps k2 p inn2 ∧ szI o G2 0 ps k2 p inn2 wh p ∧ (0 ≤ flg2 ∧ flg2 ≤ 31) ∧ (0 ≤ dp2 ∧ dp2 ≤ 30 ∧ ↑k2 = dp2 + 1) ∧ (0 ≤ fa2 ∧ fa2 ≤ 14) ∧ (pl ≤ p2 ∧ p2 ≤ pl + 1) ∧ (ps p = 90) ∧ (p < G2.length))) := ⟨_, rfl⟩
  rw [← hQ]
  change ab_W X (ab_pl y_RD_close b_RD_close 2 (some (.object "PatternWorks$Part"))) d G 0 [some (vR d_), none] [] Q
  have hfr : fx o o [24, 25, 90] G G := fx.rf
  have hlen : G.length = G.length := rfl
  have hsl : ab_slots G = ab_slots G := rfl
  obtain ⟨j1, hj1⟩ : ∃ j, k = j + 1 := ⟨k - 1, by omega⟩
  rw [hj1] at popI_0
  obtain ⟨g1, r1, w1, lv1, hv1, ⟨hpg1, hpr1⟩, ⟨hgl1, hrl1⟩, hf61, hf51, hr61, hlv1, hop1⟩ := popI_0
  subst hv1
  obtain ⟨k_2, v_2, rg_2, pl_2, fl_2, ou_2, ls_2, bf_2, sz_2, mb_2, oe_2, le_2, mo_2, la_2, rc_2, hg1, hn2, hb2, hg2, ho2, hl2, hf2⟩ := ppaI_0.1 g1 hpg1
  have hB2 := hb2
  unfold pnB at hB2
  have hK2 := hn2.1
  obtain ⟨ls3, bf3, sz3, mb3, hr1, hB3, hl3, hf3⟩ := ppaI_0.2.1 r1 hpr1
  have e61 : some ls_2 = some (vR r1) := by have t := hf61; unfold pf at t; rw [hg1.2.2] at t; exact t
  have e61 := Option.some.inj e61
  subst e61
  have e51 : some ou_2 = some w1 := by have t := hf51; unfold pf at t; rw [hg1.2.2] at t; exact t
  have e51 := Option.some.inj e51
  subst e51
  have e71 : some ls3 = some lv1 := by have t := hr61; unfold pf at t; rw [hr1.2.2] at t; exact t
  have e71 := Option.some.inj e71
  subst e71
  have popI_0 : opI o G 0 ps j1 g1 ou_2 := hop1
  have hnq1 : nq g1 r1 := hg1.ne hr1 (by decide)
  change ab_W _ _ _ G 0 [some (vR d_), none] [] _
  refine ab_aload_n d_RD_close_0 rfl ?_
  refine ab_getf (fs := [vR x, vR g1, vz dp, vz flg, vz grp, vR na, vR nl, vz lst, vz mst, vz bh]) f_RD_23 d_RD_close_1 hd_.2.2 rfl ?_
  refine ab_getf (fs := [vz k_2, vz v_2, rg_2, vz pl_2, vz fl_2, ou_2, vR r1, bf_2, vz sz_2, vz mb_2, vz oe_2, vz le_2, vz mo_2, vz la_2, vz rc_2]) f_RD_172 d_RD_close_4 hg1.2.2 rfl ?_
  change ab_W _ _ _ G 7 [some (vR d_), none] [ou_2] _
  rcases ho2 with hz5 | ⟨b4, hz5, hp6, hl7⟩
  · subst hz5
    change ab_W _ _ _ G 7 [some (vR d_), none] [vN] _
    refine ab_ifnonnullN d_RD_close_7 ?_
    have popI_0 : opI o G 0 ps (j1 + 1) hi (vR g1) := ⟨g1, r1, (vN), ls3, rfl, ⟨hpg1, hpr1⟩, ⟨by omega, by omega⟩, by unfold pf; rw [hg1.2.2]; rfl, by unfold pf; rw [hg1.2.2]; rfl, by unfold pf; rw [hr1.2.2]; rfl, (hlv1.up (by omega)), popI_0⟩
    rw [← hj1] at popI_0
    refine ab_aload_n d_RD_close_10 rfl ?_
    refine ab_getf (fs := [vR x, vR g1, vz dp, vz flg, vz grp, vR na, vR nl, vz lst, vz mst, vz bh]) f_RD_12 d_RD_close_11 hd_.2.2 rfl ?_
    refine zz_iconst d_RD_close_14 ?_
    refine ab_aload_n d_RD_close_15 rfl ?_
    refine ab_getf (fs := [vR x, vR g1, vz dp, vz flg, vz grp, vR na, vR nl, vz lst, vz mst, vz bh]) f_RD_12 d_RD_close_16 hd_.2.2 rfl ?_
    refine ab_getf (fs := [vR se, vR by_, vz n, vz pl, vz fa, vz fp, vR kd, vz kn]) f_RD_55 d_RD_close_19 hx.2.2 rfl ?_
    refine ab_callV (d' := d - 1) (as := [vz 3, vz pl]) (st := []) (r := _) (z_TX_fail (o := o) (x := x) (lx := 24) (se := se) (by_ := by_) (n := n) (pl := pl) (fa := fa) (fp := fp) (kd := kd) (kn := kn) (w := 3) (p := pl) hx (by omega) (by omega) (by omega)) (fun oc G2 h => by rcases h with ⟨h, _⟩ | ⟨h, _⟩ <;> exact ⟨_, h⟩) (by omega) m_TX_fail ml_RD_69 im_TX_fail se_TX_fail c_TX hx.2.2 (Nat.le_of_ble_eq_true rfl) d_RD_close_22 rfl ?_
    intro v G8 hq
    rcases hq with ⟨hv, hfk, hlk, hsk, hNx, hq9⟩ | ⟨hv, hGe, hq10⟩
    · cases hv
      have hd_ := hfk.get hd_ (by decide)
      have hg1 := hfk.get hg1 (by decide)
      have hr1 := hfk.get hr1 (by decide)
      have pszI_0 := szI.fr hfk ppaI_0 pszI_0 (by decide) (by decide)
      have popI_0 := opI.fr hfk ppaI_0 popI_0 (by decide) (by decide)
      have ppaI_0 := paI.fr hfk ppaI_0 (by decide) (by decide) (by decide) (by decide)
      have hfr := hfr.tr hfk (by decide)
      have hlen := hlk.trans hlen
      have hsl := hsk.trans hsl
      have hx := hNx
      change ab_W _ _ _ G8 25 [some (vR d_), none] [vz (-1)] _
      refine ab_pop d_RD_close_25 rfl ?_
      refine ab_null d_RD_close_26 ?_
      refine ab_aret (rt := _) rfl (Or.inl ⟨_, rfl⟩) (Or.inl rfl) d_RD_close_27 ?_
      rw [hQ]; exact (Or.inl ⟨_, _, _, _, _, _, _, _, rfl, hfr, hlen, hsl, hd_, hx, ppaI_0, popI_0, pszI_0, (by omega), (by omega), (by omega), (by omega), (by omega)⟩)
    · cases hv
      rw [hGe]
      change ab_W _ _ _ G 25 [some (vR d_), none] [vz (-1)] _
      exfalso; omega
  · subst hz5
    change ab_W _ _ _ G 7 [some (vR d_), none] [vR b4] _
    refine ab_ifnonnull (tgt := 28) d_RD_close_7 (by decide) ?_
    have hkp := opn_pos popI_0
    refine ab_aload_n d_RD_close_28 rfl ?_
    refine ab_getf (fs := [vR x, vR g1, vz dp, vz flg, vz grp, vR na, vR nl, vz lst, vz mst, vz bh]) f_RD_23 d_RD_close_29 hd_.2.2 rfl ?_
    refine ab_astore_n d_RD_close_32 (Nat.le_of_ble_eq_true rfl) (Nat.le_of_ble_eq_true rfl) rfl ?_
    change ab_W _ _ _ G 33 [some (vR d_), some (vR g1)] [] _
    refine ab_aload_n d_RD_close_33 rfl ?_
    refine ab_aload_n d_RD_close_34 rfl ?_
    refine ab_getf (fs := [vz k_2, vz v_2, rg_2, vz pl_2, vz fl_2, vR b4, vR r1, bf_2, vz sz_2, vz mb_2, vz oe_2, vz le_2, vz mo_2, vz la_2, vz rc_2]) f_RD_172 d_RD_close_35 hg1.2.2 rfl ?_
    refine ab_putf (fs := [vR x, vR g1, vz dp, vz flg, vz grp, vR na, vR nl, vz lst, vz mst, vz bh]) f_RD_23 (Or.inl rfl) d_RD_close_38 hd_.2.2 (Nat.le_of_ble_eq_true rfl) (fun _ => ⟨rfl, rfl⟩) (hd_.2.1 (by decide)) ?_
    obtain ⟨G11, eG11⟩ : ∃ z : ab_G, z = List.set G d_ (ab_ob 6 [vR x, vR b4, vz dp, vz flg, vz grp, vR na, vR nl, vz lst, vz mst, vz bh]) := ⟨_, rfl⟩
    have hx := hx.keep hd_ eG11 (by decide)
    have hg1 := hg1.keep hd_ eG11 (by decide)
    have hr1 := hr1.keep hd_ eG11 (by decide)
    have hst := (fx.rf (o := o) (S := [25]) (G := G)).wr hd_ eG11 (List.mem_singleton.mpr rfl)
    have pszI_0 := szI.fr hst ppaI_0 pszI_0 (by decide) (by decide)
    have popI_0 := opI.fr hst ppaI_0 popI_0 (by decide) (by decide)
    have ppaI_0 := paI.fr hst ppaI_0 (by decide) (by decide) (by decide) (by decide)
    have hlen := (z_len eG11).trans hlen
    have hsl := (z_sl hd_ eG11 rfl).trans hsl
    have hfr := hfr.wr hd_ eG11 (by decide)
    have hd_ := hd_.kept eG11
    change ab_W _ _ _ (List.set G d_ (ab_ob 6 [vR x, vR b4, vz dp, vz flg, vz grp, vR na, vR nl, vz lst, vz mst, vz bh])) 41 [some (vR d_), some (vR g1)] [] _
    rw [← eG11]
    refine ab_aload_n d_RD_close_41 rfl ?_
    refine ab_dup d_RD_close_42 rfl ?_
    refine ab_getf (fs := [vR x, vR b4, vz dp, vz flg, vz grp, vR na, vR nl, vz lst, vz mst, vz bh]) f_RD_45 d_RD_close_43 hd_.2.2 rfl ?_
    refine zz_iconst d_RD_close_46 ?_
    refine zz_isub d_RD_close_47 ?_
    refine ab_putf (fs := [vR x, vR b4, vz dp, vz flg, vz grp, vR na, vR nl, vz lst, vz mst, vz bh]) f_RD_45 (Or.inl rfl) d_RD_close_48 hd_.2.2 (Nat.le_of_ble_eq_true rfl) (fun _ => ⟨rfl, rfl⟩) (hd_.2.1 (by decide)) ?_
    obtain ⟨G12, eG12⟩ : ∃ z : ab_G, z = List.set G11 d_ (ab_ob 6 [vR x, vR b4, vz (dp - 1), vz flg, vz grp, vR na, vR nl, vz lst, vz mst, vz bh]) := ⟨_, rfl⟩
    have hx := hx.keep hd_ eG12 (by decide)
    have hg1 := hg1.keep hd_ eG12 (by decide)
    have hr1 := hr1.keep hd_ eG12 (by decide)
    have hst := (fx.rf (o := o) (S := [25]) (G := G11)).wr hd_ eG12 (List.mem_singleton.mpr rfl)
    have pszI_0 := szI.fr hst ppaI_0 pszI_0 (by decide) (by decide)
    have popI_0 := opI.fr hst ppaI_0 popI_0 (by decide) (by decide)
    have ppaI_0 := paI.fr hst ppaI_0 (by decide) (by decide) (by decide) (by decide)
    have hlen := (z_len eG12).trans hlen
    have hsl := (z_sl hd_ eG12 rfl).trans hsl
    have hfr := hfr.wr hd_ eG12 (by decide)
    have hd_ := hd_.kept eG12
    change ab_W _ _ _ (List.set G11 d_ (ab_ob 6 [vR x, vR b4, vz (dp - 1), vz flg, vz grp, vR na, vR nl, vz lst, vz mst, vz bh])) 51 [some (vR d_), some (vR g1)] [] _
    rw [← eG12]
    refine ab_aload_n d_RD_close_51 rfl ?_
    refine ab_getf (fs := [vR x, vR b4, vz (dp - 1), vz flg, vz grp, vR na, vR nl, vz lst, vz mst, vz bh]) f_RD_12 d_RD_close_52 hd_.2.2 rfl ?_
    refine ab_dup d_RD_close_55 rfl ?_
    refine ab_getf (fs := [vR se, vR by_, vz n, vz pl, vz fa, vz fp, vR kd, vz kn]) f_RD_55 d_RD_close_56 hx.2.2 rfl ?_
    refine zz_iconst d_RD_close_59 ?_
    refine zz_iadd d_RD_close_60 ?_
    refine ab_putf (fs := [vR se, vR by_, vz n, vz pl, vz fa, vz fp, vR kd, vz kn]) f_RD_55 (Or.inl rfl) d_RD_close_61 hx.2.2 (Nat.le_of_ble_eq_true rfl) (fun _ => ⟨rfl, rfl⟩) (hx.2.1 (by decide)) ?_
    obtain ⟨G13, eG13⟩ : ∃ z : ab_G, z = List.set G12 x (ab_ob 10 [vR se, vR by_, vz n, vz (pl + 1), vz fa, vz fp, vR kd, vz kn]) := ⟨_, rfl⟩
    have hd_ := hd_.keep hx eG13 (by decide)
    have hg1 := hg1.keep hx eG13 (by decide)
    have hr1 := hr1.keep hx eG13 (by decide)
    have hst := (fx.rf (o := o) (S := [24]) (G := G12)).wr hx eG13 (List.mem_singleton.mpr rfl)
    have pszI_0 := szI.fr hst ppaI_0 pszI_0 (by decide) (by decide)
    have popI_0 := opI.fr hst ppaI_0 popI_0 (by decide) (by decide)
    have ppaI_0 := paI.fr hst ppaI_0 (by decide) (by decide) (by decide) (by decide)
    have hlen := (z_len eG13).trans hlen
    have hsl := (z_sl hx eG13 rfl).trans hsl
    have hfr := hfr.wr hx eG13 (by decide)
    have hx := hx.kept eG13
    change ab_W _ _ _ (List.set G12 x (ab_ob 10 [vR se, vR by_, vz n, vz (pl + 1), vz fa, vz fp, vR kd, vz kn])) 64 [some (vR d_), some (vR g1)] [] _
    rw [← eG13]
    refine ab_aload_n d_RD_close_64 rfl ?_
    refine ab_aload_n d_RD_close_65 rfl ?_
    refine ab_getf (fs := [vz k_2, vz v_2, rg_2, vz pl_2, vz fl_2, vR b4, vR r1, bf_2, vz sz_2, vz mb_2, vz oe_2, vz le_2, vz mo_2, vz la_2, vz rc_2]) f_RD_169 d_RD_close_66 hg1.2.2 rfl ?_
    refine ab_putf (fs := [vR x, vR b4, vz (dp - 1), vz flg, vz grp, vR na, vR nl, vz lst, vz mst, vz bh]) f_RD_38 (Or.inl rfl) d_RD_close_69 hd_.2.2 (Nat.le_of_ble_eq_true rfl) (fun _ => ⟨rfl, rfl⟩) (hd_.2.1 (by decide)) ?_
    obtain ⟨G14, eG14⟩ : ∃ z : ab_G, z = List.set G13 d_ (ab_ob 6 [vR x, vR b4, vz (dp - 1), vz fl_2, vz grp, vR na, vR nl, vz lst, vz mst, vz bh]) := ⟨_, rfl⟩
    have hx := hx.keep hd_ eG14 (by decide)
    have hg1 := hg1.keep hd_ eG14 (by decide)
    have hr1 := hr1.keep hd_ eG14 (by decide)
    have hst := (fx.rf (o := o) (S := [25]) (G := G13)).wr hd_ eG14 (List.mem_singleton.mpr rfl)
    have pszI_0 := szI.fr hst ppaI_0 pszI_0 (by decide) (by decide)
    have popI_0 := opI.fr hst ppaI_0 popI_0 (by decide) (by decide)
    have ppaI_0 := paI.fr hst ppaI_0 (by decide) (by decide) (by decide) (by decide)
    have hlen := (z_len eG14).trans hlen
    have hsl := (z_sl hd_ eG14 rfl).trans hsl
    have hfr := hfr.wr hd_ eG14 (by decide)
    have hd_ := hd_.kept eG14
    change ab_W _ _ _ (List.set G13 d_ (ab_ob 6 [vR x, vR b4, vz (dp - 1), vz fl_2, vz grp, vR na, vR nl, vz lst, vz mst, vz bh])) 72 [some (vR d_), some (vR g1)] [] _
    rw [← eG14]
    obtain ⟨cu, hsx_, hso_, -⟩ := pszI_0
    have hg9 := hg1
    have hpa9 := ppaI_0
    have hfz : fz ps [g1] G14 G14 := fz.rf
    refine ab_aload_n d_RD_close_72 rfl ?_
    refine ab_callV (d' := d - 1) (as := []) (st := []) (r := _) (z_PA_closeRows (o := o) (k := k_2) (v := v_2) (rg := rg_2) (pl := pl_2) (fl := fl_2) (ou := vR b4) (ls := vR r1) (bf := bf_2) (sz := sz_2) (mb := mb_2) (oe := oe_2) (le := le_2) (mo := mo_2) (la := la_2) (rc := rc_2) (ps := ps) (wt := wt) (bs := bs) (ph := ph) (gr := grp) (Pr := pr0) (p := g1) (cu := cu) hg1 ppaI_0 (by omega) hpg1 hn2 (by omega) (Or.inr ⟨_, rfl, hp6, by omega⟩) (Or.inr ⟨_, rfl, hpr1, by have hlt := hr1.lt; omega⟩) (hf2.up (by omega)) hsx_.rqs hsx_.1 (by omega)) (fun oc G2 h => by rcases h with ⟨_, _, h, _⟩ <;> exact ⟨_, h⟩) (by omega) m_PA_closeRows ml_RD_73 im_PA_closeRows se_PA_closeRows c_PA hg1.2.2 (Nat.le_of_ble_eq_true rfl) d_RD_close_73 rfl ?_
    intro v G15 hq
    rcases hq with ⟨sz216, mb217, hv, hfk, hlk, hsk, hNg1, pNpaI_0, hq18, hq19, hq20⟩
    cases hv
    have hd_ := hfk.get hd_ (by decide)
    have hx := hfk.get hx (by decide)
    have hr1 := hfk.get hr1 (by decide)
    have hfz := hfz.tr hq19 (by simp)
    have popI_0 := popI_0.fz (o2 := o) hq19 (by intro y hy; simp only [List.mem_cons, List.not_mem_nil, or_false] at hy; omega)
    have ppaI_0 := pNpaI_0
    have hfr := hfr.tr hfk (by decide)
    have hlen := hlk.trans hlen
    have hsl := hsk.trans hsl
    have hg1 := hNg1
    change ab_W _ _ _ G15 76 [some (vR d_), some (vR g1)] [] _
    refine ab_aload_n d_RD_close_76 rfl ?_
    obtain ⟨cu2, hsx2, hso2, hcl2⟩ := hsx_.cloC (z := 0) hj1 hso_ hpa9 hfz hg9 hg1 (by omega) (by omega) (by omega) hq20
    have pszI_0 : szI o G15 0 ps j1 g1 (vR b4) wh g1 := ⟨cu2, hsx2, hso2, Or.inr hcl2⟩
    refine ab_aret (rt := _) rfl (Or.inl ⟨_, rfl⟩) (Or.inr ⟨_, rfl⟩) d_RD_close_77 ?_
    rw [hQ]; exact (Or.inr ⟨_, _, _, _, _, _, _, _, rfl, hfr, hlen, hsl, hd_, hx, ppaI_0, popI_0, pszI_0, (by omega), (by omega), (by omega), (by omega), (by exact hpg1), (by have hlt := hg1.lt; omega)⟩)
set_option maxRecDepth 100000 in
set_option maxHeartbeats 4000000 in
theorem z_RD_append {X : ab_X} {d : Nat} {o : Nat → Nat} {G : ab_G} {d_ : Nat} {inn : Value} {dp : Int} {flg : Int} {grp : Int} {na : Nat} {nl : Nat} {lst : Int} {mst : Int} {bh : Int} {x : Nat} {se : Nat} {by_ : Nat} {m : Nat} {f : Int → Int} {n : Int} {pl : Int} {fa : Int} {fp : Int} {kd : Nat} {kn : Int} {ps : Nat → Nat} {wt : Nat → Nat} {bs : Nat} {ph : Int} {k : Nat} {wh : Nat} {p : Nat} (hd_ : cc o G d_ 25 (ab_ob 6 [vR x, inn, vz dp, vz flg, vz grp, vR na, vR nl, vz lst, vz mst, vz bh])) (hx : cc o G x 24 (ab_ob 10 [vR se, vR by_, vz n, vz pl, vz fa, vz fp, vR kd, vz kn])) (hby_ : cc o G by_ 23 (za m f)) (ppaI_0 : paI o G 0 ps wt bs grp pr0 ph) (popI_0 : opI o G 0 ps k p inn) (pszI_0 : szI o G 0 ps k p inn wh p) (n18 : ab_n0 = 18) (cn_ : 0 ≤ n ∧ n ≤ ↑m ∧ m ≤ 2000) (hb : bytes f n) (cf : 0 ≤ flg ∧ flg ≤ 31) (cg : 0 ≤ grp ∧ grp ≤ 9) (ck : 0 ≤ dp ∧ dp ≤ 30 ∧ ↑k = dp + 1) (cp : 0 ≤ pl ∧ pl ≤ 9000) (cfa : 0 ≤ fa ∧ fa ≤ 14) (hpp : ps p = 90) (hd : 4 ≤ d) : ab_F X d y_RD_append (.code y_RD_append b_RD_append 6 none) [vR d_, vR p] G (fun oc G2 => ∃ lst2 : Int, ∃ mst2 : Int, ∃ bh2 : Int, ∃ p2 : Int, ∃ fa2 : Int, ∃ fp2 : Int, ∃ inn2 : Value, ∃ hi2 : Nat, oc = .returned none ∧ fx o o [24, 25, 90, 94] G G2 ∧ G2.length = G.length ∧ ab_slots G2 = ab_slots G ∧ cc o G2 d_ 25 (ab_ob 6 [vR x, inn2, vz dp, vz flg, vz grp, vR na, vR nl, vz lst2, vz mst2, vz bh2]) ∧ cc o G2 x 24 (ab_ob 10 [vR se, vR by_, vz n, vz p2, vz fa2, vz fp2, vR kd, vz kn]) ∧ paI o G2 0 ps wt bs grp pr0 ph ∧ opI o G2 0 ps k hi2 inn2 ∧ szI o G2 0 ps k hi2 inn2 wh 0 ∧ (0 ≤ fa2 ∧ fa2 ≤ 14) ∧ (pl ≤ p2 ∧ p2 ≤ 9001) ∧ (hi2 ≤ G2.length)) := by
  refine ab_F_of (by decide +kernel) (Nat.le_of_ble_eq_true rfl) ?_
  obtain ⟨Q, hQ⟩ : ∃ z : Outcome → ab_G → Prop, z = (fun oc G2 => ∃ lst2 : Int, ∃ mst2 : Int, ∃ bh2 : Int, ∃ p2 : Int, ∃ fa2 : Int, ∃ fp2 : Int, ∃ inn2 : Value, ∃ hi2 : Nat, oc = .returned none ∧ fx o o [24, 25, 90, 94] G G2 ∧ G2.length = G.length ∧ ab_slots G2 = ab_slots G ∧ cc o G2 d_ 25 (ab_ob 6 [vR x, inn2, vz dp, vz flg, vz grp, vR na, vR nl, vz lst2, vz mst2, vz bh2]) ∧ cc o G2 x 24 (ab_ob 10 [vR se, vR by_, vz n, vz p2, vz fa2, vz fp2, vR kd, vz kn]) ∧ paI o G2 0 ps wt bs grp pr0 ph ∧ opI o G2 0 ps k hi2 inn2 ∧ szI o G2 0 ps k hi2 inn2 wh 0 ∧ (0 ≤ fa2 ∧ fa2 ≤ 14) ∧ (pl ≤ p2 ∧ p2 ≤ 9001) ∧ (hi2 ≤ G2.length)) := ⟨_, rfl⟩
  rw [← hQ]
  change ab_W X (ab_pl y_RD_append b_RD_append 6 none) d G 0 [some (vR d_), some (vR p), none, none, none, none] [] Q
  have hfr : fx o o [24, 25, 90, 94] G G := fx.rf
  have hlen : G.length = G.length := rfl
  have hsl : ab_slots G = ab_slots G := rfl
  obtain ⟨j1, hj1⟩ : ∃ j, k = j + 1 := ⟨k - 1, by omega⟩
  rw [hj1] at popI_0
  obtain ⟨g1, r1, w1, lv1, hv1, ⟨hpg1, hpr1⟩, ⟨hgl1, hrl1⟩, hf61, hf51, hr61, hlv1, hop1⟩ := popI_0
  subst hv1
  obtain ⟨k_2, v_2, rg_2, pl_2, fl_2, ou_2, ls_2, bf_2, sz_2, mb_2, oe_2, le_2, mo_2, la_2, rc_2, hg1, hn2, hb2, hg2, ho2, hl2, hf2⟩ := ppaI_0.1 g1 hpg1
  have hB2 := hb2
  unfold pnB at hB2
  have hK2 := hn2.1
  obtain ⟨ls3, bf3, sz3, mb3, hr1, hB3, hl3, hf3⟩ := ppaI_0.2.1 r1 hpr1
  have e61 : some ls_2 = some (vR r1) := by have t := hf61; unfold pf at t; rw [hg1.2.2] at t; exact t
  have e61 := Option.some.inj e61
  subst e61
  have e51 : some ou_2 = some w1 := by have t := hf51; unfold pf at t; rw [hg1.2.2] at t; exact t
  have e51 := Option.some.inj e51
  subst e51
  have e71 : some ls3 = some lv1 := by have t := hr61; unfold pf at t; rw [hr1.2.2] at t; exact t
  have e71 := Option.some.inj e71
  subst e71
  have popI_0 : opI o G 0 ps j1 g1 ou_2 := hop1
  have hnq1 : nq g1 r1 := hg1.ne hr1 (by decide)
  change ab_W _ _ _ G 0 [some (vR d_), some (vR p), none, none, none, none] [] _
  obtain ⟨k_4, v_4, rg_4, pl_4, fl_4, ou_4, ls_4, bf_4, sz_4, mb_4, oe_4, le_4, mo_4, la_4, rc_4, hp, hn4, hb4, hg4, ho4, hl4, hf4⟩ := ppaI_0.1 p hpp
  have hB4 := hb4
  unfold pnB at hB4
  have hK4 := hn4.1
  have hgp : nq g1 p := by unfold nq; omega
  have hpl := hp.lt
  change ab_W _ _ _ G 0 [some (vR d_), some (vR p), none, none, none, none] [] _
  have hsz9 := pszI_0
  have hpa9 := ppaI_0
  have hfz : fz ps [r1, p] G G := fz.rf
  have h18_ : ab_n0 = 18 := rfl
  have hp0_ : 0 < p := by have t := hp.2.1 (by decide); omega
  have hg9 := hg1
  have hr9 := hr1
  have hp9 := hp
  refine ab_aload_n d_RD_append_0 rfl ?_
  refine ab_callV (d' := d - 1) (as := []) (st := []) (r := _) (z_RD_isRepeat (o := o) (d_ := d_) (inn := vR g1) (dp := dp) (flg := flg) (grp := grp) (na := na) (nl := nl) (lst := lst) (mst := mst) (bh := bh) (x := x) (se := se) (by_ := by_) (m := m) (f := f) (n := n) (pl := pl) (fa := fa) (fp := fp) (kd := kd) (kn := kn) hd_ hx hby_ (by omega) hb (by omega) (by omega) (by omega)) (fun oc G2 h => by rcases h with ⟨_, _, _, h, _⟩ | ⟨_, _, _, h, _⟩ | ⟨_, _, _, h, _⟩ <;> exact ⟨_, h⟩) (by omega) m_RD_isRepeat ml_RD_119 im_RD_isRepeat se_RD_isRepeat c_RD hd_.2.2 (Nat.le_of_ble_eq_true rfl) d_RD_append_1 rfl ?_
  intro v G5 hq
  rcases hq with ⟨l26, m27, bh28, hv, hfk, hlk, hsk, hNd_, hq9, hq10⟩ | ⟨l211, m212, bh213, hv, hfk, hlk, hsk, hNd_, hq14, hq15⟩ | ⟨l216, m217, bh218, hv, hfk, hlk, hsk, hNd_, hq19⟩
  · cases hv
    have hx := hfk.get hx (by decide)
    have hby_ := hfk.get hby_ (by decide)
    have hg1 := hfk.get hg1 (by decide)
    have hr1 := hfk.get hr1 (by decide)
    have hp := hfk.get hp (by decide)
    have hfz := hfz.tr (fz.fx ppaI_0 hfk (by decide) (by decide)) (by simp)
    have pszI_0 := szI.fr hfk ppaI_0 pszI_0 (by decide) (by decide)
    have popI_0 := opI.fr hfk ppaI_0 popI_0 (by decide) (by decide)
    have ppaI_0 := paI.fr hfk ppaI_0 (by decide) (by decide) (by decide) (by decide)
    have hfr := hfr.tr hfk (by decide)
    have hlen := hlk.trans hlen
    have hsl := hsk.trans hsl
    have hd_ := hNd_
    change ab_W _ _ _ G5 4 [some (vR d_), some (vR p), none, none, none, none] [vz 1] _
    refine zz_if_eq (tgt := 185) d_RD_append_4 (by decide) (by decide) (fun c20 => absurd c20 (by decide)) (fun c20 => ?_)
    refine ab_aload_n d_RD_append_7 rfl ?_
    refine ab_getf (fs := [vR x, vR g1, vz dp, vz flg, vz grp, vR na, vR nl, vz l26, vz m27, vz bh28]) f_RD_12 d_RD_append_8 hd_.2.2 rfl ?_
    refine ab_getf (fs := [vR se, vR by_, vz n, vz pl, vz fa, vz fp, vR kd, vz kn]) f_RD_55 d_RD_append_11 hx.2.2 rfl ?_
    refine ab_istore_n d_RD_append_14 (Nat.le_of_ble_eq_true rfl) (Nat.le_of_ble_eq_true rfl) rfl ?_
    change ab_W _ _ _ G5 15 [some (vR d_), some (vR p), some (vz pl), none, none, none] [] _
    refine ab_aload_n d_RD_append_15 rfl ?_
    refine ab_getf (fs := [vR x, vR g1, vz dp, vz flg, vz grp, vR na, vR nl, vz l26, vz m27, vz bh28]) f_RD_12 d_RD_append_16 hd_.2.2 rfl ?_
    refine zz_iconst d_RD_append_19 ?_
    refine ab_callV (d' := d - 1) (as := [vz 0]) (st := []) (r := _) (z_TX_peek0 (o := o) (x := x) (lx := 24) (se := se) (by_ := by_) (lby := 23) (m := m) (f := f) (n := n) (pl := pl) (fa := fa) (fp := fp) (kd := kd) (kn := kn) hx hby_ (by omega) hb) (fun oc G2 h => by rcases h with ⟨_, h, _⟩ <;> exact ⟨_, h⟩) (by omega) m_TX_peek ml_RD_79 im_TX_peek se_TX_peek c_TX hx.2.2 (Nat.le_of_ble_eq_true rfl) d_RD_append_20 rfl ?_
    intro v G21 hq
    rcases hq with ⟨v22, hv, hGe, hq23, hq24⟩
    cases hv
    rw [hGe]
    change ab_W _ _ _ G5 23 [some (vR d_), some (vR p), some (vz pl), none, none, none] [vz v22] _
    refine zz_bipush d_RD_append_23 (by decide) ?_
    refine zz_icmp_ne (tgt := 32) d_RD_append_25 (by decide) (by omega) (by decide) (fun c25 => absurd c25 (by omega)) (fun c25 => ?_)
    refine zz_iconst d_RD_append_28 ?_
    refine ab_goto (tgt := 33) d_RD_append_29 (by decide) ?_
    refine ab_istore_n d_RD_append_33 (Nat.le_of_ble_eq_true rfl) (Nat.le_of_ble_eq_true rfl) rfl ?_
    change ab_W _ _ _ G5 34 [some (vR d_), some (vR p), some (vz pl), some (vz 1), none, none] [] _
    refine ab_aload_n d_RD_append_34 rfl ?_
    refine ab_getf (fs := [vR x, vR g1, vz dp, vz flg, vz grp, vR na, vR nl, vz l26, vz m27, vz bh28]) f_RD_184 d_RD_append_35 hd_.2.2 rfl ?_
    refine zz_bipush d_RD_append_38 (by decide) ?_
    refine zz_icmp_gt (tgt := 73) d_RD_append_40 (by decide) (by omega) (by decide) (fun c26 => ?_) (fun c26 => ?_)
    · refine zz_iconst d_RD_append_73 ?_
      refine ab_goto (tgt := 78) d_RD_append_74 (by decide) ?_
      refine ab_istore d_RD_append_78 (Nat.le_of_ble_eq_true rfl) (Nat.le_of_ble_eq_true rfl) rfl ?_
      change ab_W _ _ _ G5 80 [some (vR d_), some (vR p), some (vz pl), some (vz 1), some (vz 1), none] [] _
      refine ab_iload_n d_RD_append_80 rfl ?_
      refine zz_if_eq (tgt := 101) d_RD_append_81 (by decide) (by decide) (fun c27 => absurd c27 (by decide)) (fun c27 => ?_)
      refine ab_iload d_RD_append_84 rfl ?_
      refine zz_if_eq (tgt := 101) d_RD_append_86 (by decide) (by decide) (fun c28 => absurd c28 (by decide)) (fun c28 => ?_)
      refine ab_aload_n d_RD_append_89 rfl ?_
      refine ab_getf (fs := [vR x, vR g1, vz dp, vz flg, vz grp, vR na, vR nl, vz l26, vz m27, vz bh28]) f_RD_12 d_RD_append_90 hd_.2.2 rfl ?_
      refine zz_bipush d_RD_append_93 (by decide) ?_
      refine ab_iload_n d_RD_append_95 rfl ?_
      refine ab_callV (d' := d - 1) (as := [vz 9, vz pl]) (st := []) (r := _) (z_TX_fail (o := o) (x := x) (lx := 24) (se := se) (by_ := by_) (n := n) (pl := pl) (fa := fa) (fp := fp) (kd := kd) (kn := kn) (w := 9) (p := pl) hx (by omega) (by omega) (by omega)) (fun oc G2 h => by rcases h with ⟨h, _⟩ | ⟨h, _⟩ <;> exact ⟨_, h⟩) (by omega) m_TX_fail ml_RD_69 im_TX_fail se_TX_fail c_TX hx.2.2 (Nat.le_of_ble_eq_true rfl) d_RD_append_96 rfl ?_
      intro v G29 hq
      rcases hq with ⟨hv, hfk, hlk, hsk, hNx, hq30⟩ | ⟨hv, hGe, hq31⟩
      · cases hv
        have hd_ := hfk.get hd_ (by decide)
        have hby_ := hfk.get hby_ (by decide)
        have hg1 := hfk.get hg1 (by decide)
        have hr1 := hfk.get hr1 (by decide)
        have hp := hfk.get hp (by decide)
        have hfz := hfz.tr (fz.fx ppaI_0 hfk (by decide) (by decide)) (by simp)
        have pszI_0 := szI.fr hfk ppaI_0 pszI_0 (by decide) (by decide)
        have popI_0 := opI.fr hfk ppaI_0 popI_0 (by decide) (by decide)
        have ppaI_0 := paI.fr hfk ppaI_0 (by decide) (by decide) (by decide) (by decide)
        have hfr := hfr.tr hfk (by decide)
        have hlen := hlk.trans hlen
        have hsl := hsk.trans hsl
        have hx := hNx
        change ab_W _ _ _ G29 99 [some (vR d_), some (vR p), some (vz pl), some (vz 1), some (vz 1), none] [vz (-1)] _
        refine ab_pop d_RD_append_99 rfl ?_
        have pszI_0 := pszI_0.drop.up (hi2 := G29.length) (by omega)
        have popI_0 : opI o G29 0 ps (j1 + 1) G29.length (vR g1) := ⟨g1, r1, ou_2, ls3, rfl, ⟨hpg1, hpr1⟩, ⟨by omega, by omega⟩, by unfold pf; rw [hg1.2.2]; rfl, by unfold pf; rw [hg1.2.2]; rfl, by unfold pf; rw [hr1.2.2]; rfl, (hlv1.up (by omega)), popI_0⟩
        rw [← hj1] at popI_0
        refine ab_vret rfl d_RD_append_100 ?_
        rw [hQ]; exact ⟨_, _, _, _, _, _, _, _, rfl, hfr, hlen, hsl, hd_, hx, ppaI_0, popI_0, pszI_0, (by omega), (by omega), (by omega)⟩
      · cases hv
        rw [hGe]
        change ab_W _ _ _ G5 99 [some (vR d_), some (vR p), some (vz pl), some (vz 1), some (vz 1), none] [vz (-1)] _
        refine ab_pop d_RD_append_99 rfl ?_
        have pszI_0 := pszI_0.drop.up (hi2 := G5.length) (by omega)
        have popI_0 : opI o G5 0 ps (j1 + 1) G5.length (vR g1) := ⟨g1, r1, ou_2, ls3, rfl, ⟨hpg1, hpr1⟩, ⟨by omega, by omega⟩, by unfold pf; rw [hg1.2.2]; rfl, by unfold pf; rw [hg1.2.2]; rfl, by unfold pf; rw [hr1.2.2]; rfl, (hlv1.up (by omega)), popI_0⟩
        rw [← hj1] at popI_0
        refine ab_vret rfl d_RD_append_100 ?_
        rw [hQ]; exact ⟨_, _, _, _, _, _, _, _, rfl, hfr, hlen, hsl, hd_, hx, ppaI_0, popI_0, pszI_0, (by omega), (by omega), (by omega)⟩
    · refine ab_aload_n d_RD_append_43 rfl ?_
      refine ab_getf (fs := [vR x, vR g1, vz dp, vz flg, vz grp, vR na, vR nl, vz l26, vz m27, vz bh28]) f_RD_187 d_RD_append_44 hd_.2.2 rfl ?_
      refine zz_sipush d_RD_append_47 (by decide) ?_
      refine zz_icmp_eq (tgt := 77) d_RD_append_50 (by decide) (by omega) (by decide) (fun c32 => ?_) (fun c32 => ?_)
      · refine zz_iconst d_RD_append_77 ?_
        refine ab_istore d_RD_append_78 (Nat.le_of_ble_eq_true rfl) (Nat.le_of_ble_eq_true rfl) rfl ?_
        change ab_W _ _ _ G5 80 [some (vR d_), some (vR p), some (vz pl), some (vz 1), some (vz 0), none] [] _
        refine ab_iload_n d_RD_append_80 rfl ?_
        refine zz_if_eq (tgt := 101) d_RD_append_81 (by decide) (by decide) (fun c33 => absurd c33 (by decide)) (fun c33 => ?_)
        refine ab_iload d_RD_append_84 rfl ?_
        refine zz_if_eq (tgt := 101) d_RD_append_86 (by decide) (by decide) (fun c34 => ?_) (fun c34 => absurd c34 (by decide))
        refine ab_aload_n d_RD_append_101 rfl ?_
        refine ab_getf (fs := [vR x, vR g1, vz dp, vz flg, vz grp, vR na, vR nl, vz l26, vz m27, vz bh28]) f_RD_12 d_RD_append_102 hd_.2.2 rfl ?_
        refine ab_aload_n d_RD_append_105 rfl ?_
        refine ab_getf (fs := [vR x, vR g1, vz dp, vz flg, vz grp, vR na, vR nl, vz l26, vz m27, vz bh28]) f_RD_190 d_RD_append_106 hd_.2.2 rfl ?_
        refine ab_putf (fs := [vR se, vR by_, vz n, vz pl, vz fa, vz fp, vR kd, vz kn]) f_RD_55 (Or.inl rfl) d_RD_append_109 hx.2.2 (Nat.le_of_ble_eq_true rfl) (fun _ => ⟨rfl, rfl⟩) (hx.2.1 (by decide)) ?_
        obtain ⟨G35, eG35⟩ : ∃ z : ab_G, z = List.set G5 x (ab_ob 10 [vR se, vR by_, vz n, vz bh28, vz fa, vz fp, vR kd, vz kn]) := ⟨_, rfl⟩
        have hd_ := hd_.keep hx eG35 (by decide)
        have hby_ := hby_.keep hx eG35 (by decide)
        have hg1 := hg1.keep hx eG35 (by decide)
        have hr1 := hr1.keep hx eG35 (by decide)
        have hp := hp.keep hx eG35 (by decide)
        have hfz := hfz.wl ppaI_0 hx eG35 (by decide)
        have hst := (fx.rf (o := o) (S := [24]) (G := G5)).wr hx eG35 (List.mem_singleton.mpr rfl)
        have pszI_0 := szI.fr hst ppaI_0 pszI_0 (by decide) (by decide)
        have popI_0 := opI.fr hst ppaI_0 popI_0 (by decide) (by decide)
        have ppaI_0 := paI.fr hst ppaI_0 (by decide) (by decide) (by decide) (by decide)
        have hlen := (z_len eG35).trans hlen
        have hsl := (z_sl hx eG35 rfl).trans hsl
        have hfr := hfr.wr hx eG35 (by decide)
        have hx := hx.kept eG35
        change ab_W _ _ _ (List.set G5 x (ab_ob 10 [vR se, vR by_, vz n, vz bh28, vz fa, vz fp, vR kd, vz kn])) 112 [some (vR d_), some (vR p), some (vz pl), some (vz 1), some (vz 0), none] [] _
        rw [← eG35]
        refine ab_aload_n d_RD_append_112 rfl ?_
        refine ab_getf (fs := [vR x, vR g1, vz dp, vz flg, vz grp, vR na, vR nl, vz l26, vz m27, vz bh28]) f_RD_12 d_RD_append_113 hd_.2.2 rfl ?_
        refine zz_iconst d_RD_append_116 ?_
        refine ab_callV (d' := d - 1) (as := [vz 0]) (st := []) (r := _) (z_TX_peek0 (o := o) (x := x) (lx := 24) (se := se) (by_ := by_) (lby := 23) (m := m) (f := f) (n := n) (pl := bh28) (fa := fa) (fp := fp) (kd := kd) (kn := kn) hx hby_ (by omega) hb) (fun oc G2 h => by rcases h with ⟨_, h, _⟩ <;> exact ⟨_, h⟩) (by omega) m_TX_peek ml_RD_79 im_TX_peek se_TX_peek c_TX hx.2.2 (Nat.le_of_ble_eq_true rfl) d_RD_append_117 rfl ?_
        intro v G36 hq
        rcases hq with ⟨v37, hv, hGe, hq38, hq39⟩
        cases hv
        rw [hGe]
        change ab_W _ _ _ G35 120 [some (vR d_), some (vR p), some (vz pl), some (vz 1), some (vz 0), none] [vz v37] _
        refine zz_bipush d_RD_append_120 (by decide) ?_
        refine zz_icmp_ne (tgt := 129) d_RD_append_122 (by decide) (by omega) (by decide) (fun c40 => ?_) (fun c40 => ?_)
        · refine zz_iconst d_RD_append_129 ?_
          refine ab_istore d_RD_append_130 (Nat.le_of_ble_eq_true rfl) (Nat.le_of_ble_eq_true rfl) rfl ?_
          change ab_W _ _ _ G35 132 [some (vR d_), some (vR p), some (vz pl), some (vz 1), some (vz 0), some (vz 0)] [] _
          refine ab_aload_n d_RD_append_132 rfl ?_
          refine ab_getf (fs := [vR x, vR g1, vz dp, vz flg, vz grp, vR na, vR nl, vz l26, vz m27, vz bh28]) f_RD_12 d_RD_append_133 hd_.2.2 rfl ?_
          refine ab_dup d_RD_append_136 rfl ?_
          refine ab_getf (fs := [vR se, vR by_, vz n, vz bh28, vz fa, vz fp, vR kd, vz kn]) f_RD_55 d_RD_append_137 hx.2.2 rfl ?_
          refine ab_iload d_RD_append_140 rfl ?_
          refine zz_if_eq (tgt := 149) d_RD_append_142 (by decide) (by decide) (fun c41 => ?_) (fun c41 => absurd c41 (by decide))
          refine zz_iconst d_RD_append_149 ?_
          refine zz_iadd d_RD_append_150 ?_
          refine ab_putf (fs := [vR se, vR by_, vz n, vz bh28, vz fa, vz fp, vR kd, vz kn]) f_RD_55 (Or.inl rfl) d_RD_append_151 hx.2.2 (Nat.le_of_ble_eq_true rfl) (fun _ => ⟨rfl, rfl⟩) (hx.2.1 (by decide)) ?_
          obtain ⟨G42, eG42⟩ : ∃ z : ab_G, z = List.set G35 x (ab_ob 10 [vR se, vR by_, vz n, vz (bh28 + 0), vz fa, vz fp, vR kd, vz kn]) := ⟨_, rfl⟩
          have hd_ := hd_.keep hx eG42 (by decide)
          have hby_ := hby_.keep hx eG42 (by decide)
          have hg1 := hg1.keep hx eG42 (by decide)
          have hr1 := hr1.keep hx eG42 (by decide)
          have hp := hp.keep hx eG42 (by decide)
          have hfz := hfz.wl ppaI_0 hx eG42 (by decide)
          have hst := (fx.rf (o := o) (S := [24]) (G := G35)).wr hx eG42 (List.mem_singleton.mpr rfl)
          have pszI_0 := szI.fr hst ppaI_0 pszI_0 (by decide) (by decide)
          have popI_0 := opI.fr hst ppaI_0 popI_0 (by decide) (by decide)
          have ppaI_0 := paI.fr hst ppaI_0 (by decide) (by decide) (by decide) (by decide)
          have hlen := (z_len eG42).trans hlen
          have hsl := (z_sl hx eG42 rfl).trans hsl
          have hfr := hfr.wr hx eG42 (by decide)
          have hx := hx.kept eG42
          change ab_W _ _ _ (List.set G35 x (ab_ob 10 [vR se, vR by_, vz n, vz (bh28 + 0), vz fa, vz fp, vR kd, vz kn])) 154 [some (vR d_), some (vR p), some (vz pl), some (vz 1), some (vz 0), some (vz 0)] [] _
          rw [← eG42]
          refine ab_aload_n d_RD_append_154 rfl ?_
          refine ab_aload_n d_RD_append_155 rfl ?_
          refine ab_getf (fs := [vR x, vR g1, vz dp, vz flg, vz grp, vR na, vR nl, vz l26, vz m27, vz bh28]) f_RD_184 d_RD_append_156 hd_.2.2 rfl ?_
          refine ab_aload_n d_RD_append_159 rfl ?_
          refine ab_getf (fs := [vR x, vR g1, vz dp, vz flg, vz grp, vR na, vR nl, vz l26, vz m27, vz bh28]) f_RD_187 d_RD_append_160 hd_.2.2 rfl ?_
          refine ab_iload d_RD_append_163 rfl ?_
          refine ab_aload_n d_RD_append_165 rfl ?_
          refine zz_bipush d_RD_append_166 (by decide) ?_
          refine ab_callV (d' := d - 1) (as := [vz 8]) (st := [vz 0, vz m27, vz l26, vR p]) (r := _) (z8_RD_isOn (o := o) (d_ := d_) (inn := vR g1) (dp := dp) (flg := flg) (grp := grp) (na := na) (nl := nl) (lst := l26) (mst := m27) (bh := bh28) (x := x) hd_ (by omega)) (fun oc G2 h => by rcases h with ⟨_, h, _⟩ <;> exact ⟨_, h⟩) (by omega) m_RD_isOn ml_RD_94 im_RD_isOn se_RD_isOn c_RD hd_.2.2 (Nat.le_of_ble_eq_true rfl) d_RD_append_168 rfl ?_
          intro v G43 hq
          rcases hq with ⟨v44, hv, hGe, hq45⟩
          cases hv
          rw [hGe]
          change ab_W _ _ _ G42 171 [some (vR d_), some (vR p), some (vz pl), some (vz 1), some (vz 0), some (vz 0)] [vz v44, vz 0, vz m27, vz l26, vR p] _
          refine zz_icmp_eq (tgt := 178) d_RD_append_171 (by decide) (by decide) (by omega) (fun c46 => ?_) (fun c46 => ?_)
          · refine zz_iconst d_RD_append_178 ?_
            refine ab_callV (d' := d - 1) (as := [vz l26, vz m27, vz 0]) (st := []) (r := _) (z_PA_repeat (o := o) (k := k_4) (v := v_4) (rg := rg_4) (pl := pl_4) (fl := fl_4) (ou := ou_4) (ls := ls_4) (bf := bf_4) (sz := sz_4) (mb := mb_4) (oe := oe_4) (le := le_4) (mo := mo_4) (la := la_4) (rc := rc_4) (ps := ps) (wt := wt) (bs := bs) (gr := grp) (Pr := pr0) (ph := ph) (p := p) (l0 := l26) (m0 := m27) (z0 := 0) hp ppaI_0 (by omega) hpp hn4 (by omega) (ho4.up (by omega)) (hl4.up (by omega)) (hf4.up (by omega)) (by omega) (by omega)) (fun oc G2 h => by rcases h with ⟨_, _, _, h, _⟩ <;> exact ⟨_, h⟩) (by omega) m_PA_repeat ml_RD_193 im_PA_repeat se_PA_repeat c_PA hp.2.2 (Nat.le_of_ble_eq_true rfl) d_RD_append_179 rfl ?_
            intro v G47 hq
            rcases hq with ⟨sz248, mb249, oe250, hv, hfk, hlk, hsk, hNp, pNpaI_0, hq51, hq52, hq53⟩
            cases hv
            have hd_ := hfk.get hd_ (by decide)
            have hx := hfk.get hx (by decide)
            have hby_ := hfk.get hby_ (by decide)
            have hKg1 := hq52.get hfk hg1 (Or.inl hpg1) (by simp only [List.mem_cons, List.not_mem_nil, or_false, not_or]; exact (show g1 ≠ p from hgp))
            have hr1 := hfk.get hr1 (by decide)
            have hg1 := hKg1
            have hfz := hfz.tr hq52 (by simp)
            have popI_0 := popI_0.fz (o2 := o) hq52 (by intro y hy; simp only [List.mem_cons, List.not_mem_nil, or_false] at hy; omega)
            have ppaI_0 := pNpaI_0
            have hfr := hfr.tr hfk (by decide)
            have hlen := hlk.trans hlen
            have hsl := hsk.trans hsl
            have hp := hNp
            change ab_W _ _ _ G47 182 [some (vR d_), some (vR p), some (vz pl), some (vz 1), some (vz 0), some (vz 0)] [] _
            refine ab_goto (tgt := 192) d_RD_append_182 (by decide) ?_
            refine ab_aload_n d_RD_append_192 rfl ?_
            refine ab_getf (fs := [vR x, vR g1, vz dp, vz flg, vz grp, vR na, vR nl, vz l26, vz m27, vz bh28]) f_RD_23 d_RD_append_193 hd_.2.2 rfl ?_
            refine ab_aload_n d_RD_append_196 rfl ?_
            refine ab_callV (d' := d - 1) (as := [vR p]) (st := []) (r := _) (z_PA_pushInLastRow (o := o) (k := k_4) (v := v_4) (rg := rg_4) (pl := pl_4) (fl := fl_4) (ou := ou_4) (ls := ls_4) (bf := bf_4) (sz := sz248) (mb := mb249) (oe := oe250) (le := l26) (mo := m27) (la := 0) (rc := rc_4) (lr := ls3) (br := bf3) (sr := sz3) (mr := mb3) (ps := ps) (wt := wt) (bs := bs) (gr := grp) (Pr := pr0) (ph := ph) (r := r1) (p := p) (kg := k_2) (vg := v_2) (rgg := rg_2) (plg := pl_2) (flg := fl_2) (oug := ou_2) (bfg := bf_2) (szg := sz_2) (mbg := mb_2) (oeg := oe_2) (leg := le_2) (mog := mo_2) (lag := la_2) (rcg := rc_2) (q := g1) hg1 hp hr1 ppaI_0 (by omega) hgp hpg1 hpp hpr1 hn4 (by omega) (by omega) (ho4.up (by omega)) (hl4.up (by omega)) (hf4.up (by omega)) (hlv1.up (by omega)) (hf3.up (by omega)) (hlv1.up (by omega)) (by omega) (by omega)) (fun oc G2 h => by rcases h with ⟨_, _, h, _⟩ <;> exact ⟨_, h⟩) (by omega) m_PA_pushInLastRow ml_RD_197 im_PA_pushInLastRow se_PA_pushInLastRow c_PA hg1.2.2 (Nat.le_of_ble_eq_true rfl) d_RD_append_197 rfl ?_
            intro v G54 hq
            rcases hq with ⟨sr255, mr256, hv, hfk, hlk, hsk, hNg1, hNp, hNr1, pNpaI_0, hq57, hq58, hq59⟩
            cases hv
            have hd_ := hfk.get hd_ (by decide)
            have hx := hfk.get hx (by decide)
            have hby_ := hfk.get hby_ (by decide)
            have hfz := hfz.tr hq58 (by simp)
            have popI_0 := popI_0.fz (o2 := o) hq58 (by intro y hy; simp only [List.mem_cons, List.not_mem_nil, or_false] at hy; omega)
            have ppaI_0 := pNpaI_0
            have hfr := hfr.tr hfk (by decide)
            have hlen := hlk.trans hlen
            have hsl := hsk.trans hsl
            have hg1 := hNg1
            have hp := hNp
            have hr1 := hNr1
            change ab_W _ _ _ G54 200 [some (vR d_), some (vR p), some (vz pl), some (vz 1), some (vz 0), some (vz 0)] [] _
            have pszI_0 : szI o G54 0 ps k G54.length (vR g1) wh 0 := (szI.appC hj1 hsz9 hpa9 hfz hg9 hp9 hr9 hp hr1 hpr1 (by omega) (by omega) (by omega) (by omega) (by omega) hq53 hq59).up (by omega)
            have popI_0 : opI o G54 0 ps (j1 + 1) G54.length (vR g1) := ⟨g1, r1, ou_2, (vR p), rfl, ⟨hpg1, hpr1⟩, ⟨by omega, by omega⟩, by unfold pf; rw [hg1.2.2]; rfl, by unfold pf; rw [hg1.2.2]; rfl, by unfold pf; rw [hr1.2.2]; rfl, (Or.inr ⟨_, rfl, hpp, by have hlt := hp.lt; omega⟩), popI_0⟩
            rw [← hj1] at popI_0
            refine ab_vret rfl d_RD_append_200 ?_
            rw [hQ]; exact ⟨_, _, _, _, _, _, _, _, rfl, hfr, hlen, hsl, hd_, hx, ppaI_0, popI_0, pszI_0, (by omega), (by omega), (by omega)⟩
          · refine zz_iconst d_RD_append_174 ?_
            refine ab_goto (tgt := 179) d_RD_append_175 (by decide) ?_
            refine ab_callV (d' := d - 1) (as := [vz l26, vz m27, vz 1]) (st := []) (r := _) (z_PA_repeat (o := o) (k := k_4) (v := v_4) (rg := rg_4) (pl := pl_4) (fl := fl_4) (ou := ou_4) (ls := ls_4) (bf := bf_4) (sz := sz_4) (mb := mb_4) (oe := oe_4) (le := le_4) (mo := mo_4) (la := la_4) (rc := rc_4) (ps := ps) (wt := wt) (bs := bs) (gr := grp) (Pr := pr0) (ph := ph) (p := p) (l0 := l26) (m0 := m27) (z0 := 1) hp ppaI_0 (by omega) hpp hn4 (by omega) (ho4.up (by omega)) (hl4.up (by omega)) (hf4.up (by omega)) (by omega) (by omega)) (fun oc G2 h => by rcases h with ⟨_, _, _, h, _⟩ <;> exact ⟨_, h⟩) (by omega) m_PA_repeat ml_RD_193 im_PA_repeat se_PA_repeat c_PA hp.2.2 (Nat.le_of_ble_eq_true rfl) d_RD_append_179 rfl ?_
            intro v G60 hq
            rcases hq with ⟨sz261, mb262, oe263, hv, hfk, hlk, hsk, hNp, pNpaI_0, hq64, hq65, hq66⟩
            cases hv
            have hd_ := hfk.get hd_ (by decide)
            have hx := hfk.get hx (by decide)
            have hby_ := hfk.get hby_ (by decide)
            have hKg1 := hq65.get hfk hg1 (Or.inl hpg1) (by simp only [List.mem_cons, List.not_mem_nil, or_false, not_or]; exact (show g1 ≠ p from hgp))
            have hr1 := hfk.get hr1 (by decide)
            have hg1 := hKg1
            have hfz := hfz.tr hq65 (by simp)
            have popI_0 := popI_0.fz (o2 := o) hq65 (by intro y hy; simp only [List.mem_cons, List.not_mem_nil, or_false] at hy; omega)
            have ppaI_0 := pNpaI_0
            have hfr := hfr.tr hfk (by decide)
            have hlen := hlk.trans hlen
            have hsl := hsk.trans hsl
            have hp := hNp
            change ab_W _ _ _ G60 182 [some (vR d_), some (vR p), some (vz pl), some (vz 1), some (vz 0), some (vz 0)] [] _
            refine ab_goto (tgt := 192) d_RD_append_182 (by decide) ?_
            refine ab_aload_n d_RD_append_192 rfl ?_
            refine ab_getf (fs := [vR x, vR g1, vz dp, vz flg, vz grp, vR na, vR nl, vz l26, vz m27, vz bh28]) f_RD_23 d_RD_append_193 hd_.2.2 rfl ?_
            refine ab_aload_n d_RD_append_196 rfl ?_
            refine ab_callV (d' := d - 1) (as := [vR p]) (st := []) (r := _) (z_PA_pushInLastRow (o := o) (k := k_4) (v := v_4) (rg := rg_4) (pl := pl_4) (fl := fl_4) (ou := ou_4) (ls := ls_4) (bf := bf_4) (sz := sz261) (mb := mb262) (oe := oe263) (le := l26) (mo := m27) (la := 1) (rc := rc_4) (lr := ls3) (br := bf3) (sr := sz3) (mr := mb3) (ps := ps) (wt := wt) (bs := bs) (gr := grp) (Pr := pr0) (ph := ph) (r := r1) (p := p) (kg := k_2) (vg := v_2) (rgg := rg_2) (plg := pl_2) (flg := fl_2) (oug := ou_2) (bfg := bf_2) (szg := sz_2) (mbg := mb_2) (oeg := oe_2) (leg := le_2) (mog := mo_2) (lag := la_2) (rcg := rc_2) (q := g1) hg1 hp hr1 ppaI_0 (by omega) hgp hpg1 hpp hpr1 hn4 (by omega) (by omega) (ho4.up (by omega)) (hl4.up (by omega)) (hf4.up (by omega)) (hlv1.up (by omega)) (hf3.up (by omega)) (hlv1.up (by omega)) (by omega) (by omega)) (fun oc G2 h => by rcases h with ⟨_, _, h, _⟩ <;> exact ⟨_, h⟩) (by omega) m_PA_pushInLastRow ml_RD_197 im_PA_pushInLastRow se_PA_pushInLastRow c_PA hg1.2.2 (Nat.le_of_ble_eq_true rfl) d_RD_append_197 rfl ?_
            intro v G67 hq
            rcases hq with ⟨sr268, mr269, hv, hfk, hlk, hsk, hNg1, hNp, hNr1, pNpaI_0, hq70, hq71, hq72⟩
            cases hv
            have hd_ := hfk.get hd_ (by decide)
            have hx := hfk.get hx (by decide)
            have hby_ := hfk.get hby_ (by decide)
            have hfz := hfz.tr hq71 (by simp)
            have popI_0 := popI_0.fz (o2 := o) hq71 (by intro y hy; simp only [List.mem_cons, List.not_mem_nil, or_false] at hy; omega)
            have ppaI_0 := pNpaI_0
            have hfr := hfr.tr hfk (by decide)
            have hlen := hlk.trans hlen
            have hsl := hsk.trans hsl
            have hg1 := hNg1
            have hp := hNp
            have hr1 := hNr1
            change ab_W _ _ _ G67 200 [some (vR d_), some (vR p), some (vz pl), some (vz 1), some (vz 0), some (vz 0)] [] _
            have pszI_0 : szI o G67 0 ps k G67.length (vR g1) wh 0 := (szI.appC hj1 hsz9 hpa9 hfz hg9 hp9 hr9 hp hr1 hpr1 (by omega) (by omega) (by omega) (by omega) (by omega) hq66 hq72).up (by omega)
            have popI_0 : opI o G67 0 ps (j1 + 1) G67.length (vR g1) := ⟨g1, r1, ou_2, (vR p), rfl, ⟨hpg1, hpr1⟩, ⟨by omega, by omega⟩, by unfold pf; rw [hg1.2.2]; rfl, by unfold pf; rw [hg1.2.2]; rfl, by unfold pf; rw [hr1.2.2]; rfl, (Or.inr ⟨_, rfl, hpp, by have hlt := hp.lt; omega⟩), popI_0⟩
            rw [← hj1] at popI_0
            refine ab_vret rfl d_RD_append_200 ?_
            rw [hQ]; exact ⟨_, _, _, _, _, _, _, _, rfl, hfr, hlen, hsl, hd_, hx, ppaI_0, popI_0, pszI_0, (by omega), (by omega), (by omega)⟩
        · refine zz_iconst d_RD_append_125 ?_
          refine ab_goto (tgt := 130) d_RD_append_126 (by decide) ?_
          refine ab_istore d_RD_append_130 (Nat.le_of_ble_eq_true rfl) (Nat.le_of_ble_eq_true rfl) rfl ?_
          change ab_W _ _ _ G35 132 [some (vR d_), some (vR p), some (vz pl), some (vz 1), some (vz 0), some (vz 1)] [] _
          refine ab_aload_n d_RD_append_132 rfl ?_
          refine ab_getf (fs := [vR x, vR g1, vz dp, vz flg, vz grp, vR na, vR nl, vz l26, vz m27, vz bh28]) f_RD_12 d_RD_append_133 hd_.2.2 rfl ?_
          refine ab_dup d_RD_append_136 rfl ?_
          refine ab_getf (fs := [vR se, vR by_, vz n, vz bh28, vz fa, vz fp, vR kd, vz kn]) f_RD_55 d_RD_append_137 hx.2.2 rfl ?_
          refine ab_iload d_RD_append_140 rfl ?_
          refine zz_if_eq (tgt := 149) d_RD_append_142 (by decide) (by decide) (fun c73 => absurd c73 (by decide)) (fun c73 => ?_)
          refine zz_iconst d_RD_append_145 ?_
          refine ab_goto (tgt := 150) d_RD_append_146 (by decide) ?_
          refine zz_iadd d_RD_append_150 ?_
          refine ab_putf (fs := [vR se, vR by_, vz n, vz bh28, vz fa, vz fp, vR kd, vz kn]) f_RD_55 (Or.inl rfl) d_RD_append_151 hx.2.2 (Nat.le_of_ble_eq_true rfl) (fun _ => ⟨rfl, rfl⟩) (hx.2.1 (by decide)) ?_
          obtain ⟨G74, eG74⟩ : ∃ z : ab_G, z = List.set G35 x (ab_ob 10 [vR se, vR by_, vz n, vz (bh28 + 1), vz fa, vz fp, vR kd, vz kn]) := ⟨_, rfl⟩
          have hd_ := hd_.keep hx eG74 (by decide)
          have hby_ := hby_.keep hx eG74 (by decide)
          have hg1 := hg1.keep hx eG74 (by decide)
          have hr1 := hr1.keep hx eG74 (by decide)
          have hp := hp.keep hx eG74 (by decide)
          have hfz := hfz.wl ppaI_0 hx eG74 (by decide)
          have hst := (fx.rf (o := o) (S := [24]) (G := G35)).wr hx eG74 (List.mem_singleton.mpr rfl)
          have pszI_0 := szI.fr hst ppaI_0 pszI_0 (by decide) (by decide)
          have popI_0 := opI.fr hst ppaI_0 popI_0 (by decide) (by decide)
          have ppaI_0 := paI.fr hst ppaI_0 (by decide) (by decide) (by decide) (by decide)
          have hlen := (z_len eG74).trans hlen
          have hsl := (z_sl hx eG74 rfl).trans hsl
          have hfr := hfr.wr hx eG74 (by decide)
          have hx := hx.kept eG74
          change ab_W _ _ _ (List.set G35 x (ab_ob 10 [vR se, vR by_, vz n, vz (bh28 + 1), vz fa, vz fp, vR kd, vz kn])) 154 [some (vR d_), some (vR p), some (vz pl), some (vz 1), some (vz 0), some (vz 1)] [] _
          rw [← eG74]
          refine ab_aload_n d_RD_append_154 rfl ?_
          refine ab_aload_n d_RD_append_155 rfl ?_
          refine ab_getf (fs := [vR x, vR g1, vz dp, vz flg, vz grp, vR na, vR nl, vz l26, vz m27, vz bh28]) f_RD_184 d_RD_append_156 hd_.2.2 rfl ?_
          refine ab_aload_n d_RD_append_159 rfl ?_
          refine ab_getf (fs := [vR x, vR g1, vz dp, vz flg, vz grp, vR na, vR nl, vz l26, vz m27, vz bh28]) f_RD_187 d_RD_append_160 hd_.2.2 rfl ?_
          refine ab_iload d_RD_append_163 rfl ?_
          refine ab_aload_n d_RD_append_165 rfl ?_
          refine zz_bipush d_RD_append_166 (by decide) ?_
          refine ab_callV (d' := d - 1) (as := [vz 8]) (st := [vz 1, vz m27, vz l26, vR p]) (r := _) (z8_RD_isOn (o := o) (d_ := d_) (inn := vR g1) (dp := dp) (flg := flg) (grp := grp) (na := na) (nl := nl) (lst := l26) (mst := m27) (bh := bh28) (x := x) hd_ (by omega)) (fun oc G2 h => by rcases h with ⟨_, h, _⟩ <;> exact ⟨_, h⟩) (by omega) m_RD_isOn ml_RD_94 im_RD_isOn se_RD_isOn c_RD hd_.2.2 (Nat.le_of_ble_eq_true rfl) d_RD_append_168 rfl ?_
          intro v G75 hq
          rcases hq with ⟨v76, hv, hGe, hq77⟩
          cases hv
          rw [hGe]
          change ab_W _ _ _ G74 171 [some (vR d_), some (vR p), some (vz pl), some (vz 1), some (vz 0), some (vz 1)] [vz v76, vz 1, vz m27, vz l26, vR p] _
          refine zz_icmp_eq (tgt := 178) d_RD_append_171 (by decide) (by decide) (by omega) (fun c78 => ?_) (fun c78 => ?_)
          · refine zz_iconst d_RD_append_178 ?_
            refine ab_callV (d' := d - 1) (as := [vz l26, vz m27, vz 0]) (st := []) (r := _) (z_PA_repeat (o := o) (k := k_4) (v := v_4) (rg := rg_4) (pl := pl_4) (fl := fl_4) (ou := ou_4) (ls := ls_4) (bf := bf_4) (sz := sz_4) (mb := mb_4) (oe := oe_4) (le := le_4) (mo := mo_4) (la := la_4) (rc := rc_4) (ps := ps) (wt := wt) (bs := bs) (gr := grp) (Pr := pr0) (ph := ph) (p := p) (l0 := l26) (m0 := m27) (z0 := 0) hp ppaI_0 (by omega) hpp hn4 (by omega) (ho4.up (by omega)) (hl4.up (by omega)) (hf4.up (by omega)) (by omega) (by omega)) (fun oc G2 h => by rcases h with ⟨_, _, _, h, _⟩ <;> exact ⟨_, h⟩) (by omega) m_PA_repeat ml_RD_193 im_PA_repeat se_PA_repeat c_PA hp.2.2 (Nat.le_of_ble_eq_true rfl) d_RD_append_179 rfl ?_
            intro v G79 hq
            rcases hq with ⟨sz280, mb281, oe282, hv, hfk, hlk, hsk, hNp, pNpaI_0, hq83, hq84, hq85⟩
            cases hv
            have hd_ := hfk.get hd_ (by decide)
            have hx := hfk.get hx (by decide)
            have hby_ := hfk.get hby_ (by decide)
            have hKg1 := hq84.get hfk hg1 (Or.inl hpg1) (by simp only [List.mem_cons, List.not_mem_nil, or_false, not_or]; exact (show g1 ≠ p from hgp))
            have hr1 := hfk.get hr1 (by decide)
            have hg1 := hKg1
            have hfz := hfz.tr hq84 (by simp)
            have popI_0 := popI_0.fz (o2 := o) hq84 (by intro y hy; simp only [List.mem_cons, List.not_mem_nil, or_false] at hy; omega)
            have ppaI_0 := pNpaI_0
            have hfr := hfr.tr hfk (by decide)
            have hlen := hlk.trans hlen
            have hsl := hsk.trans hsl
            have hp := hNp
            change ab_W _ _ _ G79 182 [some (vR d_), some (vR p), some (vz pl), some (vz 1), some (vz 0), some (vz 1)] [] _
            refine ab_goto (tgt := 192) d_RD_append_182 (by decide) ?_
            refine ab_aload_n d_RD_append_192 rfl ?_
            refine ab_getf (fs := [vR x, vR g1, vz dp, vz flg, vz grp, vR na, vR nl, vz l26, vz m27, vz bh28]) f_RD_23 d_RD_append_193 hd_.2.2 rfl ?_
            refine ab_aload_n d_RD_append_196 rfl ?_
            refine ab_callV (d' := d - 1) (as := [vR p]) (st := []) (r := _) (z_PA_pushInLastRow (o := o) (k := k_4) (v := v_4) (rg := rg_4) (pl := pl_4) (fl := fl_4) (ou := ou_4) (ls := ls_4) (bf := bf_4) (sz := sz280) (mb := mb281) (oe := oe282) (le := l26) (mo := m27) (la := 0) (rc := rc_4) (lr := ls3) (br := bf3) (sr := sz3) (mr := mb3) (ps := ps) (wt := wt) (bs := bs) (gr := grp) (Pr := pr0) (ph := ph) (r := r1) (p := p) (kg := k_2) (vg := v_2) (rgg := rg_2) (plg := pl_2) (flg := fl_2) (oug := ou_2) (bfg := bf_2) (szg := sz_2) (mbg := mb_2) (oeg := oe_2) (leg := le_2) (mog := mo_2) (lag := la_2) (rcg := rc_2) (q := g1) hg1 hp hr1 ppaI_0 (by omega) hgp hpg1 hpp hpr1 hn4 (by omega) (by omega) (ho4.up (by omega)) (hl4.up (by omega)) (hf4.up (by omega)) (hlv1.up (by omega)) (hf3.up (by omega)) (hlv1.up (by omega)) (by omega) (by omega)) (fun oc G2 h => by rcases h with ⟨_, _, h, _⟩ <;> exact ⟨_, h⟩) (by omega) m_PA_pushInLastRow ml_RD_197 im_PA_pushInLastRow se_PA_pushInLastRow c_PA hg1.2.2 (Nat.le_of_ble_eq_true rfl) d_RD_append_197 rfl ?_
            intro v G86 hq
            rcases hq with ⟨sr287, mr288, hv, hfk, hlk, hsk, hNg1, hNp, hNr1, pNpaI_0, hq89, hq90, hq91⟩
            cases hv
            have hd_ := hfk.get hd_ (by decide)
            have hx := hfk.get hx (by decide)
            have hby_ := hfk.get hby_ (by decide)
            have hfz := hfz.tr hq90 (by simp)
            have popI_0 := popI_0.fz (o2 := o) hq90 (by intro y hy; simp only [List.mem_cons, List.not_mem_nil, or_false] at hy; omega)
            have ppaI_0 := pNpaI_0
            have hfr := hfr.tr hfk (by decide)
            have hlen := hlk.trans hlen
            have hsl := hsk.trans hsl
            have hg1 := hNg1
            have hp := hNp
            have hr1 := hNr1
            change ab_W _ _ _ G86 200 [some (vR d_), some (vR p), some (vz pl), some (vz 1), some (vz 0), some (vz 1)] [] _
            have pszI_0 : szI o G86 0 ps k G86.length (vR g1) wh 0 := (szI.appC hj1 hsz9 hpa9 hfz hg9 hp9 hr9 hp hr1 hpr1 (by omega) (by omega) (by omega) (by omega) (by omega) hq85 hq91).up (by omega)
            have popI_0 : opI o G86 0 ps (j1 + 1) G86.length (vR g1) := ⟨g1, r1, ou_2, (vR p), rfl, ⟨hpg1, hpr1⟩, ⟨by omega, by omega⟩, by unfold pf; rw [hg1.2.2]; rfl, by unfold pf; rw [hg1.2.2]; rfl, by unfold pf; rw [hr1.2.2]; rfl, (Or.inr ⟨_, rfl, hpp, by have hlt := hp.lt; omega⟩), popI_0⟩
            rw [← hj1] at popI_0
            refine ab_vret rfl d_RD_append_200 ?_
            rw [hQ]; exact ⟨_, _, _, _, _, _, _, _, rfl, hfr, hlen, hsl, hd_, hx, ppaI_0, popI_0, pszI_0, (by omega), (by omega), (by omega)⟩
          · refine zz_iconst d_RD_append_174 ?_
            refine ab_goto (tgt := 179) d_RD_append_175 (by decide) ?_
            refine ab_callV (d' := d - 1) (as := [vz l26, vz m27, vz 1]) (st := []) (r := _) (z_PA_repeat (o := o) (k := k_4) (v := v_4) (rg := rg_4) (pl := pl_4) (fl := fl_4) (ou := ou_4) (ls := ls_4) (bf := bf_4) (sz := sz_4) (mb := mb_4) (oe := oe_4) (le := le_4) (mo := mo_4) (la := la_4) (rc := rc_4) (ps := ps) (wt := wt) (bs := bs) (gr := grp) (Pr := pr0) (ph := ph) (p := p) (l0 := l26) (m0 := m27) (z0 := 1) hp ppaI_0 (by omega) hpp hn4 (by omega) (ho4.up (by omega)) (hl4.up (by omega)) (hf4.up (by omega)) (by omega) (by omega)) (fun oc G2 h => by rcases h with ⟨_, _, _, h, _⟩ <;> exact ⟨_, h⟩) (by omega) m_PA_repeat ml_RD_193 im_PA_repeat se_PA_repeat c_PA hp.2.2 (Nat.le_of_ble_eq_true rfl) d_RD_append_179 rfl ?_
            intro v G92 hq
            rcases hq with ⟨sz293, mb294, oe295, hv, hfk, hlk, hsk, hNp, pNpaI_0, hq96, hq97, hq98⟩
            cases hv
            have hd_ := hfk.get hd_ (by decide)
            have hx := hfk.get hx (by decide)
            have hby_ := hfk.get hby_ (by decide)
            have hKg1 := hq97.get hfk hg1 (Or.inl hpg1) (by simp only [List.mem_cons, List.not_mem_nil, or_false, not_or]; exact (show g1 ≠ p from hgp))
            have hr1 := hfk.get hr1 (by decide)
            have hg1 := hKg1
            have hfz := hfz.tr hq97 (by simp)
            have popI_0 := popI_0.fz (o2 := o) hq97 (by intro y hy; simp only [List.mem_cons, List.not_mem_nil, or_false] at hy; omega)
            have ppaI_0 := pNpaI_0
            have hfr := hfr.tr hfk (by decide)
            have hlen := hlk.trans hlen
            have hsl := hsk.trans hsl
            have hp := hNp
            change ab_W _ _ _ G92 182 [some (vR d_), some (vR p), some (vz pl), some (vz 1), some (vz 0), some (vz 1)] [] _
            refine ab_goto (tgt := 192) d_RD_append_182 (by decide) ?_
            refine ab_aload_n d_RD_append_192 rfl ?_
            refine ab_getf (fs := [vR x, vR g1, vz dp, vz flg, vz grp, vR na, vR nl, vz l26, vz m27, vz bh28]) f_RD_23 d_RD_append_193 hd_.2.2 rfl ?_
            refine ab_aload_n d_RD_append_196 rfl ?_
            refine ab_callV (d' := d - 1) (as := [vR p]) (st := []) (r := _) (z_PA_pushInLastRow (o := o) (k := k_4) (v := v_4) (rg := rg_4) (pl := pl_4) (fl := fl_4) (ou := ou_4) (ls := ls_4) (bf := bf_4) (sz := sz293) (mb := mb294) (oe := oe295) (le := l26) (mo := m27) (la := 1) (rc := rc_4) (lr := ls3) (br := bf3) (sr := sz3) (mr := mb3) (ps := ps) (wt := wt) (bs := bs) (gr := grp) (Pr := pr0) (ph := ph) (r := r1) (p := p) (kg := k_2) (vg := v_2) (rgg := rg_2) (plg := pl_2) (flg := fl_2) (oug := ou_2) (bfg := bf_2) (szg := sz_2) (mbg := mb_2) (oeg := oe_2) (leg := le_2) (mog := mo_2) (lag := la_2) (rcg := rc_2) (q := g1) hg1 hp hr1 ppaI_0 (by omega) hgp hpg1 hpp hpr1 hn4 (by omega) (by omega) (ho4.up (by omega)) (hl4.up (by omega)) (hf4.up (by omega)) (hlv1.up (by omega)) (hf3.up (by omega)) (hlv1.up (by omega)) (by omega) (by omega)) (fun oc G2 h => by rcases h with ⟨_, _, h, _⟩ <;> exact ⟨_, h⟩) (by omega) m_PA_pushInLastRow ml_RD_197 im_PA_pushInLastRow se_PA_pushInLastRow c_PA hg1.2.2 (Nat.le_of_ble_eq_true rfl) d_RD_append_197 rfl ?_
            intro v G99 hq
            rcases hq with ⟨sr2100, mr2101, hv, hfk, hlk, hsk, hNg1, hNp, hNr1, pNpaI_0, hq102, hq103, hq104⟩
            cases hv
            have hd_ := hfk.get hd_ (by decide)
            have hx := hfk.get hx (by decide)
            have hby_ := hfk.get hby_ (by decide)
            have hfz := hfz.tr hq103 (by simp)
            have popI_0 := popI_0.fz (o2 := o) hq103 (by intro y hy; simp only [List.mem_cons, List.not_mem_nil, or_false] at hy; omega)
            have ppaI_0 := pNpaI_0
            have hfr := hfr.tr hfk (by decide)
            have hlen := hlk.trans hlen
            have hsl := hsk.trans hsl
            have hg1 := hNg1
            have hp := hNp
            have hr1 := hNr1
            change ab_W _ _ _ G99 200 [some (vR d_), some (vR p), some (vz pl), some (vz 1), some (vz 0), some (vz 1)] [] _
            have pszI_0 : szI o G99 0 ps k G99.length (vR g1) wh 0 := (szI.appC hj1 hsz9 hpa9 hfz hg9 hp9 hr9 hp hr1 hpr1 (by omega) (by omega) (by omega) (by omega) (by omega) hq98 hq104).up (by omega)
            have popI_0 : opI o G99 0 ps (j1 + 1) G99.length (vR g1) := ⟨g1, r1, ou_2, (vR p), rfl, ⟨hpg1, hpr1⟩, ⟨by omega, by omega⟩, by unfold pf; rw [hg1.2.2]; rfl, by unfold pf; rw [hg1.2.2]; rfl, by unfold pf; rw [hr1.2.2]; rfl, (Or.inr ⟨_, rfl, hpp, by have hlt := hp.lt; omega⟩), popI_0⟩
            rw [← hj1] at popI_0
            refine ab_vret rfl d_RD_append_200 ?_
            rw [hQ]; exact ⟨_, _, _, _, _, _, _, _, rfl, hfr, hlen, hsl, hd_, hx, ppaI_0, popI_0, pszI_0, (by omega), (by omega), (by omega)⟩
      · refine ab_aload_n d_RD_append_53 rfl ?_
        refine ab_getf (fs := [vR x, vR g1, vz dp, vz flg, vz grp, vR na, vR nl, vz l26, vz m27, vz bh28]) f_RD_187 d_RD_append_54 hd_.2.2 rfl ?_
        refine zz_bipush d_RD_append_57 (by decide) ?_
        refine zz_icmp_gt (tgt := 73) d_RD_append_59 (by decide) (by omega) (by decide) (fun c105 => ?_) (fun c105 => ?_)
        · refine zz_iconst d_RD_append_73 ?_
          refine ab_goto (tgt := 78) d_RD_append_74 (by decide) ?_
          refine ab_istore d_RD_append_78 (Nat.le_of_ble_eq_true rfl) (Nat.le_of_ble_eq_true rfl) rfl ?_
          change ab_W _ _ _ G5 80 [some (vR d_), some (vR p), some (vz pl), some (vz 1), some (vz 1), none] [] _
          refine ab_iload_n d_RD_append_80 rfl ?_
          refine zz_if_eq (tgt := 101) d_RD_append_81 (by decide) (by decide) (fun c106 => absurd c106 (by decide)) (fun c106 => ?_)
          refine ab_iload d_RD_append_84 rfl ?_
          refine zz_if_eq (tgt := 101) d_RD_append_86 (by decide) (by decide) (fun c107 => absurd c107 (by decide)) (fun c107 => ?_)
          refine ab_aload_n d_RD_append_89 rfl ?_
          refine ab_getf (fs := [vR x, vR g1, vz dp, vz flg, vz grp, vR na, vR nl, vz l26, vz m27, vz bh28]) f_RD_12 d_RD_append_90 hd_.2.2 rfl ?_
          refine zz_bipush d_RD_append_93 (by decide) ?_
          refine ab_iload_n d_RD_append_95 rfl ?_
          refine ab_callV (d' := d - 1) (as := [vz 9, vz pl]) (st := []) (r := _) (z_TX_fail (o := o) (x := x) (lx := 24) (se := se) (by_ := by_) (n := n) (pl := pl) (fa := fa) (fp := fp) (kd := kd) (kn := kn) (w := 9) (p := pl) hx (by omega) (by omega) (by omega)) (fun oc G2 h => by rcases h with ⟨h, _⟩ | ⟨h, _⟩ <;> exact ⟨_, h⟩) (by omega) m_TX_fail ml_RD_69 im_TX_fail se_TX_fail c_TX hx.2.2 (Nat.le_of_ble_eq_true rfl) d_RD_append_96 rfl ?_
          intro v G108 hq
          rcases hq with ⟨hv, hfk, hlk, hsk, hNx, hq109⟩ | ⟨hv, hGe, hq110⟩
          · cases hv
            have hd_ := hfk.get hd_ (by decide)
            have hby_ := hfk.get hby_ (by decide)
            have hg1 := hfk.get hg1 (by decide)
            have hr1 := hfk.get hr1 (by decide)
            have hp := hfk.get hp (by decide)
            have hfz := hfz.tr (fz.fx ppaI_0 hfk (by decide) (by decide)) (by simp)
            have pszI_0 := szI.fr hfk ppaI_0 pszI_0 (by decide) (by decide)
            have popI_0 := opI.fr hfk ppaI_0 popI_0 (by decide) (by decide)
            have ppaI_0 := paI.fr hfk ppaI_0 (by decide) (by decide) (by decide) (by decide)
            have hfr := hfr.tr hfk (by decide)
            have hlen := hlk.trans hlen
            have hsl := hsk.trans hsl
            have hx := hNx
            change ab_W _ _ _ G108 99 [some (vR d_), some (vR p), some (vz pl), some (vz 1), some (vz 1), none] [vz (-1)] _
            refine ab_pop d_RD_append_99 rfl ?_
            have pszI_0 := pszI_0.drop.up (hi2 := G108.length) (by omega)
            have popI_0 : opI o G108 0 ps (j1 + 1) G108.length (vR g1) := ⟨g1, r1, ou_2, ls3, rfl, ⟨hpg1, hpr1⟩, ⟨by omega, by omega⟩, by unfold pf; rw [hg1.2.2]; rfl, by unfold pf; rw [hg1.2.2]; rfl, by unfold pf; rw [hr1.2.2]; rfl, (hlv1.up (by omega)), popI_0⟩
            rw [← hj1] at popI_0
            refine ab_vret rfl d_RD_append_100 ?_
            rw [hQ]; exact ⟨_, _, _, _, _, _, _, _, rfl, hfr, hlen, hsl, hd_, hx, ppaI_0, popI_0, pszI_0, (by omega), (by omega), (by omega)⟩
          · cases hv
            rw [hGe]
            change ab_W _ _ _ G5 99 [some (vR d_), some (vR p), some (vz pl), some (vz 1), some (vz 1), none] [vz (-1)] _
            refine ab_pop d_RD_append_99 rfl ?_
            have pszI_0 := pszI_0.drop.up (hi2 := G5.length) (by omega)
            have popI_0 : opI o G5 0 ps (j1 + 1) G5.length (vR g1) := ⟨g1, r1, ou_2, ls3, rfl, ⟨hpg1, hpr1⟩, ⟨by omega, by omega⟩, by unfold pf; rw [hg1.2.2]; rfl, by unfold pf; rw [hg1.2.2]; rfl, by unfold pf; rw [hr1.2.2]; rfl, (hlv1.up (by omega)), popI_0⟩
            rw [← hj1] at popI_0
            refine ab_vret rfl d_RD_append_100 ?_
            rw [hQ]; exact ⟨_, _, _, _, _, _, _, _, rfl, hfr, hlen, hsl, hd_, hx, ppaI_0, popI_0, pszI_0, (by omega), (by omega), (by omega)⟩
        · refine ab_aload_n d_RD_append_62 rfl ?_
          refine ab_getf (fs := [vR x, vR g1, vz dp, vz flg, vz grp, vR na, vR nl, vz l26, vz m27, vz bh28]) f_RD_184 d_RD_append_63 hd_.2.2 rfl ?_
          refine ab_aload_n d_RD_append_66 rfl ?_
          refine ab_getf (fs := [vR x, vR g1, vz dp, vz flg, vz grp, vR na, vR nl, vz l26, vz m27, vz bh28]) f_RD_187 d_RD_append_67 hd_.2.2 rfl ?_
          refine zz_icmp_le (tgt := 77) d_RD_append_70 (by decide) (by omega) (by omega) (fun c111 => ?_) (fun c111 => ?_)
          · refine zz_iconst d_RD_append_77 ?_
            refine ab_istore d_RD_append_78 (Nat.le_of_ble_eq_true rfl) (Nat.le_of_ble_eq_true rfl) rfl ?_
            change ab_W _ _ _ G5 80 [some (vR d_), some (vR p), some (vz pl), some (vz 1), some (vz 0), none] [] _
            refine ab_iload_n d_RD_append_80 rfl ?_
            refine zz_if_eq (tgt := 101) d_RD_append_81 (by decide) (by decide) (fun c112 => absurd c112 (by decide)) (fun c112 => ?_)
            refine ab_iload d_RD_append_84 rfl ?_
            refine zz_if_eq (tgt := 101) d_RD_append_86 (by decide) (by decide) (fun c113 => ?_) (fun c113 => absurd c113 (by decide))
            refine ab_aload_n d_RD_append_101 rfl ?_
            refine ab_getf (fs := [vR x, vR g1, vz dp, vz flg, vz grp, vR na, vR nl, vz l26, vz m27, vz bh28]) f_RD_12 d_RD_append_102 hd_.2.2 rfl ?_
            refine ab_aload_n d_RD_append_105 rfl ?_
            refine ab_getf (fs := [vR x, vR g1, vz dp, vz flg, vz grp, vR na, vR nl, vz l26, vz m27, vz bh28]) f_RD_190 d_RD_append_106 hd_.2.2 rfl ?_
            refine ab_putf (fs := [vR se, vR by_, vz n, vz pl, vz fa, vz fp, vR kd, vz kn]) f_RD_55 (Or.inl rfl) d_RD_append_109 hx.2.2 (Nat.le_of_ble_eq_true rfl) (fun _ => ⟨rfl, rfl⟩) (hx.2.1 (by decide)) ?_
            obtain ⟨G114, eG114⟩ : ∃ z : ab_G, z = List.set G5 x (ab_ob 10 [vR se, vR by_, vz n, vz bh28, vz fa, vz fp, vR kd, vz kn]) := ⟨_, rfl⟩
            have hd_ := hd_.keep hx eG114 (by decide)
            have hby_ := hby_.keep hx eG114 (by decide)
            have hg1 := hg1.keep hx eG114 (by decide)
            have hr1 := hr1.keep hx eG114 (by decide)
            have hp := hp.keep hx eG114 (by decide)
            have hfz := hfz.wl ppaI_0 hx eG114 (by decide)
            have hst := (fx.rf (o := o) (S := [24]) (G := G5)).wr hx eG114 (List.mem_singleton.mpr rfl)
            have pszI_0 := szI.fr hst ppaI_0 pszI_0 (by decide) (by decide)
            have popI_0 := opI.fr hst ppaI_0 popI_0 (by decide) (by decide)
            have ppaI_0 := paI.fr hst ppaI_0 (by decide) (by decide) (by decide) (by decide)
            have hlen := (z_len eG114).trans hlen
            have hsl := (z_sl hx eG114 rfl).trans hsl
            have hfr := hfr.wr hx eG114 (by decide)
            have hx := hx.kept eG114
            change ab_W _ _ _ (List.set G5 x (ab_ob 10 [vR se, vR by_, vz n, vz bh28, vz fa, vz fp, vR kd, vz kn])) 112 [some (vR d_), some (vR p), some (vz pl), some (vz 1), some (vz 0), none] [] _
            rw [← eG114]
            refine ab_aload_n d_RD_append_112 rfl ?_
            refine ab_getf (fs := [vR x, vR g1, vz dp, vz flg, vz grp, vR na, vR nl, vz l26, vz m27, vz bh28]) f_RD_12 d_RD_append_113 hd_.2.2 rfl ?_
            refine zz_iconst d_RD_append_116 ?_
            refine ab_callV (d' := d - 1) (as := [vz 0]) (st := []) (r := _) (z_TX_peek0 (o := o) (x := x) (lx := 24) (se := se) (by_ := by_) (lby := 23) (m := m) (f := f) (n := n) (pl := bh28) (fa := fa) (fp := fp) (kd := kd) (kn := kn) hx hby_ (by omega) hb) (fun oc G2 h => by rcases h with ⟨_, h, _⟩ <;> exact ⟨_, h⟩) (by omega) m_TX_peek ml_RD_79 im_TX_peek se_TX_peek c_TX hx.2.2 (Nat.le_of_ble_eq_true rfl) d_RD_append_117 rfl ?_
            intro v G115 hq
            rcases hq with ⟨v116, hv, hGe, hq117, hq118⟩
            cases hv
            rw [hGe]
            change ab_W _ _ _ G114 120 [some (vR d_), some (vR p), some (vz pl), some (vz 1), some (vz 0), none] [vz v116] _
            refine zz_bipush d_RD_append_120 (by decide) ?_
            refine zz_icmp_ne (tgt := 129) d_RD_append_122 (by decide) (by omega) (by decide) (fun c119 => ?_) (fun c119 => ?_)
            · refine zz_iconst d_RD_append_129 ?_
              refine ab_istore d_RD_append_130 (Nat.le_of_ble_eq_true rfl) (Nat.le_of_ble_eq_true rfl) rfl ?_
              change ab_W _ _ _ G114 132 [some (vR d_), some (vR p), some (vz pl), some (vz 1), some (vz 0), some (vz 0)] [] _
              refine ab_aload_n d_RD_append_132 rfl ?_
              refine ab_getf (fs := [vR x, vR g1, vz dp, vz flg, vz grp, vR na, vR nl, vz l26, vz m27, vz bh28]) f_RD_12 d_RD_append_133 hd_.2.2 rfl ?_
              refine ab_dup d_RD_append_136 rfl ?_
              refine ab_getf (fs := [vR se, vR by_, vz n, vz bh28, vz fa, vz fp, vR kd, vz kn]) f_RD_55 d_RD_append_137 hx.2.2 rfl ?_
              refine ab_iload d_RD_append_140 rfl ?_
              refine zz_if_eq (tgt := 149) d_RD_append_142 (by decide) (by decide) (fun c120 => ?_) (fun c120 => absurd c120 (by decide))
              refine zz_iconst d_RD_append_149 ?_
              refine zz_iadd d_RD_append_150 ?_
              refine ab_putf (fs := [vR se, vR by_, vz n, vz bh28, vz fa, vz fp, vR kd, vz kn]) f_RD_55 (Or.inl rfl) d_RD_append_151 hx.2.2 (Nat.le_of_ble_eq_true rfl) (fun _ => ⟨rfl, rfl⟩) (hx.2.1 (by decide)) ?_
              obtain ⟨G121, eG121⟩ : ∃ z : ab_G, z = List.set G114 x (ab_ob 10 [vR se, vR by_, vz n, vz (bh28 + 0), vz fa, vz fp, vR kd, vz kn]) := ⟨_, rfl⟩
              have hd_ := hd_.keep hx eG121 (by decide)
              have hby_ := hby_.keep hx eG121 (by decide)
              have hg1 := hg1.keep hx eG121 (by decide)
              have hr1 := hr1.keep hx eG121 (by decide)
              have hp := hp.keep hx eG121 (by decide)
              have hfz := hfz.wl ppaI_0 hx eG121 (by decide)
              have hst := (fx.rf (o := o) (S := [24]) (G := G114)).wr hx eG121 (List.mem_singleton.mpr rfl)
              have pszI_0 := szI.fr hst ppaI_0 pszI_0 (by decide) (by decide)
              have popI_0 := opI.fr hst ppaI_0 popI_0 (by decide) (by decide)
              have ppaI_0 := paI.fr hst ppaI_0 (by decide) (by decide) (by decide) (by decide)
              have hlen := (z_len eG121).trans hlen
              have hsl := (z_sl hx eG121 rfl).trans hsl
              have hfr := hfr.wr hx eG121 (by decide)
              have hx := hx.kept eG121
              change ab_W _ _ _ (List.set G114 x (ab_ob 10 [vR se, vR by_, vz n, vz (bh28 + 0), vz fa, vz fp, vR kd, vz kn])) 154 [some (vR d_), some (vR p), some (vz pl), some (vz 1), some (vz 0), some (vz 0)] [] _
              rw [← eG121]
              refine ab_aload_n d_RD_append_154 rfl ?_
              refine ab_aload_n d_RD_append_155 rfl ?_
              refine ab_getf (fs := [vR x, vR g1, vz dp, vz flg, vz grp, vR na, vR nl, vz l26, vz m27, vz bh28]) f_RD_184 d_RD_append_156 hd_.2.2 rfl ?_
              refine ab_aload_n d_RD_append_159 rfl ?_
              refine ab_getf (fs := [vR x, vR g1, vz dp, vz flg, vz grp, vR na, vR nl, vz l26, vz m27, vz bh28]) f_RD_187 d_RD_append_160 hd_.2.2 rfl ?_
              refine ab_iload d_RD_append_163 rfl ?_
              refine ab_aload_n d_RD_append_165 rfl ?_
              refine zz_bipush d_RD_append_166 (by decide) ?_
              refine ab_callV (d' := d - 1) (as := [vz 8]) (st := [vz 0, vz m27, vz l26, vR p]) (r := _) (z8_RD_isOn (o := o) (d_ := d_) (inn := vR g1) (dp := dp) (flg := flg) (grp := grp) (na := na) (nl := nl) (lst := l26) (mst := m27) (bh := bh28) (x := x) hd_ (by omega)) (fun oc G2 h => by rcases h with ⟨_, h, _⟩ <;> exact ⟨_, h⟩) (by omega) m_RD_isOn ml_RD_94 im_RD_isOn se_RD_isOn c_RD hd_.2.2 (Nat.le_of_ble_eq_true rfl) d_RD_append_168 rfl ?_
              intro v G122 hq
              rcases hq with ⟨v123, hv, hGe, hq124⟩
              cases hv
              rw [hGe]
              change ab_W _ _ _ G121 171 [some (vR d_), some (vR p), some (vz pl), some (vz 1), some (vz 0), some (vz 0)] [vz v123, vz 0, vz m27, vz l26, vR p] _
              refine zz_icmp_eq (tgt := 178) d_RD_append_171 (by decide) (by decide) (by omega) (fun c125 => ?_) (fun c125 => ?_)
              · refine zz_iconst d_RD_append_178 ?_
                refine ab_callV (d' := d - 1) (as := [vz l26, vz m27, vz 0]) (st := []) (r := _) (z_PA_repeat (o := o) (k := k_4) (v := v_4) (rg := rg_4) (pl := pl_4) (fl := fl_4) (ou := ou_4) (ls := ls_4) (bf := bf_4) (sz := sz_4) (mb := mb_4) (oe := oe_4) (le := le_4) (mo := mo_4) (la := la_4) (rc := rc_4) (ps := ps) (wt := wt) (bs := bs) (gr := grp) (Pr := pr0) (ph := ph) (p := p) (l0 := l26) (m0 := m27) (z0 := 0) hp ppaI_0 (by omega) hpp hn4 (by omega) (ho4.up (by omega)) (hl4.up (by omega)) (hf4.up (by omega)) (by omega) (by omega)) (fun oc G2 h => by rcases h with ⟨_, _, _, h, _⟩ <;> exact ⟨_, h⟩) (by omega) m_PA_repeat ml_RD_193 im_PA_repeat se_PA_repeat c_PA hp.2.2 (Nat.le_of_ble_eq_true rfl) d_RD_append_179 rfl ?_
                intro v G126 hq
                rcases hq with ⟨sz2127, mb2128, oe2129, hv, hfk, hlk, hsk, hNp, pNpaI_0, hq130, hq131, hq132⟩
                cases hv
                have hd_ := hfk.get hd_ (by decide)
                have hx := hfk.get hx (by decide)
                have hby_ := hfk.get hby_ (by decide)
                have hKg1 := hq131.get hfk hg1 (Or.inl hpg1) (by simp only [List.mem_cons, List.not_mem_nil, or_false, not_or]; exact (show g1 ≠ p from hgp))
                have hr1 := hfk.get hr1 (by decide)
                have hg1 := hKg1
                have hfz := hfz.tr hq131 (by simp)
                have popI_0 := popI_0.fz (o2 := o) hq131 (by intro y hy; simp only [List.mem_cons, List.not_mem_nil, or_false] at hy; omega)
                have ppaI_0 := pNpaI_0
                have hfr := hfr.tr hfk (by decide)
                have hlen := hlk.trans hlen
                have hsl := hsk.trans hsl
                have hp := hNp
                change ab_W _ _ _ G126 182 [some (vR d_), some (vR p), some (vz pl), some (vz 1), some (vz 0), some (vz 0)] [] _
                refine ab_goto (tgt := 192) d_RD_append_182 (by decide) ?_
                refine ab_aload_n d_RD_append_192 rfl ?_
                refine ab_getf (fs := [vR x, vR g1, vz dp, vz flg, vz grp, vR na, vR nl, vz l26, vz m27, vz bh28]) f_RD_23 d_RD_append_193 hd_.2.2 rfl ?_
                refine ab_aload_n d_RD_append_196 rfl ?_
                refine ab_callV (d' := d - 1) (as := [vR p]) (st := []) (r := _) (z_PA_pushInLastRow (o := o) (k := k_4) (v := v_4) (rg := rg_4) (pl := pl_4) (fl := fl_4) (ou := ou_4) (ls := ls_4) (bf := bf_4) (sz := sz2127) (mb := mb2128) (oe := oe2129) (le := l26) (mo := m27) (la := 0) (rc := rc_4) (lr := ls3) (br := bf3) (sr := sz3) (mr := mb3) (ps := ps) (wt := wt) (bs := bs) (gr := grp) (Pr := pr0) (ph := ph) (r := r1) (p := p) (kg := k_2) (vg := v_2) (rgg := rg_2) (plg := pl_2) (flg := fl_2) (oug := ou_2) (bfg := bf_2) (szg := sz_2) (mbg := mb_2) (oeg := oe_2) (leg := le_2) (mog := mo_2) (lag := la_2) (rcg := rc_2) (q := g1) hg1 hp hr1 ppaI_0 (by omega) hgp hpg1 hpp hpr1 hn4 (by omega) (by omega) (ho4.up (by omega)) (hl4.up (by omega)) (hf4.up (by omega)) (hlv1.up (by omega)) (hf3.up (by omega)) (hlv1.up (by omega)) (by omega) (by omega)) (fun oc G2 h => by rcases h with ⟨_, _, h, _⟩ <;> exact ⟨_, h⟩) (by omega) m_PA_pushInLastRow ml_RD_197 im_PA_pushInLastRow se_PA_pushInLastRow c_PA hg1.2.2 (Nat.le_of_ble_eq_true rfl) d_RD_append_197 rfl ?_
                intro v G133 hq
                rcases hq with ⟨sr2134, mr2135, hv, hfk, hlk, hsk, hNg1, hNp, hNr1, pNpaI_0, hq136, hq137, hq138⟩
                cases hv
                have hd_ := hfk.get hd_ (by decide)
                have hx := hfk.get hx (by decide)
                have hby_ := hfk.get hby_ (by decide)
                have hfz := hfz.tr hq137 (by simp)
                have popI_0 := popI_0.fz (o2 := o) hq137 (by intro y hy; simp only [List.mem_cons, List.not_mem_nil, or_false] at hy; omega)
                have ppaI_0 := pNpaI_0
                have hfr := hfr.tr hfk (by decide)
                have hlen := hlk.trans hlen
                have hsl := hsk.trans hsl
                have hg1 := hNg1
                have hp := hNp
                have hr1 := hNr1
                change ab_W _ _ _ G133 200 [some (vR d_), some (vR p), some (vz pl), some (vz 1), some (vz 0), some (vz 0)] [] _
                have pszI_0 : szI o G133 0 ps k G133.length (vR g1) wh 0 := (szI.appC hj1 hsz9 hpa9 hfz hg9 hp9 hr9 hp hr1 hpr1 (by omega) (by omega) (by omega) (by omega) (by omega) hq132 hq138).up (by omega)
                have popI_0 : opI o G133 0 ps (j1 + 1) G133.length (vR g1) := ⟨g1, r1, ou_2, (vR p), rfl, ⟨hpg1, hpr1⟩, ⟨by omega, by omega⟩, by unfold pf; rw [hg1.2.2]; rfl, by unfold pf; rw [hg1.2.2]; rfl, by unfold pf; rw [hr1.2.2]; rfl, (Or.inr ⟨_, rfl, hpp, by have hlt := hp.lt; omega⟩), popI_0⟩
                rw [← hj1] at popI_0
                refine ab_vret rfl d_RD_append_200 ?_
                rw [hQ]; exact ⟨_, _, _, _, _, _, _, _, rfl, hfr, hlen, hsl, hd_, hx, ppaI_0, popI_0, pszI_0, (by omega), (by omega), (by omega)⟩
              · refine zz_iconst d_RD_append_174 ?_
                refine ab_goto (tgt := 179) d_RD_append_175 (by decide) ?_
                refine ab_callV (d' := d - 1) (as := [vz l26, vz m27, vz 1]) (st := []) (r := _) (z_PA_repeat (o := o) (k := k_4) (v := v_4) (rg := rg_4) (pl := pl_4) (fl := fl_4) (ou := ou_4) (ls := ls_4) (bf := bf_4) (sz := sz_4) (mb := mb_4) (oe := oe_4) (le := le_4) (mo := mo_4) (la := la_4) (rc := rc_4) (ps := ps) (wt := wt) (bs := bs) (gr := grp) (Pr := pr0) (ph := ph) (p := p) (l0 := l26) (m0 := m27) (z0 := 1) hp ppaI_0 (by omega) hpp hn4 (by omega) (ho4.up (by omega)) (hl4.up (by omega)) (hf4.up (by omega)) (by omega) (by omega)) (fun oc G2 h => by rcases h with ⟨_, _, _, h, _⟩ <;> exact ⟨_, h⟩) (by omega) m_PA_repeat ml_RD_193 im_PA_repeat se_PA_repeat c_PA hp.2.2 (Nat.le_of_ble_eq_true rfl) d_RD_append_179 rfl ?_
                intro v G139 hq
                rcases hq with ⟨sz2140, mb2141, oe2142, hv, hfk, hlk, hsk, hNp, pNpaI_0, hq143, hq144, hq145⟩
                cases hv
                have hd_ := hfk.get hd_ (by decide)
                have hx := hfk.get hx (by decide)
                have hby_ := hfk.get hby_ (by decide)
                have hKg1 := hq144.get hfk hg1 (Or.inl hpg1) (by simp only [List.mem_cons, List.not_mem_nil, or_false, not_or]; exact (show g1 ≠ p from hgp))
                have hr1 := hfk.get hr1 (by decide)
                have hg1 := hKg1
                have hfz := hfz.tr hq144 (by simp)
                have popI_0 := popI_0.fz (o2 := o) hq144 (by intro y hy; simp only [List.mem_cons, List.not_mem_nil, or_false] at hy; omega)
                have ppaI_0 := pNpaI_0
                have hfr := hfr.tr hfk (by decide)
                have hlen := hlk.trans hlen
                have hsl := hsk.trans hsl
                have hp := hNp
                change ab_W _ _ _ G139 182 [some (vR d_), some (vR p), some (vz pl), some (vz 1), some (vz 0), some (vz 0)] [] _
                refine ab_goto (tgt := 192) d_RD_append_182 (by decide) ?_
                refine ab_aload_n d_RD_append_192 rfl ?_
                refine ab_getf (fs := [vR x, vR g1, vz dp, vz flg, vz grp, vR na, vR nl, vz l26, vz m27, vz bh28]) f_RD_23 d_RD_append_193 hd_.2.2 rfl ?_
                refine ab_aload_n d_RD_append_196 rfl ?_
                refine ab_callV (d' := d - 1) (as := [vR p]) (st := []) (r := _) (z_PA_pushInLastRow (o := o) (k := k_4) (v := v_4) (rg := rg_4) (pl := pl_4) (fl := fl_4) (ou := ou_4) (ls := ls_4) (bf := bf_4) (sz := sz2140) (mb := mb2141) (oe := oe2142) (le := l26) (mo := m27) (la := 1) (rc := rc_4) (lr := ls3) (br := bf3) (sr := sz3) (mr := mb3) (ps := ps) (wt := wt) (bs := bs) (gr := grp) (Pr := pr0) (ph := ph) (r := r1) (p := p) (kg := k_2) (vg := v_2) (rgg := rg_2) (plg := pl_2) (flg := fl_2) (oug := ou_2) (bfg := bf_2) (szg := sz_2) (mbg := mb_2) (oeg := oe_2) (leg := le_2) (mog := mo_2) (lag := la_2) (rcg := rc_2) (q := g1) hg1 hp hr1 ppaI_0 (by omega) hgp hpg1 hpp hpr1 hn4 (by omega) (by omega) (ho4.up (by omega)) (hl4.up (by omega)) (hf4.up (by omega)) (hlv1.up (by omega)) (hf3.up (by omega)) (hlv1.up (by omega)) (by omega) (by omega)) (fun oc G2 h => by rcases h with ⟨_, _, h, _⟩ <;> exact ⟨_, h⟩) (by omega) m_PA_pushInLastRow ml_RD_197 im_PA_pushInLastRow se_PA_pushInLastRow c_PA hg1.2.2 (Nat.le_of_ble_eq_true rfl) d_RD_append_197 rfl ?_
                intro v G146 hq
                rcases hq with ⟨sr2147, mr2148, hv, hfk, hlk, hsk, hNg1, hNp, hNr1, pNpaI_0, hq149, hq150, hq151⟩
                cases hv
                have hd_ := hfk.get hd_ (by decide)
                have hx := hfk.get hx (by decide)
                have hby_ := hfk.get hby_ (by decide)
                have hfz := hfz.tr hq150 (by simp)
                have popI_0 := popI_0.fz (o2 := o) hq150 (by intro y hy; simp only [List.mem_cons, List.not_mem_nil, or_false] at hy; omega)
                have ppaI_0 := pNpaI_0
                have hfr := hfr.tr hfk (by decide)
                have hlen := hlk.trans hlen
                have hsl := hsk.trans hsl
                have hg1 := hNg1
                have hp := hNp
                have hr1 := hNr1
                change ab_W _ _ _ G146 200 [some (vR d_), some (vR p), some (vz pl), some (vz 1), some (vz 0), some (vz 0)] [] _
                have pszI_0 : szI o G146 0 ps k G146.length (vR g1) wh 0 := (szI.appC hj1 hsz9 hpa9 hfz hg9 hp9 hr9 hp hr1 hpr1 (by omega) (by omega) (by omega) (by omega) (by omega) hq145 hq151).up (by omega)
                have popI_0 : opI o G146 0 ps (j1 + 1) G146.length (vR g1) := ⟨g1, r1, ou_2, (vR p), rfl, ⟨hpg1, hpr1⟩, ⟨by omega, by omega⟩, by unfold pf; rw [hg1.2.2]; rfl, by unfold pf; rw [hg1.2.2]; rfl, by unfold pf; rw [hr1.2.2]; rfl, (Or.inr ⟨_, rfl, hpp, by have hlt := hp.lt; omega⟩), popI_0⟩
                rw [← hj1] at popI_0
                refine ab_vret rfl d_RD_append_200 ?_
                rw [hQ]; exact ⟨_, _, _, _, _, _, _, _, rfl, hfr, hlen, hsl, hd_, hx, ppaI_0, popI_0, pszI_0, (by omega), (by omega), (by omega)⟩
            · refine zz_iconst d_RD_append_125 ?_
              refine ab_goto (tgt := 130) d_RD_append_126 (by decide) ?_
              refine ab_istore d_RD_append_130 (Nat.le_of_ble_eq_true rfl) (Nat.le_of_ble_eq_true rfl) rfl ?_
              change ab_W _ _ _ G114 132 [some (vR d_), some (vR p), some (vz pl), some (vz 1), some (vz 0), some (vz 1)] [] _
              refine ab_aload_n d_RD_append_132 rfl ?_
              refine ab_getf (fs := [vR x, vR g1, vz dp, vz flg, vz grp, vR na, vR nl, vz l26, vz m27, vz bh28]) f_RD_12 d_RD_append_133 hd_.2.2 rfl ?_
              refine ab_dup d_RD_append_136 rfl ?_
              refine ab_getf (fs := [vR se, vR by_, vz n, vz bh28, vz fa, vz fp, vR kd, vz kn]) f_RD_55 d_RD_append_137 hx.2.2 rfl ?_
              refine ab_iload d_RD_append_140 rfl ?_
              refine zz_if_eq (tgt := 149) d_RD_append_142 (by decide) (by decide) (fun c152 => absurd c152 (by decide)) (fun c152 => ?_)
              refine zz_iconst d_RD_append_145 ?_
              refine ab_goto (tgt := 150) d_RD_append_146 (by decide) ?_
              refine zz_iadd d_RD_append_150 ?_
              refine ab_putf (fs := [vR se, vR by_, vz n, vz bh28, vz fa, vz fp, vR kd, vz kn]) f_RD_55 (Or.inl rfl) d_RD_append_151 hx.2.2 (Nat.le_of_ble_eq_true rfl) (fun _ => ⟨rfl, rfl⟩) (hx.2.1 (by decide)) ?_
              obtain ⟨G153, eG153⟩ : ∃ z : ab_G, z = List.set G114 x (ab_ob 10 [vR se, vR by_, vz n, vz (bh28 + 1), vz fa, vz fp, vR kd, vz kn]) := ⟨_, rfl⟩
              have hd_ := hd_.keep hx eG153 (by decide)
              have hby_ := hby_.keep hx eG153 (by decide)
              have hg1 := hg1.keep hx eG153 (by decide)
              have hr1 := hr1.keep hx eG153 (by decide)
              have hp := hp.keep hx eG153 (by decide)
              have hfz := hfz.wl ppaI_0 hx eG153 (by decide)
              have hst := (fx.rf (o := o) (S := [24]) (G := G114)).wr hx eG153 (List.mem_singleton.mpr rfl)
              have pszI_0 := szI.fr hst ppaI_0 pszI_0 (by decide) (by decide)
              have popI_0 := opI.fr hst ppaI_0 popI_0 (by decide) (by decide)
              have ppaI_0 := paI.fr hst ppaI_0 (by decide) (by decide) (by decide) (by decide)
              have hlen := (z_len eG153).trans hlen
              have hsl := (z_sl hx eG153 rfl).trans hsl
              have hfr := hfr.wr hx eG153 (by decide)
              have hx := hx.kept eG153
              change ab_W _ _ _ (List.set G114 x (ab_ob 10 [vR se, vR by_, vz n, vz (bh28 + 1), vz fa, vz fp, vR kd, vz kn])) 154 [some (vR d_), some (vR p), some (vz pl), some (vz 1), some (vz 0), some (vz 1)] [] _
              rw [← eG153]
              refine ab_aload_n d_RD_append_154 rfl ?_
              refine ab_aload_n d_RD_append_155 rfl ?_
              refine ab_getf (fs := [vR x, vR g1, vz dp, vz flg, vz grp, vR na, vR nl, vz l26, vz m27, vz bh28]) f_RD_184 d_RD_append_156 hd_.2.2 rfl ?_
              refine ab_aload_n d_RD_append_159 rfl ?_
              refine ab_getf (fs := [vR x, vR g1, vz dp, vz flg, vz grp, vR na, vR nl, vz l26, vz m27, vz bh28]) f_RD_187 d_RD_append_160 hd_.2.2 rfl ?_
              refine ab_iload d_RD_append_163 rfl ?_
              refine ab_aload_n d_RD_append_165 rfl ?_
              refine zz_bipush d_RD_append_166 (by decide) ?_
              refine ab_callV (d' := d - 1) (as := [vz 8]) (st := [vz 1, vz m27, vz l26, vR p]) (r := _) (z8_RD_isOn (o := o) (d_ := d_) (inn := vR g1) (dp := dp) (flg := flg) (grp := grp) (na := na) (nl := nl) (lst := l26) (mst := m27) (bh := bh28) (x := x) hd_ (by omega)) (fun oc G2 h => by rcases h with ⟨_, h, _⟩ <;> exact ⟨_, h⟩) (by omega) m_RD_isOn ml_RD_94 im_RD_isOn se_RD_isOn c_RD hd_.2.2 (Nat.le_of_ble_eq_true rfl) d_RD_append_168 rfl ?_
              intro v G154 hq
              rcases hq with ⟨v155, hv, hGe, hq156⟩
              cases hv
              rw [hGe]
              change ab_W _ _ _ G153 171 [some (vR d_), some (vR p), some (vz pl), some (vz 1), some (vz 0), some (vz 1)] [vz v155, vz 1, vz m27, vz l26, vR p] _
              refine zz_icmp_eq (tgt := 178) d_RD_append_171 (by decide) (by decide) (by omega) (fun c157 => ?_) (fun c157 => ?_)
              · refine zz_iconst d_RD_append_178 ?_
                refine ab_callV (d' := d - 1) (as := [vz l26, vz m27, vz 0]) (st := []) (r := _) (z_PA_repeat (o := o) (k := k_4) (v := v_4) (rg := rg_4) (pl := pl_4) (fl := fl_4) (ou := ou_4) (ls := ls_4) (bf := bf_4) (sz := sz_4) (mb := mb_4) (oe := oe_4) (le := le_4) (mo := mo_4) (la := la_4) (rc := rc_4) (ps := ps) (wt := wt) (bs := bs) (gr := grp) (Pr := pr0) (ph := ph) (p := p) (l0 := l26) (m0 := m27) (z0 := 0) hp ppaI_0 (by omega) hpp hn4 (by omega) (ho4.up (by omega)) (hl4.up (by omega)) (hf4.up (by omega)) (by omega) (by omega)) (fun oc G2 h => by rcases h with ⟨_, _, _, h, _⟩ <;> exact ⟨_, h⟩) (by omega) m_PA_repeat ml_RD_193 im_PA_repeat se_PA_repeat c_PA hp.2.2 (Nat.le_of_ble_eq_true rfl) d_RD_append_179 rfl ?_
                intro v G158 hq
                rcases hq with ⟨sz2159, mb2160, oe2161, hv, hfk, hlk, hsk, hNp, pNpaI_0, hq162, hq163, hq164⟩
                cases hv
                have hd_ := hfk.get hd_ (by decide)
                have hx := hfk.get hx (by decide)
                have hby_ := hfk.get hby_ (by decide)
                have hKg1 := hq163.get hfk hg1 (Or.inl hpg1) (by simp only [List.mem_cons, List.not_mem_nil, or_false, not_or]; exact (show g1 ≠ p from hgp))
                have hr1 := hfk.get hr1 (by decide)
                have hg1 := hKg1
                have hfz := hfz.tr hq163 (by simp)
                have popI_0 := popI_0.fz (o2 := o) hq163 (by intro y hy; simp only [List.mem_cons, List.not_mem_nil, or_false] at hy; omega)
                have ppaI_0 := pNpaI_0
                have hfr := hfr.tr hfk (by decide)
                have hlen := hlk.trans hlen
                have hsl := hsk.trans hsl
                have hp := hNp
                change ab_W _ _ _ G158 182 [some (vR d_), some (vR p), some (vz pl), some (vz 1), some (vz 0), some (vz 1)] [] _
                refine ab_goto (tgt := 192) d_RD_append_182 (by decide) ?_
                refine ab_aload_n d_RD_append_192 rfl ?_
                refine ab_getf (fs := [vR x, vR g1, vz dp, vz flg, vz grp, vR na, vR nl, vz l26, vz m27, vz bh28]) f_RD_23 d_RD_append_193 hd_.2.2 rfl ?_
                refine ab_aload_n d_RD_append_196 rfl ?_
                refine ab_callV (d' := d - 1) (as := [vR p]) (st := []) (r := _) (z_PA_pushInLastRow (o := o) (k := k_4) (v := v_4) (rg := rg_4) (pl := pl_4) (fl := fl_4) (ou := ou_4) (ls := ls_4) (bf := bf_4) (sz := sz2159) (mb := mb2160) (oe := oe2161) (le := l26) (mo := m27) (la := 0) (rc := rc_4) (lr := ls3) (br := bf3) (sr := sz3) (mr := mb3) (ps := ps) (wt := wt) (bs := bs) (gr := grp) (Pr := pr0) (ph := ph) (r := r1) (p := p) (kg := k_2) (vg := v_2) (rgg := rg_2) (plg := pl_2) (flg := fl_2) (oug := ou_2) (bfg := bf_2) (szg := sz_2) (mbg := mb_2) (oeg := oe_2) (leg := le_2) (mog := mo_2) (lag := la_2) (rcg := rc_2) (q := g1) hg1 hp hr1 ppaI_0 (by omega) hgp hpg1 hpp hpr1 hn4 (by omega) (by omega) (ho4.up (by omega)) (hl4.up (by omega)) (hf4.up (by omega)) (hlv1.up (by omega)) (hf3.up (by omega)) (hlv1.up (by omega)) (by omega) (by omega)) (fun oc G2 h => by rcases h with ⟨_, _, h, _⟩ <;> exact ⟨_, h⟩) (by omega) m_PA_pushInLastRow ml_RD_197 im_PA_pushInLastRow se_PA_pushInLastRow c_PA hg1.2.2 (Nat.le_of_ble_eq_true rfl) d_RD_append_197 rfl ?_
                intro v G165 hq
                rcases hq with ⟨sr2166, mr2167, hv, hfk, hlk, hsk, hNg1, hNp, hNr1, pNpaI_0, hq168, hq169, hq170⟩
                cases hv
                have hd_ := hfk.get hd_ (by decide)
                have hx := hfk.get hx (by decide)
                have hby_ := hfk.get hby_ (by decide)
                have hfz := hfz.tr hq169 (by simp)
                have popI_0 := popI_0.fz (o2 := o) hq169 (by intro y hy; simp only [List.mem_cons, List.not_mem_nil, or_false] at hy; omega)
                have ppaI_0 := pNpaI_0
                have hfr := hfr.tr hfk (by decide)
                have hlen := hlk.trans hlen
                have hsl := hsk.trans hsl
                have hg1 := hNg1
                have hp := hNp
                have hr1 := hNr1
                change ab_W _ _ _ G165 200 [some (vR d_), some (vR p), some (vz pl), some (vz 1), some (vz 0), some (vz 1)] [] _
                have pszI_0 : szI o G165 0 ps k G165.length (vR g1) wh 0 := (szI.appC hj1 hsz9 hpa9 hfz hg9 hp9 hr9 hp hr1 hpr1 (by omega) (by omega) (by omega) (by omega) (by omega) hq164 hq170).up (by omega)
                have popI_0 : opI o G165 0 ps (j1 + 1) G165.length (vR g1) := ⟨g1, r1, ou_2, (vR p), rfl, ⟨hpg1, hpr1⟩, ⟨by omega, by omega⟩, by unfold pf; rw [hg1.2.2]; rfl, by unfold pf; rw [hg1.2.2]; rfl, by unfold pf; rw [hr1.2.2]; rfl, (Or.inr ⟨_, rfl, hpp, by have hlt := hp.lt; omega⟩), popI_0⟩
                rw [← hj1] at popI_0
                refine ab_vret rfl d_RD_append_200 ?_
                rw [hQ]; exact ⟨_, _, _, _, _, _, _, _, rfl, hfr, hlen, hsl, hd_, hx, ppaI_0, popI_0, pszI_0, (by omega), (by omega), (by omega)⟩
              · refine zz_iconst d_RD_append_174 ?_
                refine ab_goto (tgt := 179) d_RD_append_175 (by decide) ?_
                refine ab_callV (d' := d - 1) (as := [vz l26, vz m27, vz 1]) (st := []) (r := _) (z_PA_repeat (o := o) (k := k_4) (v := v_4) (rg := rg_4) (pl := pl_4) (fl := fl_4) (ou := ou_4) (ls := ls_4) (bf := bf_4) (sz := sz_4) (mb := mb_4) (oe := oe_4) (le := le_4) (mo := mo_4) (la := la_4) (rc := rc_4) (ps := ps) (wt := wt) (bs := bs) (gr := grp) (Pr := pr0) (ph := ph) (p := p) (l0 := l26) (m0 := m27) (z0 := 1) hp ppaI_0 (by omega) hpp hn4 (by omega) (ho4.up (by omega)) (hl4.up (by omega)) (hf4.up (by omega)) (by omega) (by omega)) (fun oc G2 h => by rcases h with ⟨_, _, _, h, _⟩ <;> exact ⟨_, h⟩) (by omega) m_PA_repeat ml_RD_193 im_PA_repeat se_PA_repeat c_PA hp.2.2 (Nat.le_of_ble_eq_true rfl) d_RD_append_179 rfl ?_
                intro v G171 hq
                rcases hq with ⟨sz2172, mb2173, oe2174, hv, hfk, hlk, hsk, hNp, pNpaI_0, hq175, hq176, hq177⟩
                cases hv
                have hd_ := hfk.get hd_ (by decide)
                have hx := hfk.get hx (by decide)
                have hby_ := hfk.get hby_ (by decide)
                have hKg1 := hq176.get hfk hg1 (Or.inl hpg1) (by simp only [List.mem_cons, List.not_mem_nil, or_false, not_or]; exact (show g1 ≠ p from hgp))
                have hr1 := hfk.get hr1 (by decide)
                have hg1 := hKg1
                have hfz := hfz.tr hq176 (by simp)
                have popI_0 := popI_0.fz (o2 := o) hq176 (by intro y hy; simp only [List.mem_cons, List.not_mem_nil, or_false] at hy; omega)
                have ppaI_0 := pNpaI_0
                have hfr := hfr.tr hfk (by decide)
                have hlen := hlk.trans hlen
                have hsl := hsk.trans hsl
                have hp := hNp
                change ab_W _ _ _ G171 182 [some (vR d_), some (vR p), some (vz pl), some (vz 1), some (vz 0), some (vz 1)] [] _
                refine ab_goto (tgt := 192) d_RD_append_182 (by decide) ?_
                refine ab_aload_n d_RD_append_192 rfl ?_
                refine ab_getf (fs := [vR x, vR g1, vz dp, vz flg, vz grp, vR na, vR nl, vz l26, vz m27, vz bh28]) f_RD_23 d_RD_append_193 hd_.2.2 rfl ?_
                refine ab_aload_n d_RD_append_196 rfl ?_
                refine ab_callV (d' := d - 1) (as := [vR p]) (st := []) (r := _) (z_PA_pushInLastRow (o := o) (k := k_4) (v := v_4) (rg := rg_4) (pl := pl_4) (fl := fl_4) (ou := ou_4) (ls := ls_4) (bf := bf_4) (sz := sz2172) (mb := mb2173) (oe := oe2174) (le := l26) (mo := m27) (la := 1) (rc := rc_4) (lr := ls3) (br := bf3) (sr := sz3) (mr := mb3) (ps := ps) (wt := wt) (bs := bs) (gr := grp) (Pr := pr0) (ph := ph) (r := r1) (p := p) (kg := k_2) (vg := v_2) (rgg := rg_2) (plg := pl_2) (flg := fl_2) (oug := ou_2) (bfg := bf_2) (szg := sz_2) (mbg := mb_2) (oeg := oe_2) (leg := le_2) (mog := mo_2) (lag := la_2) (rcg := rc_2) (q := g1) hg1 hp hr1 ppaI_0 (by omega) hgp hpg1 hpp hpr1 hn4 (by omega) (by omega) (ho4.up (by omega)) (hl4.up (by omega)) (hf4.up (by omega)) (hlv1.up (by omega)) (hf3.up (by omega)) (hlv1.up (by omega)) (by omega) (by omega)) (fun oc G2 h => by rcases h with ⟨_, _, h, _⟩ <;> exact ⟨_, h⟩) (by omega) m_PA_pushInLastRow ml_RD_197 im_PA_pushInLastRow se_PA_pushInLastRow c_PA hg1.2.2 (Nat.le_of_ble_eq_true rfl) d_RD_append_197 rfl ?_
                intro v G178 hq
                rcases hq with ⟨sr2179, mr2180, hv, hfk, hlk, hsk, hNg1, hNp, hNr1, pNpaI_0, hq181, hq182, hq183⟩
                cases hv
                have hd_ := hfk.get hd_ (by decide)
                have hx := hfk.get hx (by decide)
                have hby_ := hfk.get hby_ (by decide)
                have hfz := hfz.tr hq182 (by simp)
                have popI_0 := popI_0.fz (o2 := o) hq182 (by intro y hy; simp only [List.mem_cons, List.not_mem_nil, or_false] at hy; omega)
                have ppaI_0 := pNpaI_0
                have hfr := hfr.tr hfk (by decide)
                have hlen := hlk.trans hlen
                have hsl := hsk.trans hsl
                have hg1 := hNg1
                have hp := hNp
                have hr1 := hNr1
                change ab_W _ _ _ G178 200 [some (vR d_), some (vR p), some (vz pl), some (vz 1), some (vz 0), some (vz 1)] [] _
                have pszI_0 : szI o G178 0 ps k G178.length (vR g1) wh 0 := (szI.appC hj1 hsz9 hpa9 hfz hg9 hp9 hr9 hp hr1 hpr1 (by omega) (by omega) (by omega) (by omega) (by omega) hq177 hq183).up (by omega)
                have popI_0 : opI o G178 0 ps (j1 + 1) G178.length (vR g1) := ⟨g1, r1, ou_2, (vR p), rfl, ⟨hpg1, hpr1⟩, ⟨by omega, by omega⟩, by unfold pf; rw [hg1.2.2]; rfl, by unfold pf; rw [hg1.2.2]; rfl, by unfold pf; rw [hr1.2.2]; rfl, (Or.inr ⟨_, rfl, hpp, by have hlt := hp.lt; omega⟩), popI_0⟩
                rw [← hj1] at popI_0
                refine ab_vret rfl d_RD_append_200 ?_
                rw [hQ]; exact ⟨_, _, _, _, _, _, _, _, rfl, hfr, hlen, hsl, hd_, hx, ppaI_0, popI_0, pszI_0, (by omega), (by omega), (by omega)⟩
          · refine zz_iconst d_RD_append_73 ?_
            refine ab_goto (tgt := 78) d_RD_append_74 (by decide) ?_
            refine ab_istore d_RD_append_78 (Nat.le_of_ble_eq_true rfl) (Nat.le_of_ble_eq_true rfl) rfl ?_
            change ab_W _ _ _ G5 80 [some (vR d_), some (vR p), some (vz pl), some (vz 1), some (vz 1), none] [] _
            refine ab_iload_n d_RD_append_80 rfl ?_
            refine zz_if_eq (tgt := 101) d_RD_append_81 (by decide) (by decide) (fun c184 => absurd c184 (by decide)) (fun c184 => ?_)
            refine ab_iload d_RD_append_84 rfl ?_
            refine zz_if_eq (tgt := 101) d_RD_append_86 (by decide) (by decide) (fun c185 => absurd c185 (by decide)) (fun c185 => ?_)
            refine ab_aload_n d_RD_append_89 rfl ?_
            refine ab_getf (fs := [vR x, vR g1, vz dp, vz flg, vz grp, vR na, vR nl, vz l26, vz m27, vz bh28]) f_RD_12 d_RD_append_90 hd_.2.2 rfl ?_
            refine zz_bipush d_RD_append_93 (by decide) ?_
            refine ab_iload_n d_RD_append_95 rfl ?_
            refine ab_callV (d' := d - 1) (as := [vz 9, vz pl]) (st := []) (r := _) (z_TX_fail (o := o) (x := x) (lx := 24) (se := se) (by_ := by_) (n := n) (pl := pl) (fa := fa) (fp := fp) (kd := kd) (kn := kn) (w := 9) (p := pl) hx (by omega) (by omega) (by omega)) (fun oc G2 h => by rcases h with ⟨h, _⟩ | ⟨h, _⟩ <;> exact ⟨_, h⟩) (by omega) m_TX_fail ml_RD_69 im_TX_fail se_TX_fail c_TX hx.2.2 (Nat.le_of_ble_eq_true rfl) d_RD_append_96 rfl ?_
            intro v G186 hq
            rcases hq with ⟨hv, hfk, hlk, hsk, hNx, hq187⟩ | ⟨hv, hGe, hq188⟩
            · cases hv
              have hd_ := hfk.get hd_ (by decide)
              have hby_ := hfk.get hby_ (by decide)
              have hg1 := hfk.get hg1 (by decide)
              have hr1 := hfk.get hr1 (by decide)
              have hp := hfk.get hp (by decide)
              have hfz := hfz.tr (fz.fx ppaI_0 hfk (by decide) (by decide)) (by simp)
              have pszI_0 := szI.fr hfk ppaI_0 pszI_0 (by decide) (by decide)
              have popI_0 := opI.fr hfk ppaI_0 popI_0 (by decide) (by decide)
              have ppaI_0 := paI.fr hfk ppaI_0 (by decide) (by decide) (by decide) (by decide)
              have hfr := hfr.tr hfk (by decide)
              have hlen := hlk.trans hlen
              have hsl := hsk.trans hsl
              have hx := hNx
              change ab_W _ _ _ G186 99 [some (vR d_), some (vR p), some (vz pl), some (vz 1), some (vz 1), none] [vz (-1)] _
              refine ab_pop d_RD_append_99 rfl ?_
              have pszI_0 := pszI_0.drop.up (hi2 := G186.length) (by omega)
              have popI_0 : opI o G186 0 ps (j1 + 1) G186.length (vR g1) := ⟨g1, r1, ou_2, ls3, rfl, ⟨hpg1, hpr1⟩, ⟨by omega, by omega⟩, by unfold pf; rw [hg1.2.2]; rfl, by unfold pf; rw [hg1.2.2]; rfl, by unfold pf; rw [hr1.2.2]; rfl, (hlv1.up (by omega)), popI_0⟩
              rw [← hj1] at popI_0
              refine ab_vret rfl d_RD_append_100 ?_
              rw [hQ]; exact ⟨_, _, _, _, _, _, _, _, rfl, hfr, hlen, hsl, hd_, hx, ppaI_0, popI_0, pszI_0, (by omega), (by omega), (by omega)⟩
            · cases hv
              rw [hGe]
              change ab_W _ _ _ G5 99 [some (vR d_), some (vR p), some (vz pl), some (vz 1), some (vz 1), none] [vz (-1)] _
              refine ab_pop d_RD_append_99 rfl ?_
              have pszI_0 := pszI_0.drop.up (hi2 := G5.length) (by omega)
              have popI_0 : opI o G5 0 ps (j1 + 1) G5.length (vR g1) := ⟨g1, r1, ou_2, ls3, rfl, ⟨hpg1, hpr1⟩, ⟨by omega, by omega⟩, by unfold pf; rw [hg1.2.2]; rfl, by unfold pf; rw [hg1.2.2]; rfl, by unfold pf; rw [hr1.2.2]; rfl, (hlv1.up (by omega)), popI_0⟩
              rw [← hj1] at popI_0
              refine ab_vret rfl d_RD_append_100 ?_
              rw [hQ]; exact ⟨_, _, _, _, _, _, _, _, rfl, hfr, hlen, hsl, hd_, hx, ppaI_0, popI_0, pszI_0, (by omega), (by omega), (by omega)⟩
  · cases hv
    have hx := hfk.get hx (by decide)
    have hby_ := hfk.get hby_ (by decide)
    have hg1 := hfk.get hg1 (by decide)
    have hr1 := hfk.get hr1 (by decide)
    have hp := hfk.get hp (by decide)
    have hfz := hfz.tr (fz.fx ppaI_0 hfk (by decide) (by decide)) (by simp)
    have pszI_0 := szI.fr hfk ppaI_0 pszI_0 (by decide) (by decide)
    have popI_0 := opI.fr hfk ppaI_0 popI_0 (by decide) (by decide)
    have ppaI_0 := paI.fr hfk ppaI_0 (by decide) (by decide) (by decide) (by decide)
    have hfr := hfr.tr hfk (by decide)
    have hlen := hlk.trans hlen
    have hsl := hsk.trans hsl
    have hd_ := hNd_
    change ab_W _ _ _ G5 4 [some (vR d_), some (vR p), none, none, none, none] [vz 1] _
    refine zz_if_eq (tgt := 185) d_RD_append_4 (by decide) (by decide) (fun c189 => absurd c189 (by decide)) (fun c189 => ?_)
    refine ab_aload_n d_RD_append_7 rfl ?_
    refine ab_getf (fs := [vR x, vR g1, vz dp, vz flg, vz grp, vR na, vR nl, vz l211, vz m212, vz bh213]) f_RD_12 d_RD_append_8 hd_.2.2 rfl ?_
    refine ab_getf (fs := [vR se, vR by_, vz n, vz pl, vz fa, vz fp, vR kd, vz kn]) f_RD_55 d_RD_append_11 hx.2.2 rfl ?_
    refine ab_istore_n d_RD_append_14 (Nat.le_of_ble_eq_true rfl) (Nat.le_of_ble_eq_true rfl) rfl ?_
    change ab_W _ _ _ G5 15 [some (vR d_), some (vR p), some (vz pl), none, none, none] [] _
    refine ab_aload_n d_RD_append_15 rfl ?_
    refine ab_getf (fs := [vR x, vR g1, vz dp, vz flg, vz grp, vR na, vR nl, vz l211, vz m212, vz bh213]) f_RD_12 d_RD_append_16 hd_.2.2 rfl ?_
    refine zz_iconst d_RD_append_19 ?_
    refine ab_callV (d' := d - 1) (as := [vz 0]) (st := []) (r := _) (z_TX_peek0 (o := o) (x := x) (lx := 24) (se := se) (by_ := by_) (lby := 23) (m := m) (f := f) (n := n) (pl := pl) (fa := fa) (fp := fp) (kd := kd) (kn := kn) hx hby_ (by omega) hb) (fun oc G2 h => by rcases h with ⟨_, h, _⟩ <;> exact ⟨_, h⟩) (by omega) m_TX_peek ml_RD_79 im_TX_peek se_TX_peek c_TX hx.2.2 (Nat.le_of_ble_eq_true rfl) d_RD_append_20 rfl ?_
    intro v G190 hq
    rcases hq with ⟨v191, hv, hGe, hq192, hq193⟩
    cases hv
    rw [hGe]
    change ab_W _ _ _ G5 23 [some (vR d_), some (vR p), some (vz pl), none, none, none] [vz v191] _
    refine zz_bipush d_RD_append_23 (by decide) ?_
    refine zz_icmp_ne (tgt := 32) d_RD_append_25 (by decide) (by omega) (by decide) (fun c194 => ?_) (fun c194 => absurd c194 (by omega))
    refine zz_iconst d_RD_append_32 ?_
    refine ab_istore_n d_RD_append_33 (Nat.le_of_ble_eq_true rfl) (Nat.le_of_ble_eq_true rfl) rfl ?_
    change ab_W _ _ _ G5 34 [some (vR d_), some (vR p), some (vz pl), some (vz 0), none, none] [] _
    refine ab_aload_n d_RD_append_34 rfl ?_
    refine ab_getf (fs := [vR x, vR g1, vz dp, vz flg, vz grp, vR na, vR nl, vz l211, vz m212, vz bh213]) f_RD_184 d_RD_append_35 hd_.2.2 rfl ?_
    refine zz_bipush d_RD_append_38 (by decide) ?_
    refine zz_icmp_gt (tgt := 73) d_RD_append_40 (by decide) (by omega) (by decide) (fun c195 => absurd c195 (by omega)) (fun c195 => ?_)
    refine ab_aload_n d_RD_append_43 rfl ?_
    refine ab_getf (fs := [vR x, vR g1, vz dp, vz flg, vz grp, vR na, vR nl, vz l211, vz m212, vz bh213]) f_RD_187 d_RD_append_44 hd_.2.2 rfl ?_
    refine zz_sipush d_RD_append_47 (by decide) ?_
    refine zz_icmp_eq (tgt := 77) d_RD_append_50 (by decide) (by omega) (by decide) (fun c196 => ?_) (fun c196 => ?_)
    · refine zz_iconst d_RD_append_77 ?_
      refine ab_istore d_RD_append_78 (Nat.le_of_ble_eq_true rfl) (Nat.le_of_ble_eq_true rfl) rfl ?_
      change ab_W _ _ _ G5 80 [some (vR d_), some (vR p), some (vz pl), some (vz 0), some (vz 0), none] [] _
      refine ab_iload_n d_RD_append_80 rfl ?_
      refine zz_if_eq (tgt := 101) d_RD_append_81 (by decide) (by decide) (fun c197 => ?_) (fun c197 => absurd c197 (by decide))
      refine ab_aload_n d_RD_append_101 rfl ?_
      refine ab_getf (fs := [vR x, vR g1, vz dp, vz flg, vz grp, vR na, vR nl, vz l211, vz m212, vz bh213]) f_RD_12 d_RD_append_102 hd_.2.2 rfl ?_
      refine ab_aload_n d_RD_append_105 rfl ?_
      refine ab_getf (fs := [vR x, vR g1, vz dp, vz flg, vz grp, vR na, vR nl, vz l211, vz m212, vz bh213]) f_RD_190 d_RD_append_106 hd_.2.2 rfl ?_
      refine ab_putf (fs := [vR se, vR by_, vz n, vz pl, vz fa, vz fp, vR kd, vz kn]) f_RD_55 (Or.inl rfl) d_RD_append_109 hx.2.2 (Nat.le_of_ble_eq_true rfl) (fun _ => ⟨rfl, rfl⟩) (hx.2.1 (by decide)) ?_
      obtain ⟨G198, eG198⟩ : ∃ z : ab_G, z = List.set G5 x (ab_ob 10 [vR se, vR by_, vz n, vz bh213, vz fa, vz fp, vR kd, vz kn]) := ⟨_, rfl⟩
      have hd_ := hd_.keep hx eG198 (by decide)
      have hby_ := hby_.keep hx eG198 (by decide)
      have hg1 := hg1.keep hx eG198 (by decide)
      have hr1 := hr1.keep hx eG198 (by decide)
      have hp := hp.keep hx eG198 (by decide)
      have hfz := hfz.wl ppaI_0 hx eG198 (by decide)
      have hst := (fx.rf (o := o) (S := [24]) (G := G5)).wr hx eG198 (List.mem_singleton.mpr rfl)
      have pszI_0 := szI.fr hst ppaI_0 pszI_0 (by decide) (by decide)
      have popI_0 := opI.fr hst ppaI_0 popI_0 (by decide) (by decide)
      have ppaI_0 := paI.fr hst ppaI_0 (by decide) (by decide) (by decide) (by decide)
      have hlen := (z_len eG198).trans hlen
      have hsl := (z_sl hx eG198 rfl).trans hsl
      have hfr := hfr.wr hx eG198 (by decide)
      have hx := hx.kept eG198
      change ab_W _ _ _ (List.set G5 x (ab_ob 10 [vR se, vR by_, vz n, vz bh213, vz fa, vz fp, vR kd, vz kn])) 112 [some (vR d_), some (vR p), some (vz pl), some (vz 0), some (vz 0), none] [] _
      rw [← eG198]
      refine ab_aload_n d_RD_append_112 rfl ?_
      refine ab_getf (fs := [vR x, vR g1, vz dp, vz flg, vz grp, vR na, vR nl, vz l211, vz m212, vz bh213]) f_RD_12 d_RD_append_113 hd_.2.2 rfl ?_
      refine zz_iconst d_RD_append_116 ?_
      refine ab_callV (d' := d - 1) (as := [vz 0]) (st := []) (r := _) (z_TX_peek0 (o := o) (x := x) (lx := 24) (se := se) (by_ := by_) (lby := 23) (m := m) (f := f) (n := n) (pl := bh213) (fa := fa) (fp := fp) (kd := kd) (kn := kn) hx hby_ (by omega) hb) (fun oc G2 h => by rcases h with ⟨_, h, _⟩ <;> exact ⟨_, h⟩) (by omega) m_TX_peek ml_RD_79 im_TX_peek se_TX_peek c_TX hx.2.2 (Nat.le_of_ble_eq_true rfl) d_RD_append_117 rfl ?_
      intro v G199 hq
      rcases hq with ⟨v200, hv, hGe, hq201, hq202⟩
      cases hv
      rw [hGe]
      change ab_W _ _ _ G198 120 [some (vR d_), some (vR p), some (vz pl), some (vz 0), some (vz 0), none] [vz v200] _
      refine zz_bipush d_RD_append_120 (by decide) ?_
      refine zz_icmp_ne (tgt := 129) d_RD_append_122 (by decide) (by omega) (by decide) (fun c203 => ?_) (fun c203 => ?_)
      · refine zz_iconst d_RD_append_129 ?_
        refine ab_istore d_RD_append_130 (Nat.le_of_ble_eq_true rfl) (Nat.le_of_ble_eq_true rfl) rfl ?_
        change ab_W _ _ _ G198 132 [some (vR d_), some (vR p), some (vz pl), some (vz 0), some (vz 0), some (vz 0)] [] _
        refine ab_aload_n d_RD_append_132 rfl ?_
        refine ab_getf (fs := [vR x, vR g1, vz dp, vz flg, vz grp, vR na, vR nl, vz l211, vz m212, vz bh213]) f_RD_12 d_RD_append_133 hd_.2.2 rfl ?_
        refine ab_dup d_RD_append_136 rfl ?_
        refine ab_getf (fs := [vR se, vR by_, vz n, vz bh213, vz fa, vz fp, vR kd, vz kn]) f_RD_55 d_RD_append_137 hx.2.2 rfl ?_
        refine ab_iload d_RD_append_140 rfl ?_
        refine zz_if_eq (tgt := 149) d_RD_append_142 (by decide) (by decide) (fun c204 => ?_) (fun c204 => absurd c204 (by decide))
        refine zz_iconst d_RD_append_149 ?_
        refine zz_iadd d_RD_append_150 ?_
        refine ab_putf (fs := [vR se, vR by_, vz n, vz bh213, vz fa, vz fp, vR kd, vz kn]) f_RD_55 (Or.inl rfl) d_RD_append_151 hx.2.2 (Nat.le_of_ble_eq_true rfl) (fun _ => ⟨rfl, rfl⟩) (hx.2.1 (by decide)) ?_
        obtain ⟨G205, eG205⟩ : ∃ z : ab_G, z = List.set G198 x (ab_ob 10 [vR se, vR by_, vz n, vz (bh213 + 0), vz fa, vz fp, vR kd, vz kn]) := ⟨_, rfl⟩
        have hd_ := hd_.keep hx eG205 (by decide)
        have hby_ := hby_.keep hx eG205 (by decide)
        have hg1 := hg1.keep hx eG205 (by decide)
        have hr1 := hr1.keep hx eG205 (by decide)
        have hp := hp.keep hx eG205 (by decide)
        have hfz := hfz.wl ppaI_0 hx eG205 (by decide)
        have hst := (fx.rf (o := o) (S := [24]) (G := G198)).wr hx eG205 (List.mem_singleton.mpr rfl)
        have pszI_0 := szI.fr hst ppaI_0 pszI_0 (by decide) (by decide)
        have popI_0 := opI.fr hst ppaI_0 popI_0 (by decide) (by decide)
        have ppaI_0 := paI.fr hst ppaI_0 (by decide) (by decide) (by decide) (by decide)
        have hlen := (z_len eG205).trans hlen
        have hsl := (z_sl hx eG205 rfl).trans hsl
        have hfr := hfr.wr hx eG205 (by decide)
        have hx := hx.kept eG205
        change ab_W _ _ _ (List.set G198 x (ab_ob 10 [vR se, vR by_, vz n, vz (bh213 + 0), vz fa, vz fp, vR kd, vz kn])) 154 [some (vR d_), some (vR p), some (vz pl), some (vz 0), some (vz 0), some (vz 0)] [] _
        rw [← eG205]
        refine ab_aload_n d_RD_append_154 rfl ?_
        refine ab_aload_n d_RD_append_155 rfl ?_
        refine ab_getf (fs := [vR x, vR g1, vz dp, vz flg, vz grp, vR na, vR nl, vz l211, vz m212, vz bh213]) f_RD_184 d_RD_append_156 hd_.2.2 rfl ?_
        refine ab_aload_n d_RD_append_159 rfl ?_
        refine ab_getf (fs := [vR x, vR g1, vz dp, vz flg, vz grp, vR na, vR nl, vz l211, vz m212, vz bh213]) f_RD_187 d_RD_append_160 hd_.2.2 rfl ?_
        refine ab_iload d_RD_append_163 rfl ?_
        refine ab_aload_n d_RD_append_165 rfl ?_
        refine zz_bipush d_RD_append_166 (by decide) ?_
        refine ab_callV (d' := d - 1) (as := [vz 8]) (st := [vz 0, vz m212, vz l211, vR p]) (r := _) (z8_RD_isOn (o := o) (d_ := d_) (inn := vR g1) (dp := dp) (flg := flg) (grp := grp) (na := na) (nl := nl) (lst := l211) (mst := m212) (bh := bh213) (x := x) hd_ (by omega)) (fun oc G2 h => by rcases h with ⟨_, h, _⟩ <;> exact ⟨_, h⟩) (by omega) m_RD_isOn ml_RD_94 im_RD_isOn se_RD_isOn c_RD hd_.2.2 (Nat.le_of_ble_eq_true rfl) d_RD_append_168 rfl ?_
        intro v G206 hq
        rcases hq with ⟨v207, hv, hGe, hq208⟩
        cases hv
        rw [hGe]
        change ab_W _ _ _ G205 171 [some (vR d_), some (vR p), some (vz pl), some (vz 0), some (vz 0), some (vz 0)] [vz v207, vz 0, vz m212, vz l211, vR p] _
        refine zz_icmp_eq (tgt := 178) d_RD_append_171 (by decide) (by decide) (by omega) (fun c209 => ?_) (fun c209 => ?_)
        · refine zz_iconst d_RD_append_178 ?_
          refine ab_callV (d' := d - 1) (as := [vz l211, vz m212, vz 0]) (st := []) (r := _) (z_PA_repeat (o := o) (k := k_4) (v := v_4) (rg := rg_4) (pl := pl_4) (fl := fl_4) (ou := ou_4) (ls := ls_4) (bf := bf_4) (sz := sz_4) (mb := mb_4) (oe := oe_4) (le := le_4) (mo := mo_4) (la := la_4) (rc := rc_4) (ps := ps) (wt := wt) (bs := bs) (gr := grp) (Pr := pr0) (ph := ph) (p := p) (l0 := l211) (m0 := m212) (z0 := 0) hp ppaI_0 (by omega) hpp hn4 (by omega) (ho4.up (by omega)) (hl4.up (by omega)) (hf4.up (by omega)) (by omega) (by omega)) (fun oc G2 h => by rcases h with ⟨_, _, _, h, _⟩ <;> exact ⟨_, h⟩) (by omega) m_PA_repeat ml_RD_193 im_PA_repeat se_PA_repeat c_PA hp.2.2 (Nat.le_of_ble_eq_true rfl) d_RD_append_179 rfl ?_
          intro v G210 hq
          rcases hq with ⟨sz2211, mb2212, oe2213, hv, hfk, hlk, hsk, hNp, pNpaI_0, hq214, hq215, hq216⟩
          cases hv
          have hd_ := hfk.get hd_ (by decide)
          have hx := hfk.get hx (by decide)
          have hby_ := hfk.get hby_ (by decide)
          have hKg1 := hq215.get hfk hg1 (Or.inl hpg1) (by simp only [List.mem_cons, List.not_mem_nil, or_false, not_or]; exact (show g1 ≠ p from hgp))
          have hr1 := hfk.get hr1 (by decide)
          have hg1 := hKg1
          have hfz := hfz.tr hq215 (by simp)
          have popI_0 := popI_0.fz (o2 := o) hq215 (by intro y hy; simp only [List.mem_cons, List.not_mem_nil, or_false] at hy; omega)
          have ppaI_0 := pNpaI_0
          have hfr := hfr.tr hfk (by decide)
          have hlen := hlk.trans hlen
          have hsl := hsk.trans hsl
          have hp := hNp
          change ab_W _ _ _ G210 182 [some (vR d_), some (vR p), some (vz pl), some (vz 0), some (vz 0), some (vz 0)] [] _
          refine ab_goto (tgt := 192) d_RD_append_182 (by decide) ?_
          refine ab_aload_n d_RD_append_192 rfl ?_
          refine ab_getf (fs := [vR x, vR g1, vz dp, vz flg, vz grp, vR na, vR nl, vz l211, vz m212, vz bh213]) f_RD_23 d_RD_append_193 hd_.2.2 rfl ?_
          refine ab_aload_n d_RD_append_196 rfl ?_
          refine ab_callV (d' := d - 1) (as := [vR p]) (st := []) (r := _) (z_PA_pushInLastRow (o := o) (k := k_4) (v := v_4) (rg := rg_4) (pl := pl_4) (fl := fl_4) (ou := ou_4) (ls := ls_4) (bf := bf_4) (sz := sz2211) (mb := mb2212) (oe := oe2213) (le := l211) (mo := m212) (la := 0) (rc := rc_4) (lr := ls3) (br := bf3) (sr := sz3) (mr := mb3) (ps := ps) (wt := wt) (bs := bs) (gr := grp) (Pr := pr0) (ph := ph) (r := r1) (p := p) (kg := k_2) (vg := v_2) (rgg := rg_2) (plg := pl_2) (flg := fl_2) (oug := ou_2) (bfg := bf_2) (szg := sz_2) (mbg := mb_2) (oeg := oe_2) (leg := le_2) (mog := mo_2) (lag := la_2) (rcg := rc_2) (q := g1) hg1 hp hr1 ppaI_0 (by omega) hgp hpg1 hpp hpr1 hn4 (by omega) (by omega) (ho4.up (by omega)) (hl4.up (by omega)) (hf4.up (by omega)) (hlv1.up (by omega)) (hf3.up (by omega)) (hlv1.up (by omega)) (by omega) (by omega)) (fun oc G2 h => by rcases h with ⟨_, _, h, _⟩ <;> exact ⟨_, h⟩) (by omega) m_PA_pushInLastRow ml_RD_197 im_PA_pushInLastRow se_PA_pushInLastRow c_PA hg1.2.2 (Nat.le_of_ble_eq_true rfl) d_RD_append_197 rfl ?_
          intro v G217 hq
          rcases hq with ⟨sr2218, mr2219, hv, hfk, hlk, hsk, hNg1, hNp, hNr1, pNpaI_0, hq220, hq221, hq222⟩
          cases hv
          have hd_ := hfk.get hd_ (by decide)
          have hx := hfk.get hx (by decide)
          have hby_ := hfk.get hby_ (by decide)
          have hfz := hfz.tr hq221 (by simp)
          have popI_0 := popI_0.fz (o2 := o) hq221 (by intro y hy; simp only [List.mem_cons, List.not_mem_nil, or_false] at hy; omega)
          have ppaI_0 := pNpaI_0
          have hfr := hfr.tr hfk (by decide)
          have hlen := hlk.trans hlen
          have hsl := hsk.trans hsl
          have hg1 := hNg1
          have hp := hNp
          have hr1 := hNr1
          change ab_W _ _ _ G217 200 [some (vR d_), some (vR p), some (vz pl), some (vz 0), some (vz 0), some (vz 0)] [] _
          have pszI_0 : szI o G217 0 ps k G217.length (vR g1) wh 0 := (szI.appC hj1 hsz9 hpa9 hfz hg9 hp9 hr9 hp hr1 hpr1 (by omega) (by omega) (by omega) (by omega) (by omega) hq216 hq222).up (by omega)
          have popI_0 : opI o G217 0 ps (j1 + 1) G217.length (vR g1) := ⟨g1, r1, ou_2, (vR p), rfl, ⟨hpg1, hpr1⟩, ⟨by omega, by omega⟩, by unfold pf; rw [hg1.2.2]; rfl, by unfold pf; rw [hg1.2.2]; rfl, by unfold pf; rw [hr1.2.2]; rfl, (Or.inr ⟨_, rfl, hpp, by have hlt := hp.lt; omega⟩), popI_0⟩
          rw [← hj1] at popI_0
          refine ab_vret rfl d_RD_append_200 ?_
          rw [hQ]; exact ⟨_, _, _, _, _, _, _, _, rfl, hfr, hlen, hsl, hd_, hx, ppaI_0, popI_0, pszI_0, (by omega), (by omega), (by omega)⟩
        · refine zz_iconst d_RD_append_174 ?_
          refine ab_goto (tgt := 179) d_RD_append_175 (by decide) ?_
          refine ab_callV (d' := d - 1) (as := [vz l211, vz m212, vz 1]) (st := []) (r := _) (z_PA_repeat (o := o) (k := k_4) (v := v_4) (rg := rg_4) (pl := pl_4) (fl := fl_4) (ou := ou_4) (ls := ls_4) (bf := bf_4) (sz := sz_4) (mb := mb_4) (oe := oe_4) (le := le_4) (mo := mo_4) (la := la_4) (rc := rc_4) (ps := ps) (wt := wt) (bs := bs) (gr := grp) (Pr := pr0) (ph := ph) (p := p) (l0 := l211) (m0 := m212) (z0 := 1) hp ppaI_0 (by omega) hpp hn4 (by omega) (ho4.up (by omega)) (hl4.up (by omega)) (hf4.up (by omega)) (by omega) (by omega)) (fun oc G2 h => by rcases h with ⟨_, _, _, h, _⟩ <;> exact ⟨_, h⟩) (by omega) m_PA_repeat ml_RD_193 im_PA_repeat se_PA_repeat c_PA hp.2.2 (Nat.le_of_ble_eq_true rfl) d_RD_append_179 rfl ?_
          intro v G223 hq
          rcases hq with ⟨sz2224, mb2225, oe2226, hv, hfk, hlk, hsk, hNp, pNpaI_0, hq227, hq228, hq229⟩
          cases hv
          have hd_ := hfk.get hd_ (by decide)
          have hx := hfk.get hx (by decide)
          have hby_ := hfk.get hby_ (by decide)
          have hKg1 := hq228.get hfk hg1 (Or.inl hpg1) (by simp only [List.mem_cons, List.not_mem_nil, or_false, not_or]; exact (show g1 ≠ p from hgp))
          have hr1 := hfk.get hr1 (by decide)
          have hg1 := hKg1
          have hfz := hfz.tr hq228 (by simp)
          have popI_0 := popI_0.fz (o2 := o) hq228 (by intro y hy; simp only [List.mem_cons, List.not_mem_nil, or_false] at hy; omega)
          have ppaI_0 := pNpaI_0
          have hfr := hfr.tr hfk (by decide)
          have hlen := hlk.trans hlen
          have hsl := hsk.trans hsl
          have hp := hNp
          change ab_W _ _ _ G223 182 [some (vR d_), some (vR p), some (vz pl), some (vz 0), some (vz 0), some (vz 0)] [] _
          refine ab_goto (tgt := 192) d_RD_append_182 (by decide) ?_
          refine ab_aload_n d_RD_append_192 rfl ?_
          refine ab_getf (fs := [vR x, vR g1, vz dp, vz flg, vz grp, vR na, vR nl, vz l211, vz m212, vz bh213]) f_RD_23 d_RD_append_193 hd_.2.2 rfl ?_
          refine ab_aload_n d_RD_append_196 rfl ?_
          refine ab_callV (d' := d - 1) (as := [vR p]) (st := []) (r := _) (z_PA_pushInLastRow (o := o) (k := k_4) (v := v_4) (rg := rg_4) (pl := pl_4) (fl := fl_4) (ou := ou_4) (ls := ls_4) (bf := bf_4) (sz := sz2224) (mb := mb2225) (oe := oe2226) (le := l211) (mo := m212) (la := 1) (rc := rc_4) (lr := ls3) (br := bf3) (sr := sz3) (mr := mb3) (ps := ps) (wt := wt) (bs := bs) (gr := grp) (Pr := pr0) (ph := ph) (r := r1) (p := p) (kg := k_2) (vg := v_2) (rgg := rg_2) (plg := pl_2) (flg := fl_2) (oug := ou_2) (bfg := bf_2) (szg := sz_2) (mbg := mb_2) (oeg := oe_2) (leg := le_2) (mog := mo_2) (lag := la_2) (rcg := rc_2) (q := g1) hg1 hp hr1 ppaI_0 (by omega) hgp hpg1 hpp hpr1 hn4 (by omega) (by omega) (ho4.up (by omega)) (hl4.up (by omega)) (hf4.up (by omega)) (hlv1.up (by omega)) (hf3.up (by omega)) (hlv1.up (by omega)) (by omega) (by omega)) (fun oc G2 h => by rcases h with ⟨_, _, h, _⟩ <;> exact ⟨_, h⟩) (by omega) m_PA_pushInLastRow ml_RD_197 im_PA_pushInLastRow se_PA_pushInLastRow c_PA hg1.2.2 (Nat.le_of_ble_eq_true rfl) d_RD_append_197 rfl ?_
          intro v G230 hq
          rcases hq with ⟨sr2231, mr2232, hv, hfk, hlk, hsk, hNg1, hNp, hNr1, pNpaI_0, hq233, hq234, hq235⟩
          cases hv
          have hd_ := hfk.get hd_ (by decide)
          have hx := hfk.get hx (by decide)
          have hby_ := hfk.get hby_ (by decide)
          have hfz := hfz.tr hq234 (by simp)
          have popI_0 := popI_0.fz (o2 := o) hq234 (by intro y hy; simp only [List.mem_cons, List.not_mem_nil, or_false] at hy; omega)
          have ppaI_0 := pNpaI_0
          have hfr := hfr.tr hfk (by decide)
          have hlen := hlk.trans hlen
          have hsl := hsk.trans hsl
          have hg1 := hNg1
          have hp := hNp
          have hr1 := hNr1
          change ab_W _ _ _ G230 200 [some (vR d_), some (vR p), some (vz pl), some (vz 0), some (vz 0), some (vz 0)] [] _
          have pszI_0 : szI o G230 0 ps k G230.length (vR g1) wh 0 := (szI.appC hj1 hsz9 hpa9 hfz hg9 hp9 hr9 hp hr1 hpr1 (by omega) (by omega) (by omega) (by omega) (by omega) hq229 hq235).up (by omega)
          have popI_0 : opI o G230 0 ps (j1 + 1) G230.length (vR g1) := ⟨g1, r1, ou_2, (vR p), rfl, ⟨hpg1, hpr1⟩, ⟨by omega, by omega⟩, by unfold pf; rw [hg1.2.2]; rfl, by unfold pf; rw [hg1.2.2]; rfl, by unfold pf; rw [hr1.2.2]; rfl, (Or.inr ⟨_, rfl, hpp, by have hlt := hp.lt; omega⟩), popI_0⟩
          rw [← hj1] at popI_0
          refine ab_vret rfl d_RD_append_200 ?_
          rw [hQ]; exact ⟨_, _, _, _, _, _, _, _, rfl, hfr, hlen, hsl, hd_, hx, ppaI_0, popI_0, pszI_0, (by omega), (by omega), (by omega)⟩
      · refine zz_iconst d_RD_append_125 ?_
        refine ab_goto (tgt := 130) d_RD_append_126 (by decide) ?_
        refine ab_istore d_RD_append_130 (Nat.le_of_ble_eq_true rfl) (Nat.le_of_ble_eq_true rfl) rfl ?_
        change ab_W _ _ _ G198 132 [some (vR d_), some (vR p), some (vz pl), some (vz 0), some (vz 0), some (vz 1)] [] _
        refine ab_aload_n d_RD_append_132 rfl ?_
        refine ab_getf (fs := [vR x, vR g1, vz dp, vz flg, vz grp, vR na, vR nl, vz l211, vz m212, vz bh213]) f_RD_12 d_RD_append_133 hd_.2.2 rfl ?_
        refine ab_dup d_RD_append_136 rfl ?_
        refine ab_getf (fs := [vR se, vR by_, vz n, vz bh213, vz fa, vz fp, vR kd, vz kn]) f_RD_55 d_RD_append_137 hx.2.2 rfl ?_
        refine ab_iload d_RD_append_140 rfl ?_
        refine zz_if_eq (tgt := 149) d_RD_append_142 (by decide) (by decide) (fun c236 => absurd c236 (by decide)) (fun c236 => ?_)
        refine zz_iconst d_RD_append_145 ?_
        refine ab_goto (tgt := 150) d_RD_append_146 (by decide) ?_
        refine zz_iadd d_RD_append_150 ?_
        refine ab_putf (fs := [vR se, vR by_, vz n, vz bh213, vz fa, vz fp, vR kd, vz kn]) f_RD_55 (Or.inl rfl) d_RD_append_151 hx.2.2 (Nat.le_of_ble_eq_true rfl) (fun _ => ⟨rfl, rfl⟩) (hx.2.1 (by decide)) ?_
        obtain ⟨G237, eG237⟩ : ∃ z : ab_G, z = List.set G198 x (ab_ob 10 [vR se, vR by_, vz n, vz (bh213 + 1), vz fa, vz fp, vR kd, vz kn]) := ⟨_, rfl⟩
        have hd_ := hd_.keep hx eG237 (by decide)
        have hby_ := hby_.keep hx eG237 (by decide)
        have hg1 := hg1.keep hx eG237 (by decide)
        have hr1 := hr1.keep hx eG237 (by decide)
        have hp := hp.keep hx eG237 (by decide)
        have hfz := hfz.wl ppaI_0 hx eG237 (by decide)
        have hst := (fx.rf (o := o) (S := [24]) (G := G198)).wr hx eG237 (List.mem_singleton.mpr rfl)
        have pszI_0 := szI.fr hst ppaI_0 pszI_0 (by decide) (by decide)
        have popI_0 := opI.fr hst ppaI_0 popI_0 (by decide) (by decide)
        have ppaI_0 := paI.fr hst ppaI_0 (by decide) (by decide) (by decide) (by decide)
        have hlen := (z_len eG237).trans hlen
        have hsl := (z_sl hx eG237 rfl).trans hsl
        have hfr := hfr.wr hx eG237 (by decide)
        have hx := hx.kept eG237
        change ab_W _ _ _ (List.set G198 x (ab_ob 10 [vR se, vR by_, vz n, vz (bh213 + 1), vz fa, vz fp, vR kd, vz kn])) 154 [some (vR d_), some (vR p), some (vz pl), some (vz 0), some (vz 0), some (vz 1)] [] _
        rw [← eG237]
        refine ab_aload_n d_RD_append_154 rfl ?_
        refine ab_aload_n d_RD_append_155 rfl ?_
        refine ab_getf (fs := [vR x, vR g1, vz dp, vz flg, vz grp, vR na, vR nl, vz l211, vz m212, vz bh213]) f_RD_184 d_RD_append_156 hd_.2.2 rfl ?_
        refine ab_aload_n d_RD_append_159 rfl ?_
        refine ab_getf (fs := [vR x, vR g1, vz dp, vz flg, vz grp, vR na, vR nl, vz l211, vz m212, vz bh213]) f_RD_187 d_RD_append_160 hd_.2.2 rfl ?_
        refine ab_iload d_RD_append_163 rfl ?_
        refine ab_aload_n d_RD_append_165 rfl ?_
        refine zz_bipush d_RD_append_166 (by decide) ?_
        refine ab_callV (d' := d - 1) (as := [vz 8]) (st := [vz 1, vz m212, vz l211, vR p]) (r := _) (z8_RD_isOn (o := o) (d_ := d_) (inn := vR g1) (dp := dp) (flg := flg) (grp := grp) (na := na) (nl := nl) (lst := l211) (mst := m212) (bh := bh213) (x := x) hd_ (by omega)) (fun oc G2 h => by rcases h with ⟨_, h, _⟩ <;> exact ⟨_, h⟩) (by omega) m_RD_isOn ml_RD_94 im_RD_isOn se_RD_isOn c_RD hd_.2.2 (Nat.le_of_ble_eq_true rfl) d_RD_append_168 rfl ?_
        intro v G238 hq
        rcases hq with ⟨v239, hv, hGe, hq240⟩
        cases hv
        rw [hGe]
        change ab_W _ _ _ G237 171 [some (vR d_), some (vR p), some (vz pl), some (vz 0), some (vz 0), some (vz 1)] [vz v239, vz 1, vz m212, vz l211, vR p] _
        refine zz_icmp_eq (tgt := 178) d_RD_append_171 (by decide) (by decide) (by omega) (fun c241 => ?_) (fun c241 => ?_)
        · refine zz_iconst d_RD_append_178 ?_
          refine ab_callV (d' := d - 1) (as := [vz l211, vz m212, vz 0]) (st := []) (r := _) (z_PA_repeat (o := o) (k := k_4) (v := v_4) (rg := rg_4) (pl := pl_4) (fl := fl_4) (ou := ou_4) (ls := ls_4) (bf := bf_4) (sz := sz_4) (mb := mb_4) (oe := oe_4) (le := le_4) (mo := mo_4) (la := la_4) (rc := rc_4) (ps := ps) (wt := wt) (bs := bs) (gr := grp) (Pr := pr0) (ph := ph) (p := p) (l0 := l211) (m0 := m212) (z0 := 0) hp ppaI_0 (by omega) hpp hn4 (by omega) (ho4.up (by omega)) (hl4.up (by omega)) (hf4.up (by omega)) (by omega) (by omega)) (fun oc G2 h => by rcases h with ⟨_, _, _, h, _⟩ <;> exact ⟨_, h⟩) (by omega) m_PA_repeat ml_RD_193 im_PA_repeat se_PA_repeat c_PA hp.2.2 (Nat.le_of_ble_eq_true rfl) d_RD_append_179 rfl ?_
          intro v G242 hq
          rcases hq with ⟨sz2243, mb2244, oe2245, hv, hfk, hlk, hsk, hNp, pNpaI_0, hq246, hq247, hq248⟩
          cases hv
          have hd_ := hfk.get hd_ (by decide)
          have hx := hfk.get hx (by decide)
          have hby_ := hfk.get hby_ (by decide)
          have hKg1 := hq247.get hfk hg1 (Or.inl hpg1) (by simp only [List.mem_cons, List.not_mem_nil, or_false, not_or]; exact (show g1 ≠ p from hgp))
          have hr1 := hfk.get hr1 (by decide)
          have hg1 := hKg1
          have hfz := hfz.tr hq247 (by simp)
          have popI_0 := popI_0.fz (o2 := o) hq247 (by intro y hy; simp only [List.mem_cons, List.not_mem_nil, or_false] at hy; omega)
          have ppaI_0 := pNpaI_0
          have hfr := hfr.tr hfk (by decide)
          have hlen := hlk.trans hlen
          have hsl := hsk.trans hsl
          have hp := hNp
          change ab_W _ _ _ G242 182 [some (vR d_), some (vR p), some (vz pl), some (vz 0), some (vz 0), some (vz 1)] [] _
          refine ab_goto (tgt := 192) d_RD_append_182 (by decide) ?_
          refine ab_aload_n d_RD_append_192 rfl ?_
          refine ab_getf (fs := [vR x, vR g1, vz dp, vz flg, vz grp, vR na, vR nl, vz l211, vz m212, vz bh213]) f_RD_23 d_RD_append_193 hd_.2.2 rfl ?_
          refine ab_aload_n d_RD_append_196 rfl ?_
          refine ab_callV (d' := d - 1) (as := [vR p]) (st := []) (r := _) (z_PA_pushInLastRow (o := o) (k := k_4) (v := v_4) (rg := rg_4) (pl := pl_4) (fl := fl_4) (ou := ou_4) (ls := ls_4) (bf := bf_4) (sz := sz2243) (mb := mb2244) (oe := oe2245) (le := l211) (mo := m212) (la := 0) (rc := rc_4) (lr := ls3) (br := bf3) (sr := sz3) (mr := mb3) (ps := ps) (wt := wt) (bs := bs) (gr := grp) (Pr := pr0) (ph := ph) (r := r1) (p := p) (kg := k_2) (vg := v_2) (rgg := rg_2) (plg := pl_2) (flg := fl_2) (oug := ou_2) (bfg := bf_2) (szg := sz_2) (mbg := mb_2) (oeg := oe_2) (leg := le_2) (mog := mo_2) (lag := la_2) (rcg := rc_2) (q := g1) hg1 hp hr1 ppaI_0 (by omega) hgp hpg1 hpp hpr1 hn4 (by omega) (by omega) (ho4.up (by omega)) (hl4.up (by omega)) (hf4.up (by omega)) (hlv1.up (by omega)) (hf3.up (by omega)) (hlv1.up (by omega)) (by omega) (by omega)) (fun oc G2 h => by rcases h with ⟨_, _, h, _⟩ <;> exact ⟨_, h⟩) (by omega) m_PA_pushInLastRow ml_RD_197 im_PA_pushInLastRow se_PA_pushInLastRow c_PA hg1.2.2 (Nat.le_of_ble_eq_true rfl) d_RD_append_197 rfl ?_
          intro v G249 hq
          rcases hq with ⟨sr2250, mr2251, hv, hfk, hlk, hsk, hNg1, hNp, hNr1, pNpaI_0, hq252, hq253, hq254⟩
          cases hv
          have hd_ := hfk.get hd_ (by decide)
          have hx := hfk.get hx (by decide)
          have hby_ := hfk.get hby_ (by decide)
          have hfz := hfz.tr hq253 (by simp)
          have popI_0 := popI_0.fz (o2 := o) hq253 (by intro y hy; simp only [List.mem_cons, List.not_mem_nil, or_false] at hy; omega)
          have ppaI_0 := pNpaI_0
          have hfr := hfr.tr hfk (by decide)
          have hlen := hlk.trans hlen
          have hsl := hsk.trans hsl
          have hg1 := hNg1
          have hp := hNp
          have hr1 := hNr1
          change ab_W _ _ _ G249 200 [some (vR d_), some (vR p), some (vz pl), some (vz 0), some (vz 0), some (vz 1)] [] _
          have pszI_0 : szI o G249 0 ps k G249.length (vR g1) wh 0 := (szI.appC hj1 hsz9 hpa9 hfz hg9 hp9 hr9 hp hr1 hpr1 (by omega) (by omega) (by omega) (by omega) (by omega) hq248 hq254).up (by omega)
          have popI_0 : opI o G249 0 ps (j1 + 1) G249.length (vR g1) := ⟨g1, r1, ou_2, (vR p), rfl, ⟨hpg1, hpr1⟩, ⟨by omega, by omega⟩, by unfold pf; rw [hg1.2.2]; rfl, by unfold pf; rw [hg1.2.2]; rfl, by unfold pf; rw [hr1.2.2]; rfl, (Or.inr ⟨_, rfl, hpp, by have hlt := hp.lt; omega⟩), popI_0⟩
          rw [← hj1] at popI_0
          refine ab_vret rfl d_RD_append_200 ?_
          rw [hQ]; exact ⟨_, _, _, _, _, _, _, _, rfl, hfr, hlen, hsl, hd_, hx, ppaI_0, popI_0, pszI_0, (by omega), (by omega), (by omega)⟩
        · refine zz_iconst d_RD_append_174 ?_
          refine ab_goto (tgt := 179) d_RD_append_175 (by decide) ?_
          refine ab_callV (d' := d - 1) (as := [vz l211, vz m212, vz 1]) (st := []) (r := _) (z_PA_repeat (o := o) (k := k_4) (v := v_4) (rg := rg_4) (pl := pl_4) (fl := fl_4) (ou := ou_4) (ls := ls_4) (bf := bf_4) (sz := sz_4) (mb := mb_4) (oe := oe_4) (le := le_4) (mo := mo_4) (la := la_4) (rc := rc_4) (ps := ps) (wt := wt) (bs := bs) (gr := grp) (Pr := pr0) (ph := ph) (p := p) (l0 := l211) (m0 := m212) (z0 := 1) hp ppaI_0 (by omega) hpp hn4 (by omega) (ho4.up (by omega)) (hl4.up (by omega)) (hf4.up (by omega)) (by omega) (by omega)) (fun oc G2 h => by rcases h with ⟨_, _, _, h, _⟩ <;> exact ⟨_, h⟩) (by omega) m_PA_repeat ml_RD_193 im_PA_repeat se_PA_repeat c_PA hp.2.2 (Nat.le_of_ble_eq_true rfl) d_RD_append_179 rfl ?_
          intro v G255 hq
          rcases hq with ⟨sz2256, mb2257, oe2258, hv, hfk, hlk, hsk, hNp, pNpaI_0, hq259, hq260, hq261⟩
          cases hv
          have hd_ := hfk.get hd_ (by decide)
          have hx := hfk.get hx (by decide)
          have hby_ := hfk.get hby_ (by decide)
          have hKg1 := hq260.get hfk hg1 (Or.inl hpg1) (by simp only [List.mem_cons, List.not_mem_nil, or_false, not_or]; exact (show g1 ≠ p from hgp))
          have hr1 := hfk.get hr1 (by decide)
          have hg1 := hKg1
          have hfz := hfz.tr hq260 (by simp)
          have popI_0 := popI_0.fz (o2 := o) hq260 (by intro y hy; simp only [List.mem_cons, List.not_mem_nil, or_false] at hy; omega)
          have ppaI_0 := pNpaI_0
          have hfr := hfr.tr hfk (by decide)
          have hlen := hlk.trans hlen
          have hsl := hsk.trans hsl
          have hp := hNp
          change ab_W _ _ _ G255 182 [some (vR d_), some (vR p), some (vz pl), some (vz 0), some (vz 0), some (vz 1)] [] _
          refine ab_goto (tgt := 192) d_RD_append_182 (by decide) ?_
          refine ab_aload_n d_RD_append_192 rfl ?_
          refine ab_getf (fs := [vR x, vR g1, vz dp, vz flg, vz grp, vR na, vR nl, vz l211, vz m212, vz bh213]) f_RD_23 d_RD_append_193 hd_.2.2 rfl ?_
          refine ab_aload_n d_RD_append_196 rfl ?_
          refine ab_callV (d' := d - 1) (as := [vR p]) (st := []) (r := _) (z_PA_pushInLastRow (o := o) (k := k_4) (v := v_4) (rg := rg_4) (pl := pl_4) (fl := fl_4) (ou := ou_4) (ls := ls_4) (bf := bf_4) (sz := sz2256) (mb := mb2257) (oe := oe2258) (le := l211) (mo := m212) (la := 1) (rc := rc_4) (lr := ls3) (br := bf3) (sr := sz3) (mr := mb3) (ps := ps) (wt := wt) (bs := bs) (gr := grp) (Pr := pr0) (ph := ph) (r := r1) (p := p) (kg := k_2) (vg := v_2) (rgg := rg_2) (plg := pl_2) (flg := fl_2) (oug := ou_2) (bfg := bf_2) (szg := sz_2) (mbg := mb_2) (oeg := oe_2) (leg := le_2) (mog := mo_2) (lag := la_2) (rcg := rc_2) (q := g1) hg1 hp hr1 ppaI_0 (by omega) hgp hpg1 hpp hpr1 hn4 (by omega) (by omega) (ho4.up (by omega)) (hl4.up (by omega)) (hf4.up (by omega)) (hlv1.up (by omega)) (hf3.up (by omega)) (hlv1.up (by omega)) (by omega) (by omega)) (fun oc G2 h => by rcases h with ⟨_, _, h, _⟩ <;> exact ⟨_, h⟩) (by omega) m_PA_pushInLastRow ml_RD_197 im_PA_pushInLastRow se_PA_pushInLastRow c_PA hg1.2.2 (Nat.le_of_ble_eq_true rfl) d_RD_append_197 rfl ?_
          intro v G262 hq
          rcases hq with ⟨sr2263, mr2264, hv, hfk, hlk, hsk, hNg1, hNp, hNr1, pNpaI_0, hq265, hq266, hq267⟩
          cases hv
          have hd_ := hfk.get hd_ (by decide)
          have hx := hfk.get hx (by decide)
          have hby_ := hfk.get hby_ (by decide)
          have hfz := hfz.tr hq266 (by simp)
          have popI_0 := popI_0.fz (o2 := o) hq266 (by intro y hy; simp only [List.mem_cons, List.not_mem_nil, or_false] at hy; omega)
          have ppaI_0 := pNpaI_0
          have hfr := hfr.tr hfk (by decide)
          have hlen := hlk.trans hlen
          have hsl := hsk.trans hsl
          have hg1 := hNg1
          have hp := hNp
          have hr1 := hNr1
          change ab_W _ _ _ G262 200 [some (vR d_), some (vR p), some (vz pl), some (vz 0), some (vz 0), some (vz 1)] [] _
          have pszI_0 : szI o G262 0 ps k G262.length (vR g1) wh 0 := (szI.appC hj1 hsz9 hpa9 hfz hg9 hp9 hr9 hp hr1 hpr1 (by omega) (by omega) (by omega) (by omega) (by omega) hq261 hq267).up (by omega)
          have popI_0 : opI o G262 0 ps (j1 + 1) G262.length (vR g1) := ⟨g1, r1, ou_2, (vR p), rfl, ⟨hpg1, hpr1⟩, ⟨by omega, by omega⟩, by unfold pf; rw [hg1.2.2]; rfl, by unfold pf; rw [hg1.2.2]; rfl, by unfold pf; rw [hr1.2.2]; rfl, (Or.inr ⟨_, rfl, hpp, by have hlt := hp.lt; omega⟩), popI_0⟩
          rw [← hj1] at popI_0
          refine ab_vret rfl d_RD_append_200 ?_
          rw [hQ]; exact ⟨_, _, _, _, _, _, _, _, rfl, hfr, hlen, hsl, hd_, hx, ppaI_0, popI_0, pszI_0, (by omega), (by omega), (by omega)⟩
    · refine ab_aload_n d_RD_append_53 rfl ?_
      refine ab_getf (fs := [vR x, vR g1, vz dp, vz flg, vz grp, vR na, vR nl, vz l211, vz m212, vz bh213]) f_RD_187 d_RD_append_54 hd_.2.2 rfl ?_
      refine zz_bipush d_RD_append_57 (by decide) ?_
      refine zz_icmp_gt (tgt := 73) d_RD_append_59 (by decide) (by omega) (by decide) (fun c268 => ?_) (fun c268 => ?_)
      · refine zz_iconst d_RD_append_73 ?_
        refine ab_goto (tgt := 78) d_RD_append_74 (by decide) ?_
        refine ab_istore d_RD_append_78 (Nat.le_of_ble_eq_true rfl) (Nat.le_of_ble_eq_true rfl) rfl ?_
        change ab_W _ _ _ G5 80 [some (vR d_), some (vR p), some (vz pl), some (vz 0), some (vz 1), none] [] _
        refine ab_iload_n d_RD_append_80 rfl ?_
        refine zz_if_eq (tgt := 101) d_RD_append_81 (by decide) (by decide) (fun c269 => ?_) (fun c269 => absurd c269 (by decide))
        refine ab_aload_n d_RD_append_101 rfl ?_
        refine ab_getf (fs := [vR x, vR g1, vz dp, vz flg, vz grp, vR na, vR nl, vz l211, vz m212, vz bh213]) f_RD_12 d_RD_append_102 hd_.2.2 rfl ?_
        refine ab_aload_n d_RD_append_105 rfl ?_
        refine ab_getf (fs := [vR x, vR g1, vz dp, vz flg, vz grp, vR na, vR nl, vz l211, vz m212, vz bh213]) f_RD_190 d_RD_append_106 hd_.2.2 rfl ?_
        refine ab_putf (fs := [vR se, vR by_, vz n, vz pl, vz fa, vz fp, vR kd, vz kn]) f_RD_55 (Or.inl rfl) d_RD_append_109 hx.2.2 (Nat.le_of_ble_eq_true rfl) (fun _ => ⟨rfl, rfl⟩) (hx.2.1 (by decide)) ?_
        obtain ⟨G270, eG270⟩ : ∃ z : ab_G, z = List.set G5 x (ab_ob 10 [vR se, vR by_, vz n, vz bh213, vz fa, vz fp, vR kd, vz kn]) := ⟨_, rfl⟩
        have hd_ := hd_.keep hx eG270 (by decide)
        have hby_ := hby_.keep hx eG270 (by decide)
        have hg1 := hg1.keep hx eG270 (by decide)
        have hr1 := hr1.keep hx eG270 (by decide)
        have hp := hp.keep hx eG270 (by decide)
        have hfz := hfz.wl ppaI_0 hx eG270 (by decide)
        have hst := (fx.rf (o := o) (S := [24]) (G := G5)).wr hx eG270 (List.mem_singleton.mpr rfl)
        have pszI_0 := szI.fr hst ppaI_0 pszI_0 (by decide) (by decide)
        have popI_0 := opI.fr hst ppaI_0 popI_0 (by decide) (by decide)
        have ppaI_0 := paI.fr hst ppaI_0 (by decide) (by decide) (by decide) (by decide)
        have hlen := (z_len eG270).trans hlen
        have hsl := (z_sl hx eG270 rfl).trans hsl
        have hfr := hfr.wr hx eG270 (by decide)
        have hx := hx.kept eG270
        change ab_W _ _ _ (List.set G5 x (ab_ob 10 [vR se, vR by_, vz n, vz bh213, vz fa, vz fp, vR kd, vz kn])) 112 [some (vR d_), some (vR p), some (vz pl), some (vz 0), some (vz 1), none] [] _
        rw [← eG270]
        refine ab_aload_n d_RD_append_112 rfl ?_
        refine ab_getf (fs := [vR x, vR g1, vz dp, vz flg, vz grp, vR na, vR nl, vz l211, vz m212, vz bh213]) f_RD_12 d_RD_append_113 hd_.2.2 rfl ?_
        refine zz_iconst d_RD_append_116 ?_
        refine ab_callV (d' := d - 1) (as := [vz 0]) (st := []) (r := _) (z_TX_peek0 (o := o) (x := x) (lx := 24) (se := se) (by_ := by_) (lby := 23) (m := m) (f := f) (n := n) (pl := bh213) (fa := fa) (fp := fp) (kd := kd) (kn := kn) hx hby_ (by omega) hb) (fun oc G2 h => by rcases h with ⟨_, h, _⟩ <;> exact ⟨_, h⟩) (by omega) m_TX_peek ml_RD_79 im_TX_peek se_TX_peek c_TX hx.2.2 (Nat.le_of_ble_eq_true rfl) d_RD_append_117 rfl ?_
        intro v G271 hq
        rcases hq with ⟨v272, hv, hGe, hq273, hq274⟩
        cases hv
        rw [hGe]
        change ab_W _ _ _ G270 120 [some (vR d_), some (vR p), some (vz pl), some (vz 0), some (vz 1), none] [vz v272] _
        refine zz_bipush d_RD_append_120 (by decide) ?_
        refine zz_icmp_ne (tgt := 129) d_RD_append_122 (by decide) (by omega) (by decide) (fun c275 => ?_) (fun c275 => ?_)
        · refine zz_iconst d_RD_append_129 ?_
          refine ab_istore d_RD_append_130 (Nat.le_of_ble_eq_true rfl) (Nat.le_of_ble_eq_true rfl) rfl ?_
          change ab_W _ _ _ G270 132 [some (vR d_), some (vR p), some (vz pl), some (vz 0), some (vz 1), some (vz 0)] [] _
          refine ab_aload_n d_RD_append_132 rfl ?_
          refine ab_getf (fs := [vR x, vR g1, vz dp, vz flg, vz grp, vR na, vR nl, vz l211, vz m212, vz bh213]) f_RD_12 d_RD_append_133 hd_.2.2 rfl ?_
          refine ab_dup d_RD_append_136 rfl ?_
          refine ab_getf (fs := [vR se, vR by_, vz n, vz bh213, vz fa, vz fp, vR kd, vz kn]) f_RD_55 d_RD_append_137 hx.2.2 rfl ?_
          refine ab_iload d_RD_append_140 rfl ?_
          refine zz_if_eq (tgt := 149) d_RD_append_142 (by decide) (by decide) (fun c276 => ?_) (fun c276 => absurd c276 (by decide))
          refine zz_iconst d_RD_append_149 ?_
          refine zz_iadd d_RD_append_150 ?_
          refine ab_putf (fs := [vR se, vR by_, vz n, vz bh213, vz fa, vz fp, vR kd, vz kn]) f_RD_55 (Or.inl rfl) d_RD_append_151 hx.2.2 (Nat.le_of_ble_eq_true rfl) (fun _ => ⟨rfl, rfl⟩) (hx.2.1 (by decide)) ?_
          obtain ⟨G277, eG277⟩ : ∃ z : ab_G, z = List.set G270 x (ab_ob 10 [vR se, vR by_, vz n, vz (bh213 + 0), vz fa, vz fp, vR kd, vz kn]) := ⟨_, rfl⟩
          have hd_ := hd_.keep hx eG277 (by decide)
          have hby_ := hby_.keep hx eG277 (by decide)
          have hg1 := hg1.keep hx eG277 (by decide)
          have hr1 := hr1.keep hx eG277 (by decide)
          have hp := hp.keep hx eG277 (by decide)
          have hfz := hfz.wl ppaI_0 hx eG277 (by decide)
          have hst := (fx.rf (o := o) (S := [24]) (G := G270)).wr hx eG277 (List.mem_singleton.mpr rfl)
          have pszI_0 := szI.fr hst ppaI_0 pszI_0 (by decide) (by decide)
          have popI_0 := opI.fr hst ppaI_0 popI_0 (by decide) (by decide)
          have ppaI_0 := paI.fr hst ppaI_0 (by decide) (by decide) (by decide) (by decide)
          have hlen := (z_len eG277).trans hlen
          have hsl := (z_sl hx eG277 rfl).trans hsl
          have hfr := hfr.wr hx eG277 (by decide)
          have hx := hx.kept eG277
          change ab_W _ _ _ (List.set G270 x (ab_ob 10 [vR se, vR by_, vz n, vz (bh213 + 0), vz fa, vz fp, vR kd, vz kn])) 154 [some (vR d_), some (vR p), some (vz pl), some (vz 0), some (vz 1), some (vz 0)] [] _
          rw [← eG277]
          refine ab_aload_n d_RD_append_154 rfl ?_
          refine ab_aload_n d_RD_append_155 rfl ?_
          refine ab_getf (fs := [vR x, vR g1, vz dp, vz flg, vz grp, vR na, vR nl, vz l211, vz m212, vz bh213]) f_RD_184 d_RD_append_156 hd_.2.2 rfl ?_
          refine ab_aload_n d_RD_append_159 rfl ?_
          refine ab_getf (fs := [vR x, vR g1, vz dp, vz flg, vz grp, vR na, vR nl, vz l211, vz m212, vz bh213]) f_RD_187 d_RD_append_160 hd_.2.2 rfl ?_
          refine ab_iload d_RD_append_163 rfl ?_
          refine ab_aload_n d_RD_append_165 rfl ?_
          refine zz_bipush d_RD_append_166 (by decide) ?_
          refine ab_callV (d' := d - 1) (as := [vz 8]) (st := [vz 0, vz m212, vz l211, vR p]) (r := _) (z8_RD_isOn (o := o) (d_ := d_) (inn := vR g1) (dp := dp) (flg := flg) (grp := grp) (na := na) (nl := nl) (lst := l211) (mst := m212) (bh := bh213) (x := x) hd_ (by omega)) (fun oc G2 h => by rcases h with ⟨_, h, _⟩ <;> exact ⟨_, h⟩) (by omega) m_RD_isOn ml_RD_94 im_RD_isOn se_RD_isOn c_RD hd_.2.2 (Nat.le_of_ble_eq_true rfl) d_RD_append_168 rfl ?_
          intro v G278 hq
          rcases hq with ⟨v279, hv, hGe, hq280⟩
          cases hv
          rw [hGe]
          change ab_W _ _ _ G277 171 [some (vR d_), some (vR p), some (vz pl), some (vz 0), some (vz 1), some (vz 0)] [vz v279, vz 0, vz m212, vz l211, vR p] _
          refine zz_icmp_eq (tgt := 178) d_RD_append_171 (by decide) (by decide) (by omega) (fun c281 => ?_) (fun c281 => ?_)
          · refine zz_iconst d_RD_append_178 ?_
            refine ab_callV (d' := d - 1) (as := [vz l211, vz m212, vz 0]) (st := []) (r := _) (z_PA_repeat (o := o) (k := k_4) (v := v_4) (rg := rg_4) (pl := pl_4) (fl := fl_4) (ou := ou_4) (ls := ls_4) (bf := bf_4) (sz := sz_4) (mb := mb_4) (oe := oe_4) (le := le_4) (mo := mo_4) (la := la_4) (rc := rc_4) (ps := ps) (wt := wt) (bs := bs) (gr := grp) (Pr := pr0) (ph := ph) (p := p) (l0 := l211) (m0 := m212) (z0 := 0) hp ppaI_0 (by omega) hpp hn4 (by omega) (ho4.up (by omega)) (hl4.up (by omega)) (hf4.up (by omega)) (by omega) (by omega)) (fun oc G2 h => by rcases h with ⟨_, _, _, h, _⟩ <;> exact ⟨_, h⟩) (by omega) m_PA_repeat ml_RD_193 im_PA_repeat se_PA_repeat c_PA hp.2.2 (Nat.le_of_ble_eq_true rfl) d_RD_append_179 rfl ?_
            intro v G282 hq
            rcases hq with ⟨sz2283, mb2284, oe2285, hv, hfk, hlk, hsk, hNp, pNpaI_0, hq286, hq287, hq288⟩
            cases hv
            have hd_ := hfk.get hd_ (by decide)
            have hx := hfk.get hx (by decide)
            have hby_ := hfk.get hby_ (by decide)
            have hKg1 := hq287.get hfk hg1 (Or.inl hpg1) (by simp only [List.mem_cons, List.not_mem_nil, or_false, not_or]; exact (show g1 ≠ p from hgp))
            have hr1 := hfk.get hr1 (by decide)
            have hg1 := hKg1
            have hfz := hfz.tr hq287 (by simp)
            have popI_0 := popI_0.fz (o2 := o) hq287 (by intro y hy; simp only [List.mem_cons, List.not_mem_nil, or_false] at hy; omega)
            have ppaI_0 := pNpaI_0
            have hfr := hfr.tr hfk (by decide)
            have hlen := hlk.trans hlen
            have hsl := hsk.trans hsl
            have hp := hNp
            change ab_W _ _ _ G282 182 [some (vR d_), some (vR p), some (vz pl), some (vz 0), some (vz 1), some (vz 0)] [] _
            refine ab_goto (tgt := 192) d_RD_append_182 (by decide) ?_
            refine ab_aload_n d_RD_append_192 rfl ?_
            refine ab_getf (fs := [vR x, vR g1, vz dp, vz flg, vz grp, vR na, vR nl, vz l211, vz m212, vz bh213]) f_RD_23 d_RD_append_193 hd_.2.2 rfl ?_
            refine ab_aload_n d_RD_append_196 rfl ?_
            refine ab_callV (d' := d - 1) (as := [vR p]) (st := []) (r := _) (z_PA_pushInLastRow (o := o) (k := k_4) (v := v_4) (rg := rg_4) (pl := pl_4) (fl := fl_4) (ou := ou_4) (ls := ls_4) (bf := bf_4) (sz := sz2283) (mb := mb2284) (oe := oe2285) (le := l211) (mo := m212) (la := 0) (rc := rc_4) (lr := ls3) (br := bf3) (sr := sz3) (mr := mb3) (ps := ps) (wt := wt) (bs := bs) (gr := grp) (Pr := pr0) (ph := ph) (r := r1) (p := p) (kg := k_2) (vg := v_2) (rgg := rg_2) (plg := pl_2) (flg := fl_2) (oug := ou_2) (bfg := bf_2) (szg := sz_2) (mbg := mb_2) (oeg := oe_2) (leg := le_2) (mog := mo_2) (lag := la_2) (rcg := rc_2) (q := g1) hg1 hp hr1 ppaI_0 (by omega) hgp hpg1 hpp hpr1 hn4 (by omega) (by omega) (ho4.up (by omega)) (hl4.up (by omega)) (hf4.up (by omega)) (hlv1.up (by omega)) (hf3.up (by omega)) (hlv1.up (by omega)) (by omega) (by omega)) (fun oc G2 h => by rcases h with ⟨_, _, h, _⟩ <;> exact ⟨_, h⟩) (by omega) m_PA_pushInLastRow ml_RD_197 im_PA_pushInLastRow se_PA_pushInLastRow c_PA hg1.2.2 (Nat.le_of_ble_eq_true rfl) d_RD_append_197 rfl ?_
            intro v G289 hq
            rcases hq with ⟨sr2290, mr2291, hv, hfk, hlk, hsk, hNg1, hNp, hNr1, pNpaI_0, hq292, hq293, hq294⟩
            cases hv
            have hd_ := hfk.get hd_ (by decide)
            have hx := hfk.get hx (by decide)
            have hby_ := hfk.get hby_ (by decide)
            have hfz := hfz.tr hq293 (by simp)
            have popI_0 := popI_0.fz (o2 := o) hq293 (by intro y hy; simp only [List.mem_cons, List.not_mem_nil, or_false] at hy; omega)
            have ppaI_0 := pNpaI_0
            have hfr := hfr.tr hfk (by decide)
            have hlen := hlk.trans hlen
            have hsl := hsk.trans hsl
            have hg1 := hNg1
            have hp := hNp
            have hr1 := hNr1
            change ab_W _ _ _ G289 200 [some (vR d_), some (vR p), some (vz pl), some (vz 0), some (vz 1), some (vz 0)] [] _
            have pszI_0 : szI o G289 0 ps k G289.length (vR g1) wh 0 := (szI.appC hj1 hsz9 hpa9 hfz hg9 hp9 hr9 hp hr1 hpr1 (by omega) (by omega) (by omega) (by omega) (by omega) hq288 hq294).up (by omega)
            have popI_0 : opI o G289 0 ps (j1 + 1) G289.length (vR g1) := ⟨g1, r1, ou_2, (vR p), rfl, ⟨hpg1, hpr1⟩, ⟨by omega, by omega⟩, by unfold pf; rw [hg1.2.2]; rfl, by unfold pf; rw [hg1.2.2]; rfl, by unfold pf; rw [hr1.2.2]; rfl, (Or.inr ⟨_, rfl, hpp, by have hlt := hp.lt; omega⟩), popI_0⟩
            rw [← hj1] at popI_0
            refine ab_vret rfl d_RD_append_200 ?_
            rw [hQ]; exact ⟨_, _, _, _, _, _, _, _, rfl, hfr, hlen, hsl, hd_, hx, ppaI_0, popI_0, pszI_0, (by omega), (by omega), (by omega)⟩
          · refine zz_iconst d_RD_append_174 ?_
            refine ab_goto (tgt := 179) d_RD_append_175 (by decide) ?_
            refine ab_callV (d' := d - 1) (as := [vz l211, vz m212, vz 1]) (st := []) (r := _) (z_PA_repeat (o := o) (k := k_4) (v := v_4) (rg := rg_4) (pl := pl_4) (fl := fl_4) (ou := ou_4) (ls := ls_4) (bf := bf_4) (sz := sz_4) (mb := mb_4) (oe := oe_4) (le := le_4) (mo := mo_4) (la := la_4) (rc := rc_4) (ps := ps) (wt := wt) (bs := bs) (gr := grp) (Pr := pr0) (ph := ph) (p := p) (l0 := l211) (m0 := m212) (z0 := 1) hp ppaI_0 (by omega) hpp hn4 (by omega) (ho4.up (by omega)) (hl4.up (by omega)) (hf4.up (by omega)) (by omega) (by omega)) (fun oc G2 h => by rcases h with ⟨_, _, _, h, _⟩ <;> exact ⟨_, h⟩) (by omega) m_PA_repeat ml_RD_193 im_PA_repeat se_PA_repeat c_PA hp.2.2 (Nat.le_of_ble_eq_true rfl) d_RD_append_179 rfl ?_
            intro v G295 hq
            rcases hq with ⟨sz2296, mb2297, oe2298, hv, hfk, hlk, hsk, hNp, pNpaI_0, hq299, hq300, hq301⟩
            cases hv
            have hd_ := hfk.get hd_ (by decide)
            have hx := hfk.get hx (by decide)
            have hby_ := hfk.get hby_ (by decide)
            have hKg1 := hq300.get hfk hg1 (Or.inl hpg1) (by simp only [List.mem_cons, List.not_mem_nil, or_false, not_or]; exact (show g1 ≠ p from hgp))
            have hr1 := hfk.get hr1 (by decide)
            have hg1 := hKg1
            have hfz := hfz.tr hq300 (by simp)
            have popI_0 := popI_0.fz (o2 := o) hq300 (by intro y hy; simp only [List.mem_cons, List.not_mem_nil, or_false] at hy; omega)
            have ppaI_0 := pNpaI_0
            have hfr := hfr.tr hfk (by decide)
            have hlen := hlk.trans hlen
            have hsl := hsk.trans hsl
            have hp := hNp
            change ab_W _ _ _ G295 182 [some (vR d_), some (vR p), some (vz pl), some (vz 0), some (vz 1), some (vz 0)] [] _
            refine ab_goto (tgt := 192) d_RD_append_182 (by decide) ?_
            refine ab_aload_n d_RD_append_192 rfl ?_
            refine ab_getf (fs := [vR x, vR g1, vz dp, vz flg, vz grp, vR na, vR nl, vz l211, vz m212, vz bh213]) f_RD_23 d_RD_append_193 hd_.2.2 rfl ?_
            refine ab_aload_n d_RD_append_196 rfl ?_
            refine ab_callV (d' := d - 1) (as := [vR p]) (st := []) (r := _) (z_PA_pushInLastRow (o := o) (k := k_4) (v := v_4) (rg := rg_4) (pl := pl_4) (fl := fl_4) (ou := ou_4) (ls := ls_4) (bf := bf_4) (sz := sz2296) (mb := mb2297) (oe := oe2298) (le := l211) (mo := m212) (la := 1) (rc := rc_4) (lr := ls3) (br := bf3) (sr := sz3) (mr := mb3) (ps := ps) (wt := wt) (bs := bs) (gr := grp) (Pr := pr0) (ph := ph) (r := r1) (p := p) (kg := k_2) (vg := v_2) (rgg := rg_2) (plg := pl_2) (flg := fl_2) (oug := ou_2) (bfg := bf_2) (szg := sz_2) (mbg := mb_2) (oeg := oe_2) (leg := le_2) (mog := mo_2) (lag := la_2) (rcg := rc_2) (q := g1) hg1 hp hr1 ppaI_0 (by omega) hgp hpg1 hpp hpr1 hn4 (by omega) (by omega) (ho4.up (by omega)) (hl4.up (by omega)) (hf4.up (by omega)) (hlv1.up (by omega)) (hf3.up (by omega)) (hlv1.up (by omega)) (by omega) (by omega)) (fun oc G2 h => by rcases h with ⟨_, _, h, _⟩ <;> exact ⟨_, h⟩) (by omega) m_PA_pushInLastRow ml_RD_197 im_PA_pushInLastRow se_PA_pushInLastRow c_PA hg1.2.2 (Nat.le_of_ble_eq_true rfl) d_RD_append_197 rfl ?_
            intro v G302 hq
            rcases hq with ⟨sr2303, mr2304, hv, hfk, hlk, hsk, hNg1, hNp, hNr1, pNpaI_0, hq305, hq306, hq307⟩
            cases hv
            have hd_ := hfk.get hd_ (by decide)
            have hx := hfk.get hx (by decide)
            have hby_ := hfk.get hby_ (by decide)
            have hfz := hfz.tr hq306 (by simp)
            have popI_0 := popI_0.fz (o2 := o) hq306 (by intro y hy; simp only [List.mem_cons, List.not_mem_nil, or_false] at hy; omega)
            have ppaI_0 := pNpaI_0
            have hfr := hfr.tr hfk (by decide)
            have hlen := hlk.trans hlen
            have hsl := hsk.trans hsl
            have hg1 := hNg1
            have hp := hNp
            have hr1 := hNr1
            change ab_W _ _ _ G302 200 [some (vR d_), some (vR p), some (vz pl), some (vz 0), some (vz 1), some (vz 0)] [] _
            have pszI_0 : szI o G302 0 ps k G302.length (vR g1) wh 0 := (szI.appC hj1 hsz9 hpa9 hfz hg9 hp9 hr9 hp hr1 hpr1 (by omega) (by omega) (by omega) (by omega) (by omega) hq301 hq307).up (by omega)
            have popI_0 : opI o G302 0 ps (j1 + 1) G302.length (vR g1) := ⟨g1, r1, ou_2, (vR p), rfl, ⟨hpg1, hpr1⟩, ⟨by omega, by omega⟩, by unfold pf; rw [hg1.2.2]; rfl, by unfold pf; rw [hg1.2.2]; rfl, by unfold pf; rw [hr1.2.2]; rfl, (Or.inr ⟨_, rfl, hpp, by have hlt := hp.lt; omega⟩), popI_0⟩
            rw [← hj1] at popI_0
            refine ab_vret rfl d_RD_append_200 ?_
            rw [hQ]; exact ⟨_, _, _, _, _, _, _, _, rfl, hfr, hlen, hsl, hd_, hx, ppaI_0, popI_0, pszI_0, (by omega), (by omega), (by omega)⟩
        · refine zz_iconst d_RD_append_125 ?_
          refine ab_goto (tgt := 130) d_RD_append_126 (by decide) ?_
          refine ab_istore d_RD_append_130 (Nat.le_of_ble_eq_true rfl) (Nat.le_of_ble_eq_true rfl) rfl ?_
          change ab_W _ _ _ G270 132 [some (vR d_), some (vR p), some (vz pl), some (vz 0), some (vz 1), some (vz 1)] [] _
          refine ab_aload_n d_RD_append_132 rfl ?_
          refine ab_getf (fs := [vR x, vR g1, vz dp, vz flg, vz grp, vR na, vR nl, vz l211, vz m212, vz bh213]) f_RD_12 d_RD_append_133 hd_.2.2 rfl ?_
          refine ab_dup d_RD_append_136 rfl ?_
          refine ab_getf (fs := [vR se, vR by_, vz n, vz bh213, vz fa, vz fp, vR kd, vz kn]) f_RD_55 d_RD_append_137 hx.2.2 rfl ?_
          refine ab_iload d_RD_append_140 rfl ?_
          refine zz_if_eq (tgt := 149) d_RD_append_142 (by decide) (by decide) (fun c308 => absurd c308 (by decide)) (fun c308 => ?_)
          refine zz_iconst d_RD_append_145 ?_
          refine ab_goto (tgt := 150) d_RD_append_146 (by decide) ?_
          refine zz_iadd d_RD_append_150 ?_
          refine ab_putf (fs := [vR se, vR by_, vz n, vz bh213, vz fa, vz fp, vR kd, vz kn]) f_RD_55 (Or.inl rfl) d_RD_append_151 hx.2.2 (Nat.le_of_ble_eq_true rfl) (fun _ => ⟨rfl, rfl⟩) (hx.2.1 (by decide)) ?_
          obtain ⟨G309, eG309⟩ : ∃ z : ab_G, z = List.set G270 x (ab_ob 10 [vR se, vR by_, vz n, vz (bh213 + 1), vz fa, vz fp, vR kd, vz kn]) := ⟨_, rfl⟩
          have hd_ := hd_.keep hx eG309 (by decide)
          have hby_ := hby_.keep hx eG309 (by decide)
          have hg1 := hg1.keep hx eG309 (by decide)
          have hr1 := hr1.keep hx eG309 (by decide)
          have hp := hp.keep hx eG309 (by decide)
          have hfz := hfz.wl ppaI_0 hx eG309 (by decide)
          have hst := (fx.rf (o := o) (S := [24]) (G := G270)).wr hx eG309 (List.mem_singleton.mpr rfl)
          have pszI_0 := szI.fr hst ppaI_0 pszI_0 (by decide) (by decide)
          have popI_0 := opI.fr hst ppaI_0 popI_0 (by decide) (by decide)
          have ppaI_0 := paI.fr hst ppaI_0 (by decide) (by decide) (by decide) (by decide)
          have hlen := (z_len eG309).trans hlen
          have hsl := (z_sl hx eG309 rfl).trans hsl
          have hfr := hfr.wr hx eG309 (by decide)
          have hx := hx.kept eG309
          change ab_W _ _ _ (List.set G270 x (ab_ob 10 [vR se, vR by_, vz n, vz (bh213 + 1), vz fa, vz fp, vR kd, vz kn])) 154 [some (vR d_), some (vR p), some (vz pl), some (vz 0), some (vz 1), some (vz 1)] [] _
          rw [← eG309]
          refine ab_aload_n d_RD_append_154 rfl ?_
          refine ab_aload_n d_RD_append_155 rfl ?_
          refine ab_getf (fs := [vR x, vR g1, vz dp, vz flg, vz grp, vR na, vR nl, vz l211, vz m212, vz bh213]) f_RD_184 d_RD_append_156 hd_.2.2 rfl ?_
          refine ab_aload_n d_RD_append_159 rfl ?_
          refine ab_getf (fs := [vR x, vR g1, vz dp, vz flg, vz grp, vR na, vR nl, vz l211, vz m212, vz bh213]) f_RD_187 d_RD_append_160 hd_.2.2 rfl ?_
          refine ab_iload d_RD_append_163 rfl ?_
          refine ab_aload_n d_RD_append_165 rfl ?_
          refine zz_bipush d_RD_append_166 (by decide) ?_
          refine ab_callV (d' := d - 1) (as := [vz 8]) (st := [vz 1, vz m212, vz l211, vR p]) (r := _) (z8_RD_isOn (o := o) (d_ := d_) (inn := vR g1) (dp := dp) (flg := flg) (grp := grp) (na := na) (nl := nl) (lst := l211) (mst := m212) (bh := bh213) (x := x) hd_ (by omega)) (fun oc G2 h => by rcases h with ⟨_, h, _⟩ <;> exact ⟨_, h⟩) (by omega) m_RD_isOn ml_RD_94 im_RD_isOn se_RD_isOn c_RD hd_.2.2 (Nat.le_of_ble_eq_true rfl) d_RD_append_168 rfl ?_
          intro v G310 hq
          rcases hq with ⟨v311, hv, hGe, hq312⟩
          cases hv
          rw [hGe]
          change ab_W _ _ _ G309 171 [some (vR d_), some (vR p), some (vz pl), some (vz 0), some (vz 1), some (vz 1)] [vz v311, vz 1, vz m212, vz l211, vR p] _
          refine zz_icmp_eq (tgt := 178) d_RD_append_171 (by decide) (by decide) (by omega) (fun c313 => ?_) (fun c313 => ?_)
          · refine zz_iconst d_RD_append_178 ?_
            refine ab_callV (d' := d - 1) (as := [vz l211, vz m212, vz 0]) (st := []) (r := _) (z_PA_repeat (o := o) (k := k_4) (v := v_4) (rg := rg_4) (pl := pl_4) (fl := fl_4) (ou := ou_4) (ls := ls_4) (bf := bf_4) (sz := sz_4) (mb := mb_4) (oe := oe_4) (le := le_4) (mo := mo_4) (la := la_4) (rc := rc_4) (ps := ps) (wt := wt) (bs := bs) (gr := grp) (Pr := pr0) (ph := ph) (p := p) (l0 := l211) (m0 := m212) (z0 := 0) hp ppaI_0 (by omega) hpp hn4 (by omega) (ho4.up (by omega)) (hl4.up (by omega)) (hf4.up (by omega)) (by omega) (by omega)) (fun oc G2 h => by rcases h with ⟨_, _, _, h, _⟩ <;> exact ⟨_, h⟩) (by omega) m_PA_repeat ml_RD_193 im_PA_repeat se_PA_repeat c_PA hp.2.2 (Nat.le_of_ble_eq_true rfl) d_RD_append_179 rfl ?_
            intro v G314 hq
            rcases hq with ⟨sz2315, mb2316, oe2317, hv, hfk, hlk, hsk, hNp, pNpaI_0, hq318, hq319, hq320⟩
            cases hv
            have hd_ := hfk.get hd_ (by decide)
            have hx := hfk.get hx (by decide)
            have hby_ := hfk.get hby_ (by decide)
            have hKg1 := hq319.get hfk hg1 (Or.inl hpg1) (by simp only [List.mem_cons, List.not_mem_nil, or_false, not_or]; exact (show g1 ≠ p from hgp))
            have hr1 := hfk.get hr1 (by decide)
            have hg1 := hKg1
            have hfz := hfz.tr hq319 (by simp)
            have popI_0 := popI_0.fz (o2 := o) hq319 (by intro y hy; simp only [List.mem_cons, List.not_mem_nil, or_false] at hy; omega)
            have ppaI_0 := pNpaI_0
            have hfr := hfr.tr hfk (by decide)
            have hlen := hlk.trans hlen
            have hsl := hsk.trans hsl
            have hp := hNp
            change ab_W _ _ _ G314 182 [some (vR d_), some (vR p), some (vz pl), some (vz 0), some (vz 1), some (vz 1)] [] _
            refine ab_goto (tgt := 192) d_RD_append_182 (by decide) ?_
            refine ab_aload_n d_RD_append_192 rfl ?_
            refine ab_getf (fs := [vR x, vR g1, vz dp, vz flg, vz grp, vR na, vR nl, vz l211, vz m212, vz bh213]) f_RD_23 d_RD_append_193 hd_.2.2 rfl ?_
            refine ab_aload_n d_RD_append_196 rfl ?_
            refine ab_callV (d' := d - 1) (as := [vR p]) (st := []) (r := _) (z_PA_pushInLastRow (o := o) (k := k_4) (v := v_4) (rg := rg_4) (pl := pl_4) (fl := fl_4) (ou := ou_4) (ls := ls_4) (bf := bf_4) (sz := sz2315) (mb := mb2316) (oe := oe2317) (le := l211) (mo := m212) (la := 0) (rc := rc_4) (lr := ls3) (br := bf3) (sr := sz3) (mr := mb3) (ps := ps) (wt := wt) (bs := bs) (gr := grp) (Pr := pr0) (ph := ph) (r := r1) (p := p) (kg := k_2) (vg := v_2) (rgg := rg_2) (plg := pl_2) (flg := fl_2) (oug := ou_2) (bfg := bf_2) (szg := sz_2) (mbg := mb_2) (oeg := oe_2) (leg := le_2) (mog := mo_2) (lag := la_2) (rcg := rc_2) (q := g1) hg1 hp hr1 ppaI_0 (by omega) hgp hpg1 hpp hpr1 hn4 (by omega) (by omega) (ho4.up (by omega)) (hl4.up (by omega)) (hf4.up (by omega)) (hlv1.up (by omega)) (hf3.up (by omega)) (hlv1.up (by omega)) (by omega) (by omega)) (fun oc G2 h => by rcases h with ⟨_, _, h, _⟩ <;> exact ⟨_, h⟩) (by omega) m_PA_pushInLastRow ml_RD_197 im_PA_pushInLastRow se_PA_pushInLastRow c_PA hg1.2.2 (Nat.le_of_ble_eq_true rfl) d_RD_append_197 rfl ?_
            intro v G321 hq
            rcases hq with ⟨sr2322, mr2323, hv, hfk, hlk, hsk, hNg1, hNp, hNr1, pNpaI_0, hq324, hq325, hq326⟩
            cases hv
            have hd_ := hfk.get hd_ (by decide)
            have hx := hfk.get hx (by decide)
            have hby_ := hfk.get hby_ (by decide)
            have hfz := hfz.tr hq325 (by simp)
            have popI_0 := popI_0.fz (o2 := o) hq325 (by intro y hy; simp only [List.mem_cons, List.not_mem_nil, or_false] at hy; omega)
            have ppaI_0 := pNpaI_0
            have hfr := hfr.tr hfk (by decide)
            have hlen := hlk.trans hlen
            have hsl := hsk.trans hsl
            have hg1 := hNg1
            have hp := hNp
            have hr1 := hNr1
            change ab_W _ _ _ G321 200 [some (vR d_), some (vR p), some (vz pl), some (vz 0), some (vz 1), some (vz 1)] [] _
            have pszI_0 : szI o G321 0 ps k G321.length (vR g1) wh 0 := (szI.appC hj1 hsz9 hpa9 hfz hg9 hp9 hr9 hp hr1 hpr1 (by omega) (by omega) (by omega) (by omega) (by omega) hq320 hq326).up (by omega)
            have popI_0 : opI o G321 0 ps (j1 + 1) G321.length (vR g1) := ⟨g1, r1, ou_2, (vR p), rfl, ⟨hpg1, hpr1⟩, ⟨by omega, by omega⟩, by unfold pf; rw [hg1.2.2]; rfl, by unfold pf; rw [hg1.2.2]; rfl, by unfold pf; rw [hr1.2.2]; rfl, (Or.inr ⟨_, rfl, hpp, by have hlt := hp.lt; omega⟩), popI_0⟩
            rw [← hj1] at popI_0
            refine ab_vret rfl d_RD_append_200 ?_
            rw [hQ]; exact ⟨_, _, _, _, _, _, _, _, rfl, hfr, hlen, hsl, hd_, hx, ppaI_0, popI_0, pszI_0, (by omega), (by omega), (by omega)⟩
          · refine zz_iconst d_RD_append_174 ?_
            refine ab_goto (tgt := 179) d_RD_append_175 (by decide) ?_
            refine ab_callV (d' := d - 1) (as := [vz l211, vz m212, vz 1]) (st := []) (r := _) (z_PA_repeat (o := o) (k := k_4) (v := v_4) (rg := rg_4) (pl := pl_4) (fl := fl_4) (ou := ou_4) (ls := ls_4) (bf := bf_4) (sz := sz_4) (mb := mb_4) (oe := oe_4) (le := le_4) (mo := mo_4) (la := la_4) (rc := rc_4) (ps := ps) (wt := wt) (bs := bs) (gr := grp) (Pr := pr0) (ph := ph) (p := p) (l0 := l211) (m0 := m212) (z0 := 1) hp ppaI_0 (by omega) hpp hn4 (by omega) (ho4.up (by omega)) (hl4.up (by omega)) (hf4.up (by omega)) (by omega) (by omega)) (fun oc G2 h => by rcases h with ⟨_, _, _, h, _⟩ <;> exact ⟨_, h⟩) (by omega) m_PA_repeat ml_RD_193 im_PA_repeat se_PA_repeat c_PA hp.2.2 (Nat.le_of_ble_eq_true rfl) d_RD_append_179 rfl ?_
            intro v G327 hq
            rcases hq with ⟨sz2328, mb2329, oe2330, hv, hfk, hlk, hsk, hNp, pNpaI_0, hq331, hq332, hq333⟩
            cases hv
            have hd_ := hfk.get hd_ (by decide)
            have hx := hfk.get hx (by decide)
            have hby_ := hfk.get hby_ (by decide)
            have hKg1 := hq332.get hfk hg1 (Or.inl hpg1) (by simp only [List.mem_cons, List.not_mem_nil, or_false, not_or]; exact (show g1 ≠ p from hgp))
            have hr1 := hfk.get hr1 (by decide)
            have hg1 := hKg1
            have hfz := hfz.tr hq332 (by simp)
            have popI_0 := popI_0.fz (o2 := o) hq332 (by intro y hy; simp only [List.mem_cons, List.not_mem_nil, or_false] at hy; omega)
            have ppaI_0 := pNpaI_0
            have hfr := hfr.tr hfk (by decide)
            have hlen := hlk.trans hlen
            have hsl := hsk.trans hsl
            have hp := hNp
            change ab_W _ _ _ G327 182 [some (vR d_), some (vR p), some (vz pl), some (vz 0), some (vz 1), some (vz 1)] [] _
            refine ab_goto (tgt := 192) d_RD_append_182 (by decide) ?_
            refine ab_aload_n d_RD_append_192 rfl ?_
            refine ab_getf (fs := [vR x, vR g1, vz dp, vz flg, vz grp, vR na, vR nl, vz l211, vz m212, vz bh213]) f_RD_23 d_RD_append_193 hd_.2.2 rfl ?_
            refine ab_aload_n d_RD_append_196 rfl ?_
            refine ab_callV (d' := d - 1) (as := [vR p]) (st := []) (r := _) (z_PA_pushInLastRow (o := o) (k := k_4) (v := v_4) (rg := rg_4) (pl := pl_4) (fl := fl_4) (ou := ou_4) (ls := ls_4) (bf := bf_4) (sz := sz2328) (mb := mb2329) (oe := oe2330) (le := l211) (mo := m212) (la := 1) (rc := rc_4) (lr := ls3) (br := bf3) (sr := sz3) (mr := mb3) (ps := ps) (wt := wt) (bs := bs) (gr := grp) (Pr := pr0) (ph := ph) (r := r1) (p := p) (kg := k_2) (vg := v_2) (rgg := rg_2) (plg := pl_2) (flg := fl_2) (oug := ou_2) (bfg := bf_2) (szg := sz_2) (mbg := mb_2) (oeg := oe_2) (leg := le_2) (mog := mo_2) (lag := la_2) (rcg := rc_2) (q := g1) hg1 hp hr1 ppaI_0 (by omega) hgp hpg1 hpp hpr1 hn4 (by omega) (by omega) (ho4.up (by omega)) (hl4.up (by omega)) (hf4.up (by omega)) (hlv1.up (by omega)) (hf3.up (by omega)) (hlv1.up (by omega)) (by omega) (by omega)) (fun oc G2 h => by rcases h with ⟨_, _, h, _⟩ <;> exact ⟨_, h⟩) (by omega) m_PA_pushInLastRow ml_RD_197 im_PA_pushInLastRow se_PA_pushInLastRow c_PA hg1.2.2 (Nat.le_of_ble_eq_true rfl) d_RD_append_197 rfl ?_
            intro v G334 hq
            rcases hq with ⟨sr2335, mr2336, hv, hfk, hlk, hsk, hNg1, hNp, hNr1, pNpaI_0, hq337, hq338, hq339⟩
            cases hv
            have hd_ := hfk.get hd_ (by decide)
            have hx := hfk.get hx (by decide)
            have hby_ := hfk.get hby_ (by decide)
            have hfz := hfz.tr hq338 (by simp)
            have popI_0 := popI_0.fz (o2 := o) hq338 (by intro y hy; simp only [List.mem_cons, List.not_mem_nil, or_false] at hy; omega)
            have ppaI_0 := pNpaI_0
            have hfr := hfr.tr hfk (by decide)
            have hlen := hlk.trans hlen
            have hsl := hsk.trans hsl
            have hg1 := hNg1
            have hp := hNp
            have hr1 := hNr1
            change ab_W _ _ _ G334 200 [some (vR d_), some (vR p), some (vz pl), some (vz 0), some (vz 1), some (vz 1)] [] _
            have pszI_0 : szI o G334 0 ps k G334.length (vR g1) wh 0 := (szI.appC hj1 hsz9 hpa9 hfz hg9 hp9 hr9 hp hr1 hpr1 (by omega) (by omega) (by omega) (by omega) (by omega) hq333 hq339).up (by omega)
            have popI_0 : opI o G334 0 ps (j1 + 1) G334.length (vR g1) := ⟨g1, r1, ou_2, (vR p), rfl, ⟨hpg1, hpr1⟩, ⟨by omega, by omega⟩, by unfold pf; rw [hg1.2.2]; rfl, by unfold pf; rw [hg1.2.2]; rfl, by unfold pf; rw [hr1.2.2]; rfl, (Or.inr ⟨_, rfl, hpp, by have hlt := hp.lt; omega⟩), popI_0⟩
            rw [← hj1] at popI_0
            refine ab_vret rfl d_RD_append_200 ?_
            rw [hQ]; exact ⟨_, _, _, _, _, _, _, _, rfl, hfr, hlen, hsl, hd_, hx, ppaI_0, popI_0, pszI_0, (by omega), (by omega), (by omega)⟩
      · refine ab_aload_n d_RD_append_62 rfl ?_
        refine ab_getf (fs := [vR x, vR g1, vz dp, vz flg, vz grp, vR na, vR nl, vz l211, vz m212, vz bh213]) f_RD_184 d_RD_append_63 hd_.2.2 rfl ?_
        refine ab_aload_n d_RD_append_66 rfl ?_
        refine ab_getf (fs := [vR x, vR g1, vz dp, vz flg, vz grp, vR na, vR nl, vz l211, vz m212, vz bh213]) f_RD_187 d_RD_append_67 hd_.2.2 rfl ?_
        refine zz_icmp_le (tgt := 77) d_RD_append_70 (by decide) (by omega) (by omega) (fun c340 => ?_) (fun c340 => absurd c340 (by omega))
        refine zz_iconst d_RD_append_77 ?_
        refine ab_istore d_RD_append_78 (Nat.le_of_ble_eq_true rfl) (Nat.le_of_ble_eq_true rfl) rfl ?_
        change ab_W _ _ _ G5 80 [some (vR d_), some (vR p), some (vz pl), some (vz 0), some (vz 0), none] [] _
        refine ab_iload_n d_RD_append_80 rfl ?_
        refine zz_if_eq (tgt := 101) d_RD_append_81 (by decide) (by decide) (fun c341 => ?_) (fun c341 => absurd c341 (by decide))
        refine ab_aload_n d_RD_append_101 rfl ?_
        refine ab_getf (fs := [vR x, vR g1, vz dp, vz flg, vz grp, vR na, vR nl, vz l211, vz m212, vz bh213]) f_RD_12 d_RD_append_102 hd_.2.2 rfl ?_
        refine ab_aload_n d_RD_append_105 rfl ?_
        refine ab_getf (fs := [vR x, vR g1, vz dp, vz flg, vz grp, vR na, vR nl, vz l211, vz m212, vz bh213]) f_RD_190 d_RD_append_106 hd_.2.2 rfl ?_
        refine ab_putf (fs := [vR se, vR by_, vz n, vz pl, vz fa, vz fp, vR kd, vz kn]) f_RD_55 (Or.inl rfl) d_RD_append_109 hx.2.2 (Nat.le_of_ble_eq_true rfl) (fun _ => ⟨rfl, rfl⟩) (hx.2.1 (by decide)) ?_
        obtain ⟨G342, eG342⟩ : ∃ z : ab_G, z = List.set G5 x (ab_ob 10 [vR se, vR by_, vz n, vz bh213, vz fa, vz fp, vR kd, vz kn]) := ⟨_, rfl⟩
        have hd_ := hd_.keep hx eG342 (by decide)
        have hby_ := hby_.keep hx eG342 (by decide)
        have hg1 := hg1.keep hx eG342 (by decide)
        have hr1 := hr1.keep hx eG342 (by decide)
        have hp := hp.keep hx eG342 (by decide)
        have hfz := hfz.wl ppaI_0 hx eG342 (by decide)
        have hst := (fx.rf (o := o) (S := [24]) (G := G5)).wr hx eG342 (List.mem_singleton.mpr rfl)
        have pszI_0 := szI.fr hst ppaI_0 pszI_0 (by decide) (by decide)
        have popI_0 := opI.fr hst ppaI_0 popI_0 (by decide) (by decide)
        have ppaI_0 := paI.fr hst ppaI_0 (by decide) (by decide) (by decide) (by decide)
        have hlen := (z_len eG342).trans hlen
        have hsl := (z_sl hx eG342 rfl).trans hsl
        have hfr := hfr.wr hx eG342 (by decide)
        have hx := hx.kept eG342
        change ab_W _ _ _ (List.set G5 x (ab_ob 10 [vR se, vR by_, vz n, vz bh213, vz fa, vz fp, vR kd, vz kn])) 112 [some (vR d_), some (vR p), some (vz pl), some (vz 0), some (vz 0), none] [] _
        rw [← eG342]
        refine ab_aload_n d_RD_append_112 rfl ?_
        refine ab_getf (fs := [vR x, vR g1, vz dp, vz flg, vz grp, vR na, vR nl, vz l211, vz m212, vz bh213]) f_RD_12 d_RD_append_113 hd_.2.2 rfl ?_
        refine zz_iconst d_RD_append_116 ?_
        refine ab_callV (d' := d - 1) (as := [vz 0]) (st := []) (r := _) (z_TX_peek0 (o := o) (x := x) (lx := 24) (se := se) (by_ := by_) (lby := 23) (m := m) (f := f) (n := n) (pl := bh213) (fa := fa) (fp := fp) (kd := kd) (kn := kn) hx hby_ (by omega) hb) (fun oc G2 h => by rcases h with ⟨_, h, _⟩ <;> exact ⟨_, h⟩) (by omega) m_TX_peek ml_RD_79 im_TX_peek se_TX_peek c_TX hx.2.2 (Nat.le_of_ble_eq_true rfl) d_RD_append_117 rfl ?_
        intro v G343 hq
        rcases hq with ⟨v344, hv, hGe, hq345, hq346⟩
        cases hv
        rw [hGe]
        change ab_W _ _ _ G342 120 [some (vR d_), some (vR p), some (vz pl), some (vz 0), some (vz 0), none] [vz v344] _
        refine zz_bipush d_RD_append_120 (by decide) ?_
        refine zz_icmp_ne (tgt := 129) d_RD_append_122 (by decide) (by omega) (by decide) (fun c347 => ?_) (fun c347 => ?_)
        · refine zz_iconst d_RD_append_129 ?_
          refine ab_istore d_RD_append_130 (Nat.le_of_ble_eq_true rfl) (Nat.le_of_ble_eq_true rfl) rfl ?_
          change ab_W _ _ _ G342 132 [some (vR d_), some (vR p), some (vz pl), some (vz 0), some (vz 0), some (vz 0)] [] _
          refine ab_aload_n d_RD_append_132 rfl ?_
          refine ab_getf (fs := [vR x, vR g1, vz dp, vz flg, vz grp, vR na, vR nl, vz l211, vz m212, vz bh213]) f_RD_12 d_RD_append_133 hd_.2.2 rfl ?_
          refine ab_dup d_RD_append_136 rfl ?_
          refine ab_getf (fs := [vR se, vR by_, vz n, vz bh213, vz fa, vz fp, vR kd, vz kn]) f_RD_55 d_RD_append_137 hx.2.2 rfl ?_
          refine ab_iload d_RD_append_140 rfl ?_
          refine zz_if_eq (tgt := 149) d_RD_append_142 (by decide) (by decide) (fun c348 => ?_) (fun c348 => absurd c348 (by decide))
          refine zz_iconst d_RD_append_149 ?_
          refine zz_iadd d_RD_append_150 ?_
          refine ab_putf (fs := [vR se, vR by_, vz n, vz bh213, vz fa, vz fp, vR kd, vz kn]) f_RD_55 (Or.inl rfl) d_RD_append_151 hx.2.2 (Nat.le_of_ble_eq_true rfl) (fun _ => ⟨rfl, rfl⟩) (hx.2.1 (by decide)) ?_
          obtain ⟨G349, eG349⟩ : ∃ z : ab_G, z = List.set G342 x (ab_ob 10 [vR se, vR by_, vz n, vz (bh213 + 0), vz fa, vz fp, vR kd, vz kn]) := ⟨_, rfl⟩
          have hd_ := hd_.keep hx eG349 (by decide)
          have hby_ := hby_.keep hx eG349 (by decide)
          have hg1 := hg1.keep hx eG349 (by decide)
          have hr1 := hr1.keep hx eG349 (by decide)
          have hp := hp.keep hx eG349 (by decide)
          have hfz := hfz.wl ppaI_0 hx eG349 (by decide)
          have hst := (fx.rf (o := o) (S := [24]) (G := G342)).wr hx eG349 (List.mem_singleton.mpr rfl)
          have pszI_0 := szI.fr hst ppaI_0 pszI_0 (by decide) (by decide)
          have popI_0 := opI.fr hst ppaI_0 popI_0 (by decide) (by decide)
          have ppaI_0 := paI.fr hst ppaI_0 (by decide) (by decide) (by decide) (by decide)
          have hlen := (z_len eG349).trans hlen
          have hsl := (z_sl hx eG349 rfl).trans hsl
          have hfr := hfr.wr hx eG349 (by decide)
          have hx := hx.kept eG349
          change ab_W _ _ _ (List.set G342 x (ab_ob 10 [vR se, vR by_, vz n, vz (bh213 + 0), vz fa, vz fp, vR kd, vz kn])) 154 [some (vR d_), some (vR p), some (vz pl), some (vz 0), some (vz 0), some (vz 0)] [] _
          rw [← eG349]
          refine ab_aload_n d_RD_append_154 rfl ?_
          refine ab_aload_n d_RD_append_155 rfl ?_
          refine ab_getf (fs := [vR x, vR g1, vz dp, vz flg, vz grp, vR na, vR nl, vz l211, vz m212, vz bh213]) f_RD_184 d_RD_append_156 hd_.2.2 rfl ?_
          refine ab_aload_n d_RD_append_159 rfl ?_
          refine ab_getf (fs := [vR x, vR g1, vz dp, vz flg, vz grp, vR na, vR nl, vz l211, vz m212, vz bh213]) f_RD_187 d_RD_append_160 hd_.2.2 rfl ?_
          refine ab_iload d_RD_append_163 rfl ?_
          refine ab_aload_n d_RD_append_165 rfl ?_
          refine zz_bipush d_RD_append_166 (by decide) ?_
          refine ab_callV (d' := d - 1) (as := [vz 8]) (st := [vz 0, vz m212, vz l211, vR p]) (r := _) (z8_RD_isOn (o := o) (d_ := d_) (inn := vR g1) (dp := dp) (flg := flg) (grp := grp) (na := na) (nl := nl) (lst := l211) (mst := m212) (bh := bh213) (x := x) hd_ (by omega)) (fun oc G2 h => by rcases h with ⟨_, h, _⟩ <;> exact ⟨_, h⟩) (by omega) m_RD_isOn ml_RD_94 im_RD_isOn se_RD_isOn c_RD hd_.2.2 (Nat.le_of_ble_eq_true rfl) d_RD_append_168 rfl ?_
          intro v G350 hq
          rcases hq with ⟨v351, hv, hGe, hq352⟩
          cases hv
          rw [hGe]
          change ab_W _ _ _ G349 171 [some (vR d_), some (vR p), some (vz pl), some (vz 0), some (vz 0), some (vz 0)] [vz v351, vz 0, vz m212, vz l211, vR p] _
          refine zz_icmp_eq (tgt := 178) d_RD_append_171 (by decide) (by decide) (by omega) (fun c353 => ?_) (fun c353 => ?_)
          · refine zz_iconst d_RD_append_178 ?_
            refine ab_callV (d' := d - 1) (as := [vz l211, vz m212, vz 0]) (st := []) (r := _) (z_PA_repeat (o := o) (k := k_4) (v := v_4) (rg := rg_4) (pl := pl_4) (fl := fl_4) (ou := ou_4) (ls := ls_4) (bf := bf_4) (sz := sz_4) (mb := mb_4) (oe := oe_4) (le := le_4) (mo := mo_4) (la := la_4) (rc := rc_4) (ps := ps) (wt := wt) (bs := bs) (gr := grp) (Pr := pr0) (ph := ph) (p := p) (l0 := l211) (m0 := m212) (z0 := 0) hp ppaI_0 (by omega) hpp hn4 (by omega) (ho4.up (by omega)) (hl4.up (by omega)) (hf4.up (by omega)) (by omega) (by omega)) (fun oc G2 h => by rcases h with ⟨_, _, _, h, _⟩ <;> exact ⟨_, h⟩) (by omega) m_PA_repeat ml_RD_193 im_PA_repeat se_PA_repeat c_PA hp.2.2 (Nat.le_of_ble_eq_true rfl) d_RD_append_179 rfl ?_
            intro v G354 hq
            rcases hq with ⟨sz2355, mb2356, oe2357, hv, hfk, hlk, hsk, hNp, pNpaI_0, hq358, hq359, hq360⟩
            cases hv
            have hd_ := hfk.get hd_ (by decide)
            have hx := hfk.get hx (by decide)
            have hby_ := hfk.get hby_ (by decide)
            have hKg1 := hq359.get hfk hg1 (Or.inl hpg1) (by simp only [List.mem_cons, List.not_mem_nil, or_false, not_or]; exact (show g1 ≠ p from hgp))
            have hr1 := hfk.get hr1 (by decide)
            have hg1 := hKg1
            have hfz := hfz.tr hq359 (by simp)
            have popI_0 := popI_0.fz (o2 := o) hq359 (by intro y hy; simp only [List.mem_cons, List.not_mem_nil, or_false] at hy; omega)
            have ppaI_0 := pNpaI_0
            have hfr := hfr.tr hfk (by decide)
            have hlen := hlk.trans hlen
            have hsl := hsk.trans hsl
            have hp := hNp
            change ab_W _ _ _ G354 182 [some (vR d_), some (vR p), some (vz pl), some (vz 0), some (vz 0), some (vz 0)] [] _
            refine ab_goto (tgt := 192) d_RD_append_182 (by decide) ?_
            refine ab_aload_n d_RD_append_192 rfl ?_
            refine ab_getf (fs := [vR x, vR g1, vz dp, vz flg, vz grp, vR na, vR nl, vz l211, vz m212, vz bh213]) f_RD_23 d_RD_append_193 hd_.2.2 rfl ?_
            refine ab_aload_n d_RD_append_196 rfl ?_
            refine ab_callV (d' := d - 1) (as := [vR p]) (st := []) (r := _) (z_PA_pushInLastRow (o := o) (k := k_4) (v := v_4) (rg := rg_4) (pl := pl_4) (fl := fl_4) (ou := ou_4) (ls := ls_4) (bf := bf_4) (sz := sz2355) (mb := mb2356) (oe := oe2357) (le := l211) (mo := m212) (la := 0) (rc := rc_4) (lr := ls3) (br := bf3) (sr := sz3) (mr := mb3) (ps := ps) (wt := wt) (bs := bs) (gr := grp) (Pr := pr0) (ph := ph) (r := r1) (p := p) (kg := k_2) (vg := v_2) (rgg := rg_2) (plg := pl_2) (flg := fl_2) (oug := ou_2) (bfg := bf_2) (szg := sz_2) (mbg := mb_2) (oeg := oe_2) (leg := le_2) (mog := mo_2) (lag := la_2) (rcg := rc_2) (q := g1) hg1 hp hr1 ppaI_0 (by omega) hgp hpg1 hpp hpr1 hn4 (by omega) (by omega) (ho4.up (by omega)) (hl4.up (by omega)) (hf4.up (by omega)) (hlv1.up (by omega)) (hf3.up (by omega)) (hlv1.up (by omega)) (by omega) (by omega)) (fun oc G2 h => by rcases h with ⟨_, _, h, _⟩ <;> exact ⟨_, h⟩) (by omega) m_PA_pushInLastRow ml_RD_197 im_PA_pushInLastRow se_PA_pushInLastRow c_PA hg1.2.2 (Nat.le_of_ble_eq_true rfl) d_RD_append_197 rfl ?_
            intro v G361 hq
            rcases hq with ⟨sr2362, mr2363, hv, hfk, hlk, hsk, hNg1, hNp, hNr1, pNpaI_0, hq364, hq365, hq366⟩
            cases hv
            have hd_ := hfk.get hd_ (by decide)
            have hx := hfk.get hx (by decide)
            have hby_ := hfk.get hby_ (by decide)
            have hfz := hfz.tr hq365 (by simp)
            have popI_0 := popI_0.fz (o2 := o) hq365 (by intro y hy; simp only [List.mem_cons, List.not_mem_nil, or_false] at hy; omega)
            have ppaI_0 := pNpaI_0
            have hfr := hfr.tr hfk (by decide)
            have hlen := hlk.trans hlen
            have hsl := hsk.trans hsl
            have hg1 := hNg1
            have hp := hNp
            have hr1 := hNr1
            change ab_W _ _ _ G361 200 [some (vR d_), some (vR p), some (vz pl), some (vz 0), some (vz 0), some (vz 0)] [] _
            have pszI_0 : szI o G361 0 ps k G361.length (vR g1) wh 0 := (szI.appC hj1 hsz9 hpa9 hfz hg9 hp9 hr9 hp hr1 hpr1 (by omega) (by omega) (by omega) (by omega) (by omega) hq360 hq366).up (by omega)
            have popI_0 : opI o G361 0 ps (j1 + 1) G361.length (vR g1) := ⟨g1, r1, ou_2, (vR p), rfl, ⟨hpg1, hpr1⟩, ⟨by omega, by omega⟩, by unfold pf; rw [hg1.2.2]; rfl, by unfold pf; rw [hg1.2.2]; rfl, by unfold pf; rw [hr1.2.2]; rfl, (Or.inr ⟨_, rfl, hpp, by have hlt := hp.lt; omega⟩), popI_0⟩
            rw [← hj1] at popI_0
            refine ab_vret rfl d_RD_append_200 ?_
            rw [hQ]; exact ⟨_, _, _, _, _, _, _, _, rfl, hfr, hlen, hsl, hd_, hx, ppaI_0, popI_0, pszI_0, (by omega), (by omega), (by omega)⟩
          · refine zz_iconst d_RD_append_174 ?_
            refine ab_goto (tgt := 179) d_RD_append_175 (by decide) ?_
            refine ab_callV (d' := d - 1) (as := [vz l211, vz m212, vz 1]) (st := []) (r := _) (z_PA_repeat (o := o) (k := k_4) (v := v_4) (rg := rg_4) (pl := pl_4) (fl := fl_4) (ou := ou_4) (ls := ls_4) (bf := bf_4) (sz := sz_4) (mb := mb_4) (oe := oe_4) (le := le_4) (mo := mo_4) (la := la_4) (rc := rc_4) (ps := ps) (wt := wt) (bs := bs) (gr := grp) (Pr := pr0) (ph := ph) (p := p) (l0 := l211) (m0 := m212) (z0 := 1) hp ppaI_0 (by omega) hpp hn4 (by omega) (ho4.up (by omega)) (hl4.up (by omega)) (hf4.up (by omega)) (by omega) (by omega)) (fun oc G2 h => by rcases h with ⟨_, _, _, h, _⟩ <;> exact ⟨_, h⟩) (by omega) m_PA_repeat ml_RD_193 im_PA_repeat se_PA_repeat c_PA hp.2.2 (Nat.le_of_ble_eq_true rfl) d_RD_append_179 rfl ?_
            intro v G367 hq
            rcases hq with ⟨sz2368, mb2369, oe2370, hv, hfk, hlk, hsk, hNp, pNpaI_0, hq371, hq372, hq373⟩
            cases hv
            have hd_ := hfk.get hd_ (by decide)
            have hx := hfk.get hx (by decide)
            have hby_ := hfk.get hby_ (by decide)
            have hKg1 := hq372.get hfk hg1 (Or.inl hpg1) (by simp only [List.mem_cons, List.not_mem_nil, or_false, not_or]; exact (show g1 ≠ p from hgp))
            have hr1 := hfk.get hr1 (by decide)
            have hg1 := hKg1
            have hfz := hfz.tr hq372 (by simp)
            have popI_0 := popI_0.fz (o2 := o) hq372 (by intro y hy; simp only [List.mem_cons, List.not_mem_nil, or_false] at hy; omega)
            have ppaI_0 := pNpaI_0
            have hfr := hfr.tr hfk (by decide)
            have hlen := hlk.trans hlen
            have hsl := hsk.trans hsl
            have hp := hNp
            change ab_W _ _ _ G367 182 [some (vR d_), some (vR p), some (vz pl), some (vz 0), some (vz 0), some (vz 0)] [] _
            refine ab_goto (tgt := 192) d_RD_append_182 (by decide) ?_
            refine ab_aload_n d_RD_append_192 rfl ?_
            refine ab_getf (fs := [vR x, vR g1, vz dp, vz flg, vz grp, vR na, vR nl, vz l211, vz m212, vz bh213]) f_RD_23 d_RD_append_193 hd_.2.2 rfl ?_
            refine ab_aload_n d_RD_append_196 rfl ?_
            refine ab_callV (d' := d - 1) (as := [vR p]) (st := []) (r := _) (z_PA_pushInLastRow (o := o) (k := k_4) (v := v_4) (rg := rg_4) (pl := pl_4) (fl := fl_4) (ou := ou_4) (ls := ls_4) (bf := bf_4) (sz := sz2368) (mb := mb2369) (oe := oe2370) (le := l211) (mo := m212) (la := 1) (rc := rc_4) (lr := ls3) (br := bf3) (sr := sz3) (mr := mb3) (ps := ps) (wt := wt) (bs := bs) (gr := grp) (Pr := pr0) (ph := ph) (r := r1) (p := p) (kg := k_2) (vg := v_2) (rgg := rg_2) (plg := pl_2) (flg := fl_2) (oug := ou_2) (bfg := bf_2) (szg := sz_2) (mbg := mb_2) (oeg := oe_2) (leg := le_2) (mog := mo_2) (lag := la_2) (rcg := rc_2) (q := g1) hg1 hp hr1 ppaI_0 (by omega) hgp hpg1 hpp hpr1 hn4 (by omega) (by omega) (ho4.up (by omega)) (hl4.up (by omega)) (hf4.up (by omega)) (hlv1.up (by omega)) (hf3.up (by omega)) (hlv1.up (by omega)) (by omega) (by omega)) (fun oc G2 h => by rcases h with ⟨_, _, h, _⟩ <;> exact ⟨_, h⟩) (by omega) m_PA_pushInLastRow ml_RD_197 im_PA_pushInLastRow se_PA_pushInLastRow c_PA hg1.2.2 (Nat.le_of_ble_eq_true rfl) d_RD_append_197 rfl ?_
            intro v G374 hq
            rcases hq with ⟨sr2375, mr2376, hv, hfk, hlk, hsk, hNg1, hNp, hNr1, pNpaI_0, hq377, hq378, hq379⟩
            cases hv
            have hd_ := hfk.get hd_ (by decide)
            have hx := hfk.get hx (by decide)
            have hby_ := hfk.get hby_ (by decide)
            have hfz := hfz.tr hq378 (by simp)
            have popI_0 := popI_0.fz (o2 := o) hq378 (by intro y hy; simp only [List.mem_cons, List.not_mem_nil, or_false] at hy; omega)
            have ppaI_0 := pNpaI_0
            have hfr := hfr.tr hfk (by decide)
            have hlen := hlk.trans hlen
            have hsl := hsk.trans hsl
            have hg1 := hNg1
            have hp := hNp
            have hr1 := hNr1
            change ab_W _ _ _ G374 200 [some (vR d_), some (vR p), some (vz pl), some (vz 0), some (vz 0), some (vz 0)] [] _
            have pszI_0 : szI o G374 0 ps k G374.length (vR g1) wh 0 := (szI.appC hj1 hsz9 hpa9 hfz hg9 hp9 hr9 hp hr1 hpr1 (by omega) (by omega) (by omega) (by omega) (by omega) hq373 hq379).up (by omega)
            have popI_0 : opI o G374 0 ps (j1 + 1) G374.length (vR g1) := ⟨g1, r1, ou_2, (vR p), rfl, ⟨hpg1, hpr1⟩, ⟨by omega, by omega⟩, by unfold pf; rw [hg1.2.2]; rfl, by unfold pf; rw [hg1.2.2]; rfl, by unfold pf; rw [hr1.2.2]; rfl, (Or.inr ⟨_, rfl, hpp, by have hlt := hp.lt; omega⟩), popI_0⟩
            rw [← hj1] at popI_0
            refine ab_vret rfl d_RD_append_200 ?_
            rw [hQ]; exact ⟨_, _, _, _, _, _, _, _, rfl, hfr, hlen, hsl, hd_, hx, ppaI_0, popI_0, pszI_0, (by omega), (by omega), (by omega)⟩
        · refine zz_iconst d_RD_append_125 ?_
          refine ab_goto (tgt := 130) d_RD_append_126 (by decide) ?_
          refine ab_istore d_RD_append_130 (Nat.le_of_ble_eq_true rfl) (Nat.le_of_ble_eq_true rfl) rfl ?_
          change ab_W _ _ _ G342 132 [some (vR d_), some (vR p), some (vz pl), some (vz 0), some (vz 0), some (vz 1)] [] _
          refine ab_aload_n d_RD_append_132 rfl ?_
          refine ab_getf (fs := [vR x, vR g1, vz dp, vz flg, vz grp, vR na, vR nl, vz l211, vz m212, vz bh213]) f_RD_12 d_RD_append_133 hd_.2.2 rfl ?_
          refine ab_dup d_RD_append_136 rfl ?_
          refine ab_getf (fs := [vR se, vR by_, vz n, vz bh213, vz fa, vz fp, vR kd, vz kn]) f_RD_55 d_RD_append_137 hx.2.2 rfl ?_
          refine ab_iload d_RD_append_140 rfl ?_
          refine zz_if_eq (tgt := 149) d_RD_append_142 (by decide) (by decide) (fun c380 => absurd c380 (by decide)) (fun c380 => ?_)
          refine zz_iconst d_RD_append_145 ?_
          refine ab_goto (tgt := 150) d_RD_append_146 (by decide) ?_
          refine zz_iadd d_RD_append_150 ?_
          refine ab_putf (fs := [vR se, vR by_, vz n, vz bh213, vz fa, vz fp, vR kd, vz kn]) f_RD_55 (Or.inl rfl) d_RD_append_151 hx.2.2 (Nat.le_of_ble_eq_true rfl) (fun _ => ⟨rfl, rfl⟩) (hx.2.1 (by decide)) ?_
          obtain ⟨G381, eG381⟩ : ∃ z : ab_G, z = List.set G342 x (ab_ob 10 [vR se, vR by_, vz n, vz (bh213 + 1), vz fa, vz fp, vR kd, vz kn]) := ⟨_, rfl⟩
          have hd_ := hd_.keep hx eG381 (by decide)
          have hby_ := hby_.keep hx eG381 (by decide)
          have hg1 := hg1.keep hx eG381 (by decide)
          have hr1 := hr1.keep hx eG381 (by decide)
          have hp := hp.keep hx eG381 (by decide)
          have hfz := hfz.wl ppaI_0 hx eG381 (by decide)
          have hst := (fx.rf (o := o) (S := [24]) (G := G342)).wr hx eG381 (List.mem_singleton.mpr rfl)
          have pszI_0 := szI.fr hst ppaI_0 pszI_0 (by decide) (by decide)
          have popI_0 := opI.fr hst ppaI_0 popI_0 (by decide) (by decide)
          have ppaI_0 := paI.fr hst ppaI_0 (by decide) (by decide) (by decide) (by decide)
          have hlen := (z_len eG381).trans hlen
          have hsl := (z_sl hx eG381 rfl).trans hsl
          have hfr := hfr.wr hx eG381 (by decide)
          have hx := hx.kept eG381
          change ab_W _ _ _ (List.set G342 x (ab_ob 10 [vR se, vR by_, vz n, vz (bh213 + 1), vz fa, vz fp, vR kd, vz kn])) 154 [some (vR d_), some (vR p), some (vz pl), some (vz 0), some (vz 0), some (vz 1)] [] _
          rw [← eG381]
          refine ab_aload_n d_RD_append_154 rfl ?_
          refine ab_aload_n d_RD_append_155 rfl ?_
          refine ab_getf (fs := [vR x, vR g1, vz dp, vz flg, vz grp, vR na, vR nl, vz l211, vz m212, vz bh213]) f_RD_184 d_RD_append_156 hd_.2.2 rfl ?_
          refine ab_aload_n d_RD_append_159 rfl ?_
          refine ab_getf (fs := [vR x, vR g1, vz dp, vz flg, vz grp, vR na, vR nl, vz l211, vz m212, vz bh213]) f_RD_187 d_RD_append_160 hd_.2.2 rfl ?_
          refine ab_iload d_RD_append_163 rfl ?_
          refine ab_aload_n d_RD_append_165 rfl ?_
          refine zz_bipush d_RD_append_166 (by decide) ?_
          refine ab_callV (d' := d - 1) (as := [vz 8]) (st := [vz 1, vz m212, vz l211, vR p]) (r := _) (z8_RD_isOn (o := o) (d_ := d_) (inn := vR g1) (dp := dp) (flg := flg) (grp := grp) (na := na) (nl := nl) (lst := l211) (mst := m212) (bh := bh213) (x := x) hd_ (by omega)) (fun oc G2 h => by rcases h with ⟨_, h, _⟩ <;> exact ⟨_, h⟩) (by omega) m_RD_isOn ml_RD_94 im_RD_isOn se_RD_isOn c_RD hd_.2.2 (Nat.le_of_ble_eq_true rfl) d_RD_append_168 rfl ?_
          intro v G382 hq
          rcases hq with ⟨v383, hv, hGe, hq384⟩
          cases hv
          rw [hGe]
          change ab_W _ _ _ G381 171 [some (vR d_), some (vR p), some (vz pl), some (vz 0), some (vz 0), some (vz 1)] [vz v383, vz 1, vz m212, vz l211, vR p] _
          refine zz_icmp_eq (tgt := 178) d_RD_append_171 (by decide) (by decide) (by omega) (fun c385 => ?_) (fun c385 => ?_)
          · refine zz_iconst d_RD_append_178 ?_
            refine ab_callV (d' := d - 1) (as := [vz l211, vz m212, vz 0]) (st := []) (r := _) (z_PA_repeat (o := o) (k := k_4) (v := v_4) (rg := rg_4) (pl := pl_4) (fl := fl_4) (ou := ou_4) (ls := ls_4) (bf := bf_4) (sz := sz_4) (mb := mb_4) (oe := oe_4) (le := le_4) (mo := mo_4) (la := la_4) (rc := rc_4) (ps := ps) (wt := wt) (bs := bs) (gr := grp) (Pr := pr0) (ph := ph) (p := p) (l0 := l211) (m0 := m212) (z0 := 0) hp ppaI_0 (by omega) hpp hn4 (by omega) (ho4.up (by omega)) (hl4.up (by omega)) (hf4.up (by omega)) (by omega) (by omega)) (fun oc G2 h => by rcases h with ⟨_, _, _, h, _⟩ <;> exact ⟨_, h⟩) (by omega) m_PA_repeat ml_RD_193 im_PA_repeat se_PA_repeat c_PA hp.2.2 (Nat.le_of_ble_eq_true rfl) d_RD_append_179 rfl ?_
            intro v G386 hq
            rcases hq with ⟨sz2387, mb2388, oe2389, hv, hfk, hlk, hsk, hNp, pNpaI_0, hq390, hq391, hq392⟩
            cases hv
            have hd_ := hfk.get hd_ (by decide)
            have hx := hfk.get hx (by decide)
            have hby_ := hfk.get hby_ (by decide)
            have hKg1 := hq391.get hfk hg1 (Or.inl hpg1) (by simp only [List.mem_cons, List.not_mem_nil, or_false, not_or]; exact (show g1 ≠ p from hgp))
            have hr1 := hfk.get hr1 (by decide)
            have hg1 := hKg1
            have hfz := hfz.tr hq391 (by simp)
            have popI_0 := popI_0.fz (o2 := o) hq391 (by intro y hy; simp only [List.mem_cons, List.not_mem_nil, or_false] at hy; omega)
            have ppaI_0 := pNpaI_0
            have hfr := hfr.tr hfk (by decide)
            have hlen := hlk.trans hlen
            have hsl := hsk.trans hsl
            have hp := hNp
            change ab_W _ _ _ G386 182 [some (vR d_), some (vR p), some (vz pl), some (vz 0), some (vz 0), some (vz 1)] [] _
            refine ab_goto (tgt := 192) d_RD_append_182 (by decide) ?_
            refine ab_aload_n d_RD_append_192 rfl ?_
            refine ab_getf (fs := [vR x, vR g1, vz dp, vz flg, vz grp, vR na, vR nl, vz l211, vz m212, vz bh213]) f_RD_23 d_RD_append_193 hd_.2.2 rfl ?_
            refine ab_aload_n d_RD_append_196 rfl ?_
            refine ab_callV (d' := d - 1) (as := [vR p]) (st := []) (r := _) (z_PA_pushInLastRow (o := o) (k := k_4) (v := v_4) (rg := rg_4) (pl := pl_4) (fl := fl_4) (ou := ou_4) (ls := ls_4) (bf := bf_4) (sz := sz2387) (mb := mb2388) (oe := oe2389) (le := l211) (mo := m212) (la := 0) (rc := rc_4) (lr := ls3) (br := bf3) (sr := sz3) (mr := mb3) (ps := ps) (wt := wt) (bs := bs) (gr := grp) (Pr := pr0) (ph := ph) (r := r1) (p := p) (kg := k_2) (vg := v_2) (rgg := rg_2) (plg := pl_2) (flg := fl_2) (oug := ou_2) (bfg := bf_2) (szg := sz_2) (mbg := mb_2) (oeg := oe_2) (leg := le_2) (mog := mo_2) (lag := la_2) (rcg := rc_2) (q := g1) hg1 hp hr1 ppaI_0 (by omega) hgp hpg1 hpp hpr1 hn4 (by omega) (by omega) (ho4.up (by omega)) (hl4.up (by omega)) (hf4.up (by omega)) (hlv1.up (by omega)) (hf3.up (by omega)) (hlv1.up (by omega)) (by omega) (by omega)) (fun oc G2 h => by rcases h with ⟨_, _, h, _⟩ <;> exact ⟨_, h⟩) (by omega) m_PA_pushInLastRow ml_RD_197 im_PA_pushInLastRow se_PA_pushInLastRow c_PA hg1.2.2 (Nat.le_of_ble_eq_true rfl) d_RD_append_197 rfl ?_
            intro v G393 hq
            rcases hq with ⟨sr2394, mr2395, hv, hfk, hlk, hsk, hNg1, hNp, hNr1, pNpaI_0, hq396, hq397, hq398⟩
            cases hv
            have hd_ := hfk.get hd_ (by decide)
            have hx := hfk.get hx (by decide)
            have hby_ := hfk.get hby_ (by decide)
            have hfz := hfz.tr hq397 (by simp)
            have popI_0 := popI_0.fz (o2 := o) hq397 (by intro y hy; simp only [List.mem_cons, List.not_mem_nil, or_false] at hy; omega)
            have ppaI_0 := pNpaI_0
            have hfr := hfr.tr hfk (by decide)
            have hlen := hlk.trans hlen
            have hsl := hsk.trans hsl
            have hg1 := hNg1
            have hp := hNp
            have hr1 := hNr1
            change ab_W _ _ _ G393 200 [some (vR d_), some (vR p), some (vz pl), some (vz 0), some (vz 0), some (vz 1)] [] _
            have pszI_0 : szI o G393 0 ps k G393.length (vR g1) wh 0 := (szI.appC hj1 hsz9 hpa9 hfz hg9 hp9 hr9 hp hr1 hpr1 (by omega) (by omega) (by omega) (by omega) (by omega) hq392 hq398).up (by omega)
            have popI_0 : opI o G393 0 ps (j1 + 1) G393.length (vR g1) := ⟨g1, r1, ou_2, (vR p), rfl, ⟨hpg1, hpr1⟩, ⟨by omega, by omega⟩, by unfold pf; rw [hg1.2.2]; rfl, by unfold pf; rw [hg1.2.2]; rfl, by unfold pf; rw [hr1.2.2]; rfl, (Or.inr ⟨_, rfl, hpp, by have hlt := hp.lt; omega⟩), popI_0⟩
            rw [← hj1] at popI_0
            refine ab_vret rfl d_RD_append_200 ?_
            rw [hQ]; exact ⟨_, _, _, _, _, _, _, _, rfl, hfr, hlen, hsl, hd_, hx, ppaI_0, popI_0, pszI_0, (by omega), (by omega), (by omega)⟩
          · refine zz_iconst d_RD_append_174 ?_
            refine ab_goto (tgt := 179) d_RD_append_175 (by decide) ?_
            refine ab_callV (d' := d - 1) (as := [vz l211, vz m212, vz 1]) (st := []) (r := _) (z_PA_repeat (o := o) (k := k_4) (v := v_4) (rg := rg_4) (pl := pl_4) (fl := fl_4) (ou := ou_4) (ls := ls_4) (bf := bf_4) (sz := sz_4) (mb := mb_4) (oe := oe_4) (le := le_4) (mo := mo_4) (la := la_4) (rc := rc_4) (ps := ps) (wt := wt) (bs := bs) (gr := grp) (Pr := pr0) (ph := ph) (p := p) (l0 := l211) (m0 := m212) (z0 := 1) hp ppaI_0 (by omega) hpp hn4 (by omega) (ho4.up (by omega)) (hl4.up (by omega)) (hf4.up (by omega)) (by omega) (by omega)) (fun oc G2 h => by rcases h with ⟨_, _, _, h, _⟩ <;> exact ⟨_, h⟩) (by omega) m_PA_repeat ml_RD_193 im_PA_repeat se_PA_repeat c_PA hp.2.2 (Nat.le_of_ble_eq_true rfl) d_RD_append_179 rfl ?_
            intro v G399 hq
            rcases hq with ⟨sz2400, mb2401, oe2402, hv, hfk, hlk, hsk, hNp, pNpaI_0, hq403, hq404, hq405⟩
            cases hv
            have hd_ := hfk.get hd_ (by decide)
            have hx := hfk.get hx (by decide)
            have hby_ := hfk.get hby_ (by decide)
            have hKg1 := hq404.get hfk hg1 (Or.inl hpg1) (by simp only [List.mem_cons, List.not_mem_nil, or_false, not_or]; exact (show g1 ≠ p from hgp))
            have hr1 := hfk.get hr1 (by decide)
            have hg1 := hKg1
            have hfz := hfz.tr hq404 (by simp)
            have popI_0 := popI_0.fz (o2 := o) hq404 (by intro y hy; simp only [List.mem_cons, List.not_mem_nil, or_false] at hy; omega)
            have ppaI_0 := pNpaI_0
            have hfr := hfr.tr hfk (by decide)
            have hlen := hlk.trans hlen
            have hsl := hsk.trans hsl
            have hp := hNp
            change ab_W _ _ _ G399 182 [some (vR d_), some (vR p), some (vz pl), some (vz 0), some (vz 0), some (vz 1)] [] _
            refine ab_goto (tgt := 192) d_RD_append_182 (by decide) ?_
            refine ab_aload_n d_RD_append_192 rfl ?_
            refine ab_getf (fs := [vR x, vR g1, vz dp, vz flg, vz grp, vR na, vR nl, vz l211, vz m212, vz bh213]) f_RD_23 d_RD_append_193 hd_.2.2 rfl ?_
            refine ab_aload_n d_RD_append_196 rfl ?_
            refine ab_callV (d' := d - 1) (as := [vR p]) (st := []) (r := _) (z_PA_pushInLastRow (o := o) (k := k_4) (v := v_4) (rg := rg_4) (pl := pl_4) (fl := fl_4) (ou := ou_4) (ls := ls_4) (bf := bf_4) (sz := sz2400) (mb := mb2401) (oe := oe2402) (le := l211) (mo := m212) (la := 1) (rc := rc_4) (lr := ls3) (br := bf3) (sr := sz3) (mr := mb3) (ps := ps) (wt := wt) (bs := bs) (gr := grp) (Pr := pr0) (ph := ph) (r := r1) (p := p) (kg := k_2) (vg := v_2) (rgg := rg_2) (plg := pl_2) (flg := fl_2) (oug := ou_2) (bfg := bf_2) (szg := sz_2) (mbg := mb_2) (oeg := oe_2) (leg := le_2) (mog := mo_2) (lag := la_2) (rcg := rc_2) (q := g1) hg1 hp hr1 ppaI_0 (by omega) hgp hpg1 hpp hpr1 hn4 (by omega) (by omega) (ho4.up (by omega)) (hl4.up (by omega)) (hf4.up (by omega)) (hlv1.up (by omega)) (hf3.up (by omega)) (hlv1.up (by omega)) (by omega) (by omega)) (fun oc G2 h => by rcases h with ⟨_, _, h, _⟩ <;> exact ⟨_, h⟩) (by omega) m_PA_pushInLastRow ml_RD_197 im_PA_pushInLastRow se_PA_pushInLastRow c_PA hg1.2.2 (Nat.le_of_ble_eq_true rfl) d_RD_append_197 rfl ?_
            intro v G406 hq
            rcases hq with ⟨sr2407, mr2408, hv, hfk, hlk, hsk, hNg1, hNp, hNr1, pNpaI_0, hq409, hq410, hq411⟩
            cases hv
            have hd_ := hfk.get hd_ (by decide)
            have hx := hfk.get hx (by decide)
            have hby_ := hfk.get hby_ (by decide)
            have hfz := hfz.tr hq410 (by simp)
            have popI_0 := popI_0.fz (o2 := o) hq410 (by intro y hy; simp only [List.mem_cons, List.not_mem_nil, or_false] at hy; omega)
            have ppaI_0 := pNpaI_0
            have hfr := hfr.tr hfk (by decide)
            have hlen := hlk.trans hlen
            have hsl := hsk.trans hsl
            have hg1 := hNg1
            have hp := hNp
            have hr1 := hNr1
            change ab_W _ _ _ G406 200 [some (vR d_), some (vR p), some (vz pl), some (vz 0), some (vz 0), some (vz 1)] [] _
            have pszI_0 : szI o G406 0 ps k G406.length (vR g1) wh 0 := (szI.appC hj1 hsz9 hpa9 hfz hg9 hp9 hr9 hp hr1 hpr1 (by omega) (by omega) (by omega) (by omega) (by omega) hq405 hq411).up (by omega)
            have popI_0 : opI o G406 0 ps (j1 + 1) G406.length (vR g1) := ⟨g1, r1, ou_2, (vR p), rfl, ⟨hpg1, hpr1⟩, ⟨by omega, by omega⟩, by unfold pf; rw [hg1.2.2]; rfl, by unfold pf; rw [hg1.2.2]; rfl, by unfold pf; rw [hr1.2.2]; rfl, (Or.inr ⟨_, rfl, hpp, by have hlt := hp.lt; omega⟩), popI_0⟩
            rw [← hj1] at popI_0
            refine ab_vret rfl d_RD_append_200 ?_
            rw [hQ]; exact ⟨_, _, _, _, _, _, _, _, rfl, hfr, hlen, hsl, hd_, hx, ppaI_0, popI_0, pszI_0, (by omega), (by omega), (by omega)⟩
  · cases hv
    have hx := hfk.get hx (by decide)
    have hby_ := hfk.get hby_ (by decide)
    have hg1 := hfk.get hg1 (by decide)
    have hr1 := hfk.get hr1 (by decide)
    have hp := hfk.get hp (by decide)
    have hfz := hfz.tr (fz.fx ppaI_0 hfk (by decide) (by decide)) (by simp)
    have pszI_0 := szI.fr hfk ppaI_0 pszI_0 (by decide) (by decide)
    have popI_0 := opI.fr hfk ppaI_0 popI_0 (by decide) (by decide)
    have ppaI_0 := paI.fr hfk ppaI_0 (by decide) (by decide) (by decide) (by decide)
    have hfr := hfr.tr hfk (by decide)
    have hlen := hlk.trans hlen
    have hsl := hsk.trans hsl
    have hd_ := hNd_
    change ab_W _ _ _ G5 4 [some (vR d_), some (vR p), none, none, none, none] [vz 0] _
    refine zz_if_eq (tgt := 185) d_RD_append_4 (by decide) (by decide) (fun c412 => ?_) (fun c412 => absurd c412 (by decide))
    refine ab_aload_n d_RD_append_185 rfl ?_
    refine zz_iconst d_RD_append_186 ?_
    refine zz_iconst d_RD_append_187 ?_
    refine zz_iconst d_RD_append_188 ?_
    refine ab_callV (d' := d - 1) (as := [vz 1, vz 1, vz 0]) (st := []) (r := _) (z_PA_repeat (o := o) (k := k_4) (v := v_4) (rg := rg_4) (pl := pl_4) (fl := fl_4) (ou := ou_4) (ls := ls_4) (bf := bf_4) (sz := sz_4) (mb := mb_4) (oe := oe_4) (le := le_4) (mo := mo_4) (la := la_4) (rc := rc_4) (ps := ps) (wt := wt) (bs := bs) (gr := grp) (Pr := pr0) (ph := ph) (p := p) (l0 := 1) (m0 := 1) (z0 := 0) hp ppaI_0 (by omega) hpp hn4 (by omega) (ho4.up (by omega)) (hl4.up (by omega)) (hf4.up (by omega)) (by omega) (by omega)) (fun oc G2 h => by rcases h with ⟨_, _, _, h, _⟩ <;> exact ⟨_, h⟩) (by omega) m_PA_repeat ml_RD_193 im_PA_repeat se_PA_repeat c_PA hp.2.2 (Nat.le_of_ble_eq_true rfl) d_RD_append_189 rfl ?_
    intro v G413 hq
    rcases hq with ⟨sz2414, mb2415, oe2416, hv, hfk, hlk, hsk, hNp, pNpaI_0, hq417, hq418, hq419⟩
    cases hv
    have hd_ := hfk.get hd_ (by decide)
    have hx := hfk.get hx (by decide)
    have hby_ := hfk.get hby_ (by decide)
    have hKg1 := hq418.get hfk hg1 (Or.inl hpg1) (by simp only [List.mem_cons, List.not_mem_nil, or_false, not_or]; exact (show g1 ≠ p from hgp))
    have hr1 := hfk.get hr1 (by decide)
    have hg1 := hKg1
    have hfz := hfz.tr hq418 (by simp)
    have popI_0 := popI_0.fz (o2 := o) hq418 (by intro y hy; simp only [List.mem_cons, List.not_mem_nil, or_false] at hy; omega)
    have ppaI_0 := pNpaI_0
    have hfr := hfr.tr hfk (by decide)
    have hlen := hlk.trans hlen
    have hsl := hsk.trans hsl
    have hp := hNp
    change ab_W _ _ _ G413 192 [some (vR d_), some (vR p), none, none, none, none] [] _
    refine ab_aload_n d_RD_append_192 rfl ?_
    refine ab_getf (fs := [vR x, vR g1, vz dp, vz flg, vz grp, vR na, vR nl, vz l216, vz m217, vz bh218]) f_RD_23 d_RD_append_193 hd_.2.2 rfl ?_
    refine ab_aload_n d_RD_append_196 rfl ?_
    refine ab_callV (d' := d - 1) (as := [vR p]) (st := []) (r := _) (z_PA_pushInLastRow (o := o) (k := k_4) (v := v_4) (rg := rg_4) (pl := pl_4) (fl := fl_4) (ou := ou_4) (ls := ls_4) (bf := bf_4) (sz := sz2414) (mb := mb2415) (oe := oe2416) (le := 1) (mo := 1) (la := 0) (rc := rc_4) (lr := ls3) (br := bf3) (sr := sz3) (mr := mb3) (ps := ps) (wt := wt) (bs := bs) (gr := grp) (Pr := pr0) (ph := ph) (r := r1) (p := p) (kg := k_2) (vg := v_2) (rgg := rg_2) (plg := pl_2) (flg := fl_2) (oug := ou_2) (bfg := bf_2) (szg := sz_2) (mbg := mb_2) (oeg := oe_2) (leg := le_2) (mog := mo_2) (lag := la_2) (rcg := rc_2) (q := g1) hg1 hp hr1 ppaI_0 (by omega) hgp hpg1 hpp hpr1 hn4 (by omega) (by omega) (ho4.up (by omega)) (hl4.up (by omega)) (hf4.up (by omega)) (hlv1.up (by omega)) (hf3.up (by omega)) (hlv1.up (by omega)) (by omega) (by omega)) (fun oc G2 h => by rcases h with ⟨_, _, h, _⟩ <;> exact ⟨_, h⟩) (by omega) m_PA_pushInLastRow ml_RD_197 im_PA_pushInLastRow se_PA_pushInLastRow c_PA hg1.2.2 (Nat.le_of_ble_eq_true rfl) d_RD_append_197 rfl ?_
    intro v G420 hq
    rcases hq with ⟨sr2421, mr2422, hv, hfk, hlk, hsk, hNg1, hNp, hNr1, pNpaI_0, hq423, hq424, hq425⟩
    cases hv
    have hd_ := hfk.get hd_ (by decide)
    have hx := hfk.get hx (by decide)
    have hby_ := hfk.get hby_ (by decide)
    have hfz := hfz.tr hq424 (by simp)
    have popI_0 := popI_0.fz (o2 := o) hq424 (by intro y hy; simp only [List.mem_cons, List.not_mem_nil, or_false] at hy; omega)
    have ppaI_0 := pNpaI_0
    have hfr := hfr.tr hfk (by decide)
    have hlen := hlk.trans hlen
    have hsl := hsk.trans hsl
    have hg1 := hNg1
    have hp := hNp
    have hr1 := hNr1
    change ab_W _ _ _ G420 200 [some (vR d_), some (vR p), none, none, none, none] [] _
    have pszI_0 : szI o G420 0 ps k G420.length (vR g1) wh 0 := (szI.appC hj1 hsz9 hpa9 hfz hg9 hp9 hr9 hp hr1 hpr1 (by omega) (by omega) (by omega) (by omega) (by omega) hq419 hq425).up (by omega)
    have popI_0 : opI o G420 0 ps (j1 + 1) G420.length (vR g1) := ⟨g1, r1, ou_2, (vR p), rfl, ⟨hpg1, hpr1⟩, ⟨by omega, by omega⟩, by unfold pf; rw [hg1.2.2]; rfl, by unfold pf; rw [hg1.2.2]; rfl, by unfold pf; rw [hr1.2.2]; rfl, (Or.inr ⟨_, rfl, hpp, by have hlt := hp.lt; omega⟩), popI_0⟩
    rw [← hj1] at popI_0
    refine ab_vret rfl d_RD_append_200 ?_
    rw [hQ]; exact ⟨_, _, _, _, _, _, _, _, rfl, hfr, hlen, hsl, hd_, hx, ppaI_0, popI_0, pszI_0, (by omega), (by omega), (by omega)⟩
set_option maxRecDepth 100000 in
set_option maxHeartbeats 4000000 in
theorem z_RD_open {X : ab_X} {d : Nat} {o : Nat → Nat} {G : ab_G} {d_ : Nat} {inn : Value} {dp : Int} {flg : Int} {grp : Int} {na : Nat} {nl : Nat} {lst : Int} {mst : Int} {bh : Int} {NA : Int → Int} {NL : Int → Int} {x : Nat} {se : Nat} {by_ : Nat} {m : Nat} {f : Int → Int} {n : Int} {pl : Int} {fa : Int} {fp : Int} {kd : Nat} {kn : Int} {ps : Nat → Nat} {wt : Nat → Nat} {bs : Nat} {ph : Int} {k : Nat} {hi : Nat} {wh : Nat} (hd_ : cc o G d_ 25 (ab_ob 6 [vR x, inn, vz dp, vz flg, vz grp, vR na, vR nl, vz lst, vz mst, vz bh])) (hx : cc o G x 24 (ab_ob 10 [vR se, vR by_, vz n, vz pl, vz fa, vz fp, vR kd, vz kn])) (hna : cc o G na 86 (za 10 NA)) (hnl : cc o G nl 87 (za 10 NL)) (hby_ : cc o G by_ 23 (za m f)) (ppaI_0 : paI o G 0 ps wt bs grp pr0 ph) (popI_0 : opI o G 0 ps k hi inn) (pszI_0 : szI o G 0 ps k hi inn wh 0) (n18 : ab_n0 = 18) (cn_ : 0 ≤ n ∧ n ≤ ↑m ∧ m ≤ 2000) (hb : bytes f n) (cf : 0 ≤ flg ∧ flg ≤ 31) (cg : 0 ≤ grp ∧ grp ≤ 9) (ck : 0 ≤ dp ∧ dp ≤ 30 ∧ ↑k = dp + 1 ∧ hi ≤ G.length) (hnm : nmok NA NL grp n) (cbs : bs ≤ G.length ∧ 18 ≤ G.length) (cfa : fa = 0) (cp : 0 ≤ pl ∧ pl < n) (rc : G.length + 9 ≤ ab_n0 + room_1.cells) (rs : ab_slots G + 30 ≤ room_1.slots) (hd : 5 ≤ d) : ab_F X d y_RD_open (.code y_RD_open b_RD_open 4 none) [vR d_, vz pl] G (fun oc G2 => ∃ o2 : Nat → Nat, ∃ inn2 : Value, ∃ dp2 : Int, ∃ flg2 : Int, ∃ grp2 : Int, ∃ NA2 : Int → Int, ∃ NL2 : Int → Int, ∃ p2 : Int, ∃ fa2 : Int, ∃ fp2 : Int, ∃ k2 : Nat, ∃ hi2 : Nat, ∃ ps2 : Nat → Nat, ∃ wt2 : Nat → Nat, ∃ ph2 : Int, oc = .returned none ∧ fx o o2 [24, 25, 86, 87, 90, 94] G G2 ∧ cc o2 G2 d_ 25 (ab_ob 6 [vR x, inn2, vz dp2, vz flg2, vz grp2, vR na, vR nl, vz lst, vz mst, vz bh]) ∧ cc o2 G2 x 24 (ab_ob 10 [vR se, vR by_, vz n, vz p2, vz fa2, vz fp2, vR kd, vz kn]) ∧ cc o2 G2 na 86 (za 10 NA2) ∧ cc o2 G2 nl 87 (za 10 NL2) ∧ paI o2 G2 0 ps2 wt2 bs grp2 pr0 ph2 ∧ opI o2 G2 0 ps2 k2 hi2 inn2 ∧ szI o2 G2 0 ps2 k2 hi2 inn2 wh 0 ∧ (0 ≤ flg2 ∧ flg2 ≤ 31) ∧ (0 ≤ grp2 ∧ grp2 ≤ 9) ∧ (0 ≤ dp2 ∧ dp2 ≤ 30 ∧ ↑k2 = dp2 + 1) ∧ (nmok NA2 NL2 grp2 n) ∧ (hi2 ≤ G2.length) ∧ (psx ps ps2 G.length) ∧ (0 ≤ fa2 ∧ fa2 ≤ 14) ∧ (ph2 ≤ ph) ∧ (G2.length ≤ G.length + 2) ∧ (ab_slots G2 ≤ ab_slots G + 30) ∧ (pl < p2 ∧ p2 ≤ 6020)) := by
  refine ab_F_of (by decide +kernel) (Nat.le_of_ble_eq_true rfl) ?_
  obtain ⟨Q, hQ⟩ : ∃ z : Outcome → ab_G → Prop, z = (fun oc G2 => ∃ o2 : Nat → Nat, ∃ inn2 : Value, ∃ dp2 : Int, ∃ flg2 : Int, ∃ grp2 : Int, ∃ NA2 : Int → Int, ∃ NL2 : Int → Int, ∃ p2 : Int, ∃ fa2 : Int, ∃ fp2 : Int, ∃ k2 : Nat, ∃ hi2 : Nat, ∃ ps2 : Nat → Nat, ∃ wt2 : Nat → Nat, ∃ ph2 : Int, oc = .returned none ∧ fx o o2 [24, 25, 86, 87, 90, 94] G G2 ∧ cc o2 G2 d_ 25 (ab_ob 6 [vR x, inn2, vz dp2, vz flg2, vz grp2, vR na, vR nl, vz lst, vz mst, vz bh]) ∧ cc o2 G2 x 24 (ab_ob 10 [vR se, vR by_, vz n, vz p2, vz fa2, vz fp2, vR kd, vz kn]) ∧ cc o2 G2 na 86 (za 10 NA2) ∧ cc o2 G2 nl 87 (za 10 NL2) ∧ paI o2 G2 0 ps2 wt2 bs grp2 pr0 ph2 ∧ opI o2 G2 0 ps2 k2 hi2 inn2 ∧ szI o2 G2 0 ps2 k2 hi2 inn2 wh 0 ∧ (0 ≤ flg2 ∧ flg2 ≤ 31) ∧ (0 ≤ grp2 ∧ grp2 ≤ 9) ∧ (0 ≤ dp2 ∧ dp2 ≤ 30 ∧ ↑k2 = dp2 + 1) ∧ (nmok NA2 NL2 grp2 n) ∧ (hi2 ≤ G2.length) ∧ (psx ps ps2 G.length) ∧ (0 ≤ fa2 ∧ fa2 ≤ 14) ∧ (ph2 ≤ ph) ∧ (G2.length ≤ G.length + 2) ∧ (ab_slots G2 ≤ ab_slots G + 30) ∧ (pl < p2 ∧ p2 ≤ 6020)) := ⟨_, rfl⟩
  rw [← hQ]
  change ab_W X (ab_pl y_RD_open b_RD_open 4 none) d G 0 [some (vR d_), some (vz pl), none, none] [] Q
  have hfr : fx o o [24, 25, 86, 87, 90, 94] G G := fx.rf
  refine ab_aload_n d_RD_open_0 rfl ?_
  refine ab_getf (fs := [vR x, inn, vz dp, vz flg, vz grp, vR na, vR nl, vz lst, vz mst, vz bh]) f_RD_12 d_RD_open_1 hd_.2.2 rfl ?_
  refine ab_iload_n d_RD_open_4 rfl ?_
  refine zz_iconst d_RD_open_5 ?_
  refine zz_iadd d_RD_open_6 ?_
  refine ab_putf (fs := [vR se, vR by_, vz n, vz pl, vz fa, vz fp, vR kd, vz kn]) f_RD_55 (Or.inl rfl) d_RD_open_7 hx.2.2 (Nat.le_of_ble_eq_true rfl) (fun _ => ⟨rfl, rfl⟩) (hx.2.1 (by decide)) ?_
  obtain ⟨G1, eG1⟩ : ∃ z : ab_G, z = List.set G x (ab_ob 10 [vR se, vR by_, vz n, vz (pl + 1), vz fa, vz fp, vR kd, vz kn]) := ⟨_, rfl⟩
  have hd_ := hd_.keep hx eG1 (by decide)
  have hna := hna.keep hx eG1 (by decide)
  have hnl := hnl.keep hx eG1 (by decide)
  have hby_ := hby_.keep hx eG1 (by decide)
  have hst := (fx.rf (o := o) (S := [24]) (G := G)).wr hx eG1 (List.mem_singleton.mpr rfl)
  have popI_0 := opI.fr hst ppaI_0 popI_0 (by decide) (by decide)
  have pszI_0 := szI.fr hst ppaI_0 pszI_0 (by decide) (by decide)
  have ppaI_0 := paI.fr hst ppaI_0 (by decide) (by decide) (by decide) (by decide)
  have hq2 := z_len eG1
  have hq3 := z_sl hx eG1 rfl
  have hfr := hfr.wr hx eG1 (by decide)
  have hx := hx.kept eG1
  change ab_W _ _ _ (List.set G x (ab_ob 10 [vR se, vR by_, vz n, vz (pl + 1), vz fa, vz fp, vR kd, vz kn])) 10 [some (vR d_), some (vz pl), none, none] [] _
  rw [← eG1]
  refine ab_aload_n d_RD_open_10 rfl ?_
  refine ab_getf (fs := [vR x, inn, vz dp, vz flg, vz grp, vR na, vR nl, vz lst, vz mst, vz bh]) f_RD_12 d_RD_open_11 hd_.2.2 rfl ?_
  refine zz_iconst d_RD_open_14 ?_
  refine ab_callV (d' := d - 1) (as := [vz 0]) (st := []) (r := _) (z_TX_peek0 (o := o) (x := x) (lx := 24) (se := se) (by_ := by_) (lby := 23) (m := m) (f := f) (n := n) (pl := (pl + 1)) (fa := fa) (fp := fp) (kd := kd) (kn := kn) hx hby_ (by omega) hb) (fun oc G2 h => by rcases h with ⟨_, h, _⟩ <;> exact ⟨_, h⟩) (by omega) m_TX_peek ml_RD_79 im_TX_peek se_TX_peek c_TX hx.2.2 (Nat.le_of_ble_eq_true rfl) d_RD_open_15 rfl ?_
  intro v G4 hq
  rcases hq with ⟨v5, hv, hGe, hq6, hq7⟩
  cases hv
  rw [hGe]
  change ab_W _ _ _ G1 18 [some (vR d_), some (vz pl), none, none] [vz v5] _
  refine zz_bipush d_RD_open_18 (by decide) ?_
  refine zz_icmp_eq (tgt := 37) d_RD_open_20 (by decide) (by omega) (by decide) (fun c8 => ?_) (fun c8 => ?_)
  · refine ab_aload_n d_RD_open_37 rfl ?_
    refine ab_getf (fs := [vR x, inn, vz dp, vz flg, vz grp, vR na, vR nl, vz lst, vz mst, vz bh]) f_RD_12 d_RD_open_38 hd_.2.2 rfl ?_
    refine zz_iconst d_RD_open_41 ?_
    refine ab_callV (d' := d - 1) (as := [vz 1]) (st := []) (r := _) (z_TX_peek (o := o) (x := x) (lx := 24) (se := se) (by_ := by_) (lby := 23) (m := m) (f := f) (n := n) (pl := (pl + 1)) (fa := fa) (fp := fp) (kd := kd) (kn := kn) (k := 1) hx hby_ (by omega) hb (by omega)) (fun oc G2 h => by rcases h with ⟨_, h, _⟩ <;> exact ⟨_, h⟩) (by omega) m_TX_peek ml_RD_79 im_TX_peek se_TX_peek c_TX hx.2.2 (Nat.le_of_ble_eq_true rfl) d_RD_open_42 rfl ?_
    intro v G9 hq
    rcases hq with ⟨v10, hv, hGe, hq11, hq12⟩
    cases hv
    rw [hGe]
    change ab_W _ _ _ G1 45 [some (vR d_), some (vz pl), none, none] [vz v10] _
    refine zz_bipush d_RD_open_45 (by decide) ?_
    refine zz_icmp_ne (tgt := 135) d_RD_open_47 (by decide) (by omega) (by decide) (fun c13 => ?_) (fun c13 => ?_)
    · refine ab_aload_n d_RD_open_135 rfl ?_
      refine ab_getf (fs := [vR x, inn, vz dp, vz flg, vz grp, vR na, vR nl, vz lst, vz mst, vz bh]) f_RD_12 d_RD_open_136 hd_.2.2 rfl ?_
      refine ab_iload_n d_RD_open_139 rfl ?_
      refine zz_iconst d_RD_open_140 ?_
      refine zz_iadd d_RD_open_141 ?_
      refine ab_putf (fs := [vR se, vR by_, vz n, vz (pl + 1), vz fa, vz fp, vR kd, vz kn]) f_RD_55 (Or.inl rfl) d_RD_open_142 hx.2.2 (Nat.le_of_ble_eq_true rfl) (fun _ => ⟨rfl, rfl⟩) (hx.2.1 (by decide)) ?_
      obtain ⟨G14, eG14⟩ : ∃ z : ab_G, z = List.set G1 x (ab_ob 10 [vR se, vR by_, vz n, vz (pl + 2), vz fa, vz fp, vR kd, vz kn]) := ⟨_, rfl⟩
      have hd_ := hd_.keep hx eG14 (by decide)
      have hna := hna.keep hx eG14 (by decide)
      have hnl := hnl.keep hx eG14 (by decide)
      have hby_ := hby_.keep hx eG14 (by decide)
      have hst := (fx.rf (o := o) (S := [24]) (G := G1)).wr hx eG14 (List.mem_singleton.mpr rfl)
      have popI_0 := opI.fr hst ppaI_0 popI_0 (by decide) (by decide)
      have pszI_0 := szI.fr hst ppaI_0 pszI_0 (by decide) (by decide)
      have ppaI_0 := paI.fr hst ppaI_0 (by decide) (by decide) (by decide) (by decide)
      have hq15 := z_len eG14
      have hq16 := z_sl hx eG14 rfl
      have hfr := hfr.wr hx eG14 (by decide)
      have hx := hx.kept eG14
      change ab_W _ _ _ (List.set G1 x (ab_ob 10 [vR se, vR by_, vz n, vz (pl + 2), vz fa, vz fp, vR kd, vz kn])) 145 [some (vR d_), some (vz pl), none, none] [] _
      rw [← eG14]
      refine ab_aload_n d_RD_open_145 rfl ?_
      refine ab_iload_n d_RD_open_146 rfl ?_
      refine ab_callV (d' := d - 1) (as := [vz pl]) (st := []) (r := _) (z_RD_flagsTold (o := o) (d_ := d_) (inn := inn) (dp := dp) (flg := flg) (grp := grp) (na := na) (nl := nl) (lst := lst) (mst := mst) (bh := bh) (x := x) (se := se) (by_ := by_) (m := m) (f := f) (n := n) (pl := (pl + 2)) (fa := fa) (fp := fp) (kd := kd) (kn := kn) (at_ := pl) hd_ hx hby_ (by omega) hb (by omega) (by omega) (by omega) (by omega) (by omega)) (fun oc G2 h => by rcases h with ⟨_, _, h, _⟩ | ⟨_, _, _, h, _⟩ <;> exact ⟨_, h⟩) (by omega) m_RD_flagsTold ml_RD_166 im_RD_flagsTold se_RD_flagsTold c_RD hd_.2.2 (Nat.le_of_ble_eq_true rfl) d_RD_open_147 rfl ?_
      intro v G17 hq
      rcases hq with ⟨v18, p219, hv, hfk, hlk, hsk, hNx, hNd_, hq20, hq21⟩ | ⟨p222, fa223, fp224, hv, hfk, hlk, hsk, hNx, hNd_, hq25, hq26⟩
      · cases hv
        have hna := hfk.get hna (by decide)
        have hnl := hfk.get hnl (by decide)
        have hby_ := hfk.get hby_ (by decide)
        have popI_0 := opI.fr hfk ppaI_0 popI_0 (by decide) (by decide)
        have pszI_0 := szI.fr hfk ppaI_0 pszI_0 (by decide) (by decide)
        have ppaI_0 := paI.fr hfk ppaI_0 (by decide) (by decide) (by decide) (by decide)
        have hfr := hfr.tr hfk (by decide)
        have hq27 := hlk
        have hq28 := hsk
        have hx := hNx
        have hd_ := hNd_
        change ab_W _ _ _ G17 150 [some (vR d_), some (vz pl), none, none] [vz v18] _
        refine ab_istore_n d_RD_open_150 (Nat.le_of_ble_eq_true rfl) (Nat.le_of_ble_eq_true rfl) rfl ?_
        change ab_W _ _ _ G17 151 [some (vR d_), some (vz pl), some (vz v18), none] [] _
        refine ab_aload_n d_RD_open_151 rfl ?_
        refine ab_getf (fs := [vR x, inn, vz dp, vz flg, vz grp, vR na, vR nl, vz lst, vz mst, vz bh]) f_RD_12 d_RD_open_152 hd_.2.2 rfl ?_
        refine zz_iconst d_RD_open_155 ?_
        refine ab_callV (d' := d - 1) (as := [vz 0]) (st := []) (r := _) (z_TX_peek0 (o := o) (x := x) (lx := 24) (se := se) (by_ := by_) (lby := 23) (m := m) (f := f) (n := n) (pl := p219) (fa := fa) (fp := fp) (kd := kd) (kn := kn) hx hby_ (by omega) hb) (fun oc G2 h => by rcases h with ⟨_, h, _⟩ <;> exact ⟨_, h⟩) (by omega) m_TX_peek ml_RD_79 im_TX_peek se_TX_peek c_TX hx.2.2 (Nat.le_of_ble_eq_true rfl) d_RD_open_156 rfl ?_
        intro v G31 hq
        rcases hq with ⟨v32, hv, hGe, hq33, hq34⟩
        cases hv
        rw [hGe]
        change ab_W _ _ _ G17 159 [some (vR d_), some (vz pl), some (vz v18), none] [vz v32] _
        refine zz_bipush d_RD_open_159 (by decide) ?_
        refine zz_icmp_ne (tgt := 168) d_RD_open_161 (by decide) (by omega) (by decide) (fun c35 => ?_) (fun c35 => ?_)
        · refine zz_iconst d_RD_open_168 ?_
          refine ab_istore_n d_RD_open_169 (Nat.le_of_ble_eq_true rfl) (Nat.le_of_ble_eq_true rfl) rfl ?_
          change ab_W _ _ _ G17 170 [some (vR d_), some (vz pl), some (vz v18), some (vz 0)] [] _
          refine ab_aload_n d_RD_open_170 rfl ?_
          refine ab_getf (fs := [vR x, inn, vz dp, vz flg, vz grp, vR na, vR nl, vz lst, vz mst, vz bh]) f_RD_12 d_RD_open_171 hd_.2.2 rfl ?_
          refine ab_dup d_RD_open_174 rfl ?_
          refine ab_getf (fs := [vR se, vR by_, vz n, vz p219, vz fa, vz fp, vR kd, vz kn]) f_RD_55 d_RD_open_175 hx.2.2 rfl ?_
          refine zz_iconst d_RD_open_178 ?_
          refine zz_iadd d_RD_open_179 ?_
          refine ab_putf (fs := [vR se, vR by_, vz n, vz p219, vz fa, vz fp, vR kd, vz kn]) f_RD_55 (Or.inl rfl) d_RD_open_180 hx.2.2 (Nat.le_of_ble_eq_true rfl) (fun _ => ⟨rfl, rfl⟩) (hx.2.1 (by decide)) ?_
          obtain ⟨G36, eG36⟩ : ∃ z : ab_G, z = List.set G17 x (ab_ob 10 [vR se, vR by_, vz n, vz (p219 + 1), vz fa, vz fp, vR kd, vz kn]) := ⟨_, rfl⟩
          have hd_ := hd_.keep hx eG36 (by decide)
          have hna := hna.keep hx eG36 (by decide)
          have hnl := hnl.keep hx eG36 (by decide)
          have hby_ := hby_.keep hx eG36 (by decide)
          have hst := (fx.rf (o := o) (S := [24]) (G := G17)).wr hx eG36 (List.mem_singleton.mpr rfl)
          have popI_0 := opI.fr hst ppaI_0 popI_0 (by decide) (by decide)
          have pszI_0 := szI.fr hst ppaI_0 pszI_0 (by decide) (by decide)
          have ppaI_0 := paI.fr hst ppaI_0 (by decide) (by decide) (by decide) (by decide)
          have hq37 := z_len eG36
          have hq38 := z_sl hx eG36 rfl
          have hfr := hfr.wr hx eG36 (by decide)
          have hx := hx.kept eG36
          change ab_W _ _ _ (List.set G17 x (ab_ob 10 [vR se, vR by_, vz n, vz (p219 + 1), vz fa, vz fp, vR kd, vz kn])) 183 [some (vR d_), some (vz pl), some (vz v18), some (vz 0)] [] _
          rw [← eG36]
          refine ab_iload_n d_RD_open_183 rfl ?_
          refine zz_iconst d_RD_open_184 ?_
          refine zz_icmp_eq (tgt := 203) d_RD_open_185 (by decide) (by omega) (by decide) (fun c39 => absurd c39 (by omega)) (fun c39 => ?_)
          refine ab_iload_n d_RD_open_188 rfl ?_
          refine zz_if_eq (tgt := 203) d_RD_open_189 (by decide) (by decide) (fun c40 => ?_) (fun c40 => absurd c40 (by decide))
          refine ab_iload_n d_RD_open_203 rfl ?_
          refine zz_iconst d_RD_open_204 ?_
          refine zz_icmp_eq (tgt := 213) d_RD_open_205 (by decide) (by omega) (by decide) (fun c41 => absurd c41 (by omega)) (fun c41 => ?_)
          refine ab_aload_n d_RD_open_208 rfl ?_
          refine ab_iload_n d_RD_open_209 rfl ?_
          refine ab_putf (fs := [vR x, inn, vz dp, vz flg, vz grp, vR na, vR nl, vz lst, vz mst, vz bh]) f_RD_38 (Or.inl rfl) d_RD_open_210 hd_.2.2 (Nat.le_of_ble_eq_true rfl) (fun _ => ⟨rfl, rfl⟩) (hd_.2.1 (by decide)) ?_
          obtain ⟨G42, eG42⟩ : ∃ z : ab_G, z = List.set G36 d_ (ab_ob 6 [vR x, inn, vz dp, vz v18, vz grp, vR na, vR nl, vz lst, vz mst, vz bh]) := ⟨_, rfl⟩
          have hx := hx.keep hd_ eG42 (by decide)
          have hna := hna.keep hd_ eG42 (by decide)
          have hnl := hnl.keep hd_ eG42 (by decide)
          have hby_ := hby_.keep hd_ eG42 (by decide)
          have hst := (fx.rf (o := o) (S := [25]) (G := G36)).wr hd_ eG42 (List.mem_singleton.mpr rfl)
          have popI_0 := opI.fr hst ppaI_0 popI_0 (by decide) (by decide)
          have pszI_0 := szI.fr hst ppaI_0 pszI_0 (by decide) (by decide)
          have ppaI_0 := paI.fr hst ppaI_0 (by decide) (by decide) (by decide) (by decide)
          have hq43 := z_len eG42
          have hq44 := z_sl hd_ eG42 rfl
          have hfr := hfr.wr hd_ eG42 (by decide)
          have hd_ := hd_.kept eG42
          change ab_W _ _ _ (List.set G36 d_ (ab_ob 6 [vR x, inn, vz dp, vz v18, vz grp, vR na, vR nl, vz lst, vz mst, vz bh])) 213 [some (vR d_), some (vz pl), some (vz v18), some (vz 0)] [] _
          rw [← eG42]
          refine ab_vret rfl d_RD_open_213 ?_
          rw [hQ]; exact ⟨_, _, _, _, _, _, _, _, _, _, _, _, _, _, _, rfl, hfr, hd_, hx, hna, hnl, ppaI_0, popI_0, pszI_0, (by omega), (by omega), (by omega), (by exact hnm), (by omega), (by exact psx.rf), (by omega), (by omega), (by omega), (by omega), (by omega)⟩
        · refine zz_iconst d_RD_open_164 ?_
          refine ab_goto (tgt := 169) d_RD_open_165 (by decide) ?_
          refine ab_istore_n d_RD_open_169 (Nat.le_of_ble_eq_true rfl) (Nat.le_of_ble_eq_true rfl) rfl ?_
          change ab_W _ _ _ G17 170 [some (vR d_), some (vz pl), some (vz v18), some (vz 1)] [] _
          refine ab_aload_n d_RD_open_170 rfl ?_
          refine ab_getf (fs := [vR x, inn, vz dp, vz flg, vz grp, vR na, vR nl, vz lst, vz mst, vz bh]) f_RD_12 d_RD_open_171 hd_.2.2 rfl ?_
          refine ab_dup d_RD_open_174 rfl ?_
          refine ab_getf (fs := [vR se, vR by_, vz n, vz p219, vz fa, vz fp, vR kd, vz kn]) f_RD_55 d_RD_open_175 hx.2.2 rfl ?_
          refine zz_iconst d_RD_open_178 ?_
          refine zz_iadd d_RD_open_179 ?_
          refine ab_putf (fs := [vR se, vR by_, vz n, vz p219, vz fa, vz fp, vR kd, vz kn]) f_RD_55 (Or.inl rfl) d_RD_open_180 hx.2.2 (Nat.le_of_ble_eq_true rfl) (fun _ => ⟨rfl, rfl⟩) (hx.2.1 (by decide)) ?_
          obtain ⟨G45, eG45⟩ : ∃ z : ab_G, z = List.set G17 x (ab_ob 10 [vR se, vR by_, vz n, vz (p219 + 1), vz fa, vz fp, vR kd, vz kn]) := ⟨_, rfl⟩
          have hd_ := hd_.keep hx eG45 (by decide)
          have hna := hna.keep hx eG45 (by decide)
          have hnl := hnl.keep hx eG45 (by decide)
          have hby_ := hby_.keep hx eG45 (by decide)
          have hst := (fx.rf (o := o) (S := [24]) (G := G17)).wr hx eG45 (List.mem_singleton.mpr rfl)
          have popI_0 := opI.fr hst ppaI_0 popI_0 (by decide) (by decide)
          have pszI_0 := szI.fr hst ppaI_0 pszI_0 (by decide) (by decide)
          have ppaI_0 := paI.fr hst ppaI_0 (by decide) (by decide) (by decide) (by decide)
          have hq46 := z_len eG45
          have hq47 := z_sl hx eG45 rfl
          have hfr := hfr.wr hx eG45 (by decide)
          have hx := hx.kept eG45
          change ab_W _ _ _ (List.set G17 x (ab_ob 10 [vR se, vR by_, vz n, vz (p219 + 1), vz fa, vz fp, vR kd, vz kn])) 183 [some (vR d_), some (vz pl), some (vz v18), some (vz 1)] [] _
          rw [← eG45]
          refine ab_iload_n d_RD_open_183 rfl ?_
          refine zz_iconst d_RD_open_184 ?_
          refine zz_icmp_eq (tgt := 203) d_RD_open_185 (by decide) (by omega) (by decide) (fun c48 => absurd c48 (by omega)) (fun c48 => ?_)
          refine ab_iload_n d_RD_open_188 rfl ?_
          refine zz_if_eq (tgt := 203) d_RD_open_189 (by decide) (by decide) (fun c49 => absurd c49 (by decide)) (fun c49 => ?_)
          refine ab_aload_n d_RD_open_192 rfl ?_
          refine ab_iload_n d_RD_open_193 rfl ?_
          refine zz_iconst d_RD_open_194 ?_
          refine ab_iload_n d_RD_open_195 rfl ?_
          refine zz_iconst d_RD_open_196 ?_
          refine ab_callV (d' := d - 1) (as := [vz pl, vz 0, vz v18, vz 0]) (st := []) (r := _) (zc_RD_enter (o := o) (d_ := d_) (inn := inn) (dp := dp) (flg := flg) (grp := grp) (na := na) (nl := nl) (lst := lst) (mst := mst) (bh := bh) (NA := NA) (NL := NL) (x := x) (se := se) (by_ := by_) (n := n) (pl := (p219 + 1)) (fa := fa) (fp := fp) (kd := kd) (kn := kn) (ps := ps) (wt := wt) (bs := bs) (ph := ph) (k := k) (hi := hi) (wh := wh) (at_ := pl) (ins := v18) hd_ hx hna hnl ppaI_0 popI_0 pszI_0 (by omega) (by omega) (by omega) (by omega) (by omega) hnm (by omega) (by omega) (by omega) (by omega) (by omega) (by omega)) (fun oc G2 h => by rcases h with ⟨_, _, _, _, _, _, _, _, _, _, _, _, _, _, h, _⟩ <;> exact ⟨_, h⟩) (by omega) m_RD_enter ml_RD_155 im_RD_enter se_RD_enter c_RD hd_.2.2 (Nat.le_of_ble_eq_true rfl) d_RD_open_197 rfl ?_
          intro v G50 hq
          rcases hq with ⟨o51, inn252, dp253, flg254, grp255, NA256, NL257, fa258, fp259, k260, hi261, ps262, wt263, ph264, hv, hfk, hNd_, hNx, hNna, hNnl, pNpaI_0, pNopI_0, pNszI_0, hq65, hq66, hq67, hq68, hq69, hq70, hq71, hq72, hq73, hq74⟩
          cases hv
          have hby_ := hfk.get hby_ (by decide)
          have ppaI_0 := pNpaI_0
          have popI_0 := pNopI_0
          have pszI_0 := pNszI_0
          have hfr := hfr.tr hfk (by decide)
          have hq75 := hfk.1
          have hd_ := hNd_
          have hx := hNx
          have hna := hNna
          have hnl := hNnl
          change ab_W _ _ _ G50 200 [some (vR d_), some (vz pl), some (vz v18), some (vz 1)] [] _
          refine ab_goto (tgt := 213) d_RD_open_200 (by decide) ?_
          refine ab_vret rfl d_RD_open_213 ?_
          rw [hQ]; exact ⟨_, _, _, _, _, _, _, _, _, _, _, _, _, _, _, rfl, hfr, hd_, hx, hna, hnl, ppaI_0, popI_0, pszI_0, (by omega), (by omega), (by omega), (by exact hq68), (by omega), (by exact hq70.lt (by omega)), (by omega), (by omega), (by omega), (by omega), (by omega)⟩
      · cases hv
        have hna := hfk.get hna (by decide)
        have hnl := hfk.get hnl (by decide)
        have hby_ := hfk.get hby_ (by decide)
        have popI_0 := opI.fr hfk ppaI_0 popI_0 (by decide) (by decide)
        have pszI_0 := szI.fr hfk ppaI_0 pszI_0 (by decide) (by decide)
        have ppaI_0 := paI.fr hfk ppaI_0 (by decide) (by decide) (by decide) (by decide)
        have hfr := hfr.tr hfk (by decide)
        have hq29 := hlk
        have hq30 := hsk
        have hx := hNx
        have hd_ := hNd_
        change ab_W _ _ _ G17 150 [some (vR d_), some (vz pl), none, none] [vz (-1)] _
        refine ab_istore_n d_RD_open_150 (Nat.le_of_ble_eq_true rfl) (Nat.le_of_ble_eq_true rfl) rfl ?_
        change ab_W _ _ _ G17 151 [some (vR d_), some (vz pl), some (vz (-1)), none] [] _
        refine ab_aload_n d_RD_open_151 rfl ?_
        refine ab_getf (fs := [vR x, inn, vz dp, vz flg, vz grp, vR na, vR nl, vz lst, vz mst, vz bh]) f_RD_12 d_RD_open_152 hd_.2.2 rfl ?_
        refine zz_iconst d_RD_open_155 ?_
        refine ab_callV (d' := d - 1) (as := [vz 0]) (st := []) (r := _) (z_TX_peek0 (o := o) (x := x) (lx := 24) (se := se) (by_ := by_) (lby := 23) (m := m) (f := f) (n := n) (pl := p222) (fa := fa223) (fp := fp224) (kd := kd) (kn := kn) hx hby_ (by omega) hb) (fun oc G2 h => by rcases h with ⟨_, h, _⟩ <;> exact ⟨_, h⟩) (by omega) m_TX_peek ml_RD_79 im_TX_peek se_TX_peek c_TX hx.2.2 (Nat.le_of_ble_eq_true rfl) d_RD_open_156 rfl ?_
        intro v G76 hq
        rcases hq with ⟨v77, hv, hGe, hq78, hq79⟩
        cases hv
        rw [hGe]
        change ab_W _ _ _ G17 159 [some (vR d_), some (vz pl), some (vz (-1)), none] [vz v77] _
        refine zz_bipush d_RD_open_159 (by decide) ?_
        refine zz_icmp_ne (tgt := 168) d_RD_open_161 (by decide) (by omega) (by decide) (fun c80 => ?_) (fun c80 => ?_)
        · refine zz_iconst d_RD_open_168 ?_
          refine ab_istore_n d_RD_open_169 (Nat.le_of_ble_eq_true rfl) (Nat.le_of_ble_eq_true rfl) rfl ?_
          change ab_W _ _ _ G17 170 [some (vR d_), some (vz pl), some (vz (-1)), some (vz 0)] [] _
          refine ab_aload_n d_RD_open_170 rfl ?_
          refine ab_getf (fs := [vR x, inn, vz dp, vz flg, vz grp, vR na, vR nl, vz lst, vz mst, vz bh]) f_RD_12 d_RD_open_171 hd_.2.2 rfl ?_
          refine ab_dup d_RD_open_174 rfl ?_
          refine ab_getf (fs := [vR se, vR by_, vz n, vz p222, vz fa223, vz fp224, vR kd, vz kn]) f_RD_55 d_RD_open_175 hx.2.2 rfl ?_
          refine zz_iconst d_RD_open_178 ?_
          refine zz_iadd d_RD_open_179 ?_
          refine ab_putf (fs := [vR se, vR by_, vz n, vz p222, vz fa223, vz fp224, vR kd, vz kn]) f_RD_55 (Or.inl rfl) d_RD_open_180 hx.2.2 (Nat.le_of_ble_eq_true rfl) (fun _ => ⟨rfl, rfl⟩) (hx.2.1 (by decide)) ?_
          obtain ⟨G81, eG81⟩ : ∃ z : ab_G, z = List.set G17 x (ab_ob 10 [vR se, vR by_, vz n, vz (p222 + 1), vz fa223, vz fp224, vR kd, vz kn]) := ⟨_, rfl⟩
          have hd_ := hd_.keep hx eG81 (by decide)
          have hna := hna.keep hx eG81 (by decide)
          have hnl := hnl.keep hx eG81 (by decide)
          have hby_ := hby_.keep hx eG81 (by decide)
          have hst := (fx.rf (o := o) (S := [24]) (G := G17)).wr hx eG81 (List.mem_singleton.mpr rfl)
          have popI_0 := opI.fr hst ppaI_0 popI_0 (by decide) (by decide)
          have pszI_0 := szI.fr hst ppaI_0 pszI_0 (by decide) (by decide)
          have ppaI_0 := paI.fr hst ppaI_0 (by decide) (by decide) (by decide) (by decide)
          have hq82 := z_len eG81
          have hq83 := z_sl hx eG81 rfl
          have hfr := hfr.wr hx eG81 (by decide)
          have hx := hx.kept eG81
          change ab_W _ _ _ (List.set G17 x (ab_ob 10 [vR se, vR by_, vz n, vz (p222 + 1), vz fa223, vz fp224, vR kd, vz kn])) 183 [some (vR d_), some (vz pl), some (vz (-1)), some (vz 0)] [] _
          rw [← eG81]
          refine ab_iload_n d_RD_open_183 rfl ?_
          refine zz_iconst d_RD_open_184 ?_
          refine zz_icmp_eq (tgt := 203) d_RD_open_185 (by decide) (by decide) (by decide) (fun c84 => ?_) (fun c84 => absurd c84 (by decide))
          refine ab_iload_n d_RD_open_203 rfl ?_
          refine zz_iconst d_RD_open_204 ?_
          refine zz_icmp_eq (tgt := 213) d_RD_open_205 (by decide) (by decide) (by decide) (fun c85 => ?_) (fun c85 => absurd c85 (by decide))
          refine ab_vret rfl d_RD_open_213 ?_
          rw [hQ]; exact ⟨_, _, _, _, _, _, _, _, _, _, _, _, _, _, _, rfl, hfr, hd_, hx, hna, hnl, ppaI_0, popI_0, pszI_0, (by omega), (by omega), (by omega), (by exact hnm), (by omega), (by exact psx.rf), (by omega), (by omega), (by omega), (by omega), (by omega)⟩
        · refine zz_iconst d_RD_open_164 ?_
          refine ab_goto (tgt := 169) d_RD_open_165 (by decide) ?_
          refine ab_istore_n d_RD_open_169 (Nat.le_of_ble_eq_true rfl) (Nat.le_of_ble_eq_true rfl) rfl ?_
          change ab_W _ _ _ G17 170 [some (vR d_), some (vz pl), some (vz (-1)), some (vz 1)] [] _
          refine ab_aload_n d_RD_open_170 rfl ?_
          refine ab_getf (fs := [vR x, inn, vz dp, vz flg, vz grp, vR na, vR nl, vz lst, vz mst, vz bh]) f_RD_12 d_RD_open_171 hd_.2.2 rfl ?_
          refine ab_dup d_RD_open_174 rfl ?_
          refine ab_getf (fs := [vR se, vR by_, vz n, vz p222, vz fa223, vz fp224, vR kd, vz kn]) f_RD_55 d_RD_open_175 hx.2.2 rfl ?_
          refine zz_iconst d_RD_open_178 ?_
          refine zz_iadd d_RD_open_179 ?_
          refine ab_putf (fs := [vR se, vR by_, vz n, vz p222, vz fa223, vz fp224, vR kd, vz kn]) f_RD_55 (Or.inl rfl) d_RD_open_180 hx.2.2 (Nat.le_of_ble_eq_true rfl) (fun _ => ⟨rfl, rfl⟩) (hx.2.1 (by decide)) ?_
          obtain ⟨G86, eG86⟩ : ∃ z : ab_G, z = List.set G17 x (ab_ob 10 [vR se, vR by_, vz n, vz (p222 + 1), vz fa223, vz fp224, vR kd, vz kn]) := ⟨_, rfl⟩
          have hd_ := hd_.keep hx eG86 (by decide)
          have hna := hna.keep hx eG86 (by decide)
          have hnl := hnl.keep hx eG86 (by decide)
          have hby_ := hby_.keep hx eG86 (by decide)
          have hst := (fx.rf (o := o) (S := [24]) (G := G17)).wr hx eG86 (List.mem_singleton.mpr rfl)
          have popI_0 := opI.fr hst ppaI_0 popI_0 (by decide) (by decide)
          have pszI_0 := szI.fr hst ppaI_0 pszI_0 (by decide) (by decide)
          have ppaI_0 := paI.fr hst ppaI_0 (by decide) (by decide) (by decide) (by decide)
          have hq87 := z_len eG86
          have hq88 := z_sl hx eG86 rfl
          have hfr := hfr.wr hx eG86 (by decide)
          have hx := hx.kept eG86
          change ab_W _ _ _ (List.set G17 x (ab_ob 10 [vR se, vR by_, vz n, vz (p222 + 1), vz fa223, vz fp224, vR kd, vz kn])) 183 [some (vR d_), some (vz pl), some (vz (-1)), some (vz 1)] [] _
          rw [← eG86]
          refine ab_iload_n d_RD_open_183 rfl ?_
          refine zz_iconst d_RD_open_184 ?_
          refine zz_icmp_eq (tgt := 203) d_RD_open_185 (by decide) (by decide) (by decide) (fun c89 => ?_) (fun c89 => absurd c89 (by decide))
          refine ab_iload_n d_RD_open_203 rfl ?_
          refine zz_iconst d_RD_open_204 ?_
          refine zz_icmp_eq (tgt := 213) d_RD_open_205 (by decide) (by decide) (by decide) (fun c90 => ?_) (fun c90 => absurd c90 (by decide))
          refine ab_vret rfl d_RD_open_213 ?_
          rw [hQ]; exact ⟨_, _, _, _, _, _, _, _, _, _, _, _, _, _, _, rfl, hfr, hd_, hx, hna, hnl, ppaI_0, popI_0, pszI_0, (by omega), (by omega), (by omega), (by exact hnm), (by omega), (by exact psx.rf), (by omega), (by omega), (by omega), (by omega), (by omega)⟩
    · refine ab_aload_n d_RD_open_50 rfl ?_
      refine ab_getf (fs := [vR x, inn, vz dp, vz flg, vz grp, vR na, vR nl, vz lst, vz mst, vz bh]) f_RD_12 d_RD_open_51 hd_.2.2 rfl ?_
      refine zz_iconst d_RD_open_54 ?_
      refine ab_callV (d' := d - 1) (as := [vz 2]) (st := []) (r := _) (z_TX_peek (o := o) (x := x) (lx := 24) (se := se) (by_ := by_) (lby := 23) (m := m) (f := f) (n := n) (pl := (pl + 1)) (fa := fa) (fp := fp) (kd := kd) (kn := kn) (k := 2) hx hby_ (by omega) hb (by omega)) (fun oc G2 h => by rcases h with ⟨_, h, _⟩ <;> exact ⟨_, h⟩) (by omega) m_TX_peek ml_RD_79 im_TX_peek se_TX_peek c_TX hx.2.2 (Nat.le_of_ble_eq_true rfl) d_RD_open_55 rfl ?_
      intro v G91 hq
      rcases hq with ⟨v92, hv, hGe, hq93, hq94⟩
      cases hv
      rw [hGe]
      change ab_W _ _ _ G1 58 [some (vR d_), some (vz pl), none, none] [vz v92] _
      refine zz_bipush d_RD_open_58 (by decide) ?_
      refine zz_icmp_ne (tgt := 135) d_RD_open_60 (by decide) (by omega) (by decide) (fun c95 => ?_) (fun c95 => ?_)
      · refine ab_aload_n d_RD_open_135 rfl ?_
        refine ab_getf (fs := [vR x, inn, vz dp, vz flg, vz grp, vR na, vR nl, vz lst, vz mst, vz bh]) f_RD_12 d_RD_open_136 hd_.2.2 rfl ?_
        refine ab_iload_n d_RD_open_139 rfl ?_
        refine zz_iconst d_RD_open_140 ?_
        refine zz_iadd d_RD_open_141 ?_
        refine ab_putf (fs := [vR se, vR by_, vz n, vz (pl + 1), vz fa, vz fp, vR kd, vz kn]) f_RD_55 (Or.inl rfl) d_RD_open_142 hx.2.2 (Nat.le_of_ble_eq_true rfl) (fun _ => ⟨rfl, rfl⟩) (hx.2.1 (by decide)) ?_
        obtain ⟨G96, eG96⟩ : ∃ z : ab_G, z = List.set G1 x (ab_ob 10 [vR se, vR by_, vz n, vz (pl + 2), vz fa, vz fp, vR kd, vz kn]) := ⟨_, rfl⟩
        have hd_ := hd_.keep hx eG96 (by decide)
        have hna := hna.keep hx eG96 (by decide)
        have hnl := hnl.keep hx eG96 (by decide)
        have hby_ := hby_.keep hx eG96 (by decide)
        have hst := (fx.rf (o := o) (S := [24]) (G := G1)).wr hx eG96 (List.mem_singleton.mpr rfl)
        have popI_0 := opI.fr hst ppaI_0 popI_0 (by decide) (by decide)
        have pszI_0 := szI.fr hst ppaI_0 pszI_0 (by decide) (by decide)
        have ppaI_0 := paI.fr hst ppaI_0 (by decide) (by decide) (by decide) (by decide)
        have hq97 := z_len eG96
        have hq98 := z_sl hx eG96 rfl
        have hfr := hfr.wr hx eG96 (by decide)
        have hx := hx.kept eG96
        change ab_W _ _ _ (List.set G1 x (ab_ob 10 [vR se, vR by_, vz n, vz (pl + 2), vz fa, vz fp, vR kd, vz kn])) 145 [some (vR d_), some (vz pl), none, none] [] _
        rw [← eG96]
        refine ab_aload_n d_RD_open_145 rfl ?_
        refine ab_iload_n d_RD_open_146 rfl ?_
        refine ab_callV (d' := d - 1) (as := [vz pl]) (st := []) (r := _) (z_RD_flagsTold (o := o) (d_ := d_) (inn := inn) (dp := dp) (flg := flg) (grp := grp) (na := na) (nl := nl) (lst := lst) (mst := mst) (bh := bh) (x := x) (se := se) (by_ := by_) (m := m) (f := f) (n := n) (pl := (pl + 2)) (fa := fa) (fp := fp) (kd := kd) (kn := kn) (at_ := pl) hd_ hx hby_ (by omega) hb (by omega) (by omega) (by omega) (by omega) (by omega)) (fun oc G2 h => by rcases h with ⟨_, _, h, _⟩ | ⟨_, _, _, h, _⟩ <;> exact ⟨_, h⟩) (by omega) m_RD_flagsTold ml_RD_166 im_RD_flagsTold se_RD_flagsTold c_RD hd_.2.2 (Nat.le_of_ble_eq_true rfl) d_RD_open_147 rfl ?_
        intro v G99 hq
        rcases hq with ⟨v100, p2101, hv, hfk, hlk, hsk, hNx, hNd_, hq102, hq103⟩ | ⟨p2104, fa2105, fp2106, hv, hfk, hlk, hsk, hNx, hNd_, hq107, hq108⟩
        · cases hv
          have hna := hfk.get hna (by decide)
          have hnl := hfk.get hnl (by decide)
          have hby_ := hfk.get hby_ (by decide)
          have popI_0 := opI.fr hfk ppaI_0 popI_0 (by decide) (by decide)
          have pszI_0 := szI.fr hfk ppaI_0 pszI_0 (by decide) (by decide)
          have ppaI_0 := paI.fr hfk ppaI_0 (by decide) (by decide) (by decide) (by decide)
          have hfr := hfr.tr hfk (by decide)
          have hq109 := hlk
          have hq110 := hsk
          have hx := hNx
          have hd_ := hNd_
          change ab_W _ _ _ G99 150 [some (vR d_), some (vz pl), none, none] [vz v100] _
          refine ab_istore_n d_RD_open_150 (Nat.le_of_ble_eq_true rfl) (Nat.le_of_ble_eq_true rfl) rfl ?_
          change ab_W _ _ _ G99 151 [some (vR d_), some (vz pl), some (vz v100), none] [] _
          refine ab_aload_n d_RD_open_151 rfl ?_
          refine ab_getf (fs := [vR x, inn, vz dp, vz flg, vz grp, vR na, vR nl, vz lst, vz mst, vz bh]) f_RD_12 d_RD_open_152 hd_.2.2 rfl ?_
          refine zz_iconst d_RD_open_155 ?_
          refine ab_callV (d' := d - 1) (as := [vz 0]) (st := []) (r := _) (z_TX_peek0 (o := o) (x := x) (lx := 24) (se := se) (by_ := by_) (lby := 23) (m := m) (f := f) (n := n) (pl := p2101) (fa := fa) (fp := fp) (kd := kd) (kn := kn) hx hby_ (by omega) hb) (fun oc G2 h => by rcases h with ⟨_, h, _⟩ <;> exact ⟨_, h⟩) (by omega) m_TX_peek ml_RD_79 im_TX_peek se_TX_peek c_TX hx.2.2 (Nat.le_of_ble_eq_true rfl) d_RD_open_156 rfl ?_
          intro v G113 hq
          rcases hq with ⟨v114, hv, hGe, hq115, hq116⟩
          cases hv
          rw [hGe]
          change ab_W _ _ _ G99 159 [some (vR d_), some (vz pl), some (vz v100), none] [vz v114] _
          refine zz_bipush d_RD_open_159 (by decide) ?_
          refine zz_icmp_ne (tgt := 168) d_RD_open_161 (by decide) (by omega) (by decide) (fun c117 => ?_) (fun c117 => ?_)
          · refine zz_iconst d_RD_open_168 ?_
            refine ab_istore_n d_RD_open_169 (Nat.le_of_ble_eq_true rfl) (Nat.le_of_ble_eq_true rfl) rfl ?_
            change ab_W _ _ _ G99 170 [some (vR d_), some (vz pl), some (vz v100), some (vz 0)] [] _
            refine ab_aload_n d_RD_open_170 rfl ?_
            refine ab_getf (fs := [vR x, inn, vz dp, vz flg, vz grp, vR na, vR nl, vz lst, vz mst, vz bh]) f_RD_12 d_RD_open_171 hd_.2.2 rfl ?_
            refine ab_dup d_RD_open_174 rfl ?_
            refine ab_getf (fs := [vR se, vR by_, vz n, vz p2101, vz fa, vz fp, vR kd, vz kn]) f_RD_55 d_RD_open_175 hx.2.2 rfl ?_
            refine zz_iconst d_RD_open_178 ?_
            refine zz_iadd d_RD_open_179 ?_
            refine ab_putf (fs := [vR se, vR by_, vz n, vz p2101, vz fa, vz fp, vR kd, vz kn]) f_RD_55 (Or.inl rfl) d_RD_open_180 hx.2.2 (Nat.le_of_ble_eq_true rfl) (fun _ => ⟨rfl, rfl⟩) (hx.2.1 (by decide)) ?_
            obtain ⟨G118, eG118⟩ : ∃ z : ab_G, z = List.set G99 x (ab_ob 10 [vR se, vR by_, vz n, vz (p2101 + 1), vz fa, vz fp, vR kd, vz kn]) := ⟨_, rfl⟩
            have hd_ := hd_.keep hx eG118 (by decide)
            have hna := hna.keep hx eG118 (by decide)
            have hnl := hnl.keep hx eG118 (by decide)
            have hby_ := hby_.keep hx eG118 (by decide)
            have hst := (fx.rf (o := o) (S := [24]) (G := G99)).wr hx eG118 (List.mem_singleton.mpr rfl)
            have popI_0 := opI.fr hst ppaI_0 popI_0 (by decide) (by decide)
            have pszI_0 := szI.fr hst ppaI_0 pszI_0 (by decide) (by decide)
            have ppaI_0 := paI.fr hst ppaI_0 (by decide) (by decide) (by decide) (by decide)
            have hq119 := z_len eG118
            have hq120 := z_sl hx eG118 rfl
            have hfr := hfr.wr hx eG118 (by decide)
            have hx := hx.kept eG118
            change ab_W _ _ _ (List.set G99 x (ab_ob 10 [vR se, vR by_, vz n, vz (p2101 + 1), vz fa, vz fp, vR kd, vz kn])) 183 [some (vR d_), some (vz pl), some (vz v100), some (vz 0)] [] _
            rw [← eG118]
            refine ab_iload_n d_RD_open_183 rfl ?_
            refine zz_iconst d_RD_open_184 ?_
            refine zz_icmp_eq (tgt := 203) d_RD_open_185 (by decide) (by omega) (by decide) (fun c121 => absurd c121 (by omega)) (fun c121 => ?_)
            refine ab_iload_n d_RD_open_188 rfl ?_
            refine zz_if_eq (tgt := 203) d_RD_open_189 (by decide) (by decide) (fun c122 => ?_) (fun c122 => absurd c122 (by decide))
            refine ab_iload_n d_RD_open_203 rfl ?_
            refine zz_iconst d_RD_open_204 ?_
            refine zz_icmp_eq (tgt := 213) d_RD_open_205 (by decide) (by omega) (by decide) (fun c123 => absurd c123 (by omega)) (fun c123 => ?_)
            refine ab_aload_n d_RD_open_208 rfl ?_
            refine ab_iload_n d_RD_open_209 rfl ?_
            refine ab_putf (fs := [vR x, inn, vz dp, vz flg, vz grp, vR na, vR nl, vz lst, vz mst, vz bh]) f_RD_38 (Or.inl rfl) d_RD_open_210 hd_.2.2 (Nat.le_of_ble_eq_true rfl) (fun _ => ⟨rfl, rfl⟩) (hd_.2.1 (by decide)) ?_
            obtain ⟨G124, eG124⟩ : ∃ z : ab_G, z = List.set G118 d_ (ab_ob 6 [vR x, inn, vz dp, vz v100, vz grp, vR na, vR nl, vz lst, vz mst, vz bh]) := ⟨_, rfl⟩
            have hx := hx.keep hd_ eG124 (by decide)
            have hna := hna.keep hd_ eG124 (by decide)
            have hnl := hnl.keep hd_ eG124 (by decide)
            have hby_ := hby_.keep hd_ eG124 (by decide)
            have hst := (fx.rf (o := o) (S := [25]) (G := G118)).wr hd_ eG124 (List.mem_singleton.mpr rfl)
            have popI_0 := opI.fr hst ppaI_0 popI_0 (by decide) (by decide)
            have pszI_0 := szI.fr hst ppaI_0 pszI_0 (by decide) (by decide)
            have ppaI_0 := paI.fr hst ppaI_0 (by decide) (by decide) (by decide) (by decide)
            have hq125 := z_len eG124
            have hq126 := z_sl hd_ eG124 rfl
            have hfr := hfr.wr hd_ eG124 (by decide)
            have hd_ := hd_.kept eG124
            change ab_W _ _ _ (List.set G118 d_ (ab_ob 6 [vR x, inn, vz dp, vz v100, vz grp, vR na, vR nl, vz lst, vz mst, vz bh])) 213 [some (vR d_), some (vz pl), some (vz v100), some (vz 0)] [] _
            rw [← eG124]
            refine ab_vret rfl d_RD_open_213 ?_
            rw [hQ]; exact ⟨_, _, _, _, _, _, _, _, _, _, _, _, _, _, _, rfl, hfr, hd_, hx, hna, hnl, ppaI_0, popI_0, pszI_0, (by omega), (by omega), (by omega), (by exact hnm), (by omega), (by exact psx.rf), (by omega), (by omega), (by omega), (by omega), (by omega)⟩
          · refine zz_iconst d_RD_open_164 ?_
            refine ab_goto (tgt := 169) d_RD_open_165 (by decide) ?_
            refine ab_istore_n d_RD_open_169 (Nat.le_of_ble_eq_true rfl) (Nat.le_of_ble_eq_true rfl) rfl ?_
            change ab_W _ _ _ G99 170 [some (vR d_), some (vz pl), some (vz v100), some (vz 1)] [] _
            refine ab_aload_n d_RD_open_170 rfl ?_
            refine ab_getf (fs := [vR x, inn, vz dp, vz flg, vz grp, vR na, vR nl, vz lst, vz mst, vz bh]) f_RD_12 d_RD_open_171 hd_.2.2 rfl ?_
            refine ab_dup d_RD_open_174 rfl ?_
            refine ab_getf (fs := [vR se, vR by_, vz n, vz p2101, vz fa, vz fp, vR kd, vz kn]) f_RD_55 d_RD_open_175 hx.2.2 rfl ?_
            refine zz_iconst d_RD_open_178 ?_
            refine zz_iadd d_RD_open_179 ?_
            refine ab_putf (fs := [vR se, vR by_, vz n, vz p2101, vz fa, vz fp, vR kd, vz kn]) f_RD_55 (Or.inl rfl) d_RD_open_180 hx.2.2 (Nat.le_of_ble_eq_true rfl) (fun _ => ⟨rfl, rfl⟩) (hx.2.1 (by decide)) ?_
            obtain ⟨G127, eG127⟩ : ∃ z : ab_G, z = List.set G99 x (ab_ob 10 [vR se, vR by_, vz n, vz (p2101 + 1), vz fa, vz fp, vR kd, vz kn]) := ⟨_, rfl⟩
            have hd_ := hd_.keep hx eG127 (by decide)
            have hna := hna.keep hx eG127 (by decide)
            have hnl := hnl.keep hx eG127 (by decide)
            have hby_ := hby_.keep hx eG127 (by decide)
            have hst := (fx.rf (o := o) (S := [24]) (G := G99)).wr hx eG127 (List.mem_singleton.mpr rfl)
            have popI_0 := opI.fr hst ppaI_0 popI_0 (by decide) (by decide)
            have pszI_0 := szI.fr hst ppaI_0 pszI_0 (by decide) (by decide)
            have ppaI_0 := paI.fr hst ppaI_0 (by decide) (by decide) (by decide) (by decide)
            have hq128 := z_len eG127
            have hq129 := z_sl hx eG127 rfl
            have hfr := hfr.wr hx eG127 (by decide)
            have hx := hx.kept eG127
            change ab_W _ _ _ (List.set G99 x (ab_ob 10 [vR se, vR by_, vz n, vz (p2101 + 1), vz fa, vz fp, vR kd, vz kn])) 183 [some (vR d_), some (vz pl), some (vz v100), some (vz 1)] [] _
            rw [← eG127]
            refine ab_iload_n d_RD_open_183 rfl ?_
            refine zz_iconst d_RD_open_184 ?_
            refine zz_icmp_eq (tgt := 203) d_RD_open_185 (by decide) (by omega) (by decide) (fun c130 => absurd c130 (by omega)) (fun c130 => ?_)
            refine ab_iload_n d_RD_open_188 rfl ?_
            refine zz_if_eq (tgt := 203) d_RD_open_189 (by decide) (by decide) (fun c131 => absurd c131 (by decide)) (fun c131 => ?_)
            refine ab_aload_n d_RD_open_192 rfl ?_
            refine ab_iload_n d_RD_open_193 rfl ?_
            refine zz_iconst d_RD_open_194 ?_
            refine ab_iload_n d_RD_open_195 rfl ?_
            refine zz_iconst d_RD_open_196 ?_
            refine ab_callV (d' := d - 1) (as := [vz pl, vz 0, vz v100, vz 0]) (st := []) (r := _) (zc_RD_enter (o := o) (d_ := d_) (inn := inn) (dp := dp) (flg := flg) (grp := grp) (na := na) (nl := nl) (lst := lst) (mst := mst) (bh := bh) (NA := NA) (NL := NL) (x := x) (se := se) (by_ := by_) (n := n) (pl := (p2101 + 1)) (fa := fa) (fp := fp) (kd := kd) (kn := kn) (ps := ps) (wt := wt) (bs := bs) (ph := ph) (k := k) (hi := hi) (wh := wh) (at_ := pl) (ins := v100) hd_ hx hna hnl ppaI_0 popI_0 pszI_0 (by omega) (by omega) (by omega) (by omega) (by omega) hnm (by omega) (by omega) (by omega) (by omega) (by omega) (by omega)) (fun oc G2 h => by rcases h with ⟨_, _, _, _, _, _, _, _, _, _, _, _, _, _, h, _⟩ <;> exact ⟨_, h⟩) (by omega) m_RD_enter ml_RD_155 im_RD_enter se_RD_enter c_RD hd_.2.2 (Nat.le_of_ble_eq_true rfl) d_RD_open_197 rfl ?_
            intro v G132 hq
            rcases hq with ⟨o133, inn2134, dp2135, flg2136, grp2137, NA2138, NL2139, fa2140, fp2141, k2142, hi2143, ps2144, wt2145, ph2146, hv, hfk, hNd_, hNx, hNna, hNnl, pNpaI_0, pNopI_0, pNszI_0, hq147, hq148, hq149, hq150, hq151, hq152, hq153, hq154, hq155, hq156⟩
            cases hv
            have hby_ := hfk.get hby_ (by decide)
            have ppaI_0 := pNpaI_0
            have popI_0 := pNopI_0
            have pszI_0 := pNszI_0
            have hfr := hfr.tr hfk (by decide)
            have hq157 := hfk.1
            have hd_ := hNd_
            have hx := hNx
            have hna := hNna
            have hnl := hNnl
            change ab_W _ _ _ G132 200 [some (vR d_), some (vz pl), some (vz v100), some (vz 1)] [] _
            refine ab_goto (tgt := 213) d_RD_open_200 (by decide) ?_
            refine ab_vret rfl d_RD_open_213 ?_
            rw [hQ]; exact ⟨_, _, _, _, _, _, _, _, _, _, _, _, _, _, _, rfl, hfr, hd_, hx, hna, hnl, ppaI_0, popI_0, pszI_0, (by omega), (by omega), (by omega), (by exact hq150), (by omega), (by exact hq152.lt (by omega)), (by omega), (by omega), (by omega), (by omega), (by omega)⟩
        · cases hv
          have hna := hfk.get hna (by decide)
          have hnl := hfk.get hnl (by decide)
          have hby_ := hfk.get hby_ (by decide)
          have popI_0 := opI.fr hfk ppaI_0 popI_0 (by decide) (by decide)
          have pszI_0 := szI.fr hfk ppaI_0 pszI_0 (by decide) (by decide)
          have ppaI_0 := paI.fr hfk ppaI_0 (by decide) (by decide) (by decide) (by decide)
          have hfr := hfr.tr hfk (by decide)
          have hq111 := hlk
          have hq112 := hsk
          have hx := hNx
          have hd_ := hNd_
          change ab_W _ _ _ G99 150 [some (vR d_), some (vz pl), none, none] [vz (-1)] _
          refine ab_istore_n d_RD_open_150 (Nat.le_of_ble_eq_true rfl) (Nat.le_of_ble_eq_true rfl) rfl ?_
          change ab_W _ _ _ G99 151 [some (vR d_), some (vz pl), some (vz (-1)), none] [] _
          refine ab_aload_n d_RD_open_151 rfl ?_
          refine ab_getf (fs := [vR x, inn, vz dp, vz flg, vz grp, vR na, vR nl, vz lst, vz mst, vz bh]) f_RD_12 d_RD_open_152 hd_.2.2 rfl ?_
          refine zz_iconst d_RD_open_155 ?_
          refine ab_callV (d' := d - 1) (as := [vz 0]) (st := []) (r := _) (z_TX_peek0 (o := o) (x := x) (lx := 24) (se := se) (by_ := by_) (lby := 23) (m := m) (f := f) (n := n) (pl := p2104) (fa := fa2105) (fp := fp2106) (kd := kd) (kn := kn) hx hby_ (by omega) hb) (fun oc G2 h => by rcases h with ⟨_, h, _⟩ <;> exact ⟨_, h⟩) (by omega) m_TX_peek ml_RD_79 im_TX_peek se_TX_peek c_TX hx.2.2 (Nat.le_of_ble_eq_true rfl) d_RD_open_156 rfl ?_
          intro v G158 hq
          rcases hq with ⟨v159, hv, hGe, hq160, hq161⟩
          cases hv
          rw [hGe]
          change ab_W _ _ _ G99 159 [some (vR d_), some (vz pl), some (vz (-1)), none] [vz v159] _
          refine zz_bipush d_RD_open_159 (by decide) ?_
          refine zz_icmp_ne (tgt := 168) d_RD_open_161 (by decide) (by omega) (by decide) (fun c162 => ?_) (fun c162 => ?_)
          · refine zz_iconst d_RD_open_168 ?_
            refine ab_istore_n d_RD_open_169 (Nat.le_of_ble_eq_true rfl) (Nat.le_of_ble_eq_true rfl) rfl ?_
            change ab_W _ _ _ G99 170 [some (vR d_), some (vz pl), some (vz (-1)), some (vz 0)] [] _
            refine ab_aload_n d_RD_open_170 rfl ?_
            refine ab_getf (fs := [vR x, inn, vz dp, vz flg, vz grp, vR na, vR nl, vz lst, vz mst, vz bh]) f_RD_12 d_RD_open_171 hd_.2.2 rfl ?_
            refine ab_dup d_RD_open_174 rfl ?_
            refine ab_getf (fs := [vR se, vR by_, vz n, vz p2104, vz fa2105, vz fp2106, vR kd, vz kn]) f_RD_55 d_RD_open_175 hx.2.2 rfl ?_
            refine zz_iconst d_RD_open_178 ?_
            refine zz_iadd d_RD_open_179 ?_
            refine ab_putf (fs := [vR se, vR by_, vz n, vz p2104, vz fa2105, vz fp2106, vR kd, vz kn]) f_RD_55 (Or.inl rfl) d_RD_open_180 hx.2.2 (Nat.le_of_ble_eq_true rfl) (fun _ => ⟨rfl, rfl⟩) (hx.2.1 (by decide)) ?_
            obtain ⟨G163, eG163⟩ : ∃ z : ab_G, z = List.set G99 x (ab_ob 10 [vR se, vR by_, vz n, vz (p2104 + 1), vz fa2105, vz fp2106, vR kd, vz kn]) := ⟨_, rfl⟩
            have hd_ := hd_.keep hx eG163 (by decide)
            have hna := hna.keep hx eG163 (by decide)
            have hnl := hnl.keep hx eG163 (by decide)
            have hby_ := hby_.keep hx eG163 (by decide)
            have hst := (fx.rf (o := o) (S := [24]) (G := G99)).wr hx eG163 (List.mem_singleton.mpr rfl)
            have popI_0 := opI.fr hst ppaI_0 popI_0 (by decide) (by decide)
            have pszI_0 := szI.fr hst ppaI_0 pszI_0 (by decide) (by decide)
            have ppaI_0 := paI.fr hst ppaI_0 (by decide) (by decide) (by decide) (by decide)
            have hq164 := z_len eG163
            have hq165 := z_sl hx eG163 rfl
            have hfr := hfr.wr hx eG163 (by decide)
            have hx := hx.kept eG163
            change ab_W _ _ _ (List.set G99 x (ab_ob 10 [vR se, vR by_, vz n, vz (p2104 + 1), vz fa2105, vz fp2106, vR kd, vz kn])) 183 [some (vR d_), some (vz pl), some (vz (-1)), some (vz 0)] [] _
            rw [← eG163]
            refine ab_iload_n d_RD_open_183 rfl ?_
            refine zz_iconst d_RD_open_184 ?_
            refine zz_icmp_eq (tgt := 203) d_RD_open_185 (by decide) (by decide) (by decide) (fun c166 => ?_) (fun c166 => absurd c166 (by decide))
            refine ab_iload_n d_RD_open_203 rfl ?_
            refine zz_iconst d_RD_open_204 ?_
            refine zz_icmp_eq (tgt := 213) d_RD_open_205 (by decide) (by decide) (by decide) (fun c167 => ?_) (fun c167 => absurd c167 (by decide))
            refine ab_vret rfl d_RD_open_213 ?_
            rw [hQ]; exact ⟨_, _, _, _, _, _, _, _, _, _, _, _, _, _, _, rfl, hfr, hd_, hx, hna, hnl, ppaI_0, popI_0, pszI_0, (by omega), (by omega), (by omega), (by exact hnm), (by omega), (by exact psx.rf), (by omega), (by omega), (by omega), (by omega), (by omega)⟩
          · refine zz_iconst d_RD_open_164 ?_
            refine ab_goto (tgt := 169) d_RD_open_165 (by decide) ?_
            refine ab_istore_n d_RD_open_169 (Nat.le_of_ble_eq_true rfl) (Nat.le_of_ble_eq_true rfl) rfl ?_
            change ab_W _ _ _ G99 170 [some (vR d_), some (vz pl), some (vz (-1)), some (vz 1)] [] _
            refine ab_aload_n d_RD_open_170 rfl ?_
            refine ab_getf (fs := [vR x, inn, vz dp, vz flg, vz grp, vR na, vR nl, vz lst, vz mst, vz bh]) f_RD_12 d_RD_open_171 hd_.2.2 rfl ?_
            refine ab_dup d_RD_open_174 rfl ?_
            refine ab_getf (fs := [vR se, vR by_, vz n, vz p2104, vz fa2105, vz fp2106, vR kd, vz kn]) f_RD_55 d_RD_open_175 hx.2.2 rfl ?_
            refine zz_iconst d_RD_open_178 ?_
            refine zz_iadd d_RD_open_179 ?_
            refine ab_putf (fs := [vR se, vR by_, vz n, vz p2104, vz fa2105, vz fp2106, vR kd, vz kn]) f_RD_55 (Or.inl rfl) d_RD_open_180 hx.2.2 (Nat.le_of_ble_eq_true rfl) (fun _ => ⟨rfl, rfl⟩) (hx.2.1 (by decide)) ?_
            obtain ⟨G168, eG168⟩ : ∃ z : ab_G, z = List.set G99 x (ab_ob 10 [vR se, vR by_, vz n, vz (p2104 + 1), vz fa2105, vz fp2106, vR kd, vz kn]) := ⟨_, rfl⟩
            have hd_ := hd_.keep hx eG168 (by decide)
            have hna := hna.keep hx eG168 (by decide)
            have hnl := hnl.keep hx eG168 (by decide)
            have hby_ := hby_.keep hx eG168 (by decide)
            have hst := (fx.rf (o := o) (S := [24]) (G := G99)).wr hx eG168 (List.mem_singleton.mpr rfl)
            have popI_0 := opI.fr hst ppaI_0 popI_0 (by decide) (by decide)
            have pszI_0 := szI.fr hst ppaI_0 pszI_0 (by decide) (by decide)
            have ppaI_0 := paI.fr hst ppaI_0 (by decide) (by decide) (by decide) (by decide)
            have hq169 := z_len eG168
            have hq170 := z_sl hx eG168 rfl
            have hfr := hfr.wr hx eG168 (by decide)
            have hx := hx.kept eG168
            change ab_W _ _ _ (List.set G99 x (ab_ob 10 [vR se, vR by_, vz n, vz (p2104 + 1), vz fa2105, vz fp2106, vR kd, vz kn])) 183 [some (vR d_), some (vz pl), some (vz (-1)), some (vz 1)] [] _
            rw [← eG168]
            refine ab_iload_n d_RD_open_183 rfl ?_
            refine zz_iconst d_RD_open_184 ?_
            refine zz_icmp_eq (tgt := 203) d_RD_open_185 (by decide) (by decide) (by decide) (fun c171 => ?_) (fun c171 => absurd c171 (by decide))
            refine ab_iload_n d_RD_open_203 rfl ?_
            refine zz_iconst d_RD_open_204 ?_
            refine zz_icmp_eq (tgt := 213) d_RD_open_205 (by decide) (by decide) (by decide) (fun c172 => ?_) (fun c172 => absurd c172 (by decide))
            refine ab_vret rfl d_RD_open_213 ?_
            rw [hQ]; exact ⟨_, _, _, _, _, _, _, _, _, _, _, _, _, _, _, rfl, hfr, hd_, hx, hna, hnl, ppaI_0, popI_0, pszI_0, (by omega), (by omega), (by omega), (by exact hnm), (by omega), (by exact psx.rf), (by omega), (by omega), (by omega), (by omega), (by omega)⟩
      · refine ab_aload_n d_RD_open_63 rfl ?_
        refine ab_iload_n d_RD_open_64 rfl ?_
        refine zz_iconst d_RD_open_65 ?_
        refine zz_iadd d_RD_open_66 ?_
        refine ab_callV (d' := d - 1) (as := [vz (pl + 4)]) (st := []) (r := _) (z_RD_nameLengthAt (o := o) (d_ := d_) (inn := inn) (dp := dp) (flg := flg) (grp := grp) (na := na) (nl := nl) (lst := lst) (mst := mst) (bh := bh) (x := x) (se := se) (by_ := by_) (m := m) (f := f) (n := n) (pl := (pl + 1)) (fa := fa) (fp := fp) (kd := kd) (kn := kn) (b := (pl + 4)) hd_ hx hby_ (by omega) hb (by omega) (by omega)) (fun oc G2 h => by rcases h with ⟨_, h, _⟩ | ⟨h, _⟩ <;> exact ⟨_, h⟩) (by omega) m_RD_nameLengthAt ml_RD_159 im_RD_nameLengthAt se_RD_nameLengthAt c_RD hd_.2.2 (Nat.le_of_ble_eq_true rfl) d_RD_open_67 rfl ?_
        intro v G173 hq
        rcases hq with ⟨v174, hv, hfk, hlk, hsk, hq175⟩ | ⟨hv, hfk, hlk, hsk⟩
        · cases hv
          have hd_ := hfk.get hd_ (by decide)
          have hx := hfk.get hx (by decide)
          have hna := hfk.get hna (by decide)
          have hnl := hfk.get hnl (by decide)
          have hby_ := hfk.get hby_ (by decide)
          have popI_0 := opI.fr hfk ppaI_0 popI_0 (by decide) (by decide)
          have pszI_0 := szI.fr hfk ppaI_0 pszI_0 (by decide) (by decide)
          have ppaI_0 := paI.fr hfk ppaI_0 (by decide) (by decide) (by decide) (by simp)
          have hfr := hfr.tr hfk (by decide)
          have hq176 := hlk
          have hq177 := hsk
          change ab_W _ _ _ G173 70 [some (vR d_), some (vz pl), none, none] [vz v174] _
          refine ab_istore_n d_RD_open_70 (Nat.le_of_ble_eq_true rfl) (Nat.le_of_ble_eq_true rfl) rfl ?_
          change ab_W _ _ _ G173 71 [some (vR d_), some (vz pl), some (vz v174), none] [] _
          refine ab_aload_n d_RD_open_71 rfl ?_
          refine ab_getf (fs := [vR x, inn, vz dp, vz flg, vz grp, vR na, vR nl, vz lst, vz mst, vz bh]) f_RD_12 d_RD_open_72 hd_.2.2 rfl ?_
          refine ab_iload_n d_RD_open_75 rfl ?_
          refine zz_iconst d_RD_open_76 ?_
          refine zz_iadd d_RD_open_77 ?_
          refine ab_iload_n d_RD_open_78 rfl ?_
          refine zz_iadd d_RD_open_79 ?_
          refine ab_putf (fs := [vR se, vR by_, vz n, vz (pl + 1), vz fa, vz fp, vR kd, vz kn]) f_RD_55 (Or.inl rfl) d_RD_open_80 hx.2.2 (Nat.le_of_ble_eq_true rfl) (fun _ => ⟨rfl, rfl⟩) (hx.2.1 (by decide)) ?_
          obtain ⟨G180, eG180⟩ : ∃ z : ab_G, z = List.set G173 x (ab_ob 10 [vR se, vR by_, vz n, vz ((pl + 5) + v174), vz fa, vz fp, vR kd, vz kn]) := ⟨_, rfl⟩
          have hd_ := hd_.keep hx eG180 (by decide)
          have hna := hna.keep hx eG180 (by decide)
          have hnl := hnl.keep hx eG180 (by decide)
          have hby_ := hby_.keep hx eG180 (by decide)
          have hst := (fx.rf (o := o) (S := [24]) (G := G173)).wr hx eG180 (List.mem_singleton.mpr rfl)
          have popI_0 := opI.fr hst ppaI_0 popI_0 (by decide) (by decide)
          have pszI_0 := szI.fr hst ppaI_0 pszI_0 (by decide) (by decide)
          have ppaI_0 := paI.fr hst ppaI_0 (by decide) (by decide) (by decide) (by decide)
          have hq181 := z_len eG180
          have hq182 := z_sl hx eG180 rfl
          have hfr := hfr.wr hx eG180 (by decide)
          have hx := hx.kept eG180
          change ab_W _ _ _ (List.set G173 x (ab_ob 10 [vR se, vR by_, vz n, vz ((pl + 5) + v174), vz fa, vz fp, vR kd, vz kn])) 83 [some (vR d_), some (vz pl), some (vz v174), none] [] _
          rw [← eG180]
          refine ab_iload_n d_RD_open_83 rfl ?_
          refine zz_if_eq (tgt := 98) d_RD_open_84 (by decide) (by omega) (fun c183 => ?_) (fun c183 => ?_)
          · refine ab_aload_n d_RD_open_98 rfl ?_
            refine ab_getf (fs := [vR x, inn, vz dp, vz flg, vz grp, vR na, vR nl, vz lst, vz mst, vz bh]) f_RD_12 d_RD_open_99 hd_.2.2 rfl ?_
            refine ab_iload_n d_RD_open_102 rfl ?_
            refine zz_if_ne (tgt := 111) d_RD_open_103 (by decide) (by omega) (fun c184 => absurd c184 (by omega)) (fun c184 => ?_)
            refine zz_bipush d_RD_open_106 (by decide) ?_
            refine ab_goto (tgt := 113) d_RD_open_108 (by decide) ?_
            refine ab_iload_n d_RD_open_113 rfl ?_
            refine ab_callV (d' := d - 1) (as := [vz 10, vz pl]) (st := []) (r := _) (z_TX_fail (o := o) (x := x) (lx := 24) (se := se) (by_ := by_) (n := n) (pl := ((pl + 5) + v174)) (fa := fa) (fp := fp) (kd := kd) (kn := kn) (w := 10) (p := pl) hx (by omega) (by omega) (by omega)) (fun oc G2 h => by rcases h with ⟨h, _⟩ | ⟨h, _⟩ <;> exact ⟨_, h⟩) (by omega) m_TX_fail ml_RD_69 im_TX_fail se_TX_fail c_TX hx.2.2 (Nat.le_of_ble_eq_true rfl) d_RD_open_114 rfl ?_
            intro v G185 hq
            rcases hq with ⟨hv, hfk, hlk, hsk, hNx, hq186⟩ | ⟨hv, hGe, hq187⟩
            · cases hv
              have hd_ := hfk.get hd_ (by decide)
              have hna := hfk.get hna (by decide)
              have hnl := hfk.get hnl (by decide)
              have hby_ := hfk.get hby_ (by decide)
              have popI_0 := opI.fr hfk ppaI_0 popI_0 (by decide) (by decide)
              have pszI_0 := szI.fr hfk ppaI_0 pszI_0 (by decide) (by decide)
              have ppaI_0 := paI.fr hfk ppaI_0 (by decide) (by decide) (by decide) (by decide)
              have hfr := hfr.tr hfk (by decide)
              have hq188 := hlk
              have hq189 := hsk
              have hx := hNx
              change ab_W _ _ _ G185 117 [some (vR d_), some (vz pl), some (vz v174), none] [vz (-1)] _
              refine ab_pop d_RD_open_117 rfl ?_
              refine ab_goto (tgt := 132) d_RD_open_118 (by decide) ?_
              refine ab_goto (tgt := 213) d_RD_open_132 (by decide) ?_
              refine ab_vret rfl d_RD_open_213 ?_
              rw [hQ]; exact ⟨_, _, _, _, _, _, _, _, _, _, _, _, _, _, _, rfl, hfr, hd_, hx, hna, hnl, ppaI_0, popI_0, pszI_0, (by omega), (by omega), (by omega), (by exact hnm), (by omega), (by exact psx.rf), (by omega), (by omega), (by omega), (by omega), (by omega)⟩
            · cases hv
              rw [hGe]
              change ab_W _ _ _ G180 117 [some (vR d_), some (vz pl), some (vz v174), none] [vz (-1)] _
              exfalso; omega
          · refine ab_aload_n d_RD_open_87 rfl ?_
            refine ab_iload_n d_RD_open_88 rfl ?_
            refine zz_iconst d_RD_open_89 ?_
            refine zz_iadd d_RD_open_90 ?_
            refine ab_iload_n d_RD_open_91 rfl ?_
            refine ab_callV (d' := d - 1) (as := [vz (pl + 4), vz v174]) (st := []) (r := _) (z_RD_isTaken (o := o) (d_ := d_) (inn := inn) (dp := dp) (flg := flg) (grp := grp) (na := na) (nl := nl) (lst := lst) (mst := mst) (bh := bh) (NA := NA) (NL := NL) (x := x) (se := se) (by_ := by_) (m := m) (f := f) (n := n) (pl := ((pl + 5) + v174)) (fa := fa) (fp := fp) (kd := kd) (kn := kn) (b := (pl + 4)) (le := v174) hd_ hx hby_ hna hnl (by omega) hb hnm (by omega) (by omega)) (fun oc G2 h => by rcases h with ⟨_, h, _⟩ <;> exact ⟨_, h⟩) (by omega) m_RD_isTaken ml_RD_162 im_RD_isTaken se_RD_isTaken c_RD hd_.2.2 (Nat.le_of_ble_eq_true rfl) d_RD_open_92 rfl ?_
            intro v G190 hq
            rcases hq with ⟨tk191, hv, hfk, hlk, hsk, hq192⟩
            cases hv
            have hd_ := hfk.get hd_ (by decide)
            have hx := hfk.get hx (by decide)
            have hna := hfk.get hna (by decide)
            have hnl := hfk.get hnl (by decide)
            have hby_ := hfk.get hby_ (by decide)
            have popI_0 := opI.fr hfk ppaI_0 popI_0 (by decide) (by decide)
            have pszI_0 := szI.fr hfk ppaI_0 pszI_0 (by decide) (by decide)
            have ppaI_0 := paI.fr hfk ppaI_0 (by decide) (by decide) (by decide) (by simp)
            have hfr := hfr.tr hfk (by decide)
            have hq193 := hlk
            have hq194 := hsk
            change ab_W _ _ _ G190 95 [some (vR d_), some (vz pl), some (vz v174), none] [vz tk191] _
            refine zz_if_eq (tgt := 121) d_RD_open_95 (by decide) (by omega) (fun c195 => ?_) (fun c195 => ?_)
            · refine ab_aload_n d_RD_open_121 rfl ?_
              refine ab_iload_n d_RD_open_122 rfl ?_
              refine zz_iconst d_RD_open_123 ?_
              refine ab_aload_n d_RD_open_124 rfl ?_
              refine ab_getf (fs := [vR x, inn, vz dp, vz flg, vz grp, vR na, vR nl, vz lst, vz mst, vz bh]) f_RD_38 d_RD_open_125 hd_.2.2 rfl ?_
              refine ab_iload_n d_RD_open_128 rfl ?_
              refine ab_callV (d' := d - 1) (as := [vz pl, vz 1, vz flg, vz v174]) (st := []) (r := _) (zb_RD_enter (o := o) (d_ := d_) (inn := inn) (dp := dp) (flg := flg) (grp := grp) (na := na) (nl := nl) (lst := lst) (mst := mst) (bh := bh) (NA := NA) (NL := NL) (x := x) (se := se) (by_ := by_) (n := n) (pl := ((pl + 5) + v174)) (fa := fa) (fp := fp) (kd := kd) (kn := kn) (ps := ps) (wt := wt) (bs := bs) (ph := ph) (k := k) (hi := hi) (wh := wh) (at_ := pl) (ins := flg) (nm := v174) hd_ hx hna hnl ppaI_0 popI_0 pszI_0 (by omega) (by omega) (by omega) (by omega) (by omega) hnm (by omega) (by omega) (by omega) (by omega) (by omega) (by omega) (by omega)) (fun oc G2 h => by rcases h with ⟨_, _, _, _, _, _, _, _, _, _, _, _, _, _, h, _⟩ <;> exact ⟨_, h⟩) (by omega) m_RD_enter ml_RD_155 im_RD_enter se_RD_enter c_RD hd_.2.2 (Nat.le_of_ble_eq_true rfl) d_RD_open_129 rfl ?_
              intro v G196 hq
              rcases hq with ⟨o197, inn2198, dp2199, flg2200, grp2201, NA2202, NL2203, fa2204, fp2205, k2206, hi2207, ps2208, wt2209, ph2210, hv, hfk, hNd_, hNx, hNna, hNnl, pNpaI_0, pNopI_0, pNszI_0, hq211, hq212, hq213, hq214, hq215, hq216, hq217, hq218, hq219, hq220⟩
              cases hv
              have hby_ := hfk.get hby_ (by decide)
              have ppaI_0 := pNpaI_0
              have popI_0 := pNopI_0
              have pszI_0 := pNszI_0
              have hfr := hfr.tr hfk (by decide)
              have hq221 := hfk.1
              have hd_ := hNd_
              have hx := hNx
              have hna := hNna
              have hnl := hNnl
              change ab_W _ _ _ G196 132 [some (vR d_), some (vz pl), some (vz v174), none] [] _
              refine ab_goto (tgt := 213) d_RD_open_132 (by decide) ?_
              refine ab_vret rfl d_RD_open_213 ?_
              rw [hQ]; exact ⟨_, _, _, _, _, _, _, _, _, _, _, _, _, _, _, rfl, hfr, hd_, hx, hna, hnl, ppaI_0, popI_0, pszI_0, (by omega), (by omega), (by omega), (by exact hq214), (by omega), (by exact hq216.lt (by omega)), (by omega), (by omega), (by omega), (by omega), (by omega)⟩
            · refine ab_aload_n d_RD_open_98 rfl ?_
              refine ab_getf (fs := [vR x, inn, vz dp, vz flg, vz grp, vR na, vR nl, vz lst, vz mst, vz bh]) f_RD_12 d_RD_open_99 hd_.2.2 rfl ?_
              refine ab_iload_n d_RD_open_102 rfl ?_
              refine zz_if_ne (tgt := 111) d_RD_open_103 (by decide) (by omega) (fun c222 => ?_) (fun c222 => absurd c222 (by omega))
              refine zz_bipush d_RD_open_111 (by decide) ?_
              refine ab_iload_n d_RD_open_113 rfl ?_
              refine ab_callV (d' := d - 1) (as := [vz 11, vz pl]) (st := []) (r := _) (z_TX_fail (o := o) (x := x) (lx := 24) (se := se) (by_ := by_) (n := n) (pl := ((pl + 5) + v174)) (fa := fa) (fp := fp) (kd := kd) (kn := kn) (w := 11) (p := pl) hx (by omega) (by omega) (by omega)) (fun oc G2 h => by rcases h with ⟨h, _⟩ | ⟨h, _⟩ <;> exact ⟨_, h⟩) (by omega) m_TX_fail ml_RD_69 im_TX_fail se_TX_fail c_TX hx.2.2 (Nat.le_of_ble_eq_true rfl) d_RD_open_114 rfl ?_
              intro v G223 hq
              rcases hq with ⟨hv, hfk, hlk, hsk, hNx, hq224⟩ | ⟨hv, hGe, hq225⟩
              · cases hv
                have hd_ := hfk.get hd_ (by decide)
                have hna := hfk.get hna (by decide)
                have hnl := hfk.get hnl (by decide)
                have hby_ := hfk.get hby_ (by decide)
                have popI_0 := opI.fr hfk ppaI_0 popI_0 (by decide) (by decide)
                have pszI_0 := szI.fr hfk ppaI_0 pszI_0 (by decide) (by decide)
                have ppaI_0 := paI.fr hfk ppaI_0 (by decide) (by decide) (by decide) (by decide)
                have hfr := hfr.tr hfk (by decide)
                have hq226 := hlk
                have hq227 := hsk
                have hx := hNx
                change ab_W _ _ _ G223 117 [some (vR d_), some (vz pl), some (vz v174), none] [vz (-1)] _
                refine ab_pop d_RD_open_117 rfl ?_
                refine ab_goto (tgt := 132) d_RD_open_118 (by decide) ?_
                refine ab_goto (tgt := 213) d_RD_open_132 (by decide) ?_
                refine ab_vret rfl d_RD_open_213 ?_
                rw [hQ]; exact ⟨_, _, _, _, _, _, _, _, _, _, _, _, _, _, _, rfl, hfr, hd_, hx, hna, hnl, ppaI_0, popI_0, pszI_0, (by omega), (by omega), (by omega), (by exact hnm), (by omega), (by exact psx.rf), (by omega), (by omega), (by omega), (by omega), (by omega)⟩
              · cases hv
                rw [hGe]
                change ab_W _ _ _ G190 117 [some (vR d_), some (vz pl), some (vz v174), none] [vz (-1)] _
                exfalso; omega
        · cases hv
          have hd_ := hfk.get hd_ (by decide)
          have hx := hfk.get hx (by decide)
          have hna := hfk.get hna (by decide)
          have hnl := hfk.get hnl (by decide)
          have hby_ := hfk.get hby_ (by decide)
          have popI_0 := opI.fr hfk ppaI_0 popI_0 (by decide) (by decide)
          have pszI_0 := szI.fr hfk ppaI_0 pszI_0 (by decide) (by decide)
          have ppaI_0 := paI.fr hfk ppaI_0 (by decide) (by decide) (by decide) (by simp)
          have hfr := hfr.tr hfk (by decide)
          have hq178 := hlk
          have hq179 := hsk
          change ab_W _ _ _ G173 70 [some (vR d_), some (vz pl), none, none] [vz 0] _
          refine ab_istore_n d_RD_open_70 (Nat.le_of_ble_eq_true rfl) (Nat.le_of_ble_eq_true rfl) rfl ?_
          change ab_W _ _ _ G173 71 [some (vR d_), some (vz pl), some (vz 0), none] [] _
          refine ab_aload_n d_RD_open_71 rfl ?_
          refine ab_getf (fs := [vR x, inn, vz dp, vz flg, vz grp, vR na, vR nl, vz lst, vz mst, vz bh]) f_RD_12 d_RD_open_72 hd_.2.2 rfl ?_
          refine ab_iload_n d_RD_open_75 rfl ?_
          refine zz_iconst d_RD_open_76 ?_
          refine zz_iadd d_RD_open_77 ?_
          refine ab_iload_n d_RD_open_78 rfl ?_
          refine zz_iadd d_RD_open_79 ?_
          refine ab_putf (fs := [vR se, vR by_, vz n, vz (pl + 1), vz fa, vz fp, vR kd, vz kn]) f_RD_55 (Or.inl rfl) d_RD_open_80 hx.2.2 (Nat.le_of_ble_eq_true rfl) (fun _ => ⟨rfl, rfl⟩) (hx.2.1 (by decide)) ?_
          obtain ⟨G228, eG228⟩ : ∃ z : ab_G, z = List.set G173 x (ab_ob 10 [vR se, vR by_, vz n, vz ((pl + 5) + 0), vz fa, vz fp, vR kd, vz kn]) := ⟨_, rfl⟩
          have hd_ := hd_.keep hx eG228 (by decide)
          have hna := hna.keep hx eG228 (by decide)
          have hnl := hnl.keep hx eG228 (by decide)
          have hby_ := hby_.keep hx eG228 (by decide)
          have hst := (fx.rf (o := o) (S := [24]) (G := G173)).wr hx eG228 (List.mem_singleton.mpr rfl)
          have popI_0 := opI.fr hst ppaI_0 popI_0 (by decide) (by decide)
          have pszI_0 := szI.fr hst ppaI_0 pszI_0 (by decide) (by decide)
          have ppaI_0 := paI.fr hst ppaI_0 (by decide) (by decide) (by decide) (by decide)
          have hq229 := z_len eG228
          have hq230 := z_sl hx eG228 rfl
          have hfr := hfr.wr hx eG228 (by decide)
          have hx := hx.kept eG228
          change ab_W _ _ _ (List.set G173 x (ab_ob 10 [vR se, vR by_, vz n, vz ((pl + 5) + 0), vz fa, vz fp, vR kd, vz kn])) 83 [some (vR d_), some (vz pl), some (vz 0), none] [] _
          rw [← eG228]
          refine ab_iload_n d_RD_open_83 rfl ?_
          refine zz_if_eq (tgt := 98) d_RD_open_84 (by decide) (by decide) (fun c231 => ?_) (fun c231 => absurd c231 (by decide))
          refine ab_aload_n d_RD_open_98 rfl ?_
          refine ab_getf (fs := [vR x, inn, vz dp, vz flg, vz grp, vR na, vR nl, vz lst, vz mst, vz bh]) f_RD_12 d_RD_open_99 hd_.2.2 rfl ?_
          refine ab_iload_n d_RD_open_102 rfl ?_
          refine zz_if_ne (tgt := 111) d_RD_open_103 (by decide) (by decide) (fun c232 => absurd c232 (by decide)) (fun c232 => ?_)
          refine zz_bipush d_RD_open_106 (by decide) ?_
          refine ab_goto (tgt := 113) d_RD_open_108 (by decide) ?_
          refine ab_iload_n d_RD_open_113 rfl ?_
          refine ab_callV (d' := d - 1) (as := [vz 10, vz pl]) (st := []) (r := _) (z_TX_fail (o := o) (x := x) (lx := 24) (se := se) (by_ := by_) (n := n) (pl := ((pl + 5) + 0)) (fa := fa) (fp := fp) (kd := kd) (kn := kn) (w := 10) (p := pl) hx (by omega) (by omega) (by omega)) (fun oc G2 h => by rcases h with ⟨h, _⟩ | ⟨h, _⟩ <;> exact ⟨_, h⟩) (by omega) m_TX_fail ml_RD_69 im_TX_fail se_TX_fail c_TX hx.2.2 (Nat.le_of_ble_eq_true rfl) d_RD_open_114 rfl ?_
          intro v G233 hq
          rcases hq with ⟨hv, hfk, hlk, hsk, hNx, hq234⟩ | ⟨hv, hGe, hq235⟩
          · cases hv
            have hd_ := hfk.get hd_ (by decide)
            have hna := hfk.get hna (by decide)
            have hnl := hfk.get hnl (by decide)
            have hby_ := hfk.get hby_ (by decide)
            have popI_0 := opI.fr hfk ppaI_0 popI_0 (by decide) (by decide)
            have pszI_0 := szI.fr hfk ppaI_0 pszI_0 (by decide) (by decide)
            have ppaI_0 := paI.fr hfk ppaI_0 (by decide) (by decide) (by decide) (by decide)
            have hfr := hfr.tr hfk (by decide)
            have hq236 := hlk
            have hq237 := hsk
            have hx := hNx
            change ab_W _ _ _ G233 117 [some (vR d_), some (vz pl), some (vz 0), none] [vz (-1)] _
            refine ab_pop d_RD_open_117 rfl ?_
            refine ab_goto (tgt := 132) d_RD_open_118 (by decide) ?_
            refine ab_goto (tgt := 213) d_RD_open_132 (by decide) ?_
            refine ab_vret rfl d_RD_open_213 ?_
            rw [hQ]; exact ⟨_, _, _, _, _, _, _, _, _, _, _, _, _, _, _, rfl, hfr, hd_, hx, hna, hnl, ppaI_0, popI_0, pszI_0, (by omega), (by omega), (by omega), (by exact hnm), (by omega), (by exact psx.rf), (by omega), (by omega), (by omega), (by omega), (by omega)⟩
          · cases hv
            rw [hGe]
            change ab_W _ _ _ G228 117 [some (vR d_), some (vz pl), some (vz 0), none] [vz (-1)] _
            exfalso; omega
  · refine ab_aload_n d_RD_open_23 rfl ?_
    refine ab_iload_n d_RD_open_24 rfl ?_
    refine zz_iconst d_RD_open_25 ?_
    refine ab_aload_n d_RD_open_26 rfl ?_
    refine ab_getf (fs := [vR x, inn, vz dp, vz flg, vz grp, vR na, vR nl, vz lst, vz mst, vz bh]) f_RD_38 d_RD_open_27 hd_.2.2 rfl ?_
    refine zz_iconst d_RD_open_30 ?_
    refine ab_callV (d' := d - 1) (as := [vz pl, vz 1, vz flg, vz 0]) (st := []) (r := _) (za_RD_enter (o := o) (d_ := d_) (inn := inn) (dp := dp) (flg := flg) (grp := grp) (na := na) (nl := nl) (lst := lst) (mst := mst) (bh := bh) (NA := NA) (NL := NL) (x := x) (se := se) (by_ := by_) (n := n) (pl := (pl + 1)) (fa := fa) (fp := fp) (kd := kd) (kn := kn) (ps := ps) (wt := wt) (bs := bs) (ph := ph) (k := k) (hi := hi) (wh := wh) (at_ := pl) (ins := flg) hd_ hx hna hnl ppaI_0 popI_0 pszI_0 (by omega) (by omega) (by omega) (by omega) (by omega) hnm (by omega) (by omega) (by omega) (by omega) (by omega) (by omega)) (fun oc G2 h => by rcases h with ⟨_, _, _, _, _, _, _, _, _, _, _, _, _, _, h, _⟩ <;> exact ⟨_, h⟩) (by omega) m_RD_enter ml_RD_155 im_RD_enter se_RD_enter c_RD hd_.2.2 (Nat.le_of_ble_eq_true rfl) d_RD_open_31 rfl ?_
    intro v G238 hq
    rcases hq with ⟨o239, inn2240, dp2241, flg2242, grp2243, NA2244, NL2245, fa2246, fp2247, k2248, hi2249, ps2250, wt2251, ph2252, hv, hfk, hNd_, hNx, hNna, hNnl, pNpaI_0, pNopI_0, pNszI_0, hq253, hq254, hq255, hq256, hq257, hq258, hq259, hq260, hq261, hq262⟩
    cases hv
    have hby_ := hfk.get hby_ (by decide)
    have ppaI_0 := pNpaI_0
    have popI_0 := pNopI_0
    have pszI_0 := pNszI_0
    have hfr := hfr.tr hfk (by decide)
    have hq263 := hfk.1
    have hd_ := hNd_
    have hx := hNx
    have hna := hNna
    have hnl := hNnl
    change ab_W _ _ _ G238 34 [some (vR d_), some (vz pl), none, none] [] _
    refine ab_goto (tgt := 213) d_RD_open_34 (by decide) ?_
    refine ab_vret rfl d_RD_open_213 ?_
    rw [hQ]; exact ⟨_, _, _, _, _, _, _, _, _, _, _, _, _, _, _, rfl, hfr, hd_, hx, hna, hnl, ppaI_0, popI_0, pszI_0, (by omega), (by omega), (by omega), (by exact hq256), (by omega), (by exact hq258.lt (by omega)), (by omega), (by omega), (by omega), (by omega), (by omega)⟩
