set_option maxRecDepth 100000 in
set_option maxHeartbeats 4000000 in
theorem y_PA_closeRows_5 {X : ab_X} {d : Nat} {Q : Outcome → ab_G → Prop} {o : Nat → Nat} {G0 : ab_G} {k : Int} {v : Int} {rg : Value} {pl : Int} {fl : Int} {ou : Value} {ls : Value} {bf : Value} {oe : Int} {le : Int} {mo : Int} {la : Int} {rc : Int} {ps : Nat → Nat} {wt : Nat → Wt} {bs : Nat} {ph : Int} {gr : Int} {Pr : Int → Prop} {p : Nat} {cu : Nat → Int} {s9 : Int} {eu : Nat → Prop} {e9 : Prop} (n18 : ab_n0 = 18) (hpp : ps p = 90) (hn : paN gr Pr k v rc) (ho : plk ps 90 p ou) (hl : plk ps 94 G0.length ls) (hf : plk ps 90 p bf) (hrq : rqs ps cu G0) (hc0 : ∀ a, 0 ≤ cu a) (hre : reu ps eu G0) (hd : 1 ≤ d) : ∀ (mz : Nat) {G : ab_G} {rw : Value} {hb_ : Nat} {sz : Int} {mb : Int}, (cc o G p 90 (ab_ob 4 [vz k, vz v, rg, vz pl, vz fl, ou, ls, bf, vz sz, vz mb, vz oe, vz le, vz mo, vz la, vz rc])) → (paI o G 0 ps wt bs gr Pr ph) → ((-1 ≤ pl ∧ pl ≤ 2100) ∧ (0 ≤ fl ∧ fl ≤ 31) ∧ (0 ≤ sz ∧ sz ≤ 1000000) ∧ (0 ≤ mb ∧ mb ≤ 1) ∧ (0 ≤ oe ∧ oe ≤ 1) ∧ (0 ≤ le ∧ le ≤ 1000) ∧ (0 ≤ mo ∧ mo ≤ 1000) ∧ (0 ≤ la ∧ la ≤ 1)) → (plk ps 94 hb_ rw) → (fz ps [p] G0 G) → (ceq (sz + lvc cu rw) s9) → (mbe mb eu rw e9) → (fx o o [90] G0 G) → (G.length = G0.length) → (ab_slots G = ab_slots G0) → (Int.toNat (↑hb_ : Int) < mz) → (∀ (G2 : ab_G) (sz2 : Int) (mb2 : Int), (cc o G2 p 90 (ab_ob 4 [vz k, vz v, rg, vz pl, vz fl, ou, ls, bf, vz sz2, vz mb2, vz oe, vz le, vz mo, vz la, vz rc])) → (paI o G2 0 ps wt bs gr Pr ph) → ((0 ≤ sz2 ∧ sz2 ≤ 1000000) ∧ (0 ≤ mb2 ∧ mb2 ≤ 1)) → (fz ps [p] G0 G2) → (ceq sz2 s9) → (mbf mb2 e9) → (fx o o [90] G0 G2) → (G2.length = G0.length) → (ab_slots G2 = ab_slots G0) → Q (.returned none) G2) → ab_W X (ab_pl y_PA_closeRows b_PA_closeRows 3 none) d G 5 [some (vR p), some (rw), none] [] Q := by
  intro mz
  induction mz with
  | zero => intro G rw hb_ sz mb hp ppaI_0 cb hrw hfz hcq hme hfr hlen hsl hm hk0; exact absurd hm (Nat.not_lt_zero _)
  | succ mz ih =>
    intro G rw hb_ sz mb hp ppaI_0 cb hrw hfz hcq hme hfr hlen hsl hm hk0
    rcases hrw with hz2 | ⟨b1, hz2, hp3, hl4⟩
    · subst hz2
      change ab_W _ _ _ G 5 [some (vR p), some (vN), none] [] _
      refine ab_aload_nN d_PA_closeRows_5 rfl ?_
      refine ab_ifnullN (tgt := 63) d_PA_closeRows_6 (by decide) ?_
      refine ab_vret rfl d_PA_closeRows_63 ?_
      exact hk0 _ _ _ hp ppaI_0 (by omega) (by exact hfz) (by exact cq_end hcq) (by exact fun z => hme (by omega) trivial) hfr hlen hsl
    · subst hz2
      change ab_W _ _ _ G 5 [some (vR p), some (vR b1), none] [] _
      refine ab_aload_n d_PA_closeRows_5 rfl ?_
      refine ab_ifnull d_PA_closeRows_6 ?_
      refine ab_aload_n d_PA_closeRows_9 rfl ?_
      obtain ⟨ls5, bf5, sz5, mb5, hb1, hB5, hl5, hf5⟩ := ppaI_0.2.1 b1 hp3
      have hcu_ := (hrq.same hfz (by intro a ha; rw [List.mem_singleton.mp ha]; exact hpp)).at hp3 hb1 (by omega)
      have heu_ := (hre.same hfz (by intro a ha; rw [List.mem_singleton.mp ha]; exact hpp)).at hp3 hb1 (by omega)
      refine ab_getf (fs := [vz 5, vz 0, vN, vz (-1), vz 0, vN, ls5, bf5, vz sz5, vz mb5, vz 0, vz 0, vz 0, vz 0, vz (-1)]) f_PA_35 d_PA_closeRows_10 hb1.2.2 rfl ?_
      change ab_W _ _ _ G 13 [some (vR p), some (vR b1), none] [bf5] _
      rcases hf5 with hz7 | ⟨b6, hz7, hp8, hl9⟩
      · subst hz7
        change ab_W _ _ _ G 13 [some (vR p), some (vR b1), none] [vN] _
        refine ab_ifnonnullN d_PA_closeRows_13 ?_
        refine zz_iconst d_PA_closeRows_16 ?_
        refine ab_goto (tgt := 21) d_PA_closeRows_17 (by decide) ?_
        refine ab_istore_n d_PA_closeRows_21 (Nat.le_of_ble_eq_true rfl) (Nat.le_of_ble_eq_true rfl) rfl ?_
        change ab_W _ _ _ G 22 [some (vR p), some (vR b1), some (vz 0)] [] _
        refine ab_aload_n d_PA_closeRows_22 rfl ?_
        refine zz_ldc 1000000 d_PA_closeRows_23 cn_PA_42 (by decide) ?_
        refine ab_aload_n d_PA_closeRows_25 rfl ?_
        refine ab_getf (fs := [vz k, vz v, rg, vz pl, vz fl, ou, ls, bf, vz sz, vz mb, vz oe, vz le, vz mo, vz la, vz rc]) f_PA_24 d_PA_closeRows_26 hp.2.2 rfl ?_
        refine ab_aload_n d_PA_closeRows_29 rfl ?_
        refine ab_getf (fs := [vz 5, vz 0, vN, vz (-1), vz 0, vN, ls5, vN, vz sz5, vz mb5, vz 0, vz 0, vz 0, vz 0, vz (-1)]) f_PA_24 d_PA_closeRows_30 hb1.2.2 rfl ?_
        refine zz_iadd d_PA_closeRows_33 ?_
        refine ab_iload_n d_PA_closeRows_34 rfl ?_
        refine zz_iadd d_PA_closeRows_35 ?_
        refine zz_mmin mj_PA_43 d_PA_closeRows_36 (by decide) (by omega) (Nat.le_of_ble_eq_true rfl) (by omega) ?_
        obtain ⟨v10, hv10⟩ : ∃ z : Int, z = (min 1000000 ((sz + sz5) + 0)) := ⟨_, rfl⟩
        rw [← hv10]
        have hv10 : (1000000 ≤ ((sz + sz5) + 0) ∧ v10 = 1000000) ∨ (((sz + sz5) + 0) < 1000000 ∧ v10 = ((sz + sz5) + 0)) := by omega
        change ab_W _ _ _ G 39 [some (vR p), some (vR b1), some (vz 0)] [vz v10, vR p] _
        refine ab_putf (fs := [vz k, vz v, rg, vz pl, vz fl, ou, ls, bf, vz sz, vz mb, vz oe, vz le, vz mo, vz la, vz rc]) f_PA_24 (Or.inl rfl) d_PA_closeRows_39 hp.2.2 (Nat.le_of_ble_eq_true rfl) (fun _ => ⟨rfl, rfl⟩) (hp.2.1 (by decide)) ?_
        obtain ⟨G11, eG11⟩ : ∃ z : ab_G, z = List.set G p (ab_ob 4 [vz k, vz v, rg, vz pl, vz fl, ou, ls, bf, vz v10, vz mb, vz oe, vz le, vz mo, vz la, vz rc]) := ⟨_, rfl⟩
        have hb1 := hb1.keep hp eG11 (by decide)
        have hfz := hfz.wr eG11 (by simp)
        have hst := (fx.rf (o := o) (S := [90]) (G := G)).wr hp eG11 (List.mem_singleton.mpr rfl)
        have ppaI_0 := ppaI_0.w90 hpp hp hn eG11 (by unfold pnB; omega) (ho.up (by omega)) (hl.up (by omega)) (hf.up (by omega))
        have hlen := (z_len eG11).trans hlen
        have hsl := (z_sl hp eG11 rfl).trans hsl
        have hfr := hfr.wr hp eG11 (by decide)
        have hp := hp.kept eG11
        change ab_W _ _ _ (List.set G p (ab_ob 4 [vz k, vz v, rg, vz pl, vz fl, ou, ls, bf, vz v10, vz mb, vz oe, vz le, vz mo, vz la, vz rc])) 42 [some (vR p), some (vR b1), some (vz 0)] [] _
        rw [← eG11]
        refine ab_aload_n d_PA_closeRows_42 rfl ?_
        refine ab_dup d_PA_closeRows_43 rfl ?_
        refine ab_getf (fs := [vz k, vz v, rg, vz pl, vz fl, ou, ls, bf, vz v10, vz mb, vz oe, vz le, vz mo, vz la, vz rc]) f_PA_27 d_PA_closeRows_44 hp.2.2 rfl ?_
        refine ab_aload_n d_PA_closeRows_47 rfl ?_
        refine ab_getf (fs := [vz 5, vz 0, vN, vz (-1), vz 0, vN, ls5, vN, vz sz5, vz mb5, vz 0, vz 0, vz 0, vz 0, vz (-1)]) f_PA_27 d_PA_closeRows_48 hb1.2.2 rfl ?_
        refine zz_ior01 d_PA_closeRows_51 (by omega) (by omega) ?_
        obtain ⟨v12, hv12⟩ : ∃ z : Int, z = (max mb mb5) := ⟨_, rfl⟩
        rw [← hv12]
        have hv12b : v12 = 0 ∨ v12 = 1 := by omega
        change ab_W _ _ _ G11 52 [some (vR p), some (vR b1), some (vz 0)] [vz v12, vR p] _
        refine ab_putf (fs := [vz k, vz v, rg, vz pl, vz fl, ou, ls, bf, vz v10, vz mb, vz oe, vz le, vz mo, vz la, vz rc]) f_PA_27 (Or.inl rfl) d_PA_closeRows_52 hp.2.2 (Nat.le_of_ble_eq_true rfl) (ab_fbz (by omega)) (hp.2.1 (by decide)) ?_
        obtain ⟨G13, eG13⟩ : ∃ z : ab_G, z = List.set G11 p (ab_ob 4 [vz k, vz v, rg, vz pl, vz fl, ou, ls, bf, vz v10, vz v12, vz oe, vz le, vz mo, vz la, vz rc]) := ⟨_, rfl⟩
        have hb1 := hb1.keep hp eG13 (by decide)
        have hfz := hfz.wr eG13 (by simp)
        have hst := (fx.rf (o := o) (S := [90]) (G := G11)).wr hp eG13 (List.mem_singleton.mpr rfl)
        have ppaI_0 := ppaI_0.w90 hpp hp hn eG13 (by unfold pnB; omega) (ho.up (by omega)) (hl.up (by omega)) (hf.up (by omega))
        have hlen := (z_len eG13).trans hlen
        have hsl := (z_sl hp eG13 rfl).trans hsl
        have hfr := hfr.wr hp eG13 (by decide)
        have hp := hp.kept eG13
        change ab_W _ _ _ (List.set G11 p (ab_ob 4 [vz k, vz v, rg, vz pl, vz fl, ou, ls, bf, vz v10, vz v12, vz oe, vz le, vz mo, vz la, vz rc])) 55 [some (vR p), some (vR b1), some (vz 0)] [] _
        rw [← eG13]
        refine ab_aload_n d_PA_closeRows_55 rfl ?_
        refine ab_getf (fs := [vz 5, vz 0, vN, vz (-1), vz 0, vN, ls5, vN, vz sz5, vz mb5, vz 0, vz 0, vz 0, vz 0, vz (-1)]) f_PA_35 d_PA_closeRows_56 hb1.2.2 rfl ?_
        refine ab_astore_nN d_PA_closeRows_59 (Nat.le_of_ble_eq_true rfl) (Nat.le_of_ble_eq_true rfl) rfl ?_
        change ab_W _ _ _ G13 60 [some (vR p), some (vN), some (vz 0)] [] _
        refine ab_goto (tgt := 5) d_PA_closeRows_60 (by decide) ?_
        refine ab_less (L' := [some (vR p), some (vN), none]) (fun i v h => by rcases i with _ | _ | _ | i <;> first | exact h | (simp at h)) ?_
        exact ih (rw := vN) (hb_ := b1) (sz := v10) (mb := v12) hp ppaI_0 (by omega) (Or.inl rfl) hfz (cq_step hcq (by have e3 : lvc cu (vR b1) = cu b1 := rfl; have e1 : lvb cu vN = 0 := rfl; have e2 : lvc cu vN = 0 := rfl; omega)) (fun z y => hme (by omega) (heu_ (by omega) y)) hfr hlen hsl (by omega) hk0
      · subst hz7
        change ab_W _ _ _ G 13 [some (vR p), some (vR b1), none] [vR b6] _
        refine ab_ifnonnull (tgt := 20) d_PA_closeRows_13 (by decide) ?_
        refine zz_iconst d_PA_closeRows_20 ?_
        refine ab_istore_n d_PA_closeRows_21 (Nat.le_of_ble_eq_true rfl) (Nat.le_of_ble_eq_true rfl) rfl ?_
        change ab_W _ _ _ G 22 [some (vR p), some (vR b1), some (vz 1)] [] _
        refine ab_aload_n d_PA_closeRows_22 rfl ?_
        refine zz_ldc 1000000 d_PA_closeRows_23 cn_PA_42 (by decide) ?_
        refine ab_aload_n d_PA_closeRows_25 rfl ?_
        refine ab_getf (fs := [vz k, vz v, rg, vz pl, vz fl, ou, ls, bf, vz sz, vz mb, vz oe, vz le, vz mo, vz la, vz rc]) f_PA_24 d_PA_closeRows_26 hp.2.2 rfl ?_
        refine ab_aload_n d_PA_closeRows_29 rfl ?_
        refine ab_getf (fs := [vz 5, vz 0, vN, vz (-1), vz 0, vN, ls5, vR b6, vz sz5, vz mb5, vz 0, vz 0, vz 0, vz 0, vz (-1)]) f_PA_24 d_PA_closeRows_30 hb1.2.2 rfl ?_
        refine zz_iadd d_PA_closeRows_33 ?_
        refine ab_iload_n d_PA_closeRows_34 rfl ?_
        refine zz_iadd d_PA_closeRows_35 ?_
        refine zz_mmin mj_PA_43 d_PA_closeRows_36 (by decide) (by omega) (Nat.le_of_ble_eq_true rfl) (by omega) ?_
        obtain ⟨v14, hv14⟩ : ∃ z : Int, z = (min 1000000 ((sz + sz5) + 1)) := ⟨_, rfl⟩
        rw [← hv14]
        have hv14 : (1000000 ≤ ((sz + sz5) + 1) ∧ v14 = 1000000) ∨ (((sz + sz5) + 1) < 1000000 ∧ v14 = ((sz + sz5) + 1)) := by omega
        change ab_W _ _ _ G 39 [some (vR p), some (vR b1), some (vz 1)] [vz v14, vR p] _
        refine ab_putf (fs := [vz k, vz v, rg, vz pl, vz fl, ou, ls, bf, vz sz, vz mb, vz oe, vz le, vz mo, vz la, vz rc]) f_PA_24 (Or.inl rfl) d_PA_closeRows_39 hp.2.2 (Nat.le_of_ble_eq_true rfl) (fun _ => ⟨rfl, rfl⟩) (hp.2.1 (by decide)) ?_
        obtain ⟨G15, eG15⟩ : ∃ z : ab_G, z = List.set G p (ab_ob 4 [vz k, vz v, rg, vz pl, vz fl, ou, ls, bf, vz v14, vz mb, vz oe, vz le, vz mo, vz la, vz rc]) := ⟨_, rfl⟩
        have hb1 := hb1.keep hp eG15 (by decide)
        have hfz := hfz.wr eG15 (by simp)
        have hst := (fx.rf (o := o) (S := [90]) (G := G)).wr hp eG15 (List.mem_singleton.mpr rfl)
        have ppaI_0 := ppaI_0.w90 hpp hp hn eG15 (by unfold pnB; omega) (ho.up (by omega)) (hl.up (by omega)) (hf.up (by omega))
        have hlen := (z_len eG15).trans hlen
        have hsl := (z_sl hp eG15 rfl).trans hsl
        have hfr := hfr.wr hp eG15 (by decide)
        have hp := hp.kept eG15
        change ab_W _ _ _ (List.set G p (ab_ob 4 [vz k, vz v, rg, vz pl, vz fl, ou, ls, bf, vz v14, vz mb, vz oe, vz le, vz mo, vz la, vz rc])) 42 [some (vR p), some (vR b1), some (vz 1)] [] _
        rw [← eG15]
        refine ab_aload_n d_PA_closeRows_42 rfl ?_
        refine ab_dup d_PA_closeRows_43 rfl ?_
        refine ab_getf (fs := [vz k, vz v, rg, vz pl, vz fl, ou, ls, bf, vz v14, vz mb, vz oe, vz le, vz mo, vz la, vz rc]) f_PA_27 d_PA_closeRows_44 hp.2.2 rfl ?_
        refine ab_aload_n d_PA_closeRows_47 rfl ?_
        refine ab_getf (fs := [vz 5, vz 0, vN, vz (-1), vz 0, vN, ls5, vR b6, vz sz5, vz mb5, vz 0, vz 0, vz 0, vz 0, vz (-1)]) f_PA_27 d_PA_closeRows_48 hb1.2.2 rfl ?_
        refine zz_ior01 d_PA_closeRows_51 (by omega) (by omega) ?_
        obtain ⟨v16, hv16⟩ : ∃ z : Int, z = (max mb mb5) := ⟨_, rfl⟩
        rw [← hv16]
        have hv16b : v16 = 0 ∨ v16 = 1 := by omega
        change ab_W _ _ _ G15 52 [some (vR p), some (vR b1), some (vz 1)] [vz v16, vR p] _
        refine ab_putf (fs := [vz k, vz v, rg, vz pl, vz fl, ou, ls, bf, vz v14, vz mb, vz oe, vz le, vz mo, vz la, vz rc]) f_PA_27 (Or.inl rfl) d_PA_closeRows_52 hp.2.2 (Nat.le_of_ble_eq_true rfl) (ab_fbz (by omega)) (hp.2.1 (by decide)) ?_
        obtain ⟨G17, eG17⟩ : ∃ z : ab_G, z = List.set G15 p (ab_ob 4 [vz k, vz v, rg, vz pl, vz fl, ou, ls, bf, vz v14, vz v16, vz oe, vz le, vz mo, vz la, vz rc]) := ⟨_, rfl⟩
        have hb1 := hb1.keep hp eG17 (by decide)
        have hfz := hfz.wr eG17 (by simp)
        have hst := (fx.rf (o := o) (S := [90]) (G := G15)).wr hp eG17 (List.mem_singleton.mpr rfl)
        have ppaI_0 := ppaI_0.w90 hpp hp hn eG17 (by unfold pnB; omega) (ho.up (by omega)) (hl.up (by omega)) (hf.up (by omega))
        have hlen := (z_len eG17).trans hlen
        have hsl := (z_sl hp eG17 rfl).trans hsl
        have hfr := hfr.wr hp eG17 (by decide)
        have hp := hp.kept eG17
        change ab_W _ _ _ (List.set G15 p (ab_ob 4 [vz k, vz v, rg, vz pl, vz fl, ou, ls, bf, vz v14, vz v16, vz oe, vz le, vz mo, vz la, vz rc])) 55 [some (vR p), some (vR b1), some (vz 1)] [] _
        rw [← eG17]
        refine ab_aload_n d_PA_closeRows_55 rfl ?_
        refine ab_getf (fs := [vz 5, vz 0, vN, vz (-1), vz 0, vN, ls5, vR b6, vz sz5, vz mb5, vz 0, vz 0, vz 0, vz 0, vz (-1)]) f_PA_35 d_PA_closeRows_56 hb1.2.2 rfl ?_
        refine ab_astore_n d_PA_closeRows_59 (Nat.le_of_ble_eq_true rfl) (Nat.le_of_ble_eq_true rfl) rfl ?_
        change ab_W _ _ _ G17 60 [some (vR p), some (vR b6), some (vz 1)] [] _
        refine ab_goto (tgt := 5) d_PA_closeRows_60 (by decide) ?_
        refine ab_less (L' := [some (vR p), some (vR b6), none]) (fun i v h => by rcases i with _ | _ | _ | i <;> first | exact h | (simp at h)) ?_
        exact ih (rw := vR b6) (hb_ := b1) (sz := v14) (mb := v16) hp ppaI_0 (by omega) (Or.inr ⟨_, rfl, hp8, by omega⟩) hfz (cq_step hcq (by have e3 : lvc cu (vR b1) = cu b1 := rfl; have e1 : lvb cu (vR b6) = 1 + cu b6 := rfl; have e2 : lvc cu (vR b6) = cu b6 := rfl; have e4 := hc0 b6; omega)) (fun z y => hme (by omega) (heu_ (by omega) y)) hfr hlen hsl (by omega) hk0
set_option maxRecDepth 100000 in
set_option maxHeartbeats 4000000 in
theorem z_PA_closeRows {X : ab_X} {d : Nat} {o : Nat → Nat} {G : ab_G} {k : Int} {v : Int} {rg : Value} {pl : Int} {fl : Int} {ou : Value} {ls : Value} {bf : Value} {sz : Int} {mb : Int} {oe : Int} {le : Int} {mo : Int} {la : Int} {rc : Int} {ps : Nat → Nat} {wt : Nat → Wt} {bs : Nat} {ph : Int} {gr : Int} {Pr : Int → Prop} {p : Nat} {cu : Nat → Int} {eu : Nat → Prop} (hp : cc o G p 90 (ab_ob 4 [vz k, vz v, rg, vz pl, vz fl, ou, ls, bf, vz sz, vz mb, vz oe, vz le, vz mo, vz la, vz rc])) (ppaI_0 : paI o G 0 ps wt bs gr Pr ph) (n18 : ab_n0 = 18) (hpp : ps p = 90) (hn : paN gr Pr k v rc) (cb : (-1 ≤ pl ∧ pl ≤ 2100) ∧ (0 ≤ fl ∧ fl ≤ 31) ∧ (0 ≤ sz ∧ sz ≤ 1000000) ∧ (0 ≤ mb ∧ mb ≤ 1) ∧ (0 ≤ oe ∧ oe ≤ 1) ∧ (0 ≤ le ∧ le ≤ 1000) ∧ (0 ≤ mo ∧ mo ≤ 1000) ∧ (0 ≤ la ∧ la ≤ 1)) (ho : plk ps 90 p ou) (hl : plk ps 94 G.length ls) (hf : plk ps 90 p bf) (hrq : rqs ps cu G) (hc0 : ∀ a, 0 ≤ cu a) (hre : reu ps eu G) (hd : 2 ≤ d) : ab_F X d y_PA_closeRows (.code y_PA_closeRows b_PA_closeRows 3 none) [vR p] G (fun oc G2 => ∃ sz2 : Int, ∃ mb2 : Int, oc = .returned none ∧ fx o o [90] G G2 ∧ G2.length = G.length ∧ ab_slots G2 = ab_slots G ∧ cc o G2 p 90 (ab_ob 4 [vz k, vz v, rg, vz pl, vz fl, ou, ls, bf, vz sz2, vz mb2, vz oe, vz le, vz mo, vz la, vz rc]) ∧ paI o G2 0 ps wt bs gr Pr ph ∧ ((0 ≤ sz2 ∧ sz2 ≤ 1000000) ∧ (0 ≤ mb2 ∧ mb2 ≤ 1)) ∧ (fz ps [p] G G2) ∧ (ceq sz2 (sz + lvc cu ls)) ∧ (mbf mb2 (lve eu ls))) := by
  refine ab_F_of (by decide +kernel) (Nat.le_of_ble_eq_true rfl) ?_
  obtain ⟨Q, hQ⟩ : ∃ z : Outcome → ab_G → Prop, z = (fun oc G2 => ∃ sz2 : Int, ∃ mb2 : Int, oc = .returned none ∧ fx o o [90] G G2 ∧ G2.length = G.length ∧ ab_slots G2 = ab_slots G ∧ cc o G2 p 90 (ab_ob 4 [vz k, vz v, rg, vz pl, vz fl, ou, ls, bf, vz sz2, vz mb2, vz oe, vz le, vz mo, vz la, vz rc]) ∧ paI o G2 0 ps wt bs gr Pr ph ∧ ((0 ≤ sz2 ∧ sz2 ≤ 1000000) ∧ (0 ≤ mb2 ∧ mb2 ≤ 1)) ∧ (fz ps [p] G G2) ∧ (ceq sz2 (sz + lvc cu ls)) ∧ (mbf mb2 (lve eu ls))) := ⟨_, rfl⟩
  rw [← hQ]
  change ab_W X (ab_pl y_PA_closeRows b_PA_closeRows 3 none) d G 0 [some (vR p), none, none] [] Q
  have hfr : fx o o [90] G G := fx.rf
  have hlen : G.length = G.length := rfl
  have hsl : ab_slots G = ab_slots G := rfl
  have hfz : fz ps [p] G G := fz.rf
  refine ab_aload_n d_PA_closeRows_0 rfl ?_
  refine ab_getf (fs := [vz k, vz v, rg, vz pl, vz fl, ou, ls, bf, vz sz, vz mb, vz oe, vz le, vz mo, vz la, vz rc]) f_PA_31 d_PA_closeRows_1 hp.2.2 rfl ?_
  change ab_W _ _ _ G 4 [some (vR p), none, none] [ls] _
  rcases hl with hz2 | ⟨b1, hz2, hp3, hl4⟩
  · subst hz2
    change ab_W _ _ _ G 4 [some (vR p), none, none] [vN] _
    refine ab_astore_nN d_PA_closeRows_4 (Nat.le_of_ble_eq_true rfl) (Nat.le_of_ble_eq_true rfl) rfl ?_
    change ab_W _ _ _ G 5 [some (vR p), some (vN), none] [] _
    refine y_PA_closeRows_5 (k := k) (v := v) (rg := rg) (pl := pl) (fl := fl) (ou := ou) (ls := vN) (bf := bf) (oe := oe) (le := le) (mo := mo) (la := la) (rc := rc) (ps := ps) (wt := wt) (bs := bs) (ph := ph) (gr := gr) (Pr := Pr) (p := p) (cu := cu) (s9 := (sz + lvc cu (vN))) (eu := eu) (e9 := (lve eu (vN))) (G0 := G) (rw := vN) (hb_ := G.length) (sz := sz) (mb := mb) (by omega) hpp hn (ho.up (by omega)) (Or.inl rfl) (hf.up (by omega)) hrq hc0 hre (by omega) (Int.toNat (↑G.length : Int) + 1) hp ppaI_0 (by omega) (Or.inl rfl) fz.rf ceq.rf (fun _ y => y) fx.rf rfl rfl (by omega) (fun G5 sz26 mb27 hNp pNpaI_0 hq8 hq9 hq10 hq11 hfk hlk hsk => ?_)
    · have hfr := hfr.tr hfk (by decide)
      have hlen := hlk.trans hlen
      have hsl := hsk.trans hsl
      have hp := hNp
      have ppaI_0 := pNpaI_0
      rw [hQ]; exact ⟨_, _, rfl, hfr, hlen, hsl, hp, ppaI_0, (by omega), (by exact hq9), (by exact hq10), (by exact hq11)⟩
  · subst hz2
    change ab_W _ _ _ G 4 [some (vR p), none, none] [vR b1] _
    refine ab_astore_n d_PA_closeRows_4 (Nat.le_of_ble_eq_true rfl) (Nat.le_of_ble_eq_true rfl) rfl ?_
    change ab_W _ _ _ G 5 [some (vR p), some (vR b1), none] [] _
    refine y_PA_closeRows_5 (k := k) (v := v) (rg := rg) (pl := pl) (fl := fl) (ou := ou) (ls := vR b1) (bf := bf) (oe := oe) (le := le) (mo := mo) (la := la) (rc := rc) (ps := ps) (wt := wt) (bs := bs) (ph := ph) (gr := gr) (Pr := Pr) (p := p) (cu := cu) (s9 := (sz + lvc cu (vR b1))) (eu := eu) (e9 := (lve eu (vR b1))) (G0 := G) (rw := vR b1) (hb_ := G.length) (sz := sz) (mb := mb) (by omega) hpp hn (ho.up (by omega)) (Or.inr ⟨_, rfl, hp3, by omega⟩) (hf.up (by omega)) hrq hc0 hre (by omega) (Int.toNat (↑G.length : Int) + 1) hp ppaI_0 (by omega) (Or.inr ⟨_, rfl, hp3, by omega⟩) fz.rf ceq.rf (fun _ y => y) fx.rf rfl rfl (by omega) (fun G12 sz213 mb214 hNp pNpaI_0 hq15 hq16 hq17 hq18 hfk hlk hsk => ?_)
    · have hfr := hfr.tr hfk (by decide)
      have hlen := hlk.trans hlen
      have hsl := hsk.trans hsl
      have hp := hNp
      have ppaI_0 := pNpaI_0
      rw [hQ]; exact ⟨_, _, rfl, hfr, hlen, hsl, hp, ppaI_0, (by omega), (by exact hq16), (by exact hq17), (by exact hq18)⟩
set_option maxRecDepth 100000 in
set_option maxHeartbeats 4000000 in
theorem za_RD_enter {X : ab_X} {d : Nat} {o : Nat → Nat} {G : ab_G} {d_ : Nat} {inn : Value} {dp : Int} {flg : Int} {grp : Int} {na : Nat} {nl : Nat} {lst : Int} {mst : Int} {bh : Int} {NA : Int → Int} {NL : Int → Int} {x : Nat} {se : Nat} {by_ : Nat} {m : Nat} {n : Int} {pl : Int} {fa : Int} {fp : Int} {kd : Nat} {kn : Int} {ps : Nat → Nat} {wt : Nat → Wt} {bs : Nat} {ph : Int} {k : Nat} {hi : Nat} {wh : Nat} {fr : List Fr} {FS : List Fs} {at_ : Int} {ins : Int} (hd_ : cc o G d_ 25 (ab_ob 6 [vR x, inn, vz dp, vz flg, vz grp, vR na, vR nl, vz lst, vz mst, vz bh])) (hx : cc o G x 24 (ab_ob 10 [vR se, vR by_, vz n, vz pl, vz fa, vz fp, vR kd, vz kn])) (hna : cc o G na 86 (za 10 NA)) (hnl : cc o G nl 87 (za 10 NL)) (ppaI_0 : paI o G 0 ps wt bs grp pr0 ph) (popI_0 : opI o G 0 ps k hi inn) (pszJ_0 : szJ o G 0 ps fr hi inn wh 0 0) (pdnJ_0 : dnJ o G 0 ps wt FS hi inn 0 mnI) (n18 : ab_n0 = 18) (cn_ : 0 ≤ n ∧ n ≤ ↑m ∧ m ≤ 2000) (cf : 0 ≤ flg ∧ flg ≤ 31) (cg : 0 ≤ grp ∧ grp ≤ 9) (ck : 0 ≤ dp ∧ dp ≤ 30 ∧ ↑k = dp + 1 ∧ hi ≤ G.length) (hnm : nmok NA NL grp n) (cbs : bs ≤ G.length ∧ 18 ≤ G.length) (cfa : fa = 0) (hkf : k = fr.length) (hks : k = FS.length) (ca : 0 ≤ at_ ∧ at_ ≤ 2000 ∧ 0 ≤ ins ∧ ins ≤ 31) (rc : G.length + 9 ≤ ab_n0 + room_1.cells) (rs : ab_slots G + 30 ≤ room_1.slots) (hd : 4 ≤ d) : ab_F X d y_RD_enter (.code y_RD_enter b_RD_enter 6 none) [vR d_, vz at_, vz 1, vz ins, vz 0] G (fun oc G2 => (∃ o2 : Nat → Nat, ∃ fa2 : Int, ∃ fp2 : Int, oc = .returned none ∧ fx o o2 [24, 25, 86, 87, 90, 94] G G2 ∧ cc o2 G2 d_ 25 (ab_ob 6 [vR x, inn, vz dp, vz flg, vz grp, vR na, vR nl, vz lst, vz mst, vz bh]) ∧ cc o2 G2 x 24 (ab_ob 10 [vR se, vR by_, vz n, vz pl, vz fa2, vz fp2, vR kd, vz kn]) ∧ cc o2 G2 na 86 (za 10 NA) ∧ cc o2 G2 nl 87 (za 10 NL) ∧ paI o2 G2 0 ps wt bs grp pr0 ph ∧ opI o2 G2 0 ps k hi inn ∧ szJ o2 G2 0 ps fr hi inn wh 0 0 ∧ dnJ o2 G2 0 ps wt FS hi inn 0 mnI ∧ (entF dp grp 1 at_ fa2 fp2) ∧ (1 ≤ fa2 ∧ fa2 ≤ 14) ∧ (G2.length = G.length) ∧ (ab_slots G2 = ab_slots G)) ∨ (∃ o2 : Nat → Nat, ∃ inn2 : Value, ∃ k2 : Nat, ∃ hi2 : Nat, ∃ ps2 : Nat → Nat, ∃ wt2 : Nat → Wt, ∃ ph2 : Int, oc = .returned none ∧ fx o o2 [24, 25, 86, 87, 90, 94] G G2 ∧ cc o2 G2 d_ 25 (ab_ob 6 [vR x, inn2, vz (dp + 1), vz ins, vz (grp + 1), vR na, vR nl, vz lst, vz mst, vz bh]) ∧ cc o2 G2 x 24 (ab_ob 10 [vR se, vR by_, vz n, vz pl, vz fa, vz fp, vR kd, vz kn]) ∧ cc o2 G2 na 86 (za 10 (zu NA (grp + 1) 0)) ∧ cc o2 G2 nl 87 (za 10 (zu NL (grp + 1) 0)) ∧ paI o2 G2 0 ps2 wt2 bs (grp + 1) pr0 ph2 ∧ opI o2 G2 0 ps2 k2 hi2 inn2 ∧ szJ o2 G2 0 ps2 ((at_, flg, (grp + 1), 0, 0) :: fr) hi2 inn2 wh 0 0 ∧ dnJ o2 G2 0 ps2 wt2 ((none, mnI) :: FS) hi2 inn2 0 mnI ∧ (dp < 30 ∧ grp < 9) ∧ (k2 = k + 1) ∧ (nmok (zu NA (grp + 1) 0) (zu NL (grp + 1) 0) (grp + 1) n) ∧ (hi2 ≤ G2.length) ∧ (psx ps ps2 G.length) ∧ (ph2 ≤ ph) ∧ (G2.length ≤ G.length + 2) ∧ (ab_slots G2 ≤ ab_slots G + 30))) := by
  refine ab_F_of (by decide +kernel) (Nat.le_of_ble_eq_true rfl) ?_
  obtain ⟨Q, hQ⟩ : ∃ z : Outcome → ab_G → Prop, z = (fun oc G2 => (∃ o2 : Nat → Nat, ∃ fa2 : Int, ∃ fp2 : Int, oc = .returned none ∧ fx o o2 [24, 25, 86, 87, 90, 94] G G2 ∧ cc o2 G2 d_ 25 (ab_ob 6 [vR x, inn, vz dp, vz flg, vz grp, vR na, vR nl, vz lst, vz mst, vz bh]) ∧ cc o2 G2 x 24 (ab_ob 10 [vR se, vR by_, vz n, vz pl, vz fa2, vz fp2, vR kd, vz kn]) ∧ cc o2 G2 na 86 (za 10 NA) ∧ cc o2 G2 nl 87 (za 10 NL) ∧ paI o2 G2 0 ps wt bs grp pr0 ph ∧ opI o2 G2 0 ps k hi inn ∧ szJ o2 G2 0 ps fr hi inn wh 0 0 ∧ dnJ o2 G2 0 ps wt FS hi inn 0 mnI ∧ (entF dp grp 1 at_ fa2 fp2) ∧ (1 ≤ fa2 ∧ fa2 ≤ 14) ∧ (G2.length = G.length) ∧ (ab_slots G2 = ab_slots G)) ∨ (∃ o2 : Nat → Nat, ∃ inn2 : Value, ∃ k2 : Nat, ∃ hi2 : Nat, ∃ ps2 : Nat → Nat, ∃ wt2 : Nat → Wt, ∃ ph2 : Int, oc = .returned none ∧ fx o o2 [24, 25, 86, 87, 90, 94] G G2 ∧ cc o2 G2 d_ 25 (ab_ob 6 [vR x, inn2, vz (dp + 1), vz ins, vz (grp + 1), vR na, vR nl, vz lst, vz mst, vz bh]) ∧ cc o2 G2 x 24 (ab_ob 10 [vR se, vR by_, vz n, vz pl, vz fa, vz fp, vR kd, vz kn]) ∧ cc o2 G2 na 86 (za 10 (zu NA (grp + 1) 0)) ∧ cc o2 G2 nl 87 (za 10 (zu NL (grp + 1) 0)) ∧ paI o2 G2 0 ps2 wt2 bs (grp + 1) pr0 ph2 ∧ opI o2 G2 0 ps2 k2 hi2 inn2 ∧ szJ o2 G2 0 ps2 ((at_, flg, (grp + 1), 0, 0) :: fr) hi2 inn2 wh 0 0 ∧ dnJ o2 G2 0 ps2 wt2 ((none, mnI) :: FS) hi2 inn2 0 mnI ∧ (dp < 30 ∧ grp < 9) ∧ (k2 = k + 1) ∧ (nmok (zu NA (grp + 1) 0) (zu NL (grp + 1) 0) (grp + 1) n) ∧ (hi2 ≤ G2.length) ∧ (psx ps ps2 G.length) ∧ (ph2 ≤ ph) ∧ (G2.length ≤ G.length + 2) ∧ (ab_slots G2 ≤ ab_slots G + 30))) := ⟨_, rfl⟩
  rw [← hQ]
  change ab_W X (ab_pl y_RD_enter b_RD_enter 6 none) d G 0 [some (vR d_), some (vz at_), some (vz 1), some (vz ins), some (vz 0), none] [] Q
  have hfr : fx o o [24, 25, 86, 87, 90, 94] G G := fx.rf
  refine ab_aload_n d_RD_enter_0 rfl ?_
  refine ab_getf (fs := [vR x, inn, vz dp, vz flg, vz grp, vR na, vR nl, vz lst, vz mst, vz bh]) f_RD_45 d_RD_enter_1 hd_.2.2 rfl ?_
  refine zz_bipush d_RD_enter_4 (by decide) ?_
  refine zz_icmp_ge (tgt := 22) d_RD_enter_6 (by decide) (by omega) (by decide) (fun c1 => ?_) (fun c1 => ?_)
  · refine ab_aload_n d_RD_enter_22 rfl ?_
    refine ab_getf (fs := [vR x, inn, vz dp, vz flg, vz grp, vR na, vR nl, vz lst, vz mst, vz bh]) f_RD_12 d_RD_enter_23 hd_.2.2 rfl ?_
    refine ab_aload_n d_RD_enter_26 rfl ?_
    refine ab_getf (fs := [vR x, inn, vz dp, vz flg, vz grp, vR na, vR nl, vz lst, vz mst, vz bh]) f_RD_45 d_RD_enter_27 hd_.2.2 rfl ?_
    refine zz_bipush d_RD_enter_30 (by decide) ?_
    refine zz_icmp_lt (tgt := 40) d_RD_enter_32 (by decide) (by omega) (by decide) (fun c2 => absurd c2 (by omega)) (fun c2 => ?_)
    refine zz_bipush d_RD_enter_35 (by decide) ?_
    refine ab_goto (tgt := 42) d_RD_enter_37 (by decide) ?_
    refine ab_iload_n d_RD_enter_42 rfl ?_
    refine ab_callV (d' := d - 1) (as := [vz 12, vz at_]) (st := []) (r := _) (z_TX_fail (o := o) (x := x) (lx := 24) (se := se) (by_ := by_) (n := n) (pl := pl) (fa := fa) (fp := fp) (kd := kd) (kn := kn) (w := 12) (p := at_) hx (by omega) (by omega) (by omega)) (fun oc G2 h => by rcases h with ⟨h, _⟩ | ⟨h, _⟩ <;> exact ⟨_, h⟩) (by omega) m_TX_fail ml_RD_69 im_TX_fail se_TX_fail c_TX hx.2.2 (Nat.le_of_ble_eq_true rfl) d_RD_enter_43 rfl ?_
    intro v G3 hq
    rcases hq with ⟨hv, hfk, hlk, hsk, hNx, hq4⟩ | ⟨hv, hGe, hq5⟩
    · cases hv
      have hd_ := hfk.get hd_ (by decide)
      have hna := hfk.get hna (by decide)
      have hnl := hfk.get hnl (by decide)
      have popI_0 := opI.fr hfk ppaI_0 popI_0 (by decide) (by decide)
      have pszJ_0 := szJ.fr hfk ppaI_0 pszJ_0 (by decide) (by decide)
      have pdnJ_0 := dnJ.fr hfk ppaI_0 pdnJ_0 (by decide) (by decide)
      have ppaI_0 := paI.fr hfk ppaI_0 (by decide) (by decide) (by decide) (by decide)
      have hfr := hfr.tr hfk (by decide)
      have hq6 := hlk
      have hq7 := hsk
      have hx := hNx
      change ab_W _ _ _ G3 46 [some (vR d_), some (vz at_), some (vz 1), some (vz ins), some (vz 0), none] [vz (-1)] _
      refine ab_pop d_RD_enter_46 rfl ?_
      refine ab_vret rfl d_RD_enter_47 ?_
      rw [hQ]; exact (Or.inl ⟨_, _, _, rfl, hfr, hd_, hx, hna, hnl, ppaI_0, popI_0, pszJ_0, pdnJ_0, (by unfold entF; first | (left; omega) | (right; omega)), (by omega), (by omega), (by omega)⟩)
    · cases hv
      rw [hGe]
      change ab_W _ _ _ G 46 [some (vR d_), some (vz at_), some (vz 1), some (vz ins), some (vz 0), none] [vz (-1)] _
      exfalso; omega
  · refine ab_iload_n d_RD_enter_9 rfl ?_
    refine zz_if_eq (tgt := 48) d_RD_enter_10 (by decide) (by decide) (fun c8 => absurd c8 (by decide)) (fun c8 => ?_)
    refine ab_aload_n d_RD_enter_13 rfl ?_
    refine ab_getf (fs := [vR x, inn, vz dp, vz flg, vz grp, vR na, vR nl, vz lst, vz mst, vz bh]) f_RD_42 d_RD_enter_14 hd_.2.2 rfl ?_
    refine zz_bipush d_RD_enter_17 (by decide) ?_
    refine zz_icmp_lt (tgt := 48) d_RD_enter_19 (by decide) (by omega) (by decide) (fun c9 => ?_) (fun c9 => ?_)
    · obtain ⟨j10, hj10⟩ : ∃ j, k = j + 1 := ⟨k - 1, by omega⟩
      rw [hj10] at popI_0
      obtain ⟨g10, r10, w10, lv10, hv10, ⟨hpg10, hpr10⟩, ⟨hgl10, hrl10⟩, hf610, hf510, hr610, hlv10, hop10⟩ := popI_0
      subst hv10
      obtain ⟨k_11, v_11, rg_11, pl_11, fl_11, ou_11, ls_11, bf_11, sz_11, mb_11, oe_11, le_11, mo_11, la_11, rc_11, hg10, hn11, hb11, hg11, ho11, hl11, hf11⟩ := ppaI_0.1 g10 hpg10
      have hB11 := hb11
      unfold pnB at hB11
      have hK11 := hn11.1
      obtain ⟨ls12, bf12, sz12, mb12, hr10, hB12, hl12, hf12⟩ := ppaI_0.2.1 r10 hpr10
      have e610 : some ls_11 = some (vR r10) := by have t := hf610; unfold pf at t; rw [hg10.2.2] at t; exact t
      have e610 := Option.some.inj e610
      subst e610
      have e510 : some ou_11 = some w10 := by have t := hf510; unfold pf at t; rw [hg10.2.2] at t; exact t
      have e510 := Option.some.inj e510
      subst e510
      have e710 : some ls12 = some lv10 := by have t := hr610; unfold pf at t; rw [hr10.2.2] at t; exact t
      have e710 := Option.some.inj e710
      subst e710
      have popI_0 : opI o G 0 ps j10 g10 ou_11 := hop10
      have hnq10 : nq g10 r10 := hg10.ne hr10 (by decide)
      change ab_W _ _ _ G 48 [some (vR d_), some (vz at_), some (vz 1), some (vz ins), some (vz 0), none] [] _
      have popI_0 : opI o G 0 ps (j10 + 1) hi (vR g10) := ⟨g10, r10, ou_11, ls12, rfl, ⟨hpg10, hpr10⟩, ⟨by omega, by omega⟩, by unfold pf; rw [hg10.2.2]; rfl, by unfold pf; rw [hg10.2.2]; rfl, by unfold pf; rw [hr10.2.2]; rfl, (hlv10.up (by omega)), popI_0⟩
      rw [← hj10] at popI_0
      refine ab_iload_n d_RD_enter_48 rfl ?_
      refine zz_if_eq (tgt := 94) d_RD_enter_49 (by decide) (by decide) (fun c13 => absurd c13 (by decide)) (fun c13 => ?_)
      refine ab_aload_n d_RD_enter_52 rfl ?_
      refine ab_dup d_RD_enter_53 rfl ?_
      refine ab_getf (fs := [vR x, vR g10, vz dp, vz flg, vz grp, vR na, vR nl, vz lst, vz mst, vz bh]) f_RD_42 d_RD_enter_54 hd_.2.2 rfl ?_
      refine zz_iconst d_RD_enter_57 ?_
      refine zz_iadd d_RD_enter_58 ?_
      refine ab_putf (fs := [vR x, vR g10, vz dp, vz flg, vz grp, vR na, vR nl, vz lst, vz mst, vz bh]) f_RD_42 (Or.inl rfl) d_RD_enter_59 hd_.2.2 (Nat.le_of_ble_eq_true rfl) (fun _ => ⟨rfl, rfl⟩) (hd_.2.1 (by decide)) ?_
      obtain ⟨G14, eG14⟩ : ∃ z : ab_G, z = List.set G d_ (ab_ob 6 [vR x, vR g10, vz dp, vz flg, vz (grp + 1), vR na, vR nl, vz lst, vz mst, vz bh]) := ⟨_, rfl⟩
      have hx := hx.keep hd_ eG14 (by decide)
      have hna := hna.keep hd_ eG14 (by decide)
      have hnl := hnl.keep hd_ eG14 (by decide)
      have hg10 := hg10.keep hd_ eG14 (by decide)
      have hr10 := hr10.keep hd_ eG14 (by decide)
      have hst := (fx.rf (o := o) (S := [25]) (G := G)).wr hd_ eG14 (List.mem_singleton.mpr rfl)
      have pszJ_0 := szJ.fr hst ppaI_0 pszJ_0 (by decide) (by decide)
      have pdnJ_0 := dnJ.fr hst ppaI_0 pdnJ_0 (by decide) (by decide)
      have popI_0 := opI.fr hst ppaI_0 popI_0 (by decide) (by decide)
      have ppaI_0 := paI.fr hst ppaI_0 (by decide) (by decide) (by decide) (by decide)
      have hq15 := z_len eG14
      have hq16 := z_sl hd_ eG14 rfl
      have hfr := hfr.wr hd_ eG14 (by decide)
      have hd_ := hd_.kept eG14
      change ab_W _ _ _ (List.set G d_ (ab_ob 6 [vR x, vR g10, vz dp, vz flg, vz (grp + 1), vR na, vR nl, vz lst, vz mst, vz bh])) 62 [some (vR d_), some (vz at_), some (vz 1), some (vz ins), some (vz 0), none] [] _
      rw [← eG14]
      refine ab_aload_n d_RD_enter_62 rfl ?_
      refine ab_getf (fs := [vR x, vR g10, vz dp, vz flg, vz (grp + 1), vR na, vR nl, vz lst, vz mst, vz bh]) f_RD_27 d_RD_enter_63 hd_.2.2 rfl ?_
      refine ab_aload_n d_RD_enter_66 rfl ?_
      refine ab_getf (fs := [vR x, vR g10, vz dp, vz flg, vz (grp + 1), vR na, vR nl, vz lst, vz mst, vz bh]) f_RD_42 d_RD_enter_67 hd_.2.2 rfl ?_
      refine ab_iload d_RD_enter_70 rfl ?_
      refine zz_if_le (tgt := 81) d_RD_enter_72 (by decide) (by decide) (fun c17 => ?_) (fun c17 => absurd c17 (by decide))
      refine zz_iconst d_RD_enter_81 ?_
      refine zz_iast d_RD_enter_82 hna (by omega) (hna.2.1 (by decide)) ?_
      obtain ⟨G18, eG18⟩ : ∃ z : ab_G, z = List.set G14 na (za 10 (zu NA (grp + 1) 0)) := ⟨_, rfl⟩
      have hd_ := hd_.keep hna eG18 (by decide)
      have hx := hx.keep hna eG18 (by decide)
      have hnl := hnl.keep hna eG18 (by decide)
      have hg10 := hg10.keep hna eG18 (by decide)
      have hr10 := hr10.keep hna eG18 (by decide)
      have hst := (fx.rf (o := o) (S := [86]) (G := G14)).wr hna eG18 (List.mem_singleton.mpr rfl)
      have pszJ_0 := szJ.fr hst ppaI_0 pszJ_0 (by decide) (by decide)
      have pdnJ_0 := dnJ.fr hst ppaI_0 pdnJ_0 (by decide) (by decide)
      have popI_0 := opI.fr hst ppaI_0 popI_0 (by decide) (by decide)
      have ppaI_0 := paI.fr hst ppaI_0 (by decide) (by decide) (by decide) (by decide)
      have hq19 := z_len eG18
      have hq20 := z_sl hna eG18 rfl
      have hfr := hfr.wr hna eG18 (by decide)
      have hna := hna.kept eG18
      change ab_W _ _ _ (List.set G14 na (za 10 (zu NA (grp + 1) 0))) 83 [some (vR d_), some (vz at_), some (vz 1), some (vz ins), some (vz 0), none] [] _
      rw [← eG18]
      refine ab_aload_n d_RD_enter_83 rfl ?_
      refine ab_getf (fs := [vR x, vR g10, vz dp, vz flg, vz (grp + 1), vR na, vR nl, vz lst, vz mst, vz bh]) f_RD_31 d_RD_enter_84 hd_.2.2 rfl ?_
      refine ab_aload_n d_RD_enter_87 rfl ?_
      refine ab_getf (fs := [vR x, vR g10, vz dp, vz flg, vz (grp + 1), vR na, vR nl, vz lst, vz mst, vz bh]) f_RD_42 d_RD_enter_88 hd_.2.2 rfl ?_
      refine ab_iload d_RD_enter_91 rfl ?_
      refine zz_iast d_RD_enter_93 hnl (by omega) (hnl.2.1 (by decide)) ?_
      obtain ⟨G21, eG21⟩ : ∃ z : ab_G, z = List.set G18 nl (za 10 (zu NL (grp + 1) 0)) := ⟨_, rfl⟩
      have hd_ := hd_.keep hnl eG21 (by decide)
      have hx := hx.keep hnl eG21 (by decide)
      have hna := hna.keep hnl eG21 (by decide)
      have hg10 := hg10.keep hnl eG21 (by decide)
      have hr10 := hr10.keep hnl eG21 (by decide)
      have hst := (fx.rf (o := o) (S := [87]) (G := G18)).wr hnl eG21 (List.mem_singleton.mpr rfl)
      have pszJ_0 := szJ.fr hst ppaI_0 pszJ_0 (by decide) (by decide)
      have pdnJ_0 := dnJ.fr hst ppaI_0 pdnJ_0 (by decide) (by decide)
      have popI_0 := opI.fr hst ppaI_0 popI_0 (by decide) (by decide)
      have ppaI_0 := paI.fr hst ppaI_0 (by decide) (by decide) (by decide) (by decide)
      have hq22 := z_len eG21
      have hq23 := z_sl hnl eG21 rfl
      have hfr := hfr.wr hnl eG21 (by decide)
      have hnl := hnl.kept eG21
      change ab_W _ _ _ (List.set G18 nl (za 10 (zu NL (grp + 1) 0))) 94 [some (vR d_), some (vz at_), some (vz 1), some (vz ins), some (vz 0), none] [] _
      rw [← eG21]
      refine ab_new (fs := [vz 0, vz 0, vN, vz 0, vz 0, vN, vN, vN, vz 0, vz 0, vz 0, vz 0, vz 0, vz 0, vz 0]) k_PA rfl cl_RD_18 inst_PA ini_PA d_RD_enter_94 (by decide) (fun _ => rfl) (by omega) (by omega) ?_
      obtain ⟨G24, eG24⟩ : ∃ z : ab_G, z = G21 ++ [ab_ob 4 [vz 0, vz 0, vN, vz 0, vz 0, vN, vN, vN, vz 0, vz 0, vz 0, vz 0, vz 0, vz 0, vz 0]] := ⟨_, rfl⟩
      obtain ⟨o25, eo25⟩ : ∃ z : Nat → Nat, z = ol o G21.length 90 := ⟨_, rfl⟩
      obtain ⟨a26, ea26⟩ : ∃ z : Nat, z = G21.length := ⟨_, rfl⟩
      have hq27 := hr10.n0 (by first | decide | omega)
      have ne_a26_d_ : nq a26 d_ := by have hlt := hd_.lt; unfold nq; omega
      have ne_a26_x : nq a26 x := by have hlt := hx.lt; unfold nq; omega
      have ne_a26_na : nq a26 na := by have hlt := hna.lt; unfold nq; omega
      have ne_a26_nl : nq a26 nl := by have hlt := hnl.lt; unfold nq; omega
      have ne_a26_g10 : nq a26 g10 := by have hlt := hg10.lt; unfold nq; omega
      have ne_a26_r10 : nq a26 r10 := by have hlt := hr10.lt; unfold nq; omega
      have hd_ := hd_.akeep (k := 90) eG24
      rw [← eo25] at hd_
      have hx := hx.akeep (k := 90) eG24
      rw [← eo25] at hx
      have hna := hna.akeep (k := 90) eG24
      rw [← eo25] at hna
      have hnl := hnl.akeep (k := 90) eG24
      rw [← eo25] at hnl
      have hg10 := hg10.akeep (k := 90) eG24
      rw [← eo25] at hg10
      have hr10 := hr10.akeep (k := 90) eG24
      rw [← eo25] at hr10
      have hst := (fx.rf (o := o) (S := []) (G := G21)).ap (k := 90) eG24
      rw [← eo25] at hst
      have hnpa26 := ppaI_0.new (a := a26) (by omega)
      have pszJ_0 := szJ.fr hst ppaI_0 pszJ_0 (by decide) (by decide)
      have pdnJ_0 := dnJ.fr hst ppaI_0 pdnJ_0 (by decide) (by decide)
      have popI_0 := opI.fr hst ppaI_0 popI_0 (by decide) (by decide)
      have ppaI_0 := paI.fr hst ppaI_0 (by decide) (by decide) (by decide) (by simp)
      have ha26 := cc.anew (o := o) 90 eG24 hq27
      rw [← eo25, ← ea26] at ha26
      have hfr := hfr.ap (k := 90) eG24
      rw [← eo25] at hfr
      have hq28 := z_alen eG24
      have hq29 : ab_slots G24 = ab_slots G21 + 15 := z_asl eG24 hq27
      change ab_W _ _ _ (G21 ++ [ab_ob 4 [vz 0, vz 0, vN, vz 0, vz 0, vN, vN, vN, vz 0, vz 0, vz 0, vz 0, vz 0, vz 0, vz 0]]) 97 [some (vR d_), some (vz at_), some (vz 1), some (vz ins), some (vz 0), none] [.ref G21.length] _
      rw [← eG24, ← ea26]
      change ab_W _ _ _ G24 97 [some (vR d_), some (vz at_), some (vz 1), some (vz ins), some (vz 0), none] [vR a26] _
      refine ab_dup d_RD_enter_97 rfl ?_
      refine zz_iconst d_RD_enter_98 ?_
      refine ab_iload_n d_RD_enter_99 rfl ?_
      refine zz_if_eq (tgt := 110) d_RD_enter_100 (by decide) (by decide) (fun c30 => absurd c30 (by decide)) (fun c30 => ?_)
      refine ab_aload_n d_RD_enter_103 rfl ?_
      refine ab_getf (fs := [vR x, vR g10, vz dp, vz flg, vz (grp + 1), vR na, vR nl, vz lst, vz mst, vz bh]) f_RD_42 d_RD_enter_104 hd_.2.2 rfl ?_
      refine ab_goto (tgt := 111) d_RD_enter_107 (by decide) ?_
      refine ab_iload_n d_RD_enter_111 rfl ?_
      refine zz_if_eq (tgt := 119) d_RD_enter_112 (by decide) (by decide) (fun c31 => absurd c31 (by decide)) (fun c31 => ?_)
      refine zz_iconst d_RD_enter_115 ?_
      refine ab_goto (tgt := 120) d_RD_enter_116 (by decide) ?_
      refine zz_iconst d_RD_enter_120 ?_
      refine ab_callI (d' := d - 1) (as := [vz 4, vz (grp + 1), vz 2, vz 0]) (st := [vR a26]) (z90_PA_init (o := o25) (a := a26) (k0 := 4) (v0 := (grp + 1)) (s0 := 2) (m0 := 0) (ps := ps) (wt := wt) (bs := bs) (gr := grp) (Pr := pr0) (ph := ph) ha26 ppaI_0 (by omega) (by omega) (by omega) (by omega)) (fun oc G2 h => by rcases h with ⟨h, _⟩ <;> exact ⟨_, h⟩) (by omega) m_PA_init ml_RD_20 im_PA_init rfl (Nat.le_of_ble_eq_true rfl) d_RD_enter_121 rfl ?_
      intro v G32 hq
      rcases hq with ⟨hv, hfk, hlk, hsk, hNa26, pNpaI_0, hq33⟩
      cases hv
      have hd_ := hfk.get hd_ (by decide)
      have hx := hfk.get hx (by decide)
      have hna := hfk.get hna (by decide)
      have hnl := hfk.get hnl (by decide)
      have hKg10 := hq33.get hfk hg10 (Or.inl hpg10) (by simp only [List.mem_cons, List.not_mem_nil, or_false, not_or]; exact not_false)
      have hr10 := hfk.get hr10 (by decide)
      have hg10 := hKg10
      have pszJ_0 := pszJ_0.fzk (o2 := o25) hq33
      have pdnJ_0 := pdnJ_0.fzk (o2 := o25) hq33
      have popI_0 := popI_0.fz (o2 := o25) hq33 (by simp)
      have ppaI_0 := pNpaI_0
      have hfr := hfr.tr hfk (by decide)
      have hq34 := hlk
      have hq35 := hsk
      have ha26 := hNa26
      change ab_W _ _ _ G32 124 [some (vR d_), some (vz at_), some (vz 1), some (vz ins), some (vz 0), none] [vR a26] _
      refine ab_astore d_RD_enter_124 (Nat.le_of_ble_eq_true rfl) (Nat.le_of_ble_eq_true rfl) rfl ?_
      change ab_W _ _ _ G32 126 [some (vR d_), some (vz at_), some (vz 1), some (vz ins), some (vz 0), some (vR a26)] [] _
      refine ab_aload d_RD_enter_126 rfl ?_
      refine ab_iload_n d_RD_enter_128 rfl ?_
      refine ab_putf (fs := [vz 4, vz (grp + 1), vN, vz (-1), vz 0, vN, vN, vN, vz 2, vz 0, vz 0, vz 0, vz 0, vz 0, vz (-1)]) f_RD_68 (Or.inl rfl) d_RD_enter_129 ha26.2.2 (Nat.le_of_ble_eq_true rfl) (fun _ => ⟨rfl, rfl⟩) (ha26.2.1 (by decide)) ?_
      obtain ⟨G36, eG36⟩ : ∃ z : ab_G, z = List.set G32 a26 (ab_ob 4 [vz 4, vz (grp + 1), vN, vz at_, vz 0, vN, vN, vN, vz 2, vz 0, vz 0, vz 0, vz 0, vz 0, vz (-1)]) := ⟨_, rfl⟩
      have hd_ := hd_.keep ha26 eG36 (by decide)
      have hx := hx.keep ha26 eG36 (by decide)
      have hna := hna.keep ha26 eG36 (by decide)
      have hnl := hnl.keep ha26 eG36 (by decide)
      have hg10 := hg10.keep' eG36 ne_a26_g10
      have hr10 := hr10.keep ha26 eG36 (by decide)
      have hst := (fx.rf (o := o25) (S := [90]) (G := G32)).wr ha26 eG36 (List.mem_singleton.mpr rfl)
      have pszJ_0 := pszJ_0.wnp eG36 hnpa26
      have pdnJ_0 := pdnJ_0.wnp eG36 hnpa26
      have popI_0 := popI_0.wnp eG36 hnpa26
      have ppaI_0 := ppaI_0.wnp hnpa26 ha26 eG36 (by decide)
      have hq37 := z_len eG36
      have hq38 := z_sl ha26 eG36 rfl
      have hfr := hfr.wn (show G.length ≤ a26 by have := hfr.1; omega) eG36
      have ha26 := ha26.kept eG36
      change ab_W _ _ _ (List.set G32 a26 (ab_ob 4 [vz 4, vz (grp + 1), vN, vz at_, vz 0, vN, vN, vN, vz 2, vz 0, vz 0, vz 0, vz 0, vz 0, vz (-1)])) 132 [some (vR d_), some (vz at_), some (vz 1), some (vz ins), some (vz 0), some (vR a26)] [] _
      rw [← eG36]
      refine ab_aload d_RD_enter_132 rfl ?_
      refine ab_aload_n d_RD_enter_134 rfl ?_
      refine ab_getf (fs := [vR x, vR g10, vz dp, vz flg, vz (grp + 1), vR na, vR nl, vz lst, vz mst, vz bh]) f_RD_38 d_RD_enter_135 hd_.2.2 rfl ?_
      refine ab_putf (fs := [vz 4, vz (grp + 1), vN, vz at_, vz 0, vN, vN, vN, vz 2, vz 0, vz 0, vz 0, vz 0, vz 0, vz (-1)]) f_RD_169 (Or.inl rfl) d_RD_enter_138 ha26.2.2 (Nat.le_of_ble_eq_true rfl) (fun _ => ⟨rfl, rfl⟩) (ha26.2.1 (by decide)) ?_
      obtain ⟨G39, eG39⟩ : ∃ z : ab_G, z = List.set G36 a26 (ab_ob 4 [vz 4, vz (grp + 1), vN, vz at_, vz flg, vN, vN, vN, vz 2, vz 0, vz 0, vz 0, vz 0, vz 0, vz (-1)]) := ⟨_, rfl⟩
      have hd_ := hd_.keep ha26 eG39 (by decide)
      have hx := hx.keep ha26 eG39 (by decide)
      have hna := hna.keep ha26 eG39 (by decide)
      have hnl := hnl.keep ha26 eG39 (by decide)
      have hg10 := hg10.keep' eG39 ne_a26_g10
      have hr10 := hr10.keep ha26 eG39 (by decide)
      have hst := (fx.rf (o := o25) (S := [90]) (G := G36)).wr ha26 eG39 (List.mem_singleton.mpr rfl)
      have pszJ_0 := pszJ_0.wnp eG39 hnpa26
      have pdnJ_0 := pdnJ_0.wnp eG39 hnpa26
      have popI_0 := popI_0.wnp eG39 hnpa26
      have ppaI_0 := ppaI_0.wnp hnpa26 ha26 eG39 (by decide)
      have hq40 := z_len eG39
      have hq41 := z_sl ha26 eG39 rfl
      have hfr := hfr.wn (show G.length ≤ a26 by have := hfr.1; omega) eG39
      have ha26 := ha26.kept eG39
      change ab_W _ _ _ (List.set G36 a26 (ab_ob 4 [vz 4, vz (grp + 1), vN, vz at_, vz flg, vN, vN, vN, vz 2, vz 0, vz 0, vz 0, vz 0, vz 0, vz (-1)])) 141 [some (vR d_), some (vz at_), some (vz 1), some (vz ins), some (vz 0), some (vR a26)] [] _
      rw [← eG39]
      refine ab_aload d_RD_enter_141 rfl ?_
      refine ab_new (fs := [vz 0, vz 0, vN, vz 0, vz 0, vN, vN, vN, vz 0, vz 0, vz 0, vz 0, vz 0, vz 0, vz 0]) k_PA rfl cl_RD_18 inst_PA ini_PA d_RD_enter_143 (by decide) (fun _ => rfl) (by omega) (by omega) ?_
      obtain ⟨G42, eG42⟩ : ∃ z : ab_G, z = G39 ++ [ab_ob 4 [vz 0, vz 0, vN, vz 0, vz 0, vN, vN, vN, vz 0, vz 0, vz 0, vz 0, vz 0, vz 0, vz 0]] := ⟨_, rfl⟩
      obtain ⟨o43, eo43⟩ : ∃ z : Nat → Nat, z = ol o25 G39.length 94 := ⟨_, rfl⟩
      obtain ⟨a44, ea44⟩ : ∃ z : Nat, z = G39.length := ⟨_, rfl⟩
      have hq45 := ha26.n0 (by first | decide | omega)
      have ne_a44_d_ : nq a44 d_ := by have hlt := hd_.lt; unfold nq; omega
      have ne_a44_x : nq a44 x := by have hlt := hx.lt; unfold nq; omega
      have ne_a44_na : nq a44 na := by have hlt := hna.lt; unfold nq; omega
      have ne_a44_nl : nq a44 nl := by have hlt := hnl.lt; unfold nq; omega
      have ne_a44_g10 : nq a44 g10 := by have hlt := hg10.lt; unfold nq; omega
      have ne_a44_r10 : nq a44 r10 := by have hlt := hr10.lt; unfold nq; omega
      have ne_a44_a26 : nq a44 a26 := by have hlt := ha26.lt; unfold nq; omega
      have hd_ := hd_.akeep (k := 94) eG42
      rw [← eo43] at hd_
      have hx := hx.akeep (k := 94) eG42
      rw [← eo43] at hx
      have hna := hna.akeep (k := 94) eG42
      rw [← eo43] at hna
      have hnl := hnl.akeep (k := 94) eG42
      rw [← eo43] at hnl
      have hg10 := hg10.akeep (k := 94) eG42
      rw [← eo43] at hg10
      have hr10 := hr10.akeep (k := 94) eG42
      rw [← eo43] at hr10
      have ha26 := ha26.akeep (k := 94) eG42
      rw [← eo43] at ha26
      have hst := (fx.rf (o := o25) (S := []) (G := G39)).ap (k := 94) eG42
      rw [← eo43] at hst
      have hnpa44 := ppaI_0.new (a := a44) (by omega)
      have pszJ_0 := szJ.fr hst ppaI_0 pszJ_0 (by decide) (by decide)
      have pdnJ_0 := dnJ.fr hst ppaI_0 pdnJ_0 (by decide) (by decide)
      have popI_0 := opI.fr hst ppaI_0 popI_0 (by decide) (by decide)
      have ppaI_0 := paI.fr hst ppaI_0 (by decide) (by decide) (by decide) (by simp)
      have ha44 := cc.anew (o := o25) 94 eG42 hq45
      rw [← eo43, ← ea44] at ha44
      have hfr := hfr.ap (k := 94) eG42
      rw [← eo43] at hfr
      have hq46 := z_alen eG42
      have hq47 : ab_slots G42 = ab_slots G39 + 15 := z_asl eG42 hq45
      change ab_W _ _ _ (G39 ++ [ab_ob 4 [vz 0, vz 0, vN, vz 0, vz 0, vN, vN, vN, vz 0, vz 0, vz 0, vz 0, vz 0, vz 0, vz 0]]) 146 [some (vR d_), some (vz at_), some (vz 1), some (vz ins), some (vz 0), some (vR a26)] [.ref G39.length, vR a26] _
      rw [← eG42, ← ea44]
      change ab_W _ _ _ G42 146 [some (vR d_), some (vz at_), some (vz 1), some (vz ins), some (vz 0), some (vR a26)] [vR a44, vR a26] _
      refine ab_dup d_RD_enter_146 rfl ?_
      refine zz_iconst d_RD_enter_147 ?_
      refine zz_iconst d_RD_enter_148 ?_
      refine zz_iconst d_RD_enter_149 ?_
      refine zz_iconst d_RD_enter_150 ?_
      refine ab_callI (d' := d - 1) (as := [vz 5, vz 0, vz 0, vz 1]) (st := [vR a44, vR a26]) (z94_PA_init (o := o43) (a := a44) (k0 := 5) (v0 := 0) (s0 := 0) (m0 := 1) (ps := ps) (wt := wt) (bs := bs) (gr := grp) (Pr := pr0) (ph := ph) ha44 ppaI_0 (by omega) (by omega) (by omega) (by omega)) (fun oc G2 h => by rcases h with ⟨h, _⟩ <;> exact ⟨_, h⟩) (by omega) m_PA_init ml_RD_20 im_PA_init rfl (Nat.le_of_ble_eq_true rfl) d_RD_enter_151 rfl ?_
      intro v G48 hq
      rcases hq with ⟨hv, hfk, hlk, hsk, hNa44, pNpaI_0, hq49⟩
      cases hv
      have hd_ := hfk.get hd_ (by decide)
      have hx := hfk.get hx (by decide)
      have hna := hfk.get hna (by decide)
      have hnl := hfk.get hnl (by decide)
      have hg10 := hfk.get hg10 (by decide)
      have hKr10 := hq49.get hfk hr10 (Or.inr hpr10) (by simp only [List.mem_cons, List.not_mem_nil, or_false, not_or]; exact not_false)
      have ha26 := hfk.get ha26 (by decide)
      have hr10 := hKr10
      have pszJ_0 := pszJ_0.fzk (o2 := o43) hq49
      have pdnJ_0 := pdnJ_0.fzk (o2 := o43) hq49
      have popI_0 := popI_0.fz (o2 := o43) hq49 (by simp)
      have ppaI_0 := pNpaI_0
      have hfr := hfr.tr hfk (by decide)
      have hq50 := hlk
      have hq51 := hsk
      have ha44 := hNa44
      change ab_W _ _ _ G48 154 [some (vR d_), some (vz at_), some (vz 1), some (vz ins), some (vz 0), some (vR a26)] [vR a44, vR a26] _
      have hnfg_ := ppaI_0.nref hnpa26
      have hnog_ := hnpa26
      have hnfr_ := ppaI_0.nref hnpa44
      have hnor_ := hnpa44
      have hsz9 := pszJ_0
      have hdn9 := pdnJ_0
      have ppaI_0 := ppaI_0.gr (gr2 := grp + 1) (by omega) (Int.le_refl _)
      have hlt52 := ha26.lt
      have hn52 : paN (grp + 1) pr0 4 (grp + 1) (-1) := ⟨by omega, by intro _; omega, by intro _; omega, by intro _; omega, pr0_⟩
      obtain ⟨ps52, wt52, hx52, hxo52, hpa52, hwo52, hwa52, ppaI_0⟩ : ∃ (pz : Nat → Nat) (wz : Nat → Wt), psx ps pz a26 ∧ (∀ x, ¬ x = a26 → pz x = ps x) ∧ pz a26 = 90 ∧ wtx wt wz a26 ∧ wz a26 = (0, fun _ => False) ∧ paI o43 G48 0 pz wz bs (grp + 1) pr0 (ph + 0) := ⟨_, _, psx.ol (Nat.le_refl _), fun x hx => if_neg hx, ol_self, fun x hx => if_neg hx, olw_self, ppaI_0.ad90 (0, fun _ => False) hnpa26 (by omega) ha26 hn52 (by unfold pnB; omega) (Or.inl ⟨by omega, rfl⟩) (Or.inl rfl) (Or.inl rfl) (Or.inl rfl)⟩
      have hnpa44 : ¬ ps52 a44 = 90 ∧ ¬ ps52 a44 = 94 := by rw [hxo52 a44 (by omega)]; exact hnpa44
      have hp53 : ps52 g10 = 90 := hx52.at (by have hlt := hg10.lt; omega) hpg10
      have hp54 : ps52 r10 = 94 := hx52.at (by have hlt := hr10.lt; omega) hpr10
      have hl55 := ho11.ps (by have hlt := hg10.lt; omega) hx52
      have hl56 := hl11.ps (by omega) hx52
      have hl57 := hf11.ps (by have hlt := hg10.lt; omega) hx52
      have hl58 := hl12.ps (by omega) hx52
      have hl59 := hf12.ps (by have hlt := hr10.lt; omega) hx52
      have hl60 := hlv10.ps (by omega) hx52
      have popI_0 : opI o43 G48 0 ps52 k hi (vR g10) := opn_ps _ _ _ popI_0 (psx.lt hx52 (by omega))
      have hlt61 := ha44.lt
      obtain ⟨ps61, hx61, hxo61, hpa61, ppaI_0⟩ : ∃ pz : Nat → Nat, psx ps52 pz a44 ∧ (∀ x, ¬ x = a44 → pz x = ps52 x) ∧ pz a44 = 94 ∧ paI o43 G48 0 pz wt52 bs (grp + 1) pr0 (ph + 0) := ⟨_, psx.ol (Nat.le_refl _), fun x hx => if_neg hx, ol_self, ppaI_0.ad94 hnpa44 ha44 (by omega) (Or.inl rfl) (Or.inl rfl)⟩
      have hp62 : ps61 g10 = 90 := hx61.at (by have hlt := hg10.lt; omega) hp53
      have hp63 : ps61 r10 = 94 := hx61.at (by have hlt := hr10.lt; omega) hp54
      have hl64 := hl55.ps (by have hlt := hg10.lt; omega) hx61
      have hl65 := hl56.ps (by omega) hx61
      have hl66 := hl57.ps (by have hlt := hg10.lt; omega) hx61
      have hl67 := hl58.ps (by omega) hx61
      have hl68 := hl59.ps (by have hlt := hr10.lt; omega) hx61
      have hl69 := hl60.ps (by omega) hx61
      have hp70 : ps61 a26 = 90 := hx61.at (by have hlt := ha26.lt; omega) hpa52
      have popI_0 : opI o43 G48 0 ps61 k hi (vR g10) := opn_ps _ _ _ popI_0 (psx.lt hx61 (by omega))
      have hfz : fz ps61 [a26, a44] G48 G48 := fz.rf
      refine ab_callV (d' := d - 1) (as := [vR a44]) (st := []) (r := _) (z90_PA_push (o := o43) (k := 4) (v := (grp + 1)) (rg := vN) (pl := at_) (fl := flg) (ou := vN) (ls := vN) (bf := vN) (sz := 2) (mb := 0) (oe := 0) (le := 0) (mo := 0) (la := 0) (rc := (-1)) (lr := vN) (br := vN) (sr := 0) (mr := 1) (ps := ps61) (wt := wt52) (bs := bs) (gr := (grp + 1)) (Pr := pr0) (ph := (ph + 0)) (r := a44) (p := a26) ha26 ha44 ppaI_0 (by omega) hp70 hpa61 hn52 (by omega) (by omega) (Or.inl rfl) (Or.inl rfl) (Or.inl rfl) (Or.inl rfl) (Or.inl rfl) (Or.inl rfl) (by omega)) (fun oc G2 h => by rcases h with ⟨h, _⟩ <;> exact ⟨_, h⟩) (by omega) m_PA_push ml_RD_48 im_PA_push se_PA_push c_PA ha26.2.2 (Nat.le_of_ble_eq_true rfl) d_RD_enter_154 rfl ?_
      intro v G71 hq
      rcases hq with ⟨hv, hfk, hlk, hsk, hNa26, hNa44, pNpaI_0, hq72⟩
      cases hv
      have hd_ := hfk.get hd_ (by decide)
      have hx := hfk.get hx (by decide)
      have hna := hfk.get hna (by decide)
      have hnl := hfk.get hnl (by decide)
      have hKg10 := hq72.get hfk hg10 (Or.inl hp62) (by simp only [List.mem_cons, List.not_mem_nil, or_false, not_or]; exact ⟨(nq.s ne_a26_g10), (hg10.ne ha44 (by decide))⟩)
      have hKr10 := hq72.get hfk hr10 (Or.inr hp63) (by simp only [List.mem_cons, List.not_mem_nil, or_false, not_or]; exact ⟨(hr10.ne ha26 (by decide)), (nq.s ne_a44_r10)⟩)
      have hg10 := hKg10
      have hr10 := hKr10
      have hfz := hfz.tr hq72 (by simp)
      have popI_0 := popI_0.fz (o2 := o43) hq72 (by intro y hy; simp only [List.mem_cons, List.not_mem_nil, or_false] at hy; omega)
      have ppaI_0 := pNpaI_0
      have hfr := hfr.tr hfk (by decide)
      have hq73 := hlk
      have hq74 := hsk
      have ha26 := hNa26
      have ha44 := hNa44
      change ab_W _ _ _ G71 157 [some (vR d_), some (vz at_), some (vz 1), some (vz ins), some (vz 0), some (vR a26)] [] _
      refine ab_aload d_RD_enter_157 rfl ?_
      refine ab_aload_n d_RD_enter_159 rfl ?_
      refine ab_getf (fs := [vR x, vR g10, vz dp, vz flg, vz (grp + 1), vR na, vR nl, vz lst, vz mst, vz bh]) f_RD_23 d_RD_enter_160 hd_.2.2 rfl ?_
      refine ab_putf (fs := [vz 4, vz (grp + 1), vN, vz at_, vz flg, vN, vR a44, vN, vz 2, vz 0, vz 0, vz 0, vz 0, vz 0, vz (-1)]) f_RD_172 (Or.inl rfl) d_RD_enter_163 ha26.2.2 (Nat.le_of_ble_eq_true rfl) (fun _ => ⟨rfl, rfl⟩) (ha26.2.1 (by decide)) ?_
      obtain ⟨G75, eG75⟩ : ∃ z : ab_G, z = List.set G71 a26 (ab_ob 4 [vz 4, vz (grp + 1), vN, vz at_, vz flg, vR g10, vR a44, vN, vz 2, vz 0, vz 0, vz 0, vz 0, vz 0, vz (-1)]) := ⟨_, rfl⟩
      have hd_ := hd_.keep ha26 eG75 (by decide)
      have hx := hx.keep ha26 eG75 (by decide)
      have hna := hna.keep ha26 eG75 (by decide)
      have hnl := hnl.keep ha26 eG75 (by decide)
      have hg10 := hg10.keep' eG75 ne_a26_g10
      have hr10 := hr10.keep ha26 eG75 (by decide)
      have ha44 := ha44.keep ha26 eG75 (by decide)
      have hfz := hfz.wr eG75 (by simp)
      have hst := (fx.rf (o := o43) (S := [90]) (G := G71)).wr ha26 eG75 (List.mem_singleton.mpr rfl)
      have popI_0 := popI_0.wge eG75 (by omega)
      have ppaI_0 := ppaI_0.w90 hp70 ha26 hn52 eG75 (by unfold pnB; omega) (Or.inr ⟨_, rfl, hp62, by have hlt := hg10.lt; omega⟩) (Or.inr ⟨_, rfl, hpa61, by have hlt := ha44.lt; omega⟩) (Or.inl rfl)
      have hq76 := z_len eG75
      have hq77 := z_sl ha26 eG75 rfl
      have hfr := hfr.wn (show G.length ≤ a26 by have := hfr.1; omega) eG75
      have ha26 := ha26.kept eG75
      change ab_W _ _ _ (List.set G71 a26 (ab_ob 4 [vz 4, vz (grp + 1), vN, vz at_, vz flg, vR g10, vR a44, vN, vz 2, vz 0, vz 0, vz 0, vz 0, vz 0, vz (-1)])) 166 [some (vR d_), some (vz at_), some (vz 1), some (vz ins), some (vz 0), some (vR a26)] [] _
      rw [← eG75]
      refine ab_aload_n d_RD_enter_166 rfl ?_
      refine ab_aload d_RD_enter_167 rfl ?_
      refine ab_putf (fs := [vR x, vR g10, vz dp, vz flg, vz (grp + 1), vR na, vR nl, vz lst, vz mst, vz bh]) f_RD_23 (Or.inl rfl) d_RD_enter_169 hd_.2.2 (Nat.le_of_ble_eq_true rfl) (fun _ => ⟨rfl, rfl⟩) (hd_.2.1 (by decide)) ?_
      obtain ⟨G78, eG78⟩ : ∃ z : ab_G, z = List.set G75 d_ (ab_ob 6 [vR x, vR a26, vz dp, vz flg, vz (grp + 1), vR na, vR nl, vz lst, vz mst, vz bh]) := ⟨_, rfl⟩
      have hx := hx.keep hd_ eG78 (by decide)
      have hna := hna.keep hd_ eG78 (by decide)
      have hnl := hnl.keep hd_ eG78 (by decide)
      have hg10 := hg10.keep hd_ eG78 (by decide)
      have hr10 := hr10.keep hd_ eG78 (by decide)
      have ha26 := ha26.keep hd_ eG78 (by decide)
      have ha44 := ha44.keep hd_ eG78 (by decide)
      have hfz := hfz.wl ppaI_0 hd_ eG78 (by decide)
      have hst := (fx.rf (o := o43) (S := [25]) (G := G75)).wr hd_ eG78 (List.mem_singleton.mpr rfl)
      have popI_0 := opI.fr hst ppaI_0 popI_0 (by decide) (by decide)
      have ppaI_0 := paI.fr hst ppaI_0 (by decide) (by decide) (by decide) (by decide)
      have hq79 := z_len eG78
      have hq80 := z_sl hd_ eG78 rfl
      have hfr := hfr.wr hd_ eG78 (by decide)
      have hd_ := hd_.kept eG78
      change ab_W _ _ _ (List.set G75 d_ (ab_ob 6 [vR x, vR a26, vz dp, vz flg, vz (grp + 1), vR na, vR nl, vz lst, vz mst, vz bh])) 172 [some (vR d_), some (vz at_), some (vz 1), some (vz ins), some (vz 0), some (vR a26)] [] _
      rw [← eG78]
      refine ab_aload_n d_RD_enter_172 rfl ?_
      refine ab_dup d_RD_enter_173 rfl ?_
      refine ab_getf (fs := [vR x, vR a26, vz dp, vz flg, vz (grp + 1), vR na, vR nl, vz lst, vz mst, vz bh]) f_RD_45 d_RD_enter_174 hd_.2.2 rfl ?_
      refine zz_iconst d_RD_enter_177 ?_
      refine zz_iadd d_RD_enter_178 ?_
      refine ab_putf (fs := [vR x, vR a26, vz dp, vz flg, vz (grp + 1), vR na, vR nl, vz lst, vz mst, vz bh]) f_RD_45 (Or.inl rfl) d_RD_enter_179 hd_.2.2 (Nat.le_of_ble_eq_true rfl) (fun _ => ⟨rfl, rfl⟩) (hd_.2.1 (by decide)) ?_
      obtain ⟨G81, eG81⟩ : ∃ z : ab_G, z = List.set G78 d_ (ab_ob 6 [vR x, vR a26, vz (dp + 1), vz flg, vz (grp + 1), vR na, vR nl, vz lst, vz mst, vz bh]) := ⟨_, rfl⟩
      have hx := hx.keep hd_ eG81 (by decide)
      have hna := hna.keep hd_ eG81 (by decide)
      have hnl := hnl.keep hd_ eG81 (by decide)
      have hg10 := hg10.keep hd_ eG81 (by decide)
      have hr10 := hr10.keep hd_ eG81 (by decide)
      have ha26 := ha26.keep hd_ eG81 (by decide)
      have ha44 := ha44.keep hd_ eG81 (by decide)
      have hfz := hfz.wl ppaI_0 hd_ eG81 (by decide)
      have hst := (fx.rf (o := o43) (S := [25]) (G := G78)).wr hd_ eG81 (List.mem_singleton.mpr rfl)
      have popI_0 := opI.fr hst ppaI_0 popI_0 (by decide) (by decide)
      have ppaI_0 := paI.fr hst ppaI_0 (by decide) (by decide) (by decide) (by decide)
      have hq82 := z_len eG81
      have hq83 := z_sl hd_ eG81 rfl
      have hfr := hfr.wr hd_ eG81 (by decide)
      have hd_ := hd_.kept eG81
      change ab_W _ _ _ (List.set G78 d_ (ab_ob 6 [vR x, vR a26, vz (dp + 1), vz flg, vz (grp + 1), vR na, vR nl, vz lst, vz mst, vz bh])) 182 [some (vR d_), some (vz at_), some (vz 1), some (vz ins), some (vz 0), some (vR a26)] [] _
      rw [← eG81]
      refine ab_aload_n d_RD_enter_182 rfl ?_
      refine ab_iload_n d_RD_enter_183 rfl ?_
      refine ab_putf (fs := [vR x, vR a26, vz (dp + 1), vz flg, vz (grp + 1), vR na, vR nl, vz lst, vz mst, vz bh]) f_RD_38 (Or.inl rfl) d_RD_enter_184 hd_.2.2 (Nat.le_of_ble_eq_true rfl) (fun _ => ⟨rfl, rfl⟩) (hd_.2.1 (by decide)) ?_
      obtain ⟨G84, eG84⟩ : ∃ z : ab_G, z = List.set G81 d_ (ab_ob 6 [vR x, vR a26, vz (dp + 1), vz ins, vz (grp + 1), vR na, vR nl, vz lst, vz mst, vz bh]) := ⟨_, rfl⟩
      have hx := hx.keep hd_ eG84 (by decide)
      have hna := hna.keep hd_ eG84 (by decide)
      have hnl := hnl.keep hd_ eG84 (by decide)
      have hg10 := hg10.keep hd_ eG84 (by decide)
      have hr10 := hr10.keep hd_ eG84 (by decide)
      have ha26 := ha26.keep hd_ eG84 (by decide)
      have ha44 := ha44.keep hd_ eG84 (by decide)
      have hfz := hfz.wl ppaI_0 hd_ eG84 (by decide)
      have hst := (fx.rf (o := o43) (S := [25]) (G := G81)).wr hd_ eG84 (List.mem_singleton.mpr rfl)
      have popI_0 := opI.fr hst ppaI_0 popI_0 (by decide) (by decide)
      have ppaI_0 := paI.fr hst ppaI_0 (by decide) (by decide) (by decide) (by decide)
      have hq85 := z_len eG84
      have hq86 := z_sl hd_ eG84 rfl
      have hfr := hfr.wr hd_ eG84 (by decide)
      have hd_ := hd_.kept eG84
      change ab_W _ _ _ (List.set G81 d_ (ab_ob 6 [vR x, vR a26, vz (dp + 1), vz ins, vz (grp + 1), vR na, vR nl, vz lst, vz mst, vz bh])) 187 [some (vR d_), some (vz at_), some (vz 1), some (vz ins), some (vz 0), some (vR a26)] [] _
      rw [← eG84]
      have popI_0 : opI o43 G84 0 ps61 (k + 1) G84.length (vR a26) := ⟨a26, a44, (vR g10), (vN), rfl, ⟨hp70, hpa61⟩, ⟨by omega, by omega⟩, by unfold pf; rw [ha26.2.2]; rfl, by unfold pf; rw [ha26.2.2]; rfl, by unfold pf; rw [ha44.2.2]; rfl, (Or.inl rfl), (opn_up popI_0 (by omega))⟩
      have pszJ_0 : szJ o43 G84 0 ps61 ((at_, flg, (grp + 1), 0, 0) :: fr) G84.length (vR a26) wh 0 0 := szJ.entC hsz9 hnfg_ hnfr_ hnog_ hnor_ (fun x h1 h2 => (hxo61 x h2).trans (hxo52 x h1)) hp70 hpa61 hfz ha26 ha44 (by omega) (by first | rfl | (unfold pin; rw [if_pos rfl, if_neg (by omega)])) (by omega) (by omega) (fun t => absurd t (by omega))
      have pdnJ_0 : dnJ o43 G84 0 ps61 wt52 ((none, mnI) :: FS) G84.length (vR a26) 0 mnI := dnJ.entC hdn9 hnfg_ hnfr_ hnog_ hnor_ (fun x h1 h2 => (hxo61 x h2).trans (hxo52 x h1)) hp70 hpa61 hfz hwo52 ha26 ha44 (by omega) (by omega) (by omega) (by omega)
      refine ab_vret rfl d_RD_enter_187 ?_
      rw [hQ]; exact (Or.inr ⟨_, _, _, _, _, _, _, rfl, hfr, hd_, hx, hna, hnl, ppaI_0, popI_0, pszJ_0, pdnJ_0, (by omega), (by omega), (by exact nmok_s hnm (by omega) (by omega)), (by omega), (by exact (hx52.tr hx61 (by omega)).lt (by omega)), (by omega), (by omega), (by omega)⟩)
    · refine ab_aload_n d_RD_enter_22 rfl ?_
      refine ab_getf (fs := [vR x, inn, vz dp, vz flg, vz grp, vR na, vR nl, vz lst, vz mst, vz bh]) f_RD_12 d_RD_enter_23 hd_.2.2 rfl ?_
      refine ab_aload_n d_RD_enter_26 rfl ?_
      refine ab_getf (fs := [vR x, inn, vz dp, vz flg, vz grp, vR na, vR nl, vz lst, vz mst, vz bh]) f_RD_45 d_RD_enter_27 hd_.2.2 rfl ?_
      refine zz_bipush d_RD_enter_30 (by decide) ?_
      refine zz_icmp_lt (tgt := 40) d_RD_enter_32 (by decide) (by omega) (by decide) (fun c87 => ?_) (fun c87 => absurd c87 (by omega))
      refine zz_bipush d_RD_enter_40 (by decide) ?_
      refine ab_iload_n d_RD_enter_42 rfl ?_
      refine ab_callV (d' := d - 1) (as := [vz 13, vz at_]) (st := []) (r := _) (z_TX_fail (o := o) (x := x) (lx := 24) (se := se) (by_ := by_) (n := n) (pl := pl) (fa := fa) (fp := fp) (kd := kd) (kn := kn) (w := 13) (p := at_) hx (by omega) (by omega) (by omega)) (fun oc G2 h => by rcases h with ⟨h, _⟩ | ⟨h, _⟩ <;> exact ⟨_, h⟩) (by omega) m_TX_fail ml_RD_69 im_TX_fail se_TX_fail c_TX hx.2.2 (Nat.le_of_ble_eq_true rfl) d_RD_enter_43 rfl ?_
      intro v G88 hq
      rcases hq with ⟨hv, hfk, hlk, hsk, hNx, hq89⟩ | ⟨hv, hGe, hq90⟩
      · cases hv
        have hd_ := hfk.get hd_ (by decide)
        have hna := hfk.get hna (by decide)
        have hnl := hfk.get hnl (by decide)
        have popI_0 := opI.fr hfk ppaI_0 popI_0 (by decide) (by decide)
        have pszJ_0 := szJ.fr hfk ppaI_0 pszJ_0 (by decide) (by decide)
        have pdnJ_0 := dnJ.fr hfk ppaI_0 pdnJ_0 (by decide) (by decide)
        have ppaI_0 := paI.fr hfk ppaI_0 (by decide) (by decide) (by decide) (by decide)
        have hfr := hfr.tr hfk (by decide)
        have hq91 := hlk
        have hq92 := hsk
        have hx := hNx
        change ab_W _ _ _ G88 46 [some (vR d_), some (vz at_), some (vz 1), some (vz ins), some (vz 0), none] [vz (-1)] _
        refine ab_pop d_RD_enter_46 rfl ?_
        refine ab_vret rfl d_RD_enter_47 ?_
        rw [hQ]; exact (Or.inl ⟨_, _, _, rfl, hfr, hd_, hx, hna, hnl, ppaI_0, popI_0, pszJ_0, pdnJ_0, (by unfold entF; first | (left; omega) | (right; omega)), (by omega), (by omega), (by omega)⟩)
      · cases hv
        rw [hGe]
        change ab_W _ _ _ G 46 [some (vR d_), some (vz at_), some (vz 1), some (vz ins), some (vz 0), none] [vz (-1)] _
        exfalso; omega
set_option maxRecDepth 100000 in
set_option maxHeartbeats 4000000 in
theorem zb_RD_enter {X : ab_X} {d : Nat} {o : Nat → Nat} {G : ab_G} {d_ : Nat} {inn : Value} {dp : Int} {flg : Int} {grp : Int} {na : Nat} {nl : Nat} {lst : Int} {mst : Int} {bh : Int} {NA : Int → Int} {NL : Int → Int} {x : Nat} {se : Nat} {by_ : Nat} {m : Nat} {n : Int} {pl : Int} {fa : Int} {fp : Int} {kd : Nat} {kn : Int} {ps : Nat → Nat} {wt : Nat → Wt} {bs : Nat} {ph : Int} {k : Nat} {hi : Nat} {wh : Nat} {fr : List Fr} {FS : List Fs} {at_ : Int} {ins : Int} {nm : Int} (hd_ : cc o G d_ 25 (ab_ob 6 [vR x, inn, vz dp, vz flg, vz grp, vR na, vR nl, vz lst, vz mst, vz bh])) (hx : cc o G x 24 (ab_ob 10 [vR se, vR by_, vz n, vz pl, vz fa, vz fp, vR kd, vz kn])) (hna : cc o G na 86 (za 10 NA)) (hnl : cc o G nl 87 (za 10 NL)) (ppaI_0 : paI o G 0 ps wt bs grp pr0 ph) (popI_0 : opI o G 0 ps k hi inn) (pszJ_0 : szJ o G 0 ps fr hi inn wh 0 0) (pdnJ_0 : dnJ o G 0 ps wt FS hi inn 0 mnI) (n18 : ab_n0 = 18) (cn_ : 0 ≤ n ∧ n ≤ ↑m ∧ m ≤ 2000) (cf : 0 ≤ flg ∧ flg ≤ 31) (cg : 0 ≤ grp ∧ grp ≤ 9) (ck : 0 ≤ dp ∧ dp ≤ 30 ∧ ↑k = dp + 1 ∧ hi ≤ G.length) (hnm : nmok NA NL grp n) (cbs : bs ≤ G.length ∧ 18 ≤ G.length) (cfa : fa = 0) (hkf : k = fr.length) (hks : k = FS.length) (ca : 0 ≤ at_ ∧ at_ ≤ 2000 ∧ 0 ≤ ins ∧ ins ≤ 31) (cnm : 1 ≤ nm ∧ nm ≤ 12 ∧ at_ + 4 + nm ≤ n) (rc : G.length + 9 ≤ ab_n0 + room_1.cells) (rs : ab_slots G + 30 ≤ room_1.slots) (hd : 4 ≤ d) : ab_F X d y_RD_enter (.code y_RD_enter b_RD_enter 6 none) [vR d_, vz at_, vz 1, vz ins, vz nm] G (fun oc G2 => (∃ o2 : Nat → Nat, ∃ fa2 : Int, ∃ fp2 : Int, oc = .returned none ∧ fx o o2 [24, 25, 86, 87, 90, 94] G G2 ∧ cc o2 G2 d_ 25 (ab_ob 6 [vR x, inn, vz dp, vz flg, vz grp, vR na, vR nl, vz lst, vz mst, vz bh]) ∧ cc o2 G2 x 24 (ab_ob 10 [vR se, vR by_, vz n, vz pl, vz fa2, vz fp2, vR kd, vz kn]) ∧ cc o2 G2 na 86 (za 10 NA) ∧ cc o2 G2 nl 87 (za 10 NL) ∧ paI o2 G2 0 ps wt bs grp pr0 ph ∧ opI o2 G2 0 ps k hi inn ∧ szJ o2 G2 0 ps fr hi inn wh 0 0 ∧ dnJ o2 G2 0 ps wt FS hi inn 0 mnI ∧ (entF dp grp 1 at_ fa2 fp2) ∧ (1 ≤ fa2 ∧ fa2 ≤ 14) ∧ (G2.length = G.length) ∧ (ab_slots G2 = ab_slots G)) ∨ (∃ o2 : Nat → Nat, ∃ inn2 : Value, ∃ k2 : Nat, ∃ hi2 : Nat, ∃ ps2 : Nat → Nat, ∃ wt2 : Nat → Wt, ∃ ph2 : Int, oc = .returned none ∧ fx o o2 [24, 25, 86, 87, 90, 94] G G2 ∧ cc o2 G2 d_ 25 (ab_ob 6 [vR x, inn2, vz (dp + 1), vz ins, vz (grp + 1), vR na, vR nl, vz lst, vz mst, vz bh]) ∧ cc o2 G2 x 24 (ab_ob 10 [vR se, vR by_, vz n, vz pl, vz fa, vz fp, vR kd, vz kn]) ∧ cc o2 G2 na 86 (za 10 (zu NA (grp + 1) (at_ + 4))) ∧ cc o2 G2 nl 87 (za 10 (zu NL (grp + 1) nm)) ∧ paI o2 G2 0 ps2 wt2 bs (grp + 1) pr0 ph2 ∧ opI o2 G2 0 ps2 k2 hi2 inn2 ∧ szJ o2 G2 0 ps2 ((at_, flg, (grp + 1), 0, 0) :: fr) hi2 inn2 wh 0 0 ∧ dnJ o2 G2 0 ps2 wt2 ((none, mnI) :: FS) hi2 inn2 0 mnI ∧ (dp < 30 ∧ grp < 9) ∧ (k2 = k + 1) ∧ (nmok (zu NA (grp + 1) (at_ + 4)) (zu NL (grp + 1) nm) (grp + 1) n) ∧ (hi2 ≤ G2.length) ∧ (psx ps ps2 G.length) ∧ (ph2 ≤ ph) ∧ (G2.length ≤ G.length + 2) ∧ (ab_slots G2 ≤ ab_slots G + 30))) := by
  refine ab_F_of (by decide +kernel) (Nat.le_of_ble_eq_true rfl) ?_
  obtain ⟨Q, hQ⟩ : ∃ z : Outcome → ab_G → Prop, z = (fun oc G2 => (∃ o2 : Nat → Nat, ∃ fa2 : Int, ∃ fp2 : Int, oc = .returned none ∧ fx o o2 [24, 25, 86, 87, 90, 94] G G2 ∧ cc o2 G2 d_ 25 (ab_ob 6 [vR x, inn, vz dp, vz flg, vz grp, vR na, vR nl, vz lst, vz mst, vz bh]) ∧ cc o2 G2 x 24 (ab_ob 10 [vR se, vR by_, vz n, vz pl, vz fa2, vz fp2, vR kd, vz kn]) ∧ cc o2 G2 na 86 (za 10 NA) ∧ cc o2 G2 nl 87 (za 10 NL) ∧ paI o2 G2 0 ps wt bs grp pr0 ph ∧ opI o2 G2 0 ps k hi inn ∧ szJ o2 G2 0 ps fr hi inn wh 0 0 ∧ dnJ o2 G2 0 ps wt FS hi inn 0 mnI ∧ (entF dp grp 1 at_ fa2 fp2) ∧ (1 ≤ fa2 ∧ fa2 ≤ 14) ∧ (G2.length = G.length) ∧ (ab_slots G2 = ab_slots G)) ∨ (∃ o2 : Nat → Nat, ∃ inn2 : Value, ∃ k2 : Nat, ∃ hi2 : Nat, ∃ ps2 : Nat → Nat, ∃ wt2 : Nat → Wt, ∃ ph2 : Int, oc = .returned none ∧ fx o o2 [24, 25, 86, 87, 90, 94] G G2 ∧ cc o2 G2 d_ 25 (ab_ob 6 [vR x, inn2, vz (dp + 1), vz ins, vz (grp + 1), vR na, vR nl, vz lst, vz mst, vz bh]) ∧ cc o2 G2 x 24 (ab_ob 10 [vR se, vR by_, vz n, vz pl, vz fa, vz fp, vR kd, vz kn]) ∧ cc o2 G2 na 86 (za 10 (zu NA (grp + 1) (at_ + 4))) ∧ cc o2 G2 nl 87 (za 10 (zu NL (grp + 1) nm)) ∧ paI o2 G2 0 ps2 wt2 bs (grp + 1) pr0 ph2 ∧ opI o2 G2 0 ps2 k2 hi2 inn2 ∧ szJ o2 G2 0 ps2 ((at_, flg, (grp + 1), 0, 0) :: fr) hi2 inn2 wh 0 0 ∧ dnJ o2 G2 0 ps2 wt2 ((none, mnI) :: FS) hi2 inn2 0 mnI ∧ (dp < 30 ∧ grp < 9) ∧ (k2 = k + 1) ∧ (nmok (zu NA (grp + 1) (at_ + 4)) (zu NL (grp + 1) nm) (grp + 1) n) ∧ (hi2 ≤ G2.length) ∧ (psx ps ps2 G.length) ∧ (ph2 ≤ ph) ∧ (G2.length ≤ G.length + 2) ∧ (ab_slots G2 ≤ ab_slots G + 30))) := ⟨_, rfl⟩
  rw [← hQ]
  change ab_W X (ab_pl y_RD_enter b_RD_enter 6 none) d G 0 [some (vR d_), some (vz at_), some (vz 1), some (vz ins), some (vz nm), none] [] Q
  have hfr : fx o o [24, 25, 86, 87, 90, 94] G G := fx.rf
  refine ab_aload_n d_RD_enter_0 rfl ?_
  refine ab_getf (fs := [vR x, inn, vz dp, vz flg, vz grp, vR na, vR nl, vz lst, vz mst, vz bh]) f_RD_45 d_RD_enter_1 hd_.2.2 rfl ?_
  refine zz_bipush d_RD_enter_4 (by decide) ?_
  refine zz_icmp_ge (tgt := 22) d_RD_enter_6 (by decide) (by omega) (by decide) (fun c1 => ?_) (fun c1 => ?_)
  · refine ab_aload_n d_RD_enter_22 rfl ?_
    refine ab_getf (fs := [vR x, inn, vz dp, vz flg, vz grp, vR na, vR nl, vz lst, vz mst, vz bh]) f_RD_12 d_RD_enter_23 hd_.2.2 rfl ?_
    refine ab_aload_n d_RD_enter_26 rfl ?_
    refine ab_getf (fs := [vR x, inn, vz dp, vz flg, vz grp, vR na, vR nl, vz lst, vz mst, vz bh]) f_RD_45 d_RD_enter_27 hd_.2.2 rfl ?_
    refine zz_bipush d_RD_enter_30 (by decide) ?_
    refine zz_icmp_lt (tgt := 40) d_RD_enter_32 (by decide) (by omega) (by decide) (fun c2 => absurd c2 (by omega)) (fun c2 => ?_)
    refine zz_bipush d_RD_enter_35 (by decide) ?_
    refine ab_goto (tgt := 42) d_RD_enter_37 (by decide) ?_
    refine ab_iload_n d_RD_enter_42 rfl ?_
    refine ab_callV (d' := d - 1) (as := [vz 12, vz at_]) (st := []) (r := _) (z_TX_fail (o := o) (x := x) (lx := 24) (se := se) (by_ := by_) (n := n) (pl := pl) (fa := fa) (fp := fp) (kd := kd) (kn := kn) (w := 12) (p := at_) hx (by omega) (by omega) (by omega)) (fun oc G2 h => by rcases h with ⟨h, _⟩ | ⟨h, _⟩ <;> exact ⟨_, h⟩) (by omega) m_TX_fail ml_RD_69 im_TX_fail se_TX_fail c_TX hx.2.2 (Nat.le_of_ble_eq_true rfl) d_RD_enter_43 rfl ?_
    intro v G3 hq
    rcases hq with ⟨hv, hfk, hlk, hsk, hNx, hq4⟩ | ⟨hv, hGe, hq5⟩
    · cases hv
      have hd_ := hfk.get hd_ (by decide)
      have hna := hfk.get hna (by decide)
      have hnl := hfk.get hnl (by decide)
      have popI_0 := opI.fr hfk ppaI_0 popI_0 (by decide) (by decide)
      have pszJ_0 := szJ.fr hfk ppaI_0 pszJ_0 (by decide) (by decide)
      have pdnJ_0 := dnJ.fr hfk ppaI_0 pdnJ_0 (by decide) (by decide)
      have ppaI_0 := paI.fr hfk ppaI_0 (by decide) (by decide) (by decide) (by decide)
      have hfr := hfr.tr hfk (by decide)
      have hq6 := hlk
      have hq7 := hsk
      have hx := hNx
      change ab_W _ _ _ G3 46 [some (vR d_), some (vz at_), some (vz 1), some (vz ins), some (vz nm), none] [vz (-1)] _
      refine ab_pop d_RD_enter_46 rfl ?_
      refine ab_vret rfl d_RD_enter_47 ?_
      rw [hQ]; exact (Or.inl ⟨_, _, _, rfl, hfr, hd_, hx, hna, hnl, ppaI_0, popI_0, pszJ_0, pdnJ_0, (by unfold entF; first | (left; omega) | (right; omega)), (by omega), (by omega), (by omega)⟩)
    · cases hv
      rw [hGe]
      change ab_W _ _ _ G 46 [some (vR d_), some (vz at_), some (vz 1), some (vz ins), some (vz nm), none] [vz (-1)] _
      exfalso; omega
  · refine ab_iload_n d_RD_enter_9 rfl ?_
    refine zz_if_eq (tgt := 48) d_RD_enter_10 (by decide) (by decide) (fun c8 => absurd c8 (by decide)) (fun c8 => ?_)
    refine ab_aload_n d_RD_enter_13 rfl ?_
    refine ab_getf (fs := [vR x, inn, vz dp, vz flg, vz grp, vR na, vR nl, vz lst, vz mst, vz bh]) f_RD_42 d_RD_enter_14 hd_.2.2 rfl ?_
    refine zz_bipush d_RD_enter_17 (by decide) ?_
    refine zz_icmp_lt (tgt := 48) d_RD_enter_19 (by decide) (by omega) (by decide) (fun c9 => ?_) (fun c9 => ?_)
    · obtain ⟨j10, hj10⟩ : ∃ j, k = j + 1 := ⟨k - 1, by omega⟩
      rw [hj10] at popI_0
      obtain ⟨g10, r10, w10, lv10, hv10, ⟨hpg10, hpr10⟩, ⟨hgl10, hrl10⟩, hf610, hf510, hr610, hlv10, hop10⟩ := popI_0
      subst hv10
      obtain ⟨k_11, v_11, rg_11, pl_11, fl_11, ou_11, ls_11, bf_11, sz_11, mb_11, oe_11, le_11, mo_11, la_11, rc_11, hg10, hn11, hb11, hg11, ho11, hl11, hf11⟩ := ppaI_0.1 g10 hpg10
      have hB11 := hb11
      unfold pnB at hB11
      have hK11 := hn11.1
      obtain ⟨ls12, bf12, sz12, mb12, hr10, hB12, hl12, hf12⟩ := ppaI_0.2.1 r10 hpr10
      have e610 : some ls_11 = some (vR r10) := by have t := hf610; unfold pf at t; rw [hg10.2.2] at t; exact t
      have e610 := Option.some.inj e610
      subst e610
      have e510 : some ou_11 = some w10 := by have t := hf510; unfold pf at t; rw [hg10.2.2] at t; exact t
      have e510 := Option.some.inj e510
      subst e510
      have e710 : some ls12 = some lv10 := by have t := hr610; unfold pf at t; rw [hr10.2.2] at t; exact t
      have e710 := Option.some.inj e710
      subst e710
      have popI_0 : opI o G 0 ps j10 g10 ou_11 := hop10
      have hnq10 : nq g10 r10 := hg10.ne hr10 (by decide)
      change ab_W _ _ _ G 48 [some (vR d_), some (vz at_), some (vz 1), some (vz ins), some (vz nm), none] [] _
      have popI_0 : opI o G 0 ps (j10 + 1) hi (vR g10) := ⟨g10, r10, ou_11, ls12, rfl, ⟨hpg10, hpr10⟩, ⟨by omega, by omega⟩, by unfold pf; rw [hg10.2.2]; rfl, by unfold pf; rw [hg10.2.2]; rfl, by unfold pf; rw [hr10.2.2]; rfl, (hlv10.up (by omega)), popI_0⟩
      rw [← hj10] at popI_0
      refine ab_iload_n d_RD_enter_48 rfl ?_
      refine zz_if_eq (tgt := 94) d_RD_enter_49 (by decide) (by decide) (fun c13 => absurd c13 (by decide)) (fun c13 => ?_)
      refine ab_aload_n d_RD_enter_52 rfl ?_
      refine ab_dup d_RD_enter_53 rfl ?_
      refine ab_getf (fs := [vR x, vR g10, vz dp, vz flg, vz grp, vR na, vR nl, vz lst, vz mst, vz bh]) f_RD_42 d_RD_enter_54 hd_.2.2 rfl ?_
      refine zz_iconst d_RD_enter_57 ?_
      refine zz_iadd d_RD_enter_58 ?_
      refine ab_putf (fs := [vR x, vR g10, vz dp, vz flg, vz grp, vR na, vR nl, vz lst, vz mst, vz bh]) f_RD_42 (Or.inl rfl) d_RD_enter_59 hd_.2.2 (Nat.le_of_ble_eq_true rfl) (fun _ => ⟨rfl, rfl⟩) (hd_.2.1 (by decide)) ?_
      obtain ⟨G14, eG14⟩ : ∃ z : ab_G, z = List.set G d_ (ab_ob 6 [vR x, vR g10, vz dp, vz flg, vz (grp + 1), vR na, vR nl, vz lst, vz mst, vz bh]) := ⟨_, rfl⟩
      have hx := hx.keep hd_ eG14 (by decide)
      have hna := hna.keep hd_ eG14 (by decide)
      have hnl := hnl.keep hd_ eG14 (by decide)
      have hg10 := hg10.keep hd_ eG14 (by decide)
      have hr10 := hr10.keep hd_ eG14 (by decide)
      have hst := (fx.rf (o := o) (S := [25]) (G := G)).wr hd_ eG14 (List.mem_singleton.mpr rfl)
      have pszJ_0 := szJ.fr hst ppaI_0 pszJ_0 (by decide) (by decide)
      have pdnJ_0 := dnJ.fr hst ppaI_0 pdnJ_0 (by decide) (by decide)
      have popI_0 := opI.fr hst ppaI_0 popI_0 (by decide) (by decide)
      have ppaI_0 := paI.fr hst ppaI_0 (by decide) (by decide) (by decide) (by decide)
      have hq15 := z_len eG14
      have hq16 := z_sl hd_ eG14 rfl
      have hfr := hfr.wr hd_ eG14 (by decide)
      have hd_ := hd_.kept eG14
      change ab_W _ _ _ (List.set G d_ (ab_ob 6 [vR x, vR g10, vz dp, vz flg, vz (grp + 1), vR na, vR nl, vz lst, vz mst, vz bh])) 62 [some (vR d_), some (vz at_), some (vz 1), some (vz ins), some (vz nm), none] [] _
      rw [← eG14]
      refine ab_aload_n d_RD_enter_62 rfl ?_
      refine ab_getf (fs := [vR x, vR g10, vz dp, vz flg, vz (grp + 1), vR na, vR nl, vz lst, vz mst, vz bh]) f_RD_27 d_RD_enter_63 hd_.2.2 rfl ?_
      refine ab_aload_n d_RD_enter_66 rfl ?_
      refine ab_getf (fs := [vR x, vR g10, vz dp, vz flg, vz (grp + 1), vR na, vR nl, vz lst, vz mst, vz bh]) f_RD_42 d_RD_enter_67 hd_.2.2 rfl ?_
      refine ab_iload d_RD_enter_70 rfl ?_
      refine zz_if_le (tgt := 81) d_RD_enter_72 (by decide) (by omega) (fun c17 => absurd c17 (by omega)) (fun c17 => ?_)
      refine ab_iload_n d_RD_enter_75 rfl ?_
      refine zz_iconst d_RD_enter_76 ?_
      refine zz_iadd d_RD_enter_77 ?_
      refine ab_goto (tgt := 82) d_RD_enter_78 (by decide) ?_
      refine zz_iast d_RD_enter_82 hna (by omega) (hna.2.1 (by decide)) ?_
      obtain ⟨G18, eG18⟩ : ∃ z : ab_G, z = List.set G14 na (za 10 (zu NA (grp + 1) (at_ + 4))) := ⟨_, rfl⟩
      have hd_ := hd_.keep hna eG18 (by decide)
      have hx := hx.keep hna eG18 (by decide)
      have hnl := hnl.keep hna eG18 (by decide)
      have hg10 := hg10.keep hna eG18 (by decide)
      have hr10 := hr10.keep hna eG18 (by decide)
      have hst := (fx.rf (o := o) (S := [86]) (G := G14)).wr hna eG18 (List.mem_singleton.mpr rfl)
      have pszJ_0 := szJ.fr hst ppaI_0 pszJ_0 (by decide) (by decide)
      have pdnJ_0 := dnJ.fr hst ppaI_0 pdnJ_0 (by decide) (by decide)
      have popI_0 := opI.fr hst ppaI_0 popI_0 (by decide) (by decide)
      have ppaI_0 := paI.fr hst ppaI_0 (by decide) (by decide) (by decide) (by decide)
      have hq19 := z_len eG18
      have hq20 := z_sl hna eG18 rfl
      have hfr := hfr.wr hna eG18 (by decide)
      have hna := hna.kept eG18
      change ab_W _ _ _ (List.set G14 na (za 10 (zu NA (grp + 1) (at_ + 4)))) 83 [some (vR d_), some (vz at_), some (vz 1), some (vz ins), some (vz nm), none] [] _
      rw [← eG18]
      refine ab_aload_n d_RD_enter_83 rfl ?_
      refine ab_getf (fs := [vR x, vR g10, vz dp, vz flg, vz (grp + 1), vR na, vR nl, vz lst, vz mst, vz bh]) f_RD_31 d_RD_enter_84 hd_.2.2 rfl ?_
      refine ab_aload_n d_RD_enter_87 rfl ?_
      refine ab_getf (fs := [vR x, vR g10, vz dp, vz flg, vz (grp + 1), vR na, vR nl, vz lst, vz mst, vz bh]) f_RD_42 d_RD_enter_88 hd_.2.2 rfl ?_
      refine ab_iload d_RD_enter_91 rfl ?_
      refine zz_iast d_RD_enter_93 hnl (by omega) (hnl.2.1 (by decide)) ?_
      obtain ⟨G21, eG21⟩ : ∃ z : ab_G, z = List.set G18 nl (za 10 (zu NL (grp + 1) nm)) := ⟨_, rfl⟩
      have hd_ := hd_.keep hnl eG21 (by decide)
      have hx := hx.keep hnl eG21 (by decide)
      have hna := hna.keep hnl eG21 (by decide)
      have hg10 := hg10.keep hnl eG21 (by decide)
      have hr10 := hr10.keep hnl eG21 (by decide)
      have hst := (fx.rf (o := o) (S := [87]) (G := G18)).wr hnl eG21 (List.mem_singleton.mpr rfl)
      have pszJ_0 := szJ.fr hst ppaI_0 pszJ_0 (by decide) (by decide)
      have pdnJ_0 := dnJ.fr hst ppaI_0 pdnJ_0 (by decide) (by decide)
      have popI_0 := opI.fr hst ppaI_0 popI_0 (by decide) (by decide)
      have ppaI_0 := paI.fr hst ppaI_0 (by decide) (by decide) (by decide) (by decide)
      have hq22 := z_len eG21
      have hq23 := z_sl hnl eG21 rfl
      have hfr := hfr.wr hnl eG21 (by decide)
      have hnl := hnl.kept eG21
      change ab_W _ _ _ (List.set G18 nl (za 10 (zu NL (grp + 1) nm))) 94 [some (vR d_), some (vz at_), some (vz 1), some (vz ins), some (vz nm), none] [] _
      rw [← eG21]
      refine ab_new (fs := [vz 0, vz 0, vN, vz 0, vz 0, vN, vN, vN, vz 0, vz 0, vz 0, vz 0, vz 0, vz 0, vz 0]) k_PA rfl cl_RD_18 inst_PA ini_PA d_RD_enter_94 (by decide) (fun _ => rfl) (by omega) (by omega) ?_
      obtain ⟨G24, eG24⟩ : ∃ z : ab_G, z = G21 ++ [ab_ob 4 [vz 0, vz 0, vN, vz 0, vz 0, vN, vN, vN, vz 0, vz 0, vz 0, vz 0, vz 0, vz 0, vz 0]] := ⟨_, rfl⟩
      obtain ⟨o25, eo25⟩ : ∃ z : Nat → Nat, z = ol o G21.length 90 := ⟨_, rfl⟩
      obtain ⟨a26, ea26⟩ : ∃ z : Nat, z = G21.length := ⟨_, rfl⟩
      have hq27 := hr10.n0 (by first | decide | omega)
      have ne_a26_d_ : nq a26 d_ := by have hlt := hd_.lt; unfold nq; omega
      have ne_a26_x : nq a26 x := by have hlt := hx.lt; unfold nq; omega
      have ne_a26_na : nq a26 na := by have hlt := hna.lt; unfold nq; omega
      have ne_a26_nl : nq a26 nl := by have hlt := hnl.lt; unfold nq; omega
      have ne_a26_g10 : nq a26 g10 := by have hlt := hg10.lt; unfold nq; omega
      have ne_a26_r10 : nq a26 r10 := by have hlt := hr10.lt; unfold nq; omega
      have hd_ := hd_.akeep (k := 90) eG24
      rw [← eo25] at hd_
      have hx := hx.akeep (k := 90) eG24
      rw [← eo25] at hx
      have hna := hna.akeep (k := 90) eG24
      rw [← eo25] at hna
      have hnl := hnl.akeep (k := 90) eG24
      rw [← eo25] at hnl
      have hg10 := hg10.akeep (k := 90) eG24
      rw [← eo25] at hg10
      have hr10 := hr10.akeep (k := 90) eG24
      rw [← eo25] at hr10
      have hst := (fx.rf (o := o) (S := []) (G := G21)).ap (k := 90) eG24
      rw [← eo25] at hst
      have hnpa26 := ppaI_0.new (a := a26) (by omega)
      have pszJ_0 := szJ.fr hst ppaI_0 pszJ_0 (by decide) (by decide)
      have pdnJ_0 := dnJ.fr hst ppaI_0 pdnJ_0 (by decide) (by decide)
      have popI_0 := opI.fr hst ppaI_0 popI_0 (by decide) (by decide)
      have ppaI_0 := paI.fr hst ppaI_0 (by decide) (by decide) (by decide) (by simp)
      have ha26 := cc.anew (o := o) 90 eG24 hq27
      rw [← eo25, ← ea26] at ha26
      have hfr := hfr.ap (k := 90) eG24
      rw [← eo25] at hfr
      have hq28 := z_alen eG24
      have hq29 : ab_slots G24 = ab_slots G21 + 15 := z_asl eG24 hq27
      change ab_W _ _ _ (G21 ++ [ab_ob 4 [vz 0, vz 0, vN, vz 0, vz 0, vN, vN, vN, vz 0, vz 0, vz 0, vz 0, vz 0, vz 0, vz 0]]) 97 [some (vR d_), some (vz at_), some (vz 1), some (vz ins), some (vz nm), none] [.ref G21.length] _
      rw [← eG24, ← ea26]
      change ab_W _ _ _ G24 97 [some (vR d_), some (vz at_), some (vz 1), some (vz ins), some (vz nm), none] [vR a26] _
      refine ab_dup d_RD_enter_97 rfl ?_
      refine zz_iconst d_RD_enter_98 ?_
      refine ab_iload_n d_RD_enter_99 rfl ?_
      refine zz_if_eq (tgt := 110) d_RD_enter_100 (by decide) (by decide) (fun c30 => absurd c30 (by decide)) (fun c30 => ?_)
      refine ab_aload_n d_RD_enter_103 rfl ?_
      refine ab_getf (fs := [vR x, vR g10, vz dp, vz flg, vz (grp + 1), vR na, vR nl, vz lst, vz mst, vz bh]) f_RD_42 d_RD_enter_104 hd_.2.2 rfl ?_
      refine ab_goto (tgt := 111) d_RD_enter_107 (by decide) ?_
      refine ab_iload_n d_RD_enter_111 rfl ?_
      refine zz_if_eq (tgt := 119) d_RD_enter_112 (by decide) (by decide) (fun c31 => absurd c31 (by decide)) (fun c31 => ?_)
      refine zz_iconst d_RD_enter_115 ?_
      refine ab_goto (tgt := 120) d_RD_enter_116 (by decide) ?_
      refine zz_iconst d_RD_enter_120 ?_
      refine ab_callI (d' := d - 1) (as := [vz 4, vz (grp + 1), vz 2, vz 0]) (st := [vR a26]) (z90_PA_init (o := o25) (a := a26) (k0 := 4) (v0 := (grp + 1)) (s0 := 2) (m0 := 0) (ps := ps) (wt := wt) (bs := bs) (gr := grp) (Pr := pr0) (ph := ph) ha26 ppaI_0 (by omega) (by omega) (by omega) (by omega)) (fun oc G2 h => by rcases h with ⟨h, _⟩ <;> exact ⟨_, h⟩) (by omega) m_PA_init ml_RD_20 im_PA_init rfl (Nat.le_of_ble_eq_true rfl) d_RD_enter_121 rfl ?_
      intro v G32 hq
      rcases hq with ⟨hv, hfk, hlk, hsk, hNa26, pNpaI_0, hq33⟩
      cases hv
      have hd_ := hfk.get hd_ (by decide)
      have hx := hfk.get hx (by decide)
      have hna := hfk.get hna (by decide)
      have hnl := hfk.get hnl (by decide)
      have hKg10 := hq33.get hfk hg10 (Or.inl hpg10) (by simp only [List.mem_cons, List.not_mem_nil, or_false, not_or]; exact not_false)
      have hr10 := hfk.get hr10 (by decide)
      have hg10 := hKg10
      have pszJ_0 := pszJ_0.fzk (o2 := o25) hq33
      have pdnJ_0 := pdnJ_0.fzk (o2 := o25) hq33
      have popI_0 := popI_0.fz (o2 := o25) hq33 (by simp)
      have ppaI_0 := pNpaI_0
      have hfr := hfr.tr hfk (by decide)
      have hq34 := hlk
      have hq35 := hsk
      have ha26 := hNa26
      change ab_W _ _ _ G32 124 [some (vR d_), some (vz at_), some (vz 1), some (vz ins), some (vz nm), none] [vR a26] _
      refine ab_astore d_RD_enter_124 (Nat.le_of_ble_eq_true rfl) (Nat.le_of_ble_eq_true rfl) rfl ?_
      change ab_W _ _ _ G32 126 [some (vR d_), some (vz at_), some (vz 1), some (vz ins), some (vz nm), some (vR a26)] [] _
      refine ab_aload d_RD_enter_126 rfl ?_
      refine ab_iload_n d_RD_enter_128 rfl ?_
      refine ab_putf (fs := [vz 4, vz (grp + 1), vN, vz (-1), vz 0, vN, vN, vN, vz 2, vz 0, vz 0, vz 0, vz 0, vz 0, vz (-1)]) f_RD_68 (Or.inl rfl) d_RD_enter_129 ha26.2.2 (Nat.le_of_ble_eq_true rfl) (fun _ => ⟨rfl, rfl⟩) (ha26.2.1 (by decide)) ?_
      obtain ⟨G36, eG36⟩ : ∃ z : ab_G, z = List.set G32 a26 (ab_ob 4 [vz 4, vz (grp + 1), vN, vz at_, vz 0, vN, vN, vN, vz 2, vz 0, vz 0, vz 0, vz 0, vz 0, vz (-1)]) := ⟨_, rfl⟩
      have hd_ := hd_.keep ha26 eG36 (by decide)
      have hx := hx.keep ha26 eG36 (by decide)
      have hna := hna.keep ha26 eG36 (by decide)
      have hnl := hnl.keep ha26 eG36 (by decide)
      have hg10 := hg10.keep' eG36 ne_a26_g10
      have hr10 := hr10.keep ha26 eG36 (by decide)
      have hst := (fx.rf (o := o25) (S := [90]) (G := G32)).wr ha26 eG36 (List.mem_singleton.mpr rfl)
      have pszJ_0 := pszJ_0.wnp eG36 hnpa26
      have pdnJ_0 := pdnJ_0.wnp eG36 hnpa26
      have popI_0 := popI_0.wnp eG36 hnpa26
      have ppaI_0 := ppaI_0.wnp hnpa26 ha26 eG36 (by decide)
      have hq37 := z_len eG36
      have hq38 := z_sl ha26 eG36 rfl
      have hfr := hfr.wn (show G.length ≤ a26 by have := hfr.1; omega) eG36
      have ha26 := ha26.kept eG36
      change ab_W _ _ _ (List.set G32 a26 (ab_ob 4 [vz 4, vz (grp + 1), vN, vz at_, vz 0, vN, vN, vN, vz 2, vz 0, vz 0, vz 0, vz 0, vz 0, vz (-1)])) 132 [some (vR d_), some (vz at_), some (vz 1), some (vz ins), some (vz nm), some (vR a26)] [] _
      rw [← eG36]
      refine ab_aload d_RD_enter_132 rfl ?_
      refine ab_aload_n d_RD_enter_134 rfl ?_
      refine ab_getf (fs := [vR x, vR g10, vz dp, vz flg, vz (grp + 1), vR na, vR nl, vz lst, vz mst, vz bh]) f_RD_38 d_RD_enter_135 hd_.2.2 rfl ?_
      refine ab_putf (fs := [vz 4, vz (grp + 1), vN, vz at_, vz 0, vN, vN, vN, vz 2, vz 0, vz 0, vz 0, vz 0, vz 0, vz (-1)]) f_RD_169 (Or.inl rfl) d_RD_enter_138 ha26.2.2 (Nat.le_of_ble_eq_true rfl) (fun _ => ⟨rfl, rfl⟩) (ha26.2.1 (by decide)) ?_
      obtain ⟨G39, eG39⟩ : ∃ z : ab_G, z = List.set G36 a26 (ab_ob 4 [vz 4, vz (grp + 1), vN, vz at_, vz flg, vN, vN, vN, vz 2, vz 0, vz 0, vz 0, vz 0, vz 0, vz (-1)]) := ⟨_, rfl⟩
      have hd_ := hd_.keep ha26 eG39 (by decide)
      have hx := hx.keep ha26 eG39 (by decide)
      have hna := hna.keep ha26 eG39 (by decide)
      have hnl := hnl.keep ha26 eG39 (by decide)
      have hg10 := hg10.keep' eG39 ne_a26_g10
      have hr10 := hr10.keep ha26 eG39 (by decide)
      have hst := (fx.rf (o := o25) (S := [90]) (G := G36)).wr ha26 eG39 (List.mem_singleton.mpr rfl)
      have pszJ_0 := pszJ_0.wnp eG39 hnpa26
      have pdnJ_0 := pdnJ_0.wnp eG39 hnpa26
      have popI_0 := popI_0.wnp eG39 hnpa26
      have ppaI_0 := ppaI_0.wnp hnpa26 ha26 eG39 (by decide)
      have hq40 := z_len eG39
      have hq41 := z_sl ha26 eG39 rfl
      have hfr := hfr.wn (show G.length ≤ a26 by have := hfr.1; omega) eG39
      have ha26 := ha26.kept eG39
      change ab_W _ _ _ (List.set G36 a26 (ab_ob 4 [vz 4, vz (grp + 1), vN, vz at_, vz flg, vN, vN, vN, vz 2, vz 0, vz 0, vz 0, vz 0, vz 0, vz (-1)])) 141 [some (vR d_), some (vz at_), some (vz 1), some (vz ins), some (vz nm), some (vR a26)] [] _
      rw [← eG39]
      refine ab_aload d_RD_enter_141 rfl ?_
      refine ab_new (fs := [vz 0, vz 0, vN, vz 0, vz 0, vN, vN, vN, vz 0, vz 0, vz 0, vz 0, vz 0, vz 0, vz 0]) k_PA rfl cl_RD_18 inst_PA ini_PA d_RD_enter_143 (by decide) (fun _ => rfl) (by omega) (by omega) ?_
      obtain ⟨G42, eG42⟩ : ∃ z : ab_G, z = G39 ++ [ab_ob 4 [vz 0, vz 0, vN, vz 0, vz 0, vN, vN, vN, vz 0, vz 0, vz 0, vz 0, vz 0, vz 0, vz 0]] := ⟨_, rfl⟩
      obtain ⟨o43, eo43⟩ : ∃ z : Nat → Nat, z = ol o25 G39.length 94 := ⟨_, rfl⟩
      obtain ⟨a44, ea44⟩ : ∃ z : Nat, z = G39.length := ⟨_, rfl⟩
      have hq45 := ha26.n0 (by first | decide | omega)
      have ne_a44_d_ : nq a44 d_ := by have hlt := hd_.lt; unfold nq; omega
      have ne_a44_x : nq a44 x := by have hlt := hx.lt; unfold nq; omega
      have ne_a44_na : nq a44 na := by have hlt := hna.lt; unfold nq; omega
      have ne_a44_nl : nq a44 nl := by have hlt := hnl.lt; unfold nq; omega
      have ne_a44_g10 : nq a44 g10 := by have hlt := hg10.lt; unfold nq; omega
      have ne_a44_r10 : nq a44 r10 := by have hlt := hr10.lt; unfold nq; omega
      have ne_a44_a26 : nq a44 a26 := by have hlt := ha26.lt; unfold nq; omega
      have hd_ := hd_.akeep (k := 94) eG42
      rw [← eo43] at hd_
      have hx := hx.akeep (k := 94) eG42
      rw [← eo43] at hx
      have hna := hna.akeep (k := 94) eG42
      rw [← eo43] at hna
      have hnl := hnl.akeep (k := 94) eG42
      rw [← eo43] at hnl
      have hg10 := hg10.akeep (k := 94) eG42
      rw [← eo43] at hg10
      have hr10 := hr10.akeep (k := 94) eG42
      rw [← eo43] at hr10
      have ha26 := ha26.akeep (k := 94) eG42
      rw [← eo43] at ha26
      have hst := (fx.rf (o := o25) (S := []) (G := G39)).ap (k := 94) eG42
      rw [← eo43] at hst
      have hnpa44 := ppaI_0.new (a := a44) (by omega)
      have pszJ_0 := szJ.fr hst ppaI_0 pszJ_0 (by decide) (by decide)
      have pdnJ_0 := dnJ.fr hst ppaI_0 pdnJ_0 (by decide) (by decide)
      have popI_0 := opI.fr hst ppaI_0 popI_0 (by decide) (by decide)
      have ppaI_0 := paI.fr hst ppaI_0 (by decide) (by decide) (by decide) (by simp)
      have ha44 := cc.anew (o := o25) 94 eG42 hq45
      rw [← eo43, ← ea44] at ha44
      have hfr := hfr.ap (k := 94) eG42
      rw [← eo43] at hfr
      have hq46 := z_alen eG42
      have hq47 : ab_slots G42 = ab_slots G39 + 15 := z_asl eG42 hq45
      change ab_W _ _ _ (G39 ++ [ab_ob 4 [vz 0, vz 0, vN, vz 0, vz 0, vN, vN, vN, vz 0, vz 0, vz 0, vz 0, vz 0, vz 0, vz 0]]) 146 [some (vR d_), some (vz at_), some (vz 1), some (vz ins), some (vz nm), some (vR a26)] [.ref G39.length, vR a26] _
      rw [← eG42, ← ea44]
      change ab_W _ _ _ G42 146 [some (vR d_), some (vz at_), some (vz 1), some (vz ins), some (vz nm), some (vR a26)] [vR a44, vR a26] _
      refine ab_dup d_RD_enter_146 rfl ?_
      refine zz_iconst d_RD_enter_147 ?_
      refine zz_iconst d_RD_enter_148 ?_
      refine zz_iconst d_RD_enter_149 ?_
      refine zz_iconst d_RD_enter_150 ?_
      refine ab_callI (d' := d - 1) (as := [vz 5, vz 0, vz 0, vz 1]) (st := [vR a44, vR a26]) (z94_PA_init (o := o43) (a := a44) (k0 := 5) (v0 := 0) (s0 := 0) (m0 := 1) (ps := ps) (wt := wt) (bs := bs) (gr := grp) (Pr := pr0) (ph := ph) ha44 ppaI_0 (by omega) (by omega) (by omega) (by omega)) (fun oc G2 h => by rcases h with ⟨h, _⟩ <;> exact ⟨_, h⟩) (by omega) m_PA_init ml_RD_20 im_PA_init rfl (Nat.le_of_ble_eq_true rfl) d_RD_enter_151 rfl ?_
      intro v G48 hq
      rcases hq with ⟨hv, hfk, hlk, hsk, hNa44, pNpaI_0, hq49⟩
      cases hv
      have hd_ := hfk.get hd_ (by decide)
      have hx := hfk.get hx (by decide)
      have hna := hfk.get hna (by decide)
      have hnl := hfk.get hnl (by decide)
      have hg10 := hfk.get hg10 (by decide)
      have hKr10 := hq49.get hfk hr10 (Or.inr hpr10) (by simp only [List.mem_cons, List.not_mem_nil, or_false, not_or]; exact not_false)
      have ha26 := hfk.get ha26 (by decide)
      have hr10 := hKr10
      have pszJ_0 := pszJ_0.fzk (o2 := o43) hq49
      have pdnJ_0 := pdnJ_0.fzk (o2 := o43) hq49
      have popI_0 := popI_0.fz (o2 := o43) hq49 (by simp)
      have ppaI_0 := pNpaI_0
      have hfr := hfr.tr hfk (by decide)
      have hq50 := hlk
      have hq51 := hsk
      have ha44 := hNa44
      change ab_W _ _ _ G48 154 [some (vR d_), some (vz at_), some (vz 1), some (vz ins), some (vz nm), some (vR a26)] [vR a44, vR a26] _
      have hnfg_ := ppaI_0.nref hnpa26
      have hnog_ := hnpa26
      have hnfr_ := ppaI_0.nref hnpa44
      have hnor_ := hnpa44
      have hsz9 := pszJ_0
      have hdn9 := pdnJ_0
      have ppaI_0 := ppaI_0.gr (gr2 := grp + 1) (by omega) (Int.le_refl _)
      have hlt52 := ha26.lt
      have hn52 : paN (grp + 1) pr0 4 (grp + 1) (-1) := ⟨by omega, by intro _; omega, by intro _; omega, by intro _; omega, pr0_⟩
      obtain ⟨ps52, wt52, hx52, hxo52, hpa52, hwo52, hwa52, ppaI_0⟩ : ∃ (pz : Nat → Nat) (wz : Nat → Wt), psx ps pz a26 ∧ (∀ x, ¬ x = a26 → pz x = ps x) ∧ pz a26 = 90 ∧ wtx wt wz a26 ∧ wz a26 = (0, fun _ => False) ∧ paI o43 G48 0 pz wz bs (grp + 1) pr0 (ph + 0) := ⟨_, _, psx.ol (Nat.le_refl _), fun x hx => if_neg hx, ol_self, fun x hx => if_neg hx, olw_self, ppaI_0.ad90 (0, fun _ => False) hnpa26 (by omega) ha26 hn52 (by unfold pnB; omega) (Or.inl ⟨by omega, rfl⟩) (Or.inl rfl) (Or.inl rfl) (Or.inl rfl)⟩
      have hnpa44 : ¬ ps52 a44 = 90 ∧ ¬ ps52 a44 = 94 := by rw [hxo52 a44 (by omega)]; exact hnpa44
      have hp53 : ps52 g10 = 90 := hx52.at (by have hlt := hg10.lt; omega) hpg10
      have hp54 : ps52 r10 = 94 := hx52.at (by have hlt := hr10.lt; omega) hpr10
      have hl55 := ho11.ps (by have hlt := hg10.lt; omega) hx52
      have hl56 := hl11.ps (by omega) hx52
      have hl57 := hf11.ps (by have hlt := hg10.lt; omega) hx52
      have hl58 := hl12.ps (by omega) hx52
      have hl59 := hf12.ps (by have hlt := hr10.lt; omega) hx52
      have hl60 := hlv10.ps (by omega) hx52
      have popI_0 : opI o43 G48 0 ps52 k hi (vR g10) := opn_ps _ _ _ popI_0 (psx.lt hx52 (by omega))
      have hlt61 := ha44.lt
      obtain ⟨ps61, hx61, hxo61, hpa61, ppaI_0⟩ : ∃ pz : Nat → Nat, psx ps52 pz a44 ∧ (∀ x, ¬ x = a44 → pz x = ps52 x) ∧ pz a44 = 94 ∧ paI o43 G48 0 pz wt52 bs (grp + 1) pr0 (ph + 0) := ⟨_, psx.ol (Nat.le_refl _), fun x hx => if_neg hx, ol_self, ppaI_0.ad94 hnpa44 ha44 (by omega) (Or.inl rfl) (Or.inl rfl)⟩
      have hp62 : ps61 g10 = 90 := hx61.at (by have hlt := hg10.lt; omega) hp53
      have hp63 : ps61 r10 = 94 := hx61.at (by have hlt := hr10.lt; omega) hp54
      have hl64 := hl55.ps (by have hlt := hg10.lt; omega) hx61
      have hl65 := hl56.ps (by omega) hx61
      have hl66 := hl57.ps (by have hlt := hg10.lt; omega) hx61
      have hl67 := hl58.ps (by omega) hx61
      have hl68 := hl59.ps (by have hlt := hr10.lt; omega) hx61
      have hl69 := hl60.ps (by omega) hx61
      have hp70 : ps61 a26 = 90 := hx61.at (by have hlt := ha26.lt; omega) hpa52
      have popI_0 : opI o43 G48 0 ps61 k hi (vR g10) := opn_ps _ _ _ popI_0 (psx.lt hx61 (by omega))
      have hfz : fz ps61 [a26, a44] G48 G48 := fz.rf
      refine ab_callV (d' := d - 1) (as := [vR a44]) (st := []) (r := _) (z90_PA_push (o := o43) (k := 4) (v := (grp + 1)) (rg := vN) (pl := at_) (fl := flg) (ou := vN) (ls := vN) (bf := vN) (sz := 2) (mb := 0) (oe := 0) (le := 0) (mo := 0) (la := 0) (rc := (-1)) (lr := vN) (br := vN) (sr := 0) (mr := 1) (ps := ps61) (wt := wt52) (bs := bs) (gr := (grp + 1)) (Pr := pr0) (ph := (ph + 0)) (r := a44) (p := a26) ha26 ha44 ppaI_0 (by omega) hp70 hpa61 hn52 (by omega) (by omega) (Or.inl rfl) (Or.inl rfl) (Or.inl rfl) (Or.inl rfl) (Or.inl rfl) (Or.inl rfl) (by omega)) (fun oc G2 h => by rcases h with ⟨h, _⟩ <;> exact ⟨_, h⟩) (by omega) m_PA_push ml_RD_48 im_PA_push se_PA_push c_PA ha26.2.2 (Nat.le_of_ble_eq_true rfl) d_RD_enter_154 rfl ?_
      intro v G71 hq
      rcases hq with ⟨hv, hfk, hlk, hsk, hNa26, hNa44, pNpaI_0, hq72⟩
      cases hv
      have hd_ := hfk.get hd_ (by decide)
      have hx := hfk.get hx (by decide)
      have hna := hfk.get hna (by decide)
      have hnl := hfk.get hnl (by decide)
      have hKg10 := hq72.get hfk hg10 (Or.inl hp62) (by simp only [List.mem_cons, List.not_mem_nil, or_false, not_or]; exact ⟨(nq.s ne_a26_g10), (hg10.ne ha44 (by decide))⟩)
      have hKr10 := hq72.get hfk hr10 (Or.inr hp63) (by simp only [List.mem_cons, List.not_mem_nil, or_false, not_or]; exact ⟨(hr10.ne ha26 (by decide)), (nq.s ne_a44_r10)⟩)
      have hg10 := hKg10
      have hr10 := hKr10
      have hfz := hfz.tr hq72 (by simp)
      have popI_0 := popI_0.fz (o2 := o43) hq72 (by intro y hy; simp only [List.mem_cons, List.not_mem_nil, or_false] at hy; omega)
      have ppaI_0 := pNpaI_0
      have hfr := hfr.tr hfk (by decide)
      have hq73 := hlk
      have hq74 := hsk
      have ha26 := hNa26
      have ha44 := hNa44
      change ab_W _ _ _ G71 157 [some (vR d_), some (vz at_), some (vz 1), some (vz ins), some (vz nm), some (vR a26)] [] _
      refine ab_aload d_RD_enter_157 rfl ?_
      refine ab_aload_n d_RD_enter_159 rfl ?_
      refine ab_getf (fs := [vR x, vR g10, vz dp, vz flg, vz (grp + 1), vR na, vR nl, vz lst, vz mst, vz bh]) f_RD_23 d_RD_enter_160 hd_.2.2 rfl ?_
      refine ab_putf (fs := [vz 4, vz (grp + 1), vN, vz at_, vz flg, vN, vR a44, vN, vz 2, vz 0, vz 0, vz 0, vz 0, vz 0, vz (-1)]) f_RD_172 (Or.inl rfl) d_RD_enter_163 ha26.2.2 (Nat.le_of_ble_eq_true rfl) (fun _ => ⟨rfl, rfl⟩) (ha26.2.1 (by decide)) ?_
      obtain ⟨G75, eG75⟩ : ∃ z : ab_G, z = List.set G71 a26 (ab_ob 4 [vz 4, vz (grp + 1), vN, vz at_, vz flg, vR g10, vR a44, vN, vz 2, vz 0, vz 0, vz 0, vz 0, vz 0, vz (-1)]) := ⟨_, rfl⟩
      have hd_ := hd_.keep ha26 eG75 (by decide)
      have hx := hx.keep ha26 eG75 (by decide)
      have hna := hna.keep ha26 eG75 (by decide)
      have hnl := hnl.keep ha26 eG75 (by decide)
      have hg10 := hg10.keep' eG75 ne_a26_g10
      have hr10 := hr10.keep ha26 eG75 (by decide)
      have ha44 := ha44.keep ha26 eG75 (by decide)
      have hfz := hfz.wr eG75 (by simp)
      have hst := (fx.rf (o := o43) (S := [90]) (G := G71)).wr ha26 eG75 (List.mem_singleton.mpr rfl)
      have popI_0 := popI_0.wge eG75 (by omega)
      have ppaI_0 := ppaI_0.w90 hp70 ha26 hn52 eG75 (by unfold pnB; omega) (Or.inr ⟨_, rfl, hp62, by have hlt := hg10.lt; omega⟩) (Or.inr ⟨_, rfl, hpa61, by have hlt := ha44.lt; omega⟩) (Or.inl rfl)
      have hq76 := z_len eG75
      have hq77 := z_sl ha26 eG75 rfl
      have hfr := hfr.wn (show G.length ≤ a26 by have := hfr.1; omega) eG75
      have ha26 := ha26.kept eG75
      change ab_W _ _ _ (List.set G71 a26 (ab_ob 4 [vz 4, vz (grp + 1), vN, vz at_, vz flg, vR g10, vR a44, vN, vz 2, vz 0, vz 0, vz 0, vz 0, vz 0, vz (-1)])) 166 [some (vR d_), some (vz at_), some (vz 1), some (vz ins), some (vz nm), some (vR a26)] [] _
      rw [← eG75]
      refine ab_aload_n d_RD_enter_166 rfl ?_
      refine ab_aload d_RD_enter_167 rfl ?_
      refine ab_putf (fs := [vR x, vR g10, vz dp, vz flg, vz (grp + 1), vR na, vR nl, vz lst, vz mst, vz bh]) f_RD_23 (Or.inl rfl) d_RD_enter_169 hd_.2.2 (Nat.le_of_ble_eq_true rfl) (fun _ => ⟨rfl, rfl⟩) (hd_.2.1 (by decide)) ?_
      obtain ⟨G78, eG78⟩ : ∃ z : ab_G, z = List.set G75 d_ (ab_ob 6 [vR x, vR a26, vz dp, vz flg, vz (grp + 1), vR na, vR nl, vz lst, vz mst, vz bh]) := ⟨_, rfl⟩
      have hx := hx.keep hd_ eG78 (by decide)
      have hna := hna.keep hd_ eG78 (by decide)
      have hnl := hnl.keep hd_ eG78 (by decide)
      have hg10 := hg10.keep hd_ eG78 (by decide)
      have hr10 := hr10.keep hd_ eG78 (by decide)
      have ha26 := ha26.keep hd_ eG78 (by decide)
      have ha44 := ha44.keep hd_ eG78 (by decide)
      have hfz := hfz.wl ppaI_0 hd_ eG78 (by decide)
      have hst := (fx.rf (o := o43) (S := [25]) (G := G75)).wr hd_ eG78 (List.mem_singleton.mpr rfl)
      have popI_0 := opI.fr hst ppaI_0 popI_0 (by decide) (by decide)
      have ppaI_0 := paI.fr hst ppaI_0 (by decide) (by decide) (by decide) (by decide)
      have hq79 := z_len eG78
      have hq80 := z_sl hd_ eG78 rfl
      have hfr := hfr.wr hd_ eG78 (by decide)
      have hd_ := hd_.kept eG78
      change ab_W _ _ _ (List.set G75 d_ (ab_ob 6 [vR x, vR a26, vz dp, vz flg, vz (grp + 1), vR na, vR nl, vz lst, vz mst, vz bh])) 172 [some (vR d_), some (vz at_), some (vz 1), some (vz ins), some (vz nm), some (vR a26)] [] _
      rw [← eG78]
      refine ab_aload_n d_RD_enter_172 rfl ?_
      refine ab_dup d_RD_enter_173 rfl ?_
      refine ab_getf (fs := [vR x, vR a26, vz dp, vz flg, vz (grp + 1), vR na, vR nl, vz lst, vz mst, vz bh]) f_RD_45 d_RD_enter_174 hd_.2.2 rfl ?_
      refine zz_iconst d_RD_enter_177 ?_
      refine zz_iadd d_RD_enter_178 ?_
      refine ab_putf (fs := [vR x, vR a26, vz dp, vz flg, vz (grp + 1), vR na, vR nl, vz lst, vz mst, vz bh]) f_RD_45 (Or.inl rfl) d_RD_enter_179 hd_.2.2 (Nat.le_of_ble_eq_true rfl) (fun _ => ⟨rfl, rfl⟩) (hd_.2.1 (by decide)) ?_
      obtain ⟨G81, eG81⟩ : ∃ z : ab_G, z = List.set G78 d_ (ab_ob 6 [vR x, vR a26, vz (dp + 1), vz flg, vz (grp + 1), vR na, vR nl, vz lst, vz mst, vz bh]) := ⟨_, rfl⟩
      have hx := hx.keep hd_ eG81 (by decide)
      have hna := hna.keep hd_ eG81 (by decide)
      have hnl := hnl.keep hd_ eG81 (by decide)
      have hg10 := hg10.keep hd_ eG81 (by decide)
      have hr10 := hr10.keep hd_ eG81 (by decide)
      have ha26 := ha26.keep hd_ eG81 (by decide)
      have ha44 := ha44.keep hd_ eG81 (by decide)
      have hfz := hfz.wl ppaI_0 hd_ eG81 (by decide)
      have hst := (fx.rf (o := o43) (S := [25]) (G := G78)).wr hd_ eG81 (List.mem_singleton.mpr rfl)
      have popI_0 := opI.fr hst ppaI_0 popI_0 (by decide) (by decide)
      have ppaI_0 := paI.fr hst ppaI_0 (by decide) (by decide) (by decide) (by decide)
      have hq82 := z_len eG81
      have hq83 := z_sl hd_ eG81 rfl
      have hfr := hfr.wr hd_ eG81 (by decide)
      have hd_ := hd_.kept eG81
      change ab_W _ _ _ (List.set G78 d_ (ab_ob 6 [vR x, vR a26, vz (dp + 1), vz flg, vz (grp + 1), vR na, vR nl, vz lst, vz mst, vz bh])) 182 [some (vR d_), some (vz at_), some (vz 1), some (vz ins), some (vz nm), some (vR a26)] [] _
      rw [← eG81]
      refine ab_aload_n d_RD_enter_182 rfl ?_
      refine ab_iload_n d_RD_enter_183 rfl ?_
      refine ab_putf (fs := [vR x, vR a26, vz (dp + 1), vz flg, vz (grp + 1), vR na, vR nl, vz lst, vz mst, vz bh]) f_RD_38 (Or.inl rfl) d_RD_enter_184 hd_.2.2 (Nat.le_of_ble_eq_true rfl) (fun _ => ⟨rfl, rfl⟩) (hd_.2.1 (by decide)) ?_
      obtain ⟨G84, eG84⟩ : ∃ z : ab_G, z = List.set G81 d_ (ab_ob 6 [vR x, vR a26, vz (dp + 1), vz ins, vz (grp + 1), vR na, vR nl, vz lst, vz mst, vz bh]) := ⟨_, rfl⟩
      have hx := hx.keep hd_ eG84 (by decide)
      have hna := hna.keep hd_ eG84 (by decide)
      have hnl := hnl.keep hd_ eG84 (by decide)
      have hg10 := hg10.keep hd_ eG84 (by decide)
      have hr10 := hr10.keep hd_ eG84 (by decide)
      have ha26 := ha26.keep hd_ eG84 (by decide)
      have ha44 := ha44.keep hd_ eG84 (by decide)
      have hfz := hfz.wl ppaI_0 hd_ eG84 (by decide)
      have hst := (fx.rf (o := o43) (S := [25]) (G := G81)).wr hd_ eG84 (List.mem_singleton.mpr rfl)
      have popI_0 := opI.fr hst ppaI_0 popI_0 (by decide) (by decide)
      have ppaI_0 := paI.fr hst ppaI_0 (by decide) (by decide) (by decide) (by decide)
      have hq85 := z_len eG84
      have hq86 := z_sl hd_ eG84 rfl
      have hfr := hfr.wr hd_ eG84 (by decide)
      have hd_ := hd_.kept eG84
      change ab_W _ _ _ (List.set G81 d_ (ab_ob 6 [vR x, vR a26, vz (dp + 1), vz ins, vz (grp + 1), vR na, vR nl, vz lst, vz mst, vz bh])) 187 [some (vR d_), some (vz at_), some (vz 1), some (vz ins), some (vz nm), some (vR a26)] [] _
      rw [← eG84]
      have popI_0 : opI o43 G84 0 ps61 (k + 1) G84.length (vR a26) := ⟨a26, a44, (vR g10), (vN), rfl, ⟨hp70, hpa61⟩, ⟨by omega, by omega⟩, by unfold pf; rw [ha26.2.2]; rfl, by unfold pf; rw [ha26.2.2]; rfl, by unfold pf; rw [ha44.2.2]; rfl, (Or.inl rfl), (opn_up popI_0 (by omega))⟩
      have pszJ_0 : szJ o43 G84 0 ps61 ((at_, flg, (grp + 1), 0, 0) :: fr) G84.length (vR a26) wh 0 0 := szJ.entC hsz9 hnfg_ hnfr_ hnog_ hnor_ (fun x h1 h2 => (hxo61 x h2).trans (hxo52 x h1)) hp70 hpa61 hfz ha26 ha44 (by omega) (by first | rfl | (unfold pin; rw [if_pos rfl, if_neg (by omega)])) (by omega) (by omega) (fun t => absurd t (by omega))
      have pdnJ_0 : dnJ o43 G84 0 ps61 wt52 ((none, mnI) :: FS) G84.length (vR a26) 0 mnI := dnJ.entC hdn9 hnfg_ hnfr_ hnog_ hnor_ (fun x h1 h2 => (hxo61 x h2).trans (hxo52 x h1)) hp70 hpa61 hfz hwo52 ha26 ha44 (by omega) (by omega) (by omega) (by omega)
      refine ab_vret rfl d_RD_enter_187 ?_
      rw [hQ]; exact (Or.inr ⟨_, _, _, _, _, _, _, rfl, hfr, hd_, hx, hna, hnl, ppaI_0, popI_0, pszJ_0, pdnJ_0, (by omega), (by omega), (by exact nmok_s hnm (by omega) (by omega)), (by omega), (by exact (hx52.tr hx61 (by omega)).lt (by omega)), (by omega), (by omega), (by omega)⟩)
    · refine ab_aload_n d_RD_enter_22 rfl ?_
      refine ab_getf (fs := [vR x, inn, vz dp, vz flg, vz grp, vR na, vR nl, vz lst, vz mst, vz bh]) f_RD_12 d_RD_enter_23 hd_.2.2 rfl ?_
      refine ab_aload_n d_RD_enter_26 rfl ?_
      refine ab_getf (fs := [vR x, inn, vz dp, vz flg, vz grp, vR na, vR nl, vz lst, vz mst, vz bh]) f_RD_45 d_RD_enter_27 hd_.2.2 rfl ?_
      refine zz_bipush d_RD_enter_30 (by decide) ?_
      refine zz_icmp_lt (tgt := 40) d_RD_enter_32 (by decide) (by omega) (by decide) (fun c87 => ?_) (fun c87 => absurd c87 (by omega))
      refine zz_bipush d_RD_enter_40 (by decide) ?_
      refine ab_iload_n d_RD_enter_42 rfl ?_
      refine ab_callV (d' := d - 1) (as := [vz 13, vz at_]) (st := []) (r := _) (z_TX_fail (o := o) (x := x) (lx := 24) (se := se) (by_ := by_) (n := n) (pl := pl) (fa := fa) (fp := fp) (kd := kd) (kn := kn) (w := 13) (p := at_) hx (by omega) (by omega) (by omega)) (fun oc G2 h => by rcases h with ⟨h, _⟩ | ⟨h, _⟩ <;> exact ⟨_, h⟩) (by omega) m_TX_fail ml_RD_69 im_TX_fail se_TX_fail c_TX hx.2.2 (Nat.le_of_ble_eq_true rfl) d_RD_enter_43 rfl ?_
      intro v G88 hq
      rcases hq with ⟨hv, hfk, hlk, hsk, hNx, hq89⟩ | ⟨hv, hGe, hq90⟩
      · cases hv
        have hd_ := hfk.get hd_ (by decide)
        have hna := hfk.get hna (by decide)
        have hnl := hfk.get hnl (by decide)
        have popI_0 := opI.fr hfk ppaI_0 popI_0 (by decide) (by decide)
        have pszJ_0 := szJ.fr hfk ppaI_0 pszJ_0 (by decide) (by decide)
        have pdnJ_0 := dnJ.fr hfk ppaI_0 pdnJ_0 (by decide) (by decide)
        have ppaI_0 := paI.fr hfk ppaI_0 (by decide) (by decide) (by decide) (by decide)
        have hfr := hfr.tr hfk (by decide)
        have hq91 := hlk
        have hq92 := hsk
        have hx := hNx
        change ab_W _ _ _ G88 46 [some (vR d_), some (vz at_), some (vz 1), some (vz ins), some (vz nm), none] [vz (-1)] _
        refine ab_pop d_RD_enter_46 rfl ?_
        refine ab_vret rfl d_RD_enter_47 ?_
        rw [hQ]; exact (Or.inl ⟨_, _, _, rfl, hfr, hd_, hx, hna, hnl, ppaI_0, popI_0, pszJ_0, pdnJ_0, (by unfold entF; first | (left; omega) | (right; omega)), (by omega), (by omega), (by omega)⟩)
      · cases hv
        rw [hGe]
        change ab_W _ _ _ G 46 [some (vR d_), some (vz at_), some (vz 1), some (vz ins), some (vz nm), none] [vz (-1)] _
        exfalso; omega
set_option maxRecDepth 100000 in
set_option maxHeartbeats 4000000 in
theorem zc_RD_enter {X : ab_X} {d : Nat} {o : Nat → Nat} {G : ab_G} {d_ : Nat} {inn : Value} {dp : Int} {flg : Int} {grp : Int} {na : Nat} {nl : Nat} {lst : Int} {mst : Int} {bh : Int} {NA : Int → Int} {NL : Int → Int} {x : Nat} {se : Nat} {by_ : Nat} {m : Nat} {n : Int} {pl : Int} {fa : Int} {fp : Int} {kd : Nat} {kn : Int} {ps : Nat → Nat} {wt : Nat → Wt} {bs : Nat} {ph : Int} {k : Nat} {hi : Nat} {wh : Nat} {fr : List Fr} {FS : List Fs} {at_ : Int} {ins : Int} (hd_ : cc o G d_ 25 (ab_ob 6 [vR x, inn, vz dp, vz flg, vz grp, vR na, vR nl, vz lst, vz mst, vz bh])) (hx : cc o G x 24 (ab_ob 10 [vR se, vR by_, vz n, vz pl, vz fa, vz fp, vR kd, vz kn])) (hna : cc o G na 86 (za 10 NA)) (hnl : cc o G nl 87 (za 10 NL)) (ppaI_0 : paI o G 0 ps wt bs grp pr0 ph) (popI_0 : opI o G 0 ps k hi inn) (pszJ_0 : szJ o G 0 ps fr hi inn wh 0 0) (pdnJ_0 : dnJ o G 0 ps wt FS hi inn 0 mnI) (n18 : ab_n0 = 18) (cn_ : 0 ≤ n ∧ n ≤ ↑m ∧ m ≤ 2000) (cf : 0 ≤ flg ∧ flg ≤ 31) (cg : 0 ≤ grp ∧ grp ≤ 9) (ck : 0 ≤ dp ∧ dp ≤ 30 ∧ ↑k = dp + 1 ∧ hi ≤ G.length) (hnm : nmok NA NL grp n) (cbs : bs ≤ G.length ∧ 18 ≤ G.length) (cfa : fa = 0) (hkf : k = fr.length) (hks : k = FS.length) (ca : 0 ≤ at_ ∧ at_ ≤ 2000 ∧ 0 ≤ ins ∧ ins ≤ 31) (rc : G.length + 9 ≤ ab_n0 + room_1.cells) (rs : ab_slots G + 30 ≤ room_1.slots) (hd : 4 ≤ d) : ab_F X d y_RD_enter (.code y_RD_enter b_RD_enter 6 none) [vR d_, vz at_, vz 0, vz ins, vz 0] G (fun oc G2 => (∃ o2 : Nat → Nat, ∃ fa2 : Int, ∃ fp2 : Int, oc = .returned none ∧ fx o o2 [24, 25, 86, 87, 90, 94] G G2 ∧ cc o2 G2 d_ 25 (ab_ob 6 [vR x, inn, vz dp, vz flg, vz grp, vR na, vR nl, vz lst, vz mst, vz bh]) ∧ cc o2 G2 x 24 (ab_ob 10 [vR se, vR by_, vz n, vz pl, vz fa2, vz fp2, vR kd, vz kn]) ∧ cc o2 G2 na 86 (za 10 NA) ∧ cc o2 G2 nl 87 (za 10 NL) ∧ paI o2 G2 0 ps wt bs grp pr0 ph ∧ opI o2 G2 0 ps k hi inn ∧ szJ o2 G2 0 ps fr hi inn wh 0 0 ∧ dnJ o2 G2 0 ps wt FS hi inn 0 mnI ∧ (entF dp grp 0 at_ fa2 fp2) ∧ (1 ≤ fa2 ∧ fa2 ≤ 14) ∧ (G2.length = G.length) ∧ (ab_slots G2 = ab_slots G)) ∨ (∃ o2 : Nat → Nat, ∃ inn2 : Value, ∃ k2 : Nat, ∃ hi2 : Nat, ∃ ps2 : Nat → Nat, ∃ wt2 : Nat → Wt, ∃ ph2 : Int, oc = .returned none ∧ fx o o2 [24, 25, 86, 87, 90, 94] G G2 ∧ cc o2 G2 d_ 25 (ab_ob 6 [vR x, inn2, vz (dp + 1), vz ins, vz grp, vR na, vR nl, vz lst, vz mst, vz bh]) ∧ cc o2 G2 x 24 (ab_ob 10 [vR se, vR by_, vz n, vz pl, vz fa, vz fp, vR kd, vz kn]) ∧ cc o2 G2 na 86 (za 10 NA) ∧ cc o2 G2 nl 87 (za 10 NL) ∧ paI o2 G2 0 ps2 wt2 bs grp pr0 ph2 ∧ opI o2 G2 0 ps2 k2 hi2 inn2 ∧ szJ o2 G2 0 ps2 ((at_, flg, 0, 0, 0) :: fr) hi2 inn2 wh 0 0 ∧ dnJ o2 G2 0 ps2 wt2 ((none, mnI) :: FS) hi2 inn2 0 mnI ∧ (dp < 30) ∧ (k2 = k + 1) ∧ (nmok NA NL grp n) ∧ (hi2 ≤ G2.length) ∧ (psx ps ps2 G.length) ∧ (ph2 ≤ ph) ∧ (G2.length ≤ G.length + 2) ∧ (ab_slots G2 ≤ ab_slots G + 30))) := by
  refine ab_F_of (by decide +kernel) (Nat.le_of_ble_eq_true rfl) ?_
  obtain ⟨Q, hQ⟩ : ∃ z : Outcome → ab_G → Prop, z = (fun oc G2 => (∃ o2 : Nat → Nat, ∃ fa2 : Int, ∃ fp2 : Int, oc = .returned none ∧ fx o o2 [24, 25, 86, 87, 90, 94] G G2 ∧ cc o2 G2 d_ 25 (ab_ob 6 [vR x, inn, vz dp, vz flg, vz grp, vR na, vR nl, vz lst, vz mst, vz bh]) ∧ cc o2 G2 x 24 (ab_ob 10 [vR se, vR by_, vz n, vz pl, vz fa2, vz fp2, vR kd, vz kn]) ∧ cc o2 G2 na 86 (za 10 NA) ∧ cc o2 G2 nl 87 (za 10 NL) ∧ paI o2 G2 0 ps wt bs grp pr0 ph ∧ opI o2 G2 0 ps k hi inn ∧ szJ o2 G2 0 ps fr hi inn wh 0 0 ∧ dnJ o2 G2 0 ps wt FS hi inn 0 mnI ∧ (entF dp grp 0 at_ fa2 fp2) ∧ (1 ≤ fa2 ∧ fa2 ≤ 14) ∧ (G2.length = G.length) ∧ (ab_slots G2 = ab_slots G)) ∨ (∃ o2 : Nat → Nat, ∃ inn2 : Value, ∃ k2 : Nat, ∃ hi2 : Nat, ∃ ps2 : Nat → Nat, ∃ wt2 : Nat → Wt, ∃ ph2 : Int, oc = .returned none ∧ fx o o2 [24, 25, 86, 87, 90, 94] G G2 ∧ cc o2 G2 d_ 25 (ab_ob 6 [vR x, inn2, vz (dp + 1), vz ins, vz grp, vR na, vR nl, vz lst, vz mst, vz bh]) ∧ cc o2 G2 x 24 (ab_ob 10 [vR se, vR by_, vz n, vz pl, vz fa, vz fp, vR kd, vz kn]) ∧ cc o2 G2 na 86 (za 10 NA) ∧ cc o2 G2 nl 87 (za 10 NL) ∧ paI o2 G2 0 ps2 wt2 bs grp pr0 ph2 ∧ opI o2 G2 0 ps2 k2 hi2 inn2 ∧ szJ o2 G2 0 ps2 ((at_, flg, 0, 0, 0) :: fr) hi2 inn2 wh 0 0 ∧ dnJ o2 G2 0 ps2 wt2 ((none, mnI) :: FS) hi2 inn2 0 mnI ∧ (dp < 30) ∧ (k2 = k + 1) ∧ (nmok NA NL grp n) ∧ (hi2 ≤ G2.length) ∧ (psx ps ps2 G.length) ∧ (ph2 ≤ ph) ∧ (G2.length ≤ G.length + 2) ∧ (ab_slots G2 ≤ ab_slots G + 30))) := ⟨_, rfl⟩
  rw [← hQ]
  change ab_W X (ab_pl y_RD_enter b_RD_enter 6 none) d G 0 [some (vR d_), some (vz at_), some (vz 0), some (vz ins), some (vz 0), none] [] Q
  have hfr : fx o o [24, 25, 86, 87, 90, 94] G G := fx.rf
  refine ab_aload_n d_RD_enter_0 rfl ?_
  refine ab_getf (fs := [vR x, inn, vz dp, vz flg, vz grp, vR na, vR nl, vz lst, vz mst, vz bh]) f_RD_45 d_RD_enter_1 hd_.2.2 rfl ?_
  refine zz_bipush d_RD_enter_4 (by decide) ?_
  refine zz_icmp_ge (tgt := 22) d_RD_enter_6 (by decide) (by omega) (by decide) (fun c1 => ?_) (fun c1 => ?_)
  · refine ab_aload_n d_RD_enter_22 rfl ?_
    refine ab_getf (fs := [vR x, inn, vz dp, vz flg, vz grp, vR na, vR nl, vz lst, vz mst, vz bh]) f_RD_12 d_RD_enter_23 hd_.2.2 rfl ?_
    refine ab_aload_n d_RD_enter_26 rfl ?_
    refine ab_getf (fs := [vR x, inn, vz dp, vz flg, vz grp, vR na, vR nl, vz lst, vz mst, vz bh]) f_RD_45 d_RD_enter_27 hd_.2.2 rfl ?_
    refine zz_bipush d_RD_enter_30 (by decide) ?_
    refine zz_icmp_lt (tgt := 40) d_RD_enter_32 (by decide) (by omega) (by decide) (fun c2 => absurd c2 (by omega)) (fun c2 => ?_)
    refine zz_bipush d_RD_enter_35 (by decide) ?_
    refine ab_goto (tgt := 42) d_RD_enter_37 (by decide) ?_
    refine ab_iload_n d_RD_enter_42 rfl ?_
    refine ab_callV (d' := d - 1) (as := [vz 12, vz at_]) (st := []) (r := _) (z_TX_fail (o := o) (x := x) (lx := 24) (se := se) (by_ := by_) (n := n) (pl := pl) (fa := fa) (fp := fp) (kd := kd) (kn := kn) (w := 12) (p := at_) hx (by omega) (by omega) (by omega)) (fun oc G2 h => by rcases h with ⟨h, _⟩ | ⟨h, _⟩ <;> exact ⟨_, h⟩) (by omega) m_TX_fail ml_RD_69 im_TX_fail se_TX_fail c_TX hx.2.2 (Nat.le_of_ble_eq_true rfl) d_RD_enter_43 rfl ?_
    intro v G3 hq
    rcases hq with ⟨hv, hfk, hlk, hsk, hNx, hq4⟩ | ⟨hv, hGe, hq5⟩
    · cases hv
      have hd_ := hfk.get hd_ (by decide)
      have hna := hfk.get hna (by decide)
      have hnl := hfk.get hnl (by decide)
      have popI_0 := opI.fr hfk ppaI_0 popI_0 (by decide) (by decide)
      have pszJ_0 := szJ.fr hfk ppaI_0 pszJ_0 (by decide) (by decide)
      have pdnJ_0 := dnJ.fr hfk ppaI_0 pdnJ_0 (by decide) (by decide)
      have ppaI_0 := paI.fr hfk ppaI_0 (by decide) (by decide) (by decide) (by decide)
      have hfr := hfr.tr hfk (by decide)
      have hq6 := hlk
      have hq7 := hsk
      have hx := hNx
      change ab_W _ _ _ G3 46 [some (vR d_), some (vz at_), some (vz 0), some (vz ins), some (vz 0), none] [vz (-1)] _
      refine ab_pop d_RD_enter_46 rfl ?_
      refine ab_vret rfl d_RD_enter_47 ?_
      rw [hQ]; exact (Or.inl ⟨_, _, _, rfl, hfr, hd_, hx, hna, hnl, ppaI_0, popI_0, pszJ_0, pdnJ_0, (by unfold entF; first | (left; omega) | (right; omega)), (by omega), (by omega), (by omega)⟩)
    · cases hv
      rw [hGe]
      change ab_W _ _ _ G 46 [some (vR d_), some (vz at_), some (vz 0), some (vz ins), some (vz 0), none] [vz (-1)] _
      exfalso; omega
  · refine ab_iload_n d_RD_enter_9 rfl ?_
    refine zz_if_eq (tgt := 48) d_RD_enter_10 (by decide) (by decide) (fun c8 => ?_) (fun c8 => absurd c8 (by decide))
    obtain ⟨j9, hj9⟩ : ∃ j, k = j + 1 := ⟨k - 1, by omega⟩
    rw [hj9] at popI_0
    obtain ⟨g9, r9, w9, lv9, hv9, ⟨hpg9, hpr9⟩, ⟨hgl9, hrl9⟩, hf69, hf59, hr69, hlv9, hop9⟩ := popI_0
    subst hv9
    obtain ⟨k_10, v_10, rg_10, pl_10, fl_10, ou_10, ls_10, bf_10, sz_10, mb_10, oe_10, le_10, mo_10, la_10, rc_10, hg9, hn10, hb10, hg10, ho10, hl10, hf10⟩ := ppaI_0.1 g9 hpg9
    have hB10 := hb10
    unfold pnB at hB10
    have hK10 := hn10.1
    obtain ⟨ls11, bf11, sz11, mb11, hr9, hB11, hl11, hf11⟩ := ppaI_0.2.1 r9 hpr9
    have e69 : some ls_10 = some (vR r9) := by have t := hf69; unfold pf at t; rw [hg9.2.2] at t; exact t
    have e69 := Option.some.inj e69
    subst e69
    have e59 : some ou_10 = some w9 := by have t := hf59; unfold pf at t; rw [hg9.2.2] at t; exact t
    have e59 := Option.some.inj e59
    subst e59
    have e79 : some ls11 = some lv9 := by have t := hr69; unfold pf at t; rw [hr9.2.2] at t; exact t
    have e79 := Option.some.inj e79
    subst e79
    have popI_0 : opI o G 0 ps j9 g9 ou_10 := hop9
    have hnq9 : nq g9 r9 := hg9.ne hr9 (by decide)
    change ab_W _ _ _ G 48 [some (vR d_), some (vz at_), some (vz 0), some (vz ins), some (vz 0), none] [] _
    have popI_0 : opI o G 0 ps (j9 + 1) hi (vR g9) := ⟨g9, r9, ou_10, ls11, rfl, ⟨hpg9, hpr9⟩, ⟨by omega, by omega⟩, by unfold pf; rw [hg9.2.2]; rfl, by unfold pf; rw [hg9.2.2]; rfl, by unfold pf; rw [hr9.2.2]; rfl, (hlv9.up (by omega)), popI_0⟩
    rw [← hj9] at popI_0
    refine ab_iload_n d_RD_enter_48 rfl ?_
    refine zz_if_eq (tgt := 94) d_RD_enter_49 (by decide) (by decide) (fun c12 => ?_) (fun c12 => absurd c12 (by decide))
    refine ab_new (fs := [vz 0, vz 0, vN, vz 0, vz 0, vN, vN, vN, vz 0, vz 0, vz 0, vz 0, vz 0, vz 0, vz 0]) k_PA rfl cl_RD_18 inst_PA ini_PA d_RD_enter_94 (by decide) (fun _ => rfl) (by omega) (by omega) ?_
    obtain ⟨G13, eG13⟩ : ∃ z : ab_G, z = G ++ [ab_ob 4 [vz 0, vz 0, vN, vz 0, vz 0, vN, vN, vN, vz 0, vz 0, vz 0, vz 0, vz 0, vz 0, vz 0]] := ⟨_, rfl⟩
    obtain ⟨o14, eo14⟩ : ∃ z : Nat → Nat, z = ol o G.length 90 := ⟨_, rfl⟩
    obtain ⟨a15, ea15⟩ : ∃ z : Nat, z = G.length := ⟨_, rfl⟩
    have hq16 := hr9.n0 (by first | decide | omega)
    have ne_a15_d_ : nq a15 d_ := by have hlt := hd_.lt; unfold nq; omega
    have ne_a15_x : nq a15 x := by have hlt := hx.lt; unfold nq; omega
    have ne_a15_na : nq a15 na := by have hlt := hna.lt; unfold nq; omega
    have ne_a15_nl : nq a15 nl := by have hlt := hnl.lt; unfold nq; omega
    have ne_a15_g9 : nq a15 g9 := by have hlt := hg9.lt; unfold nq; omega
    have ne_a15_r9 : nq a15 r9 := by have hlt := hr9.lt; unfold nq; omega
    have hd_ := hd_.akeep (k := 90) eG13
    rw [← eo14] at hd_
    have hx := hx.akeep (k := 90) eG13
    rw [← eo14] at hx
    have hna := hna.akeep (k := 90) eG13
    rw [← eo14] at hna
    have hnl := hnl.akeep (k := 90) eG13
    rw [← eo14] at hnl
    have hg9 := hg9.akeep (k := 90) eG13
    rw [← eo14] at hg9
    have hr9 := hr9.akeep (k := 90) eG13
    rw [← eo14] at hr9
    have hst := (fx.rf (o := o) (S := []) (G := G)).ap (k := 90) eG13
    rw [← eo14] at hst
    have hnpa15 := ppaI_0.new (a := a15) (by omega)
    have pszJ_0 := szJ.fr hst ppaI_0 pszJ_0 (by decide) (by decide)
    have pdnJ_0 := dnJ.fr hst ppaI_0 pdnJ_0 (by decide) (by decide)
    have popI_0 := opI.fr hst ppaI_0 popI_0 (by decide) (by decide)
    have ppaI_0 := paI.fr hst ppaI_0 (by decide) (by decide) (by decide) (by simp)
    have ha15 := cc.anew (o := o) 90 eG13 hq16
    rw [← eo14, ← ea15] at ha15
    have hfr := hfr.ap (k := 90) eG13
    rw [← eo14] at hfr
    have hq17 := z_alen eG13
    have hq18 : ab_slots G13 = ab_slots G + 15 := z_asl eG13 hq16
    change ab_W _ _ _ (G ++ [ab_ob 4 [vz 0, vz 0, vN, vz 0, vz 0, vN, vN, vN, vz 0, vz 0, vz 0, vz 0, vz 0, vz 0, vz 0]]) 97 [some (vR d_), some (vz at_), some (vz 0), some (vz ins), some (vz 0), none] [.ref G.length] _
    rw [← eG13, ← ea15]
    change ab_W _ _ _ G13 97 [some (vR d_), some (vz at_), some (vz 0), some (vz ins), some (vz 0), none] [vR a15] _
    refine ab_dup d_RD_enter_97 rfl ?_
    refine zz_iconst d_RD_enter_98 ?_
    refine ab_iload_n d_RD_enter_99 rfl ?_
    refine zz_if_eq (tgt := 110) d_RD_enter_100 (by decide) (by decide) (fun c19 => ?_) (fun c19 => absurd c19 (by decide))
    refine zz_iconst d_RD_enter_110 ?_
    refine ab_iload_n d_RD_enter_111 rfl ?_
    refine zz_if_eq (tgt := 119) d_RD_enter_112 (by decide) (by decide) (fun c20 => ?_) (fun c20 => absurd c20 (by decide))
    refine zz_iconst d_RD_enter_119 ?_
    refine zz_iconst d_RD_enter_120 ?_
    refine ab_callI (d' := d - 1) (as := [vz 4, vz 0, vz 0, vz 0]) (st := [vR a15]) (z90_PA_init (o := o14) (a := a15) (k0 := 4) (v0 := 0) (s0 := 0) (m0 := 0) (ps := ps) (wt := wt) (bs := bs) (gr := grp) (Pr := pr0) (ph := ph) ha15 ppaI_0 (by omega) (by omega) (by omega) (by omega)) (fun oc G2 h => by rcases h with ⟨h, _⟩ <;> exact ⟨_, h⟩) (by omega) m_PA_init ml_RD_20 im_PA_init rfl (Nat.le_of_ble_eq_true rfl) d_RD_enter_121 rfl ?_
    intro v G21 hq
    rcases hq with ⟨hv, hfk, hlk, hsk, hNa15, pNpaI_0, hq22⟩
    cases hv
    have hd_ := hfk.get hd_ (by decide)
    have hx := hfk.get hx (by decide)
    have hna := hfk.get hna (by decide)
    have hnl := hfk.get hnl (by decide)
    have hKg9 := hq22.get hfk hg9 (Or.inl hpg9) (by simp only [List.mem_cons, List.not_mem_nil, or_false, not_or]; exact not_false)
    have hr9 := hfk.get hr9 (by decide)
    have hg9 := hKg9
    have pszJ_0 := pszJ_0.fzk (o2 := o14) hq22
    have pdnJ_0 := pdnJ_0.fzk (o2 := o14) hq22
    have popI_0 := popI_0.fz (o2 := o14) hq22 (by simp)
    have ppaI_0 := pNpaI_0
    have hfr := hfr.tr hfk (by decide)
    have hq23 := hlk
    have hq24 := hsk
    have ha15 := hNa15
    change ab_W _ _ _ G21 124 [some (vR d_), some (vz at_), some (vz 0), some (vz ins), some (vz 0), none] [vR a15] _
    refine ab_astore d_RD_enter_124 (Nat.le_of_ble_eq_true rfl) (Nat.le_of_ble_eq_true rfl) rfl ?_
    change ab_W _ _ _ G21 126 [some (vR d_), some (vz at_), some (vz 0), some (vz ins), some (vz 0), some (vR a15)] [] _
    refine ab_aload d_RD_enter_126 rfl ?_
    refine ab_iload_n d_RD_enter_128 rfl ?_
    refine ab_putf (fs := [vz 4, vz 0, vN, vz (-1), vz 0, vN, vN, vN, vz 0, vz 0, vz 0, vz 0, vz 0, vz 0, vz (-1)]) f_RD_68 (Or.inl rfl) d_RD_enter_129 ha15.2.2 (Nat.le_of_ble_eq_true rfl) (fun _ => ⟨rfl, rfl⟩) (ha15.2.1 (by decide)) ?_
    obtain ⟨G25, eG25⟩ : ∃ z : ab_G, z = List.set G21 a15 (ab_ob 4 [vz 4, vz 0, vN, vz at_, vz 0, vN, vN, vN, vz 0, vz 0, vz 0, vz 0, vz 0, vz 0, vz (-1)]) := ⟨_, rfl⟩
    have hd_ := hd_.keep ha15 eG25 (by decide)
    have hx := hx.keep ha15 eG25 (by decide)
    have hna := hna.keep ha15 eG25 (by decide)
    have hnl := hnl.keep ha15 eG25 (by decide)
    have hg9 := hg9.keep' eG25 ne_a15_g9
    have hr9 := hr9.keep ha15 eG25 (by decide)
    have hst := (fx.rf (o := o14) (S := [90]) (G := G21)).wr ha15 eG25 (List.mem_singleton.mpr rfl)
    have pszJ_0 := pszJ_0.wnp eG25 hnpa15
    have pdnJ_0 := pdnJ_0.wnp eG25 hnpa15
    have popI_0 := popI_0.wnp eG25 hnpa15
    have ppaI_0 := ppaI_0.wnp hnpa15 ha15 eG25 (by decide)
    have hq26 := z_len eG25
    have hq27 := z_sl ha15 eG25 rfl
    have hfr := hfr.wn (show G.length ≤ a15 by have := hfr.1; omega) eG25
    have ha15 := ha15.kept eG25
    change ab_W _ _ _ (List.set G21 a15 (ab_ob 4 [vz 4, vz 0, vN, vz at_, vz 0, vN, vN, vN, vz 0, vz 0, vz 0, vz 0, vz 0, vz 0, vz (-1)])) 132 [some (vR d_), some (vz at_), some (vz 0), some (vz ins), some (vz 0), some (vR a15)] [] _
    rw [← eG25]
    refine ab_aload d_RD_enter_132 rfl ?_
    refine ab_aload_n d_RD_enter_134 rfl ?_
    refine ab_getf (fs := [vR x, vR g9, vz dp, vz flg, vz grp, vR na, vR nl, vz lst, vz mst, vz bh]) f_RD_38 d_RD_enter_135 hd_.2.2 rfl ?_
    refine ab_putf (fs := [vz 4, vz 0, vN, vz at_, vz 0, vN, vN, vN, vz 0, vz 0, vz 0, vz 0, vz 0, vz 0, vz (-1)]) f_RD_169 (Or.inl rfl) d_RD_enter_138 ha15.2.2 (Nat.le_of_ble_eq_true rfl) (fun _ => ⟨rfl, rfl⟩) (ha15.2.1 (by decide)) ?_
    obtain ⟨G28, eG28⟩ : ∃ z : ab_G, z = List.set G25 a15 (ab_ob 4 [vz 4, vz 0, vN, vz at_, vz flg, vN, vN, vN, vz 0, vz 0, vz 0, vz 0, vz 0, vz 0, vz (-1)]) := ⟨_, rfl⟩
    have hd_ := hd_.keep ha15 eG28 (by decide)
    have hx := hx.keep ha15 eG28 (by decide)
    have hna := hna.keep ha15 eG28 (by decide)
    have hnl := hnl.keep ha15 eG28 (by decide)
    have hg9 := hg9.keep' eG28 ne_a15_g9
    have hr9 := hr9.keep ha15 eG28 (by decide)
    have hst := (fx.rf (o := o14) (S := [90]) (G := G25)).wr ha15 eG28 (List.mem_singleton.mpr rfl)
    have pszJ_0 := pszJ_0.wnp eG28 hnpa15
    have pdnJ_0 := pdnJ_0.wnp eG28 hnpa15
    have popI_0 := popI_0.wnp eG28 hnpa15
    have ppaI_0 := ppaI_0.wnp hnpa15 ha15 eG28 (by decide)
    have hq29 := z_len eG28
    have hq30 := z_sl ha15 eG28 rfl
    have hfr := hfr.wn (show G.length ≤ a15 by have := hfr.1; omega) eG28
    have ha15 := ha15.kept eG28
    change ab_W _ _ _ (List.set G25 a15 (ab_ob 4 [vz 4, vz 0, vN, vz at_, vz flg, vN, vN, vN, vz 0, vz 0, vz 0, vz 0, vz 0, vz 0, vz (-1)])) 141 [some (vR d_), some (vz at_), some (vz 0), some (vz ins), some (vz 0), some (vR a15)] [] _
    rw [← eG28]
    refine ab_aload d_RD_enter_141 rfl ?_
    refine ab_new (fs := [vz 0, vz 0, vN, vz 0, vz 0, vN, vN, vN, vz 0, vz 0, vz 0, vz 0, vz 0, vz 0, vz 0]) k_PA rfl cl_RD_18 inst_PA ini_PA d_RD_enter_143 (by decide) (fun _ => rfl) (by omega) (by omega) ?_
    obtain ⟨G31, eG31⟩ : ∃ z : ab_G, z = G28 ++ [ab_ob 4 [vz 0, vz 0, vN, vz 0, vz 0, vN, vN, vN, vz 0, vz 0, vz 0, vz 0, vz 0, vz 0, vz 0]] := ⟨_, rfl⟩
    obtain ⟨o32, eo32⟩ : ∃ z : Nat → Nat, z = ol o14 G28.length 94 := ⟨_, rfl⟩
    obtain ⟨a33, ea33⟩ : ∃ z : Nat, z = G28.length := ⟨_, rfl⟩
    have hq34 := ha15.n0 (by first | decide | omega)
    have ne_a33_d_ : nq a33 d_ := by have hlt := hd_.lt; unfold nq; omega
    have ne_a33_x : nq a33 x := by have hlt := hx.lt; unfold nq; omega
    have ne_a33_na : nq a33 na := by have hlt := hna.lt; unfold nq; omega
    have ne_a33_nl : nq a33 nl := by have hlt := hnl.lt; unfold nq; omega
    have ne_a33_g9 : nq a33 g9 := by have hlt := hg9.lt; unfold nq; omega
    have ne_a33_r9 : nq a33 r9 := by have hlt := hr9.lt; unfold nq; omega
    have ne_a33_a15 : nq a33 a15 := by have hlt := ha15.lt; unfold nq; omega
    have hd_ := hd_.akeep (k := 94) eG31
    rw [← eo32] at hd_
    have hx := hx.akeep (k := 94) eG31
    rw [← eo32] at hx
    have hna := hna.akeep (k := 94) eG31
    rw [← eo32] at hna
    have hnl := hnl.akeep (k := 94) eG31
    rw [← eo32] at hnl
    have hg9 := hg9.akeep (k := 94) eG31
    rw [← eo32] at hg9
    have hr9 := hr9.akeep (k := 94) eG31
    rw [← eo32] at hr9
    have ha15 := ha15.akeep (k := 94) eG31
    rw [← eo32] at ha15
    have hst := (fx.rf (o := o14) (S := []) (G := G28)).ap (k := 94) eG31
    rw [← eo32] at hst
    have hnpa33 := ppaI_0.new (a := a33) (by omega)
    have pszJ_0 := szJ.fr hst ppaI_0 pszJ_0 (by decide) (by decide)
    have pdnJ_0 := dnJ.fr hst ppaI_0 pdnJ_0 (by decide) (by decide)
    have popI_0 := opI.fr hst ppaI_0 popI_0 (by decide) (by decide)
    have ppaI_0 := paI.fr hst ppaI_0 (by decide) (by decide) (by decide) (by simp)
    have ha33 := cc.anew (o := o14) 94 eG31 hq34
    rw [← eo32, ← ea33] at ha33
    have hfr := hfr.ap (k := 94) eG31
    rw [← eo32] at hfr
    have hq35 := z_alen eG31
    have hq36 : ab_slots G31 = ab_slots G28 + 15 := z_asl eG31 hq34
    change ab_W _ _ _ (G28 ++ [ab_ob 4 [vz 0, vz 0, vN, vz 0, vz 0, vN, vN, vN, vz 0, vz 0, vz 0, vz 0, vz 0, vz 0, vz 0]]) 146 [some (vR d_), some (vz at_), some (vz 0), some (vz ins), some (vz 0), some (vR a15)] [.ref G28.length, vR a15] _
    rw [← eG31, ← ea33]
    change ab_W _ _ _ G31 146 [some (vR d_), some (vz at_), some (vz 0), some (vz ins), some (vz 0), some (vR a15)] [vR a33, vR a15] _
    refine ab_dup d_RD_enter_146 rfl ?_
    refine zz_iconst d_RD_enter_147 ?_
    refine zz_iconst d_RD_enter_148 ?_
    refine zz_iconst d_RD_enter_149 ?_
    refine zz_iconst d_RD_enter_150 ?_
    refine ab_callI (d' := d - 1) (as := [vz 5, vz 0, vz 0, vz 1]) (st := [vR a33, vR a15]) (z94_PA_init (o := o32) (a := a33) (k0 := 5) (v0 := 0) (s0 := 0) (m0 := 1) (ps := ps) (wt := wt) (bs := bs) (gr := grp) (Pr := pr0) (ph := ph) ha33 ppaI_0 (by omega) (by omega) (by omega) (by omega)) (fun oc G2 h => by rcases h with ⟨h, _⟩ <;> exact ⟨_, h⟩) (by omega) m_PA_init ml_RD_20 im_PA_init rfl (Nat.le_of_ble_eq_true rfl) d_RD_enter_151 rfl ?_
    intro v G37 hq
    rcases hq with ⟨hv, hfk, hlk, hsk, hNa33, pNpaI_0, hq38⟩
    cases hv
    have hd_ := hfk.get hd_ (by decide)
    have hx := hfk.get hx (by decide)
    have hna := hfk.get hna (by decide)
    have hnl := hfk.get hnl (by decide)
    have hg9 := hfk.get hg9 (by decide)
    have hKr9 := hq38.get hfk hr9 (Or.inr hpr9) (by simp only [List.mem_cons, List.not_mem_nil, or_false, not_or]; exact not_false)
    have ha15 := hfk.get ha15 (by decide)
    have hr9 := hKr9
    have pszJ_0 := pszJ_0.fzk (o2 := o32) hq38
    have pdnJ_0 := pdnJ_0.fzk (o2 := o32) hq38
    have popI_0 := popI_0.fz (o2 := o32) hq38 (by simp)
    have ppaI_0 := pNpaI_0
    have hfr := hfr.tr hfk (by decide)
    have hq39 := hlk
    have hq40 := hsk
    have ha33 := hNa33
    change ab_W _ _ _ G37 154 [some (vR d_), some (vz at_), some (vz 0), some (vz ins), some (vz 0), some (vR a15)] [vR a33, vR a15] _
    have hnfg_ := ppaI_0.nref hnpa15
    have hnog_ := hnpa15
    have hnfr_ := ppaI_0.nref hnpa33
    have hnor_ := hnpa33
    have hsz9 := pszJ_0
    have hdn9 := pdnJ_0
    have hlt41 := ha15.lt
    have hn41 : paN grp pr0 4 0 (-1) := ⟨by omega, by intro _; omega, by intro _; omega, by intro _; omega, pr0_⟩
    obtain ⟨ps41, wt41, hx41, hxo41, hpa41, hwo41, hwa41, ppaI_0⟩ : ∃ (pz : Nat → Nat) (wz : Nat → Wt), psx ps pz a15 ∧ (∀ x, ¬ x = a15 → pz x = ps x) ∧ pz a15 = 90 ∧ wtx wt wz a15 ∧ wz a15 = (0, fun _ => False) ∧ paI o32 G37 0 pz wz bs grp pr0 (ph + 0) := ⟨_, _, psx.ol (Nat.le_refl _), fun x hx => if_neg hx, ol_self, fun x hx => if_neg hx, olw_self, ppaI_0.ad90 (0, fun _ => False) hnpa15 (by omega) ha15 hn41 (by unfold pnB; omega) (Or.inl ⟨by omega, rfl⟩) (Or.inl rfl) (Or.inl rfl) (Or.inl rfl)⟩
    have hnpa33 : ¬ ps41 a33 = 90 ∧ ¬ ps41 a33 = 94 := by rw [hxo41 a33 (by omega)]; exact hnpa33
    have hp42 : ps41 g9 = 90 := hx41.at (by have hlt := hg9.lt; omega) hpg9
    have hp43 : ps41 r9 = 94 := hx41.at (by have hlt := hr9.lt; omega) hpr9
    have hl44 := ho10.ps (by have hlt := hg9.lt; omega) hx41
    have hl45 := hl10.ps (by omega) hx41
    have hl46 := hf10.ps (by have hlt := hg9.lt; omega) hx41
    have hl47 := hl11.ps (by omega) hx41
    have hl48 := hf11.ps (by have hlt := hr9.lt; omega) hx41
    have hl49 := hlv9.ps (by omega) hx41
    have popI_0 : opI o32 G37 0 ps41 k hi (vR g9) := opn_ps _ _ _ popI_0 (psx.lt hx41 (by omega))
    have hlt50 := ha33.lt
    obtain ⟨ps50, hx50, hxo50, hpa50, ppaI_0⟩ : ∃ pz : Nat → Nat, psx ps41 pz a33 ∧ (∀ x, ¬ x = a33 → pz x = ps41 x) ∧ pz a33 = 94 ∧ paI o32 G37 0 pz wt41 bs grp pr0 (ph + 0) := ⟨_, psx.ol (Nat.le_refl _), fun x hx => if_neg hx, ol_self, ppaI_0.ad94 hnpa33 ha33 (by omega) (Or.inl rfl) (Or.inl rfl)⟩
    have hp51 : ps50 g9 = 90 := hx50.at (by have hlt := hg9.lt; omega) hp42
    have hp52 : ps50 r9 = 94 := hx50.at (by have hlt := hr9.lt; omega) hp43
    have hl53 := hl44.ps (by have hlt := hg9.lt; omega) hx50
    have hl54 := hl45.ps (by omega) hx50
    have hl55 := hl46.ps (by have hlt := hg9.lt; omega) hx50
    have hl56 := hl47.ps (by omega) hx50
    have hl57 := hl48.ps (by have hlt := hr9.lt; omega) hx50
    have hl58 := hl49.ps (by omega) hx50
    have hp59 : ps50 a15 = 90 := hx50.at (by have hlt := ha15.lt; omega) hpa41
    have popI_0 : opI o32 G37 0 ps50 k hi (vR g9) := opn_ps _ _ _ popI_0 (psx.lt hx50 (by omega))
    have hfz : fz ps50 [a15, a33] G37 G37 := fz.rf
    refine ab_callV (d' := d - 1) (as := [vR a33]) (st := []) (r := _) (z90_PA_push (o := o32) (k := 4) (v := 0) (rg := vN) (pl := at_) (fl := flg) (ou := vN) (ls := vN) (bf := vN) (sz := 0) (mb := 0) (oe := 0) (le := 0) (mo := 0) (la := 0) (rc := (-1)) (lr := vN) (br := vN) (sr := 0) (mr := 1) (ps := ps50) (wt := wt41) (bs := bs) (gr := grp) (Pr := pr0) (ph := (ph + 0)) (r := a33) (p := a15) ha15 ha33 ppaI_0 (by omega) hp59 hpa50 hn41 (by omega) (by omega) (Or.inl rfl) (Or.inl rfl) (Or.inl rfl) (Or.inl rfl) (Or.inl rfl) (Or.inl rfl) (by omega)) (fun oc G2 h => by rcases h with ⟨h, _⟩ <;> exact ⟨_, h⟩) (by omega) m_PA_push ml_RD_48 im_PA_push se_PA_push c_PA ha15.2.2 (Nat.le_of_ble_eq_true rfl) d_RD_enter_154 rfl ?_
    intro v G60 hq
    rcases hq with ⟨hv, hfk, hlk, hsk, hNa15, hNa33, pNpaI_0, hq61⟩
    cases hv
    have hd_ := hfk.get hd_ (by decide)
    have hx := hfk.get hx (by decide)
    have hna := hfk.get hna (by decide)
    have hnl := hfk.get hnl (by decide)
    have hKg9 := hq61.get hfk hg9 (Or.inl hp51) (by simp only [List.mem_cons, List.not_mem_nil, or_false, not_or]; exact ⟨(nq.s ne_a15_g9), (hg9.ne ha33 (by decide))⟩)
    have hKr9 := hq61.get hfk hr9 (Or.inr hp52) (by simp only [List.mem_cons, List.not_mem_nil, or_false, not_or]; exact ⟨(hr9.ne ha15 (by decide)), (nq.s ne_a33_r9)⟩)
    have hg9 := hKg9
    have hr9 := hKr9
    have hfz := hfz.tr hq61 (by simp)
    have popI_0 := popI_0.fz (o2 := o32) hq61 (by intro y hy; simp only [List.mem_cons, List.not_mem_nil, or_false] at hy; omega)
    have ppaI_0 := pNpaI_0
    have hfr := hfr.tr hfk (by decide)
    have hq62 := hlk
    have hq63 := hsk
    have ha15 := hNa15
    have ha33 := hNa33
    change ab_W _ _ _ G60 157 [some (vR d_), some (vz at_), some (vz 0), some (vz ins), some (vz 0), some (vR a15)] [] _
    refine ab_aload d_RD_enter_157 rfl ?_
    refine ab_aload_n d_RD_enter_159 rfl ?_
    refine ab_getf (fs := [vR x, vR g9, vz dp, vz flg, vz grp, vR na, vR nl, vz lst, vz mst, vz bh]) f_RD_23 d_RD_enter_160 hd_.2.2 rfl ?_
    refine ab_putf (fs := [vz 4, vz 0, vN, vz at_, vz flg, vN, vR a33, vN, vz 0, vz 0, vz 0, vz 0, vz 0, vz 0, vz (-1)]) f_RD_172 (Or.inl rfl) d_RD_enter_163 ha15.2.2 (Nat.le_of_ble_eq_true rfl) (fun _ => ⟨rfl, rfl⟩) (ha15.2.1 (by decide)) ?_
    obtain ⟨G64, eG64⟩ : ∃ z : ab_G, z = List.set G60 a15 (ab_ob 4 [vz 4, vz 0, vN, vz at_, vz flg, vR g9, vR a33, vN, vz 0, vz 0, vz 0, vz 0, vz 0, vz 0, vz (-1)]) := ⟨_, rfl⟩
    have hd_ := hd_.keep ha15 eG64 (by decide)
    have hx := hx.keep ha15 eG64 (by decide)
    have hna := hna.keep ha15 eG64 (by decide)
    have hnl := hnl.keep ha15 eG64 (by decide)
    have hg9 := hg9.keep' eG64 ne_a15_g9
    have hr9 := hr9.keep ha15 eG64 (by decide)
    have ha33 := ha33.keep ha15 eG64 (by decide)
    have hfz := hfz.wr eG64 (by simp)
    have hst := (fx.rf (o := o32) (S := [90]) (G := G60)).wr ha15 eG64 (List.mem_singleton.mpr rfl)
    have popI_0 := popI_0.wge eG64 (by omega)
    have ppaI_0 := ppaI_0.w90 hp59 ha15 hn41 eG64 (by unfold pnB; omega) (Or.inr ⟨_, rfl, hp51, by have hlt := hg9.lt; omega⟩) (Or.inr ⟨_, rfl, hpa50, by have hlt := ha33.lt; omega⟩) (Or.inl rfl)
    have hq65 := z_len eG64
    have hq66 := z_sl ha15 eG64 rfl
    have hfr := hfr.wn (show G.length ≤ a15 by have := hfr.1; omega) eG64
    have ha15 := ha15.kept eG64
    change ab_W _ _ _ (List.set G60 a15 (ab_ob 4 [vz 4, vz 0, vN, vz at_, vz flg, vR g9, vR a33, vN, vz 0, vz 0, vz 0, vz 0, vz 0, vz 0, vz (-1)])) 166 [some (vR d_), some (vz at_), some (vz 0), some (vz ins), some (vz 0), some (vR a15)] [] _
    rw [← eG64]
    refine ab_aload_n d_RD_enter_166 rfl ?_
    refine ab_aload d_RD_enter_167 rfl ?_
    refine ab_putf (fs := [vR x, vR g9, vz dp, vz flg, vz grp, vR na, vR nl, vz lst, vz mst, vz bh]) f_RD_23 (Or.inl rfl) d_RD_enter_169 hd_.2.2 (Nat.le_of_ble_eq_true rfl) (fun _ => ⟨rfl, rfl⟩) (hd_.2.1 (by decide)) ?_
    obtain ⟨G67, eG67⟩ : ∃ z : ab_G, z = List.set G64 d_ (ab_ob 6 [vR x, vR a15, vz dp, vz flg, vz grp, vR na, vR nl, vz lst, vz mst, vz bh]) := ⟨_, rfl⟩
    have hx := hx.keep hd_ eG67 (by decide)
    have hna := hna.keep hd_ eG67 (by decide)
    have hnl := hnl.keep hd_ eG67 (by decide)
    have hg9 := hg9.keep hd_ eG67 (by decide)
    have hr9 := hr9.keep hd_ eG67 (by decide)
    have ha15 := ha15.keep hd_ eG67 (by decide)
    have ha33 := ha33.keep hd_ eG67 (by decide)
    have hfz := hfz.wl ppaI_0 hd_ eG67 (by decide)
    have hst := (fx.rf (o := o32) (S := [25]) (G := G64)).wr hd_ eG67 (List.mem_singleton.mpr rfl)
    have popI_0 := opI.fr hst ppaI_0 popI_0 (by decide) (by decide)
    have ppaI_0 := paI.fr hst ppaI_0 (by decide) (by decide) (by decide) (by decide)
    have hq68 := z_len eG67
    have hq69 := z_sl hd_ eG67 rfl
    have hfr := hfr.wr hd_ eG67 (by decide)
    have hd_ := hd_.kept eG67
    change ab_W _ _ _ (List.set G64 d_ (ab_ob 6 [vR x, vR a15, vz dp, vz flg, vz grp, vR na, vR nl, vz lst, vz mst, vz bh])) 172 [some (vR d_), some (vz at_), some (vz 0), some (vz ins), some (vz 0), some (vR a15)] [] _
    rw [← eG67]
    refine ab_aload_n d_RD_enter_172 rfl ?_
    refine ab_dup d_RD_enter_173 rfl ?_
    refine ab_getf (fs := [vR x, vR a15, vz dp, vz flg, vz grp, vR na, vR nl, vz lst, vz mst, vz bh]) f_RD_45 d_RD_enter_174 hd_.2.2 rfl ?_
    refine zz_iconst d_RD_enter_177 ?_
    refine zz_iadd d_RD_enter_178 ?_
    refine ab_putf (fs := [vR x, vR a15, vz dp, vz flg, vz grp, vR na, vR nl, vz lst, vz mst, vz bh]) f_RD_45 (Or.inl rfl) d_RD_enter_179 hd_.2.2 (Nat.le_of_ble_eq_true rfl) (fun _ => ⟨rfl, rfl⟩) (hd_.2.1 (by decide)) ?_
    obtain ⟨G70, eG70⟩ : ∃ z : ab_G, z = List.set G67 d_ (ab_ob 6 [vR x, vR a15, vz (dp + 1), vz flg, vz grp, vR na, vR nl, vz lst, vz mst, vz bh]) := ⟨_, rfl⟩
    have hx := hx.keep hd_ eG70 (by decide)
    have hna := hna.keep hd_ eG70 (by decide)
    have hnl := hnl.keep hd_ eG70 (by decide)
    have hg9 := hg9.keep hd_ eG70 (by decide)
    have hr9 := hr9.keep hd_ eG70 (by decide)
    have ha15 := ha15.keep hd_ eG70 (by decide)
    have ha33 := ha33.keep hd_ eG70 (by decide)
    have hfz := hfz.wl ppaI_0 hd_ eG70 (by decide)
    have hst := (fx.rf (o := o32) (S := [25]) (G := G67)).wr hd_ eG70 (List.mem_singleton.mpr rfl)
    have popI_0 := opI.fr hst ppaI_0 popI_0 (by decide) (by decide)
    have ppaI_0 := paI.fr hst ppaI_0 (by decide) (by decide) (by decide) (by decide)
    have hq71 := z_len eG70
    have hq72 := z_sl hd_ eG70 rfl
    have hfr := hfr.wr hd_ eG70 (by decide)
    have hd_ := hd_.kept eG70
    change ab_W _ _ _ (List.set G67 d_ (ab_ob 6 [vR x, vR a15, vz (dp + 1), vz flg, vz grp, vR na, vR nl, vz lst, vz mst, vz bh])) 182 [some (vR d_), some (vz at_), some (vz 0), some (vz ins), some (vz 0), some (vR a15)] [] _
    rw [← eG70]
    refine ab_aload_n d_RD_enter_182 rfl ?_
    refine ab_iload_n d_RD_enter_183 rfl ?_
    refine ab_putf (fs := [vR x, vR a15, vz (dp + 1), vz flg, vz grp, vR na, vR nl, vz lst, vz mst, vz bh]) f_RD_38 (Or.inl rfl) d_RD_enter_184 hd_.2.2 (Nat.le_of_ble_eq_true rfl) (fun _ => ⟨rfl, rfl⟩) (hd_.2.1 (by decide)) ?_
    obtain ⟨G73, eG73⟩ : ∃ z : ab_G, z = List.set G70 d_ (ab_ob 6 [vR x, vR a15, vz (dp + 1), vz ins, vz grp, vR na, vR nl, vz lst, vz mst, vz bh]) := ⟨_, rfl⟩
    have hx := hx.keep hd_ eG73 (by decide)
    have hna := hna.keep hd_ eG73 (by decide)
    have hnl := hnl.keep hd_ eG73 (by decide)
    have hg9 := hg9.keep hd_ eG73 (by decide)
    have hr9 := hr9.keep hd_ eG73 (by decide)
    have ha15 := ha15.keep hd_ eG73 (by decide)
    have ha33 := ha33.keep hd_ eG73 (by decide)
    have hfz := hfz.wl ppaI_0 hd_ eG73 (by decide)
    have hst := (fx.rf (o := o32) (S := [25]) (G := G70)).wr hd_ eG73 (List.mem_singleton.mpr rfl)
    have popI_0 := opI.fr hst ppaI_0 popI_0 (by decide) (by decide)
    have ppaI_0 := paI.fr hst ppaI_0 (by decide) (by decide) (by decide) (by decide)
    have hq74 := z_len eG73
    have hq75 := z_sl hd_ eG73 rfl
    have hfr := hfr.wr hd_ eG73 (by decide)
    have hd_ := hd_.kept eG73
    change ab_W _ _ _ (List.set G70 d_ (ab_ob 6 [vR x, vR a15, vz (dp + 1), vz ins, vz grp, vR na, vR nl, vz lst, vz mst, vz bh])) 187 [some (vR d_), some (vz at_), some (vz 0), some (vz ins), some (vz 0), some (vR a15)] [] _
    rw [← eG73]
    have popI_0 : opI o32 G73 0 ps50 (k + 1) G73.length (vR a15) := ⟨a15, a33, (vR g9), (vN), rfl, ⟨hp59, hpa50⟩, ⟨by omega, by omega⟩, by unfold pf; rw [ha15.2.2]; rfl, by unfold pf; rw [ha15.2.2]; rfl, by unfold pf; rw [ha33.2.2]; rfl, (Or.inl rfl), (opn_up popI_0 (by omega))⟩
    have pszJ_0 : szJ o32 G73 0 ps50 ((at_, flg, 0, 0, 0) :: fr) G73.length (vR a15) wh 0 0 := szJ.entC hsz9 hnfg_ hnfr_ hnog_ hnor_ (fun x h1 h2 => (hxo50 x h2).trans (hxo41 x h1)) hp59 hpa50 hfz ha15 ha33 (by omega) (by first | rfl | (unfold pin; rw [if_pos rfl, if_neg (by omega)])) (by omega) (by omega) (fun t => absurd t (by omega))
    have pdnJ_0 : dnJ o32 G73 0 ps50 wt41 ((none, mnI) :: FS) G73.length (vR a15) 0 mnI := dnJ.entC hdn9 hnfg_ hnfr_ hnog_ hnor_ (fun x h1 h2 => (hxo50 x h2).trans (hxo41 x h1)) hp59 hpa50 hfz hwo41 ha15 ha33 (by omega) (by omega) (by omega) (by omega)
    refine ab_vret rfl d_RD_enter_187 ?_
    rw [hQ]; exact (Or.inr ⟨_, _, _, _, _, _, _, rfl, hfr, hd_, hx, hna, hnl, ppaI_0, popI_0, pszJ_0, pdnJ_0, (by omega), (by omega), (by exact hnm), (by omega), (by exact (hx41.tr hx50 (by omega)).lt (by omega)), (by omega), (by omega), (by omega)⟩)
set_option maxRecDepth 100000 in
set_option maxHeartbeats 4000000 in
theorem z_RD_close {X : ab_X} {d : Nat} {o : Nat → Nat} {G : ab_G} {d_ : Nat} {inn : Value} {dp : Int} {flg : Int} {grp : Int} {na : Nat} {nl : Nat} {lst : Int} {mst : Int} {bh : Int} {x : Nat} {se : Nat} {by_ : Nat} {n : Int} {pl : Int} {fa : Int} {fp : Int} {kd : Nat} {kn : Int} {ps : Nat → Nat} {wt : Nat → Wt} {bs : Nat} {ph : Int} {k : Nat} {hi : Nat} {wh : Nat} {fr : List Fr} {FS : List Fs} (hd_ : cc o G d_ 25 (ab_ob 6 [vR x, inn, vz dp, vz flg, vz grp, vR na, vR nl, vz lst, vz mst, vz bh])) (hx : cc o G x 24 (ab_ob 10 [vR se, vR by_, vz n, vz pl, vz fa, vz fp, vR kd, vz kn])) (ppaI_0 : paI o G 0 ps wt bs grp pr0 ph) (popI_0 : opI o G 0 ps k hi inn) (pszJ_0 : szJ o G 0 ps fr hi inn wh 0 0) (pdnJ_0 : dnJ o G 0 ps wt FS hi inn 0 mnI) (hkf : k = fr.length) (hks : k = FS.length) (n18 : ab_n0 = 18) (cf : 0 ≤ flg ∧ flg ≤ 31) (cg : 0 ≤ grp ∧ grp ≤ 9) (ck : 0 ≤ dp ∧ dp ≤ 30 ∧ ↑k = dp + 1 ∧ hi ≤ G.length) (cfa : fa = 0) (cp : 0 ≤ pl ∧ pl ≤ 2000) (hd : 3 ≤ d) : ab_F X d y_RD_close (.code y_RD_close b_RD_close 2 (some (.object "PatternWorks$Part"))) [vR d_] G (fun oc G2 => (∃ inn2 : Value, ∃ dp2 : Int, ∃ flg2 : Int, ∃ p2 : Int, ∃ fa2 : Int, ∃ fp2 : Int, ∃ k2 : Nat, ∃ hi2 : Nat, oc = .returned (some (vN)) ∧ fx o o [24, 25, 90] G G2 ∧ G2.length = G.length ∧ ab_slots G2 = ab_slots G ∧ cc o G2 d_ 25 (ab_ob 6 [vR x, inn2, vz dp2, vz flg2, vz grp, vR na, vR nl, vz lst, vz mst, vz bh]) ∧ cc o G2 x 24 (ab_ob 10 [vR se, vR by_, vz n, vz p2, vz fa2, vz fp2, vR kd, vz kn]) ∧ paI o G2 0 ps wt bs grp pr0 ph ∧ opI o G2 0 ps k2 hi2 inn2 ∧ szJ o G2 0 ps fr hi2 inn2 wh 0 0 ∧ dnJ o G2 0 ps wt FS hi2 inn2 0 mnI ∧ (fa2 = 3 ∧ fp2 = pl) ∧ (dp = 0) ∧ (k2 = k) ∧ (0 ≤ flg2 ∧ flg2 ≤ 31) ∧ (0 ≤ dp2 ∧ dp2 ≤ 30 ∧ ↑k2 = dp2 + 1) ∧ (0 ≤ fa2 ∧ fa2 ≤ 14) ∧ (pl ≤ p2 ∧ p2 ≤ pl + 1) ∧ (hi2 ≤ G2.length)) ∨ (∃ p : Nat, ∃ a1_ : Int, ∃ b1_ : Int, ∃ c1_ : Int, ∃ d1_ : Int, ∃ e1_ : Int, ∃ t_ : List Fr, ∃ ao_ : Option Sn, ∃ ro_ : Sn, ∃ ts_ : List Fs, ∃ inn2 : Value, ∃ dp2 : Int, ∃ flg2 : Int, ∃ p2 : Int, ∃ fa2 : Int, ∃ fp2 : Int, ∃ k2 : Nat, oc = .returned (some (vR p)) ∧ fx o o [24, 25, 90] G G2 ∧ G2.length = G.length ∧ ab_slots G2 = ab_slots G ∧ cc o G2 d_ 25 (ab_ob 6 [vR x, inn2, vz dp2, vz flg2, vz grp, vR na, vR nl, vz lst, vz mst, vz bh]) ∧ cc o G2 x 24 (ab_ob 10 [vR se, vR by_, vz n, vz p2, vz fa2, vz fp2, vR kd, vz kn]) ∧ paI o G2 0 ps wt bs grp pr0 ph ∧ opI o G2 0 ps k2 p inn2 ∧ szJ o G2 0 ps t_ p inn2 wh p (pin 4 c1_ + e1_ + d1_) ∧ dnJ o G2 0 ps wt ts_ p inn2 p (mnG c1_ (opO ao_ ro_)) ∧ (fr = (a1_, b1_, c1_, d1_, e1_) :: t_) ∧ (FS = (ao_, ro_) :: ts_) ∧ (flg2 = b1_) ∧ (k = k2 + 1) ∧ (p2 = pl + 1) ∧ (fa2 = 0) ∧ (fp2 = fp) ∧ (0 ≤ flg2 ∧ flg2 ≤ 31) ∧ (0 ≤ dp2 ∧ dp2 ≤ 30 ∧ ↑k2 = dp2 + 1) ∧ (0 ≤ fa2 ∧ fa2 ≤ 14) ∧ (pl ≤ p2 ∧ p2 ≤ pl + 1) ∧ (ps p = 90) ∧ (p < G2.length))) := by
  refine ab_F_of (by decide +kernel) (Nat.le_of_ble_eq_true rfl) ?_
  obtain ⟨Q, hQ⟩ : ∃ z : Outcome → ab_G → Prop, z = (fun oc G2 => (∃ inn2 : Value, ∃ dp2 : Int, ∃ flg2 : Int, ∃ p2 : Int, ∃ fa2 : Int, ∃ fp2 : Int, ∃ k2 : Nat, ∃ hi2 : Nat, oc = .returned (some (vN)) ∧ fx o o [24, 25, 90] G G2 ∧ G2.length = G.length ∧ ab_slots G2 = ab_slots G ∧ cc o G2 d_ 25 (ab_ob 6 [vR x, inn2, vz dp2, vz flg2, vz grp, vR na, vR nl, vz lst, vz mst, vz bh]) ∧ cc o G2 x 24 (ab_ob 10 [vR se, vR by_, vz n, vz p2, vz fa2, vz fp2, vR kd, vz kn]) ∧ paI o G2 0 ps wt bs grp pr0 ph ∧ opI o G2 0 ps k2 hi2 inn2 ∧ szJ o G2 0 ps fr hi2 inn2 wh 0 0 ∧ dnJ o G2 0 ps wt FS hi2 inn2 0 mnI ∧ (fa2 = 3 ∧ fp2 = pl) ∧ (dp = 0) ∧ (k2 = k) ∧ (0 ≤ flg2 ∧ flg2 ≤ 31) ∧ (0 ≤ dp2 ∧ dp2 ≤ 30 ∧ ↑k2 = dp2 + 1) ∧ (0 ≤ fa2 ∧ fa2 ≤ 14) ∧ (pl ≤ p2 ∧ p2 ≤ pl + 1) ∧ (hi2 ≤ G2.length)) ∨ (∃ p : Nat, ∃ a1_ : Int, ∃ b1_ : Int, ∃ c1_ : Int, ∃ d1_ : Int, ∃ e1_ : Int, ∃ t_ : List Fr, ∃ ao_ : Option Sn, ∃ ro_ : Sn, ∃ ts_ : List Fs, ∃ inn2 : Value, ∃ dp2 : Int, ∃ flg2 : Int, ∃ p2 : Int, ∃ fa2 : Int, ∃ fp2 : Int, ∃ k2 : Nat, oc = .returned (some (vR p)) ∧ fx o o [24, 25, 90] G G2 ∧ G2.length = G.length ∧ ab_slots G2 = ab_slots G ∧ cc o G2 d_ 25 (ab_ob 6 [vR x, inn2, vz dp2, vz flg2, vz grp, vR na, vR nl, vz lst, vz mst, vz bh]) ∧ cc o G2 x 24 (ab_ob 10 [vR se, vR by_, vz n, vz p2, vz fa2, vz fp2, vR kd, vz kn]) ∧ paI o G2 0 ps wt bs grp pr0 ph ∧ opI o G2 0 ps k2 p inn2 ∧ szJ o G2 0 ps t_ p inn2 wh p (pin 4 c1_ + e1_ + d1_) ∧ dnJ o G2 0 ps wt ts_ p inn2 p (mnG c1_ (opO ao_ ro_)) ∧ (fr = (a1_, b1_, c1_, d1_, e1_) :: t_) ∧ (FS = (ao_, ro_) :: ts_) ∧ (flg2 = b1_) ∧ (k = k2 + 1) ∧ (p2 = pl + 1) ∧ (fa2 = 0) ∧ (fp2 = fp) ∧ (0 ≤ flg2 ∧ flg2 ≤ 31) ∧ (0 ≤ dp2 ∧ dp2 ≤ 30 ∧ ↑k2 = dp2 + 1) ∧ (0 ≤ fa2 ∧ fa2 ≤ 14) ∧ (pl ≤ p2 ∧ p2 ≤ pl + 1) ∧ (ps p = 90) ∧ (p < G2.length))) := ⟨_, rfl⟩
  rw [← hQ]
  change ab_W X (ab_pl y_RD_close b_RD_close 2 (some (.object "PatternWorks$Part"))) d G 0 [some (vR d_), none] [] Q
  have hfr : fx o o [24, 25, 90] G G := fx.rf
  have hlen : G.length = G.length := rfl
  have hsl : ab_slots G = ab_slots G := rfl
  obtain ⟨j1, hj1⟩ : ∃ j, k = j + 1 := ⟨k - 1, by omega⟩
  rw [hj1] at popI_0
  obtain ⟨g1, r1, w1, lv1, hv1, ⟨hpg1, hpr1⟩, ⟨hgl1, hrl1⟩, hf61, hf51, hr61, hlv1, hop1⟩ := popI_0
  subst hv1
  obtain ⟨k_2, v_2, rg_2, pl_2, fl_2, ou_2, ls_2, bf_2, sz_2, mb_2, oe_2, le_2, mo_2, la_2, rc_2, hg1, hn2, hb2, hg2, ho2, hl2, hf2⟩ := ppaI_0.1 g1 hpg1
  have hB2 := hb2
  unfold pnB at hB2
  have hK2 := hn2.1
  obtain ⟨ls3, bf3, sz3, mb3, hr1, hB3, hl3, hf3⟩ := ppaI_0.2.1 r1 hpr1
  have e61 : some ls_2 = some (vR r1) := by have t := hf61; unfold pf at t; rw [hg1.2.2] at t; exact t
  have e61 := Option.some.inj e61
  subst e61
  have e51 : some ou_2 = some w1 := by have t := hf51; unfold pf at t; rw [hg1.2.2] at t; exact t
  have e51 := Option.some.inj e51
  subst e51
  have e71 : some ls3 = some lv1 := by have t := hr61; unfold pf at t; rw [hr1.2.2] at t; exact t
  have e71 := Option.some.inj e71
  subst e71
  have popI_0 : opI o G 0 ps j1 g1 ou_2 := hop1
  have hnq1 : nq g1 r1 := hg1.ne hr1 (by decide)
  change ab_W _ _ _ G 0 [some (vR d_), none] [] _
  refine ab_aload_n d_RD_close_0 rfl ?_
  refine ab_getf (fs := [vR x, vR g1, vz dp, vz flg, vz grp, vR na, vR nl, vz lst, vz mst, vz bh]) f_RD_23 d_RD_close_1 hd_.2.2 rfl ?_
  refine ab_getf (fs := [vz k_2, vz v_2, rg_2, vz pl_2, vz fl_2, ou_2, vR r1, bf_2, vz sz_2, vz mb_2, vz oe_2, vz le_2, vz mo_2, vz la_2, vz rc_2]) f_RD_172 d_RD_close_4 hg1.2.2 rfl ?_
  change ab_W _ _ _ G 7 [some (vR d_), none] [ou_2] _
  rcases ho2 with hz5 | ⟨b4, hz5, hp6, hl7⟩
  · subst hz5
    change ab_W _ _ _ G 7 [some (vR d_), none] [vN] _
    refine ab_ifnonnullN d_RD_close_7 ?_
    have hk0_ := opn_nul popI_0
    have popI_0 : opI o G 0 ps (j1 + 1) hi (vR g1) := ⟨g1, r1, (vN), ls3, rfl, ⟨hpg1, hpr1⟩, ⟨by omega, by omega⟩, by unfold pf; rw [hg1.2.2]; rfl, by unfold pf; rw [hg1.2.2]; rfl, by unfold pf; rw [hr1.2.2]; rfl, (hlv1.up (by omega)), popI_0⟩
    rw [← hj1] at popI_0
    refine ab_aload_n d_RD_close_10 rfl ?_
    refine ab_getf (fs := [vR x, vR g1, vz dp, vz flg, vz grp, vR na, vR nl, vz lst, vz mst, vz bh]) f_RD_12 d_RD_close_11 hd_.2.2 rfl ?_
    refine zz_iconst d_RD_close_14 ?_
    refine ab_aload_n d_RD_close_15 rfl ?_
    refine ab_getf (fs := [vR x, vR g1, vz dp, vz flg, vz grp, vR na, vR nl, vz lst, vz mst, vz bh]) f_RD_12 d_RD_close_16 hd_.2.2 rfl ?_
    refine ab_getf (fs := [vR se, vR by_, vz n, vz pl, vz fa, vz fp, vR kd, vz kn]) f_RD_55 d_RD_close_19 hx.2.2 rfl ?_
    refine ab_callV (d' := d - 1) (as := [vz 3, vz pl]) (st := []) (r := _) (z_TX_fail (o := o) (x := x) (lx := 24) (se := se) (by_ := by_) (n := n) (pl := pl) (fa := fa) (fp := fp) (kd := kd) (kn := kn) (w := 3) (p := pl) hx (by omega) (by omega) (by omega)) (fun oc G2 h => by rcases h with ⟨h, _⟩ | ⟨h, _⟩ <;> exact ⟨_, h⟩) (by omega) m_TX_fail ml_RD_69 im_TX_fail se_TX_fail c_TX hx.2.2 (Nat.le_of_ble_eq_true rfl) d_RD_close_22 rfl ?_
    intro v G8 hq
    rcases hq with ⟨hv, hfk, hlk, hsk, hNx, hq9⟩ | ⟨hv, hGe, hq10⟩
    · cases hv
      have hd_ := hfk.get hd_ (by decide)
      have hg1 := hfk.get hg1 (by decide)
      have hr1 := hfk.get hr1 (by decide)
      have pszJ_0 := szJ.fr hfk ppaI_0 pszJ_0 (by decide) (by decide)
      have pdnJ_0 := dnJ.fr hfk ppaI_0 pdnJ_0 (by decide) (by decide)
      have popI_0 := opI.fr hfk ppaI_0 popI_0 (by decide) (by decide)
      have ppaI_0 := paI.fr hfk ppaI_0 (by decide) (by decide) (by decide) (by decide)
      have hfr := hfr.tr hfk (by decide)
      have hlen := hlk.trans hlen
      have hsl := hsk.trans hsl
      have hx := hNx
      change ab_W _ _ _ G8 25 [some (vR d_), none] [vz (-1)] _
      refine ab_pop d_RD_close_25 rfl ?_
      refine ab_null d_RD_close_26 ?_
      refine ab_aret (rt := _) rfl (Or.inl ⟨_, rfl⟩) (Or.inl rfl) d_RD_close_27 ?_
      rw [hQ]; exact (Or.inl ⟨_, _, _, _, _, _, _, _, rfl, hfr, hlen, hsl, hd_, hx, ppaI_0, popI_0, pszJ_0, pdnJ_0, (by omega), (by omega), (by omega), (by omega), (by omega), (by omega), (by omega), (by omega)⟩)
    · cases hv
      rw [hGe]
      change ab_W _ _ _ G 25 [some (vR d_), none] [vz (-1)] _
      exfalso; omega
  · subst hz5
    change ab_W _ _ _ G 7 [some (vR d_), none] [vR b4] _
    refine ab_ifnonnull (tgt := 28) d_RD_close_7 (by decide) ?_
    have hkp := opn_pos popI_0
    refine ab_aload_n d_RD_close_28 rfl ?_
    refine ab_getf (fs := [vR x, vR g1, vz dp, vz flg, vz grp, vR na, vR nl, vz lst, vz mst, vz bh]) f_RD_23 d_RD_close_29 hd_.2.2 rfl ?_
    refine ab_astore_n d_RD_close_32 (Nat.le_of_ble_eq_true rfl) (Nat.le_of_ble_eq_true rfl) rfl ?_
    change ab_W _ _ _ G 33 [some (vR d_), some (vR g1)] [] _
    refine ab_aload_n d_RD_close_33 rfl ?_
    refine ab_aload_n d_RD_close_34 rfl ?_
    refine ab_getf (fs := [vz k_2, vz v_2, rg_2, vz pl_2, vz fl_2, vR b4, vR r1, bf_2, vz sz_2, vz mb_2, vz oe_2, vz le_2, vz mo_2, vz la_2, vz rc_2]) f_RD_172 d_RD_close_35 hg1.2.2 rfl ?_
    refine ab_putf (fs := [vR x, vR g1, vz dp, vz flg, vz grp, vR na, vR nl, vz lst, vz mst, vz bh]) f_RD_23 (Or.inl rfl) d_RD_close_38 hd_.2.2 (Nat.le_of_ble_eq_true rfl) (fun _ => ⟨rfl, rfl⟩) (hd_.2.1 (by decide)) ?_
    obtain ⟨G11, eG11⟩ : ∃ z : ab_G, z = List.set G d_ (ab_ob 6 [vR x, vR b4, vz dp, vz flg, vz grp, vR na, vR nl, vz lst, vz mst, vz bh]) := ⟨_, rfl⟩
    have hx := hx.keep hd_ eG11 (by decide)
    have hg1 := hg1.keep hd_ eG11 (by decide)
    have hr1 := hr1.keep hd_ eG11 (by decide)
    have hst := (fx.rf (o := o) (S := [25]) (G := G)).wr hd_ eG11 (List.mem_singleton.mpr rfl)
    have pszJ_0 := szJ.fr hst ppaI_0 pszJ_0 (by decide) (by decide)
    have pdnJ_0 := dnJ.fr hst ppaI_0 pdnJ_0 (by decide) (by decide)
    have popI_0 := opI.fr hst ppaI_0 popI_0 (by decide) (by decide)
    have ppaI_0 := paI.fr hst ppaI_0 (by decide) (by decide) (by decide) (by decide)
    have hlen := (z_len eG11).trans hlen
    have hsl := (z_sl hd_ eG11 rfl).trans hsl
    have hfr := hfr.wr hd_ eG11 (by decide)
    have hd_ := hd_.kept eG11
    change ab_W _ _ _ (List.set G d_ (ab_ob 6 [vR x, vR b4, vz dp, vz flg, vz grp, vR na, vR nl, vz lst, vz mst, vz bh])) 41 [some (vR d_), some (vR g1)] [] _
    rw [← eG11]
    refine ab_aload_n d_RD_close_41 rfl ?_
    refine ab_dup d_RD_close_42 rfl ?_
    refine ab_getf (fs := [vR x, vR b4, vz dp, vz flg, vz grp, vR na, vR nl, vz lst, vz mst, vz bh]) f_RD_45 d_RD_close_43 hd_.2.2 rfl ?_
    refine zz_iconst d_RD_close_46 ?_
    refine zz_isub d_RD_close_47 ?_
    refine ab_putf (fs := [vR x, vR b4, vz dp, vz flg, vz grp, vR na, vR nl, vz lst, vz mst, vz bh]) f_RD_45 (Or.inl rfl) d_RD_close_48 hd_.2.2 (Nat.le_of_ble_eq_true rfl) (fun _ => ⟨rfl, rfl⟩) (hd_.2.1 (by decide)) ?_
    obtain ⟨G12, eG12⟩ : ∃ z : ab_G, z = List.set G11 d_ (ab_ob 6 [vR x, vR b4, vz (dp - 1), vz flg, vz grp, vR na, vR nl, vz lst, vz mst, vz bh]) := ⟨_, rfl⟩
    have hx := hx.keep hd_ eG12 (by decide)
    have hg1 := hg1.keep hd_ eG12 (by decide)
    have hr1 := hr1.keep hd_ eG12 (by decide)
    have hst := (fx.rf (o := o) (S := [25]) (G := G11)).wr hd_ eG12 (List.mem_singleton.mpr rfl)
    have pszJ_0 := szJ.fr hst ppaI_0 pszJ_0 (by decide) (by decide)
    have pdnJ_0 := dnJ.fr hst ppaI_0 pdnJ_0 (by decide) (by decide)
    have popI_0 := opI.fr hst ppaI_0 popI_0 (by decide) (by decide)
    have ppaI_0 := paI.fr hst ppaI_0 (by decide) (by decide) (by decide) (by decide)
    have hlen := (z_len eG12).trans hlen
    have hsl := (z_sl hd_ eG12 rfl).trans hsl
    have hfr := hfr.wr hd_ eG12 (by decide)
    have hd_ := hd_.kept eG12
    change ab_W _ _ _ (List.set G11 d_ (ab_ob 6 [vR x, vR b4, vz (dp - 1), vz flg, vz grp, vR na, vR nl, vz lst, vz mst, vz bh])) 51 [some (vR d_), some (vR g1)] [] _
    rw [← eG12]
    refine ab_aload_n d_RD_close_51 rfl ?_
    refine ab_getf (fs := [vR x, vR b4, vz (dp - 1), vz flg, vz grp, vR na, vR nl, vz lst, vz mst, vz bh]) f_RD_12 d_RD_close_52 hd_.2.2 rfl ?_
    refine ab_dup d_RD_close_55 rfl ?_
    refine ab_getf (fs := [vR se, vR by_, vz n, vz pl, vz fa, vz fp, vR kd, vz kn]) f_RD_55 d_RD_close_56 hx.2.2 rfl ?_
    refine zz_iconst d_RD_close_59 ?_
    refine zz_iadd d_RD_close_60 ?_
    refine ab_putf (fs := [vR se, vR by_, vz n, vz pl, vz fa, vz fp, vR kd, vz kn]) f_RD_55 (Or.inl rfl) d_RD_close_61 hx.2.2 (Nat.le_of_ble_eq_true rfl) (fun _ => ⟨rfl, rfl⟩) (hx.2.1 (by decide)) ?_
    obtain ⟨G13, eG13⟩ : ∃ z : ab_G, z = List.set G12 x (ab_ob 10 [vR se, vR by_, vz n, vz (pl + 1), vz fa, vz fp, vR kd, vz kn]) := ⟨_, rfl⟩
    have hd_ := hd_.keep hx eG13 (by decide)
    have hg1 := hg1.keep hx eG13 (by decide)
    have hr1 := hr1.keep hx eG13 (by decide)
    have hst := (fx.rf (o := o) (S := [24]) (G := G12)).wr hx eG13 (List.mem_singleton.mpr rfl)
    have pszJ_0 := szJ.fr hst ppaI_0 pszJ_0 (by decide) (by decide)
    have pdnJ_0 := dnJ.fr hst ppaI_0 pdnJ_0 (by decide) (by decide)
    have popI_0 := opI.fr hst ppaI_0 popI_0 (by decide) (by decide)
    have ppaI_0 := paI.fr hst ppaI_0 (by decide) (by decide) (by decide) (by decide)
    have hlen := (z_len eG13).trans hlen
    have hsl := (z_sl hx eG13 rfl).trans hsl
    have hfr := hfr.wr hx eG13 (by decide)
    have hx := hx.kept eG13
    change ab_W _ _ _ (List.set G12 x (ab_ob 10 [vR se, vR by_, vz n, vz (pl + 1), vz fa, vz fp, vR kd, vz kn])) 64 [some (vR d_), some (vR g1)] [] _
    rw [← eG13]
    refine ab_aload_n d_RD_close_64 rfl ?_
    refine ab_aload_n d_RD_close_65 rfl ?_
    refine ab_getf (fs := [vz k_2, vz v_2, rg_2, vz pl_2, vz fl_2, vR b4, vR r1, bf_2, vz sz_2, vz mb_2, vz oe_2, vz le_2, vz mo_2, vz la_2, vz rc_2]) f_RD_169 d_RD_close_66 hg1.2.2 rfl ?_
    refine ab_putf (fs := [vR x, vR b4, vz (dp - 1), vz flg, vz grp, vR na, vR nl, vz lst, vz mst, vz bh]) f_RD_38 (Or.inl rfl) d_RD_close_69 hd_.2.2 (Nat.le_of_ble_eq_true rfl) (fun _ => ⟨rfl, rfl⟩) (hd_.2.1 (by decide)) ?_
    obtain ⟨G14, eG14⟩ : ∃ z : ab_G, z = List.set G13 d_ (ab_ob 6 [vR x, vR b4, vz (dp - 1), vz fl_2, vz grp, vR na, vR nl, vz lst, vz mst, vz bh]) := ⟨_, rfl⟩
    have hx := hx.keep hd_ eG14 (by decide)
    have hg1 := hg1.keep hd_ eG14 (by decide)
    have hr1 := hr1.keep hd_ eG14 (by decide)
    have hst := (fx.rf (o := o) (S := [25]) (G := G13)).wr hd_ eG14 (List.mem_singleton.mpr rfl)
    have pszJ_0 := szJ.fr hst ppaI_0 pszJ_0 (by decide) (by decide)
    have pdnJ_0 := dnJ.fr hst ppaI_0 pdnJ_0 (by decide) (by decide)
    have popI_0 := opI.fr hst ppaI_0 popI_0 (by decide) (by decide)
    have ppaI_0 := paI.fr hst ppaI_0 (by decide) (by decide) (by decide) (by decide)
    have hlen := (z_len eG14).trans hlen
    have hsl := (z_sl hd_ eG14 rfl).trans hsl
    have hfr := hfr.wr hd_ eG14 (by decide)
    have hd_ := hd_.kept eG14
    change ab_W _ _ _ (List.set G13 d_ (ab_ob 6 [vR x, vR b4, vz (dp - 1), vz fl_2, vz grp, vR na, vR nl, vz lst, vz mst, vz bh])) 72 [some (vR d_), some (vR g1)] [] _
    rw [← eG14]
    obtain ⟨a1_, b1_, c1_, d1_, e1_, t_, hft_⟩ := pszJ_0.hd (by omega)
    rw [hft_] at pszJ_0
    obtain ⟨cu, hsx_, hso_, hfm_, -⟩ := pszJ_0
    obtain ⟨ao_, ro_, ts_, hfs_⟩ := pdnJ_0.hd (by omega)
    rw [hfs_] at pdnJ_0
    obtain ⟨cs_, hdx_, hfq_, -⟩ := pdnJ_0
    have hg9 := hg1
    have hpa9 := ppaI_0
    have hfz : fz ps [g1] G14 G14 := fz.rf
    refine ab_aload_n d_RD_close_72 rfl ?_
    refine ab_callV (d' := d - 1) (as := []) (st := []) (r := _) (z_PA_closeRows (o := o) (k := k_2) (v := v_2) (rg := rg_2) (pl := pl_2) (fl := fl_2) (ou := vR b4) (ls := vR r1) (bf := bf_2) (sz := sz_2) (mb := mb_2) (oe := oe_2) (le := le_2) (mo := mo_2) (la := la_2) (rc := rc_2) (ps := ps) (wt := wt) (bs := bs) (ph := ph) (gr := grp) (Pr := pr0) (p := g1) (cu := cu) (eu := (euc cs_)) hg1 ppaI_0 (by omega) hpg1 hn2 (by omega) (Or.inr ⟨_, rfl, hp6, by omega⟩) (Or.inr ⟨_, rfl, hpr1, by have hlt := hr1.lt; omega⟩) (hf2.up (by omega)) hsx_.rqs hsx_.1 hdx_.reu (by omega)) (fun oc G2 h => by rcases h with ⟨_, _, h, _⟩ <;> exact ⟨_, h⟩) (by omega) m_PA_closeRows ml_RD_73 im_PA_closeRows se_PA_closeRows c_PA hg1.2.2 (Nat.le_of_ble_eq_true rfl) d_RD_close_73 rfl ?_
    intro v G15 hq
    rcases hq with ⟨sz216, mb217, hv, hfk, hlk, hsk, hNg1, pNpaI_0, hq18, hq19, hq20, hq21⟩
    cases hv
    have hd_ := hfk.get hd_ (by decide)
    have hx := hfk.get hx (by decide)
    have hr1 := hfk.get hr1 (by decide)
    have hfz := hfz.tr hq19 (by simp)
    have popI_0 := popI_0.fz (o2 := o) hq19 (by intro y hy; simp only [List.mem_cons, List.not_mem_nil, or_false] at hy; omega)
    have ppaI_0 := pNpaI_0
    have hfr := hfr.tr hfk (by decide)
    have hlen := hlk.trans hlen
    have hsl := hsk.trans hsl
    have hg1 := hNg1
    change ab_W _ _ _ G15 76 [some (vR d_), some (vR g1)] [] _
    refine ab_aload_n d_RD_close_76 rfl ?_
    have pszJ_0 : szJ o G15 0 ps t_ g1 (vR b4) wh g1 (pin 4 c1_ + e1_ + d1_) := hsx_.cloJC hso_ hfm_ hpa9 hfz hg9 hg1 (by omega) (by omega) (by omega) hq20
    have pdnJ_0 : dnJ o G15 0 ps wt ts_ g1 (vR b4) g1 (mnG c1_ (opO ao_ ro_)) := hdx_.cloC hfq_ hsx_ hso_ hfm_ hfz hg9 hg1 (by omega) (by omega) (by omega) (by omega) hq20 hq21
    refine ab_aret (rt := _) rfl (Or.inl ⟨_, rfl⟩) (Or.inr ⟨_, rfl⟩) d_RD_close_77 ?_
    rw [hQ]; exact (Or.inr ⟨_, _, _, _, _, _, _, _, _, _, _, _, _, _, _, _, _, rfl, hfr, hlen, hsl, hd_, hx, ppaI_0, popI_0, pszJ_0, pdnJ_0, (by exact hft_), (by exact hfs_), (by exact frm_fo hfm_ hg9 (by omega)), (by omega), (by omega), (by omega), (by omega), (by omega), (by omega), (by omega), (by omega), (by exact hpg1), (by have hlt := hg1.lt; omega)⟩)
set_option maxRecDepth 100000 in
set_option maxHeartbeats 4000000 in
theorem z_RD_append {X : ab_X} {d : Nat} {o : Nat → Nat} {G : ab_G} {d_ : Nat} {inn : Value} {dp : Int} {flg : Int} {grp : Int} {na : Nat} {nl : Nat} {lst : Int} {mst : Int} {bh : Int} {x : Nat} {se : Nat} {by_ : Nat} {m : Nat} {f : Int → Int} {n : Int} {pl : Int} {fa : Int} {fp : Int} {kd : Nat} {kn : Int} {ps : Nat → Nat} {wt : Nat → Wt} {bs : Nat} {ph : Int} {k : Nat} {wh : Nat} {fr : List Fr} {FS : List Fs} {p : Nat} {psz : Int} {ov : Sn} (hd_ : cc o G d_ 25 (ab_ob 6 [vR x, inn, vz dp, vz flg, vz grp, vR na, vR nl, vz lst, vz mst, vz bh])) (hx : cc o G x 24 (ab_ob 10 [vR se, vR by_, vz n, vz pl, vz fa, vz fp, vR kd, vz kn])) (hby_ : cc o G by_ 23 (za m f)) (ppaI_0 : paI o G 0 ps wt bs grp pr0 ph) (popI_0 : opI o G 0 ps k p inn) (pszJ_0 : szJ o G 0 ps fr p inn wh p psz) (pdnJ_0 : dnJ o G 0 ps wt FS p inn p ov) (hkf : k = fr.length) (hks : k = FS.length) (n18 : ab_n0 = 18) (cn_ : 0 ≤ n ∧ n ≤ ↑m ∧ m ≤ 2000) (hb : bytes f n) (cf : 0 ≤ flg ∧ flg ≤ 31) (cg : 0 ≤ grp ∧ grp ≤ 9) (ck : 0 ≤ dp ∧ dp ≤ 30 ∧ ↑k = dp + 1) (cp : 0 ≤ pl ∧ pl ≤ 9000) (cfa : fa = 0) (hpp : ps p = 90) (hd : 4 ≤ d) : ab_F X d y_RD_append (.code y_RD_append b_RD_append 6 none) [vR d_, vR p] G (fun oc G2 => (∃ lst2 : Int, ∃ mst2 : Int, ∃ bh2 : Int, ∃ a1_ : Int, ∃ b1_ : Int, ∃ c1_ : Int, ∃ d1_ : Int, ∃ e1_ : Int, ∃ t_ : List Fr, ∃ ao_ : Option Sn, ∃ ro_ : Sn, ∃ ts_ : List Fs, ∃ inn2 : Value, ∃ hi2 : Nat, oc = .returned none ∧ fx o o [24, 25, 90, 94] G G2 ∧ G2.length = G.length ∧ ab_slots G2 = ab_slots G ∧ cc o G2 d_ 25 (ab_ob 6 [vR x, inn2, vz dp, vz flg, vz grp, vR na, vR nl, vz lst2, vz mst2, vz bh2]) ∧ cc o G2 x 24 (ab_ob 10 [vR se, vR by_, vz n, vz pl, vz 9, vz pl, vR kd, vz kn]) ∧ paI o G2 0 ps wt bs grp pr0 ph ∧ opI o G2 0 ps k hi2 inn2 ∧ szJ o G2 0 ps fr hi2 inn2 wh 0 0 ∧ dnJ o G2 0 ps wt FS hi2 inn2 0 mnI ∧ (fr = (a1_, b1_, c1_, d1_, e1_) :: t_) ∧ (FS = (ao_, ro_) :: ts_) ∧ (repR f n pl lst2 mst2 bh2 1) ∧ (tooR lst2 mst2) ∧ (hi2 ≤ G2.length)) ∨ (∃ lst2 : Int, ∃ mst2 : Int, ∃ bh2 : Int, ∃ a1_ : Int, ∃ b1_ : Int, ∃ c1_ : Int, ∃ d1_ : Int, ∃ e1_ : Int, ∃ t_ : List Fr, ∃ ao_ : Option Sn, ∃ ro_ : Sn, ∃ ts_ : List Fs, ∃ p2 : Int, ∃ kd9 : Int, ∃ inn2 : Value, ∃ hi2 : Nat, oc = .returned none ∧ fx o o [24, 25, 90, 94] G G2 ∧ G2.length = G.length ∧ ab_slots G2 = ab_slots G ∧ cc o G2 d_ 25 (ab_ob 6 [vR x, inn2, vz dp, vz flg, vz grp, vR na, vR nl, vz lst2, vz mst2, vz bh2]) ∧ cc o G2 x 24 (ab_ob 10 [vR se, vR by_, vz n, vz p2, vz fa, vz fp, vR kd, vz kn]) ∧ paI o G2 0 ps wt bs grp pr0 ph ∧ opI o G2 0 ps k hi2 inn2 ∧ szJ o G2 0 ps ((a1_, b1_, c1_, d1_, (e1_ + (tms lst2 mst2 * psz + mre lst2 mst2))) :: t_) hi2 inn2 wh 0 0 ∧ dnJ o G2 0 ps wt ((ao_, (mnC ro_ (mnR lst2 mst2 (lzR f n bh2 flg) ov))) :: ts_) hi2 inn2 0 mnI ∧ (fr = (a1_, b1_, c1_, d1_, e1_) :: t_) ∧ (FS = (ao_, ro_) :: ts_) ∧ (repR f n pl lst2 mst2 bh2 kd9) ∧ (¬ (kd9 = 1 ∧ tooR lst2 mst2)) ∧ (askR f n bh2 p2) ∧ (pl < p2 ∧ p2 ≤ n) ∧ (hi2 ≤ G2.length)) ∨ (∃ lst2 : Int, ∃ mst2 : Int, ∃ bh2 : Int, ∃ a1_ : Int, ∃ b1_ : Int, ∃ c1_ : Int, ∃ d1_ : Int, ∃ e1_ : Int, ∃ t_ : List Fr, ∃ ao_ : Option Sn, ∃ ro_ : Sn, ∃ ts_ : List Fs, ∃ inn2 : Value, ∃ hi2 : Nat, oc = .returned none ∧ fx o o [24, 25, 90, 94] G G2 ∧ G2.length = G.length ∧ ab_slots G2 = ab_slots G ∧ cc o G2 d_ 25 (ab_ob 6 [vR x, inn2, vz dp, vz flg, vz grp, vR na, vR nl, vz lst2, vz mst2, vz bh2]) ∧ cc o G2 x 24 (ab_ob 10 [vR se, vR by_, vz n, vz pl, vz fa, vz fp, vR kd, vz kn]) ∧ paI o G2 0 ps wt bs grp pr0 ph ∧ opI o G2 0 ps k hi2 inn2 ∧ szJ o G2 0 ps ((a1_, b1_, c1_, d1_, (e1_ + (tms 1 1 * psz + mre 1 1))) :: t_) hi2 inn2 wh 0 0 ∧ dnJ o G2 0 ps wt ((ao_, (mnC ro_ ov)) :: ts_) hi2 inn2 0 mnI ∧ (fr = (a1_, b1_, c1_, d1_, e1_) :: t_) ∧ (FS = (ao_, ro_) :: ts_) ∧ (norp f n pl) ∧ (hi2 ≤ G2.length))) := by
  refine ab_F_of (by decide +kernel) (Nat.le_of_ble_eq_true rfl) ?_
  obtain ⟨Q, hQ⟩ : ∃ z : Outcome → ab_G → Prop, z = (fun oc G2 => (∃ lst2 : Int, ∃ mst2 : Int, ∃ bh2 : Int, ∃ a1_ : Int, ∃ b1_ : Int, ∃ c1_ : Int, ∃ d1_ : Int, ∃ e1_ : Int, ∃ t_ : List Fr, ∃ ao_ : Option Sn, ∃ ro_ : Sn, ∃ ts_ : List Fs, ∃ inn2 : Value, ∃ hi2 : Nat, oc = .returned none ∧ fx o o [24, 25, 90, 94] G G2 ∧ G2.length = G.length ∧ ab_slots G2 = ab_slots G ∧ cc o G2 d_ 25 (ab_ob 6 [vR x, inn2, vz dp, vz flg, vz grp, vR na, vR nl, vz lst2, vz mst2, vz bh2]) ∧ cc o G2 x 24 (ab_ob 10 [vR se, vR by_, vz n, vz pl, vz 9, vz pl, vR kd, vz kn]) ∧ paI o G2 0 ps wt bs grp pr0 ph ∧ opI o G2 0 ps k hi2 inn2 ∧ szJ o G2 0 ps fr hi2 inn2 wh 0 0 ∧ dnJ o G2 0 ps wt FS hi2 inn2 0 mnI ∧ (fr = (a1_, b1_, c1_, d1_, e1_) :: t_) ∧ (FS = (ao_, ro_) :: ts_) ∧ (repR f n pl lst2 mst2 bh2 1) ∧ (tooR lst2 mst2) ∧ (hi2 ≤ G2.length)) ∨ (∃ lst2 : Int, ∃ mst2 : Int, ∃ bh2 : Int, ∃ a1_ : Int, ∃ b1_ : Int, ∃ c1_ : Int, ∃ d1_ : Int, ∃ e1_ : Int, ∃ t_ : List Fr, ∃ ao_ : Option Sn, ∃ ro_ : Sn, ∃ ts_ : List Fs, ∃ p2 : Int, ∃ kd9 : Int, ∃ inn2 : Value, ∃ hi2 : Nat, oc = .returned none ∧ fx o o [24, 25, 90, 94] G G2 ∧ G2.length = G.length ∧ ab_slots G2 = ab_slots G ∧ cc o G2 d_ 25 (ab_ob 6 [vR x, inn2, vz dp, vz flg, vz grp, vR na, vR nl, vz lst2, vz mst2, vz bh2]) ∧ cc o G2 x 24 (ab_ob 10 [vR se, vR by_, vz n, vz p2, vz fa, vz fp, vR kd, vz kn]) ∧ paI o G2 0 ps wt bs grp pr0 ph ∧ opI o G2 0 ps k hi2 inn2 ∧ szJ o G2 0 ps ((a1_, b1_, c1_, d1_, (e1_ + (tms lst2 mst2 * psz + mre lst2 mst2))) :: t_) hi2 inn2 wh 0 0 ∧ dnJ o G2 0 ps wt ((ao_, (mnC ro_ (mnR lst2 mst2 (lzR f n bh2 flg) ov))) :: ts_) hi2 inn2 0 mnI ∧ (fr = (a1_, b1_, c1_, d1_, e1_) :: t_) ∧ (FS = (ao_, ro_) :: ts_) ∧ (repR f n pl lst2 mst2 bh2 kd9) ∧ (¬ (kd9 = 1 ∧ tooR lst2 mst2)) ∧ (askR f n bh2 p2) ∧ (pl < p2 ∧ p2 ≤ n) ∧ (hi2 ≤ G2.length)) ∨ (∃ lst2 : Int, ∃ mst2 : Int, ∃ bh2 : Int, ∃ a1_ : Int, ∃ b1_ : Int, ∃ c1_ : Int, ∃ d1_ : Int, ∃ e1_ : Int, ∃ t_ : List Fr, ∃ ao_ : Option Sn, ∃ ro_ : Sn, ∃ ts_ : List Fs, ∃ inn2 : Value, ∃ hi2 : Nat, oc = .returned none ∧ fx o o [24, 25, 90, 94] G G2 ∧ G2.length = G.length ∧ ab_slots G2 = ab_slots G ∧ cc o G2 d_ 25 (ab_ob 6 [vR x, inn2, vz dp, vz flg, vz grp, vR na, vR nl, vz lst2, vz mst2, vz bh2]) ∧ cc o G2 x 24 (ab_ob 10 [vR se, vR by_, vz n, vz pl, vz fa, vz fp, vR kd, vz kn]) ∧ paI o G2 0 ps wt bs grp pr0 ph ∧ opI o G2 0 ps k hi2 inn2 ∧ szJ o G2 0 ps ((a1_, b1_, c1_, d1_, (e1_ + (tms 1 1 * psz + mre 1 1))) :: t_) hi2 inn2 wh 0 0 ∧ dnJ o G2 0 ps wt ((ao_, (mnC ro_ ov)) :: ts_) hi2 inn2 0 mnI ∧ (fr = (a1_, b1_, c1_, d1_, e1_) :: t_) ∧ (FS = (ao_, ro_) :: ts_) ∧ (norp f n pl) ∧ (hi2 ≤ G2.length))) := ⟨_, rfl⟩
  rw [← hQ]
  change ab_W X (ab_pl y_RD_append b_RD_append 6 none) d G 0 [some (vR d_), some (vR p), none, none, none, none] [] Q
  have hfr : fx o o [24, 25, 90, 94] G G := fx.rf
  have hlen : G.length = G.length := rfl
  have hsl : ab_slots G = ab_slots G := rfl
  obtain ⟨j1, hj1⟩ : ∃ j, k = j + 1 := ⟨k - 1, by omega⟩
  rw [hj1] at popI_0
  obtain ⟨g1, r1, w1, lv1, hv1, ⟨hpg1, hpr1⟩, ⟨hgl1, hrl1⟩, hf61, hf51, hr61, hlv1, hop1⟩ := popI_0
  subst hv1
  obtain ⟨k_2, v_2, rg_2, pl_2, fl_2, ou_2, ls_2, bf_2, sz_2, mb_2, oe_2, le_2, mo_2, la_2, rc_2, hg1, hn2, hb2, hg2, ho2, hl2, hf2⟩ := ppaI_0.1 g1 hpg1
  have hB2 := hb2
  unfold pnB at hB2
  have hK2 := hn2.1
  obtain ⟨ls3, bf3, sz3, mb3, hr1, hB3, hl3, hf3⟩ := ppaI_0.2.1 r1 hpr1
  have e61 : some ls_2 = some (vR r1) := by have t := hf61; unfold pf at t; rw [hg1.2.2] at t; exact t
  have e61 := Option.some.inj e61
  subst e61
  have e51 : some ou_2 = some w1 := by have t := hf51; unfold pf at t; rw [hg1.2.2] at t; exact t
  have e51 := Option.some.inj e51
  subst e51
  have e71 : some ls3 = some lv1 := by have t := hr61; unfold pf at t; rw [hr1.2.2] at t; exact t
  have e71 := Option.some.inj e71
  subst e71
  have popI_0 : opI o G 0 ps j1 g1 ou_2 := hop1
  have hnq1 : nq g1 r1 := hg1.ne hr1 (by decide)
  change ab_W _ _ _ G 0 [some (vR d_), some (vR p), none, none, none, none] [] _
  obtain ⟨k_4, v_4, rg_4, pl_4, fl_4, ou_4, ls_4, bf_4, sz_4, mb_4, oe_4, le_4, mo_4, la_4, rc_4, hp, hn4, hb4, hg4, ho4, hl4, hf4⟩ := ppaI_0.1 p hpp
  have hB4 := hb4
  unfold pnB at hB4
  have hK4 := hn4.1
  have hgp : nq g1 p := by unfold nq; omega
  have hpl := hp.lt
  change ab_W _ _ _ G 0 [some (vR d_), some (vR p), none, none, none, none] [] _
  obtain ⟨a1_, b1_, c1_, d1_, e1_, t_, hft_⟩ := pszJ_0.hd (by omega)
  have hsz9 := pszJ_0
  rw [hft_] at hsz9
  obtain ⟨ao_, ro_, ts_, hfs_⟩ := pdnJ_0.hd (by omega)
  have hdn9 := pdnJ_0
  rw [hfs_] at hdn9
  have hpa9 := ppaI_0
  have hfz : fz ps [r1, p] G G := fz.rf
  have h18_ : ab_n0 = 18 := rfl
  have hp0_ : 0 < p := by have t := hp.2.1 (by decide); omega
  have hg9 := hg1
  have hr9 := hr1
  have hp9 := hp
  refine ab_aload_n d_RD_append_0 rfl ?_
  refine ab_callV (d' := d - 1) (as := []) (st := []) (r := _) (z_RD_isRepeat (o := o) (d_ := d_) (inn := vR g1) (dp := dp) (flg := flg) (grp := grp) (na := na) (nl := nl) (lst := lst) (mst := mst) (bh := bh) (x := x) (se := se) (by_ := by_) (m := m) (f := f) (n := n) (pl := pl) (fa := fa) (fp := fp) (kd := kd) (kn := kn) hd_ hx hby_ (by omega) hb (by omega) (by omega) (by omega)) (fun oc G2 h => by rcases h with ⟨_, _, _, h, _⟩ | ⟨_, _, _, h, _⟩ | ⟨_, _, _, h, _⟩ <;> exact ⟨_, h⟩) (by omega) m_RD_isRepeat ml_RD_119 im_RD_isRepeat se_RD_isRepeat c_RD hd_.2.2 (Nat.le_of_ble_eq_true rfl) d_RD_append_1 rfl ?_
  intro v G5 hq
  rcases hq with ⟨l26, m27, bh28, hv, hfk, hlk, hsk, hNd_, hq9, hq10, hq11⟩ | ⟨l212, m213, bh214, hv, hfk, hlk, hsk, hNd_, hq15, hq16, hq17⟩ | ⟨l218, m219, bh220, hv, hfk, hlk, hsk, hNd_, hq21, hq22⟩
  · cases hv
    have hx := hfk.get hx (by decide)
    have hby_ := hfk.get hby_ (by decide)
    have hg1 := hfk.get hg1 (by decide)
    have hr1 := hfk.get hr1 (by decide)
    have hp := hfk.get hp (by decide)
    have hfz := hfz.tr (fz.fx ppaI_0 hfk (by decide) (by decide)) (by simp)
    have pszJ_0 := szJ.fr hfk ppaI_0 pszJ_0 (by decide) (by decide)
    have pdnJ_0 := dnJ.fr hfk ppaI_0 pdnJ_0 (by decide) (by decide)
    have popI_0 := opI.fr hfk ppaI_0 popI_0 (by decide) (by decide)
    have ppaI_0 := paI.fr hfk ppaI_0 (by decide) (by decide) (by decide) (by decide)
    have hfr := hfr.tr hfk (by decide)
    have hlen := hlk.trans hlen
    have hsl := hsk.trans hsl
    have hd_ := hNd_
    change ab_W _ _ _ G5 4 [some (vR d_), some (vR p), none, none, none, none] [vz 1] _
    refine zz_if_eq (tgt := 185) d_RD_append_4 (by decide) (by decide) (fun c23 => absurd c23 (by decide)) (fun c23 => ?_)
    refine ab_aload_n d_RD_append_7 rfl ?_
    refine ab_getf (fs := [vR x, vR g1, vz dp, vz flg, vz grp, vR na, vR nl, vz l26, vz m27, vz bh28]) f_RD_12 d_RD_append_8 hd_.2.2 rfl ?_
    refine ab_getf (fs := [vR se, vR by_, vz n, vz pl, vz fa, vz fp, vR kd, vz kn]) f_RD_55 d_RD_append_11 hx.2.2 rfl ?_
    refine ab_istore_n d_RD_append_14 (Nat.le_of_ble_eq_true rfl) (Nat.le_of_ble_eq_true rfl) rfl ?_
    change ab_W _ _ _ G5 15 [some (vR d_), some (vR p), some (vz pl), none, none, none] [] _
    refine ab_aload_n d_RD_append_15 rfl ?_
    refine ab_getf (fs := [vR x, vR g1, vz dp, vz flg, vz grp, vR na, vR nl, vz l26, vz m27, vz bh28]) f_RD_12 d_RD_append_16 hd_.2.2 rfl ?_
    refine zz_iconst d_RD_append_19 ?_
    refine ab_callV (d' := d - 1) (as := [vz 0]) (st := []) (r := _) (z_TX_peek0 (o := o) (x := x) (lx := 24) (se := se) (by_ := by_) (lby := 23) (m := m) (f := f) (n := n) (pl := pl) (fa := fa) (fp := fp) (kd := kd) (kn := kn) hx hby_ (by omega) hb) (fun oc G2 h => by rcases h with ⟨_, h, _⟩ <;> exact ⟨_, h⟩) (by omega) m_TX_peek ml_RD_79 im_TX_peek se_TX_peek c_TX hx.2.2 (Nat.le_of_ble_eq_true rfl) d_RD_append_20 rfl ?_
    intro v G24 hq
    rcases hq with ⟨v25, hv, hGe, hq26, hq27⟩
    cases hv
    rw [hGe]
    change ab_W _ _ _ G5 23 [some (vR d_), some (vR p), some (vz pl), none, none, none] [vz v25] _
    refine zz_bipush d_RD_append_23 (by decide) ?_
    refine zz_icmp_ne (tgt := 32) d_RD_append_25 (by decide) (by omega) (by decide) (fun c28 => absurd c28 (by omega)) (fun c28 => ?_)
    refine zz_iconst d_RD_append_28 ?_
    refine ab_goto (tgt := 33) d_RD_append_29 (by decide) ?_
    refine ab_istore_n d_RD_append_33 (Nat.le_of_ble_eq_true rfl) (Nat.le_of_ble_eq_true rfl) rfl ?_
    change ab_W _ _ _ G5 34 [some (vR d_), some (vR p), some (vz pl), some (vz 1), none, none] [] _
    refine ab_aload_n d_RD_append_34 rfl ?_
    refine ab_getf (fs := [vR x, vR g1, vz dp, vz flg, vz grp, vR na, vR nl, vz l26, vz m27, vz bh28]) f_RD_184 d_RD_append_35 hd_.2.2 rfl ?_
    refine zz_bipush d_RD_append_38 (by decide) ?_
    refine zz_icmp_gt (tgt := 73) d_RD_append_40 (by decide) (by omega) (by decide) (fun c29 => ?_) (fun c29 => ?_)
    · refine zz_iconst d_RD_append_73 ?_
      refine ab_goto (tgt := 78) d_RD_append_74 (by decide) ?_
      refine ab_istore d_RD_append_78 (Nat.le_of_ble_eq_true rfl) (Nat.le_of_ble_eq_true rfl) rfl ?_
      change ab_W _ _ _ G5 80 [some (vR d_), some (vR p), some (vz pl), some (vz 1), some (vz 1), none] [] _
      refine ab_iload_n d_RD_append_80 rfl ?_
      refine zz_if_eq (tgt := 101) d_RD_append_81 (by decide) (by decide) (fun c30 => absurd c30 (by decide)) (fun c30 => ?_)
      refine ab_iload d_RD_append_84 rfl ?_
      refine zz_if_eq (tgt := 101) d_RD_append_86 (by decide) (by decide) (fun c31 => absurd c31 (by decide)) (fun c31 => ?_)
      refine ab_aload_n d_RD_append_89 rfl ?_
      refine ab_getf (fs := [vR x, vR g1, vz dp, vz flg, vz grp, vR na, vR nl, vz l26, vz m27, vz bh28]) f_RD_12 d_RD_append_90 hd_.2.2 rfl ?_
      refine zz_bipush d_RD_append_93 (by decide) ?_
      refine ab_iload_n d_RD_append_95 rfl ?_
      refine ab_callV (d' := d - 1) (as := [vz 9, vz pl]) (st := []) (r := _) (z_TX_fail (o := o) (x := x) (lx := 24) (se := se) (by_ := by_) (n := n) (pl := pl) (fa := fa) (fp := fp) (kd := kd) (kn := kn) (w := 9) (p := pl) hx (by omega) (by omega) (by omega)) (fun oc G2 h => by rcases h with ⟨h, _⟩ | ⟨h, _⟩ <;> exact ⟨_, h⟩) (by omega) m_TX_fail ml_RD_69 im_TX_fail se_TX_fail c_TX hx.2.2 (Nat.le_of_ble_eq_true rfl) d_RD_append_96 rfl ?_
      intro v G32 hq
      rcases hq with ⟨hv, hfk, hlk, hsk, hNx, hq33⟩ | ⟨hv, hGe, hq34⟩
      · cases hv
        have hd_ := hfk.get hd_ (by decide)
        have hby_ := hfk.get hby_ (by decide)
        have hg1 := hfk.get hg1 (by decide)
        have hr1 := hfk.get hr1 (by decide)
        have hp := hfk.get hp (by decide)
        have hfz := hfz.tr (fz.fx ppaI_0 hfk (by decide) (by decide)) (by simp)
        have pszJ_0 := szJ.fr hfk ppaI_0 pszJ_0 (by decide) (by decide)
        have pdnJ_0 := dnJ.fr hfk ppaI_0 pdnJ_0 (by decide) (by decide)
        have popI_0 := opI.fr hfk ppaI_0 popI_0 (by decide) (by decide)
        have ppaI_0 := paI.fr hfk ppaI_0 (by decide) (by decide) (by decide) (by decide)
        have hfr := hfr.tr hfk (by decide)
        have hlen := hlk.trans hlen
        have hsl := hsk.trans hsl
        have hx := hNx
        change ab_W _ _ _ G32 99 [some (vR d_), some (vR p), some (vz pl), some (vz 1), some (vz 1), none] [vz (-1)] _
        refine ab_pop d_RD_append_99 rfl ?_
        have pszJ_0 := pszJ_0.drop.up (hi2 := G32.length) (by omega)
        have pdnJ_0 := pdnJ_0.drop.up (hi2 := G32.length) (by omega)
        have popI_0 : opI o G32 0 ps (j1 + 1) G32.length (vR g1) := ⟨g1, r1, ou_2, ls3, rfl, ⟨hpg1, hpr1⟩, ⟨by omega, by omega⟩, by unfold pf; rw [hg1.2.2]; rfl, by unfold pf; rw [hg1.2.2]; rfl, by unfold pf; rw [hr1.2.2]; rfl, (hlv1.up (by omega)), popI_0⟩
        rw [← hj1] at popI_0
        refine ab_vret rfl d_RD_append_100 ?_
        rw [hQ]; exact (Or.inl ⟨_, _, _, _, _, _, _, _, _, _, _, _, _, _, rfl, hfr, hlen, hsl, hd_, hx, ppaI_0, popI_0, pszJ_0, pdnJ_0, (by exact hft_), (by exact hfs_), (by exact hq11), (by unfold tooR; omega), (by omega)⟩)
      · cases hv
        rw [hGe]
        change ab_W _ _ _ G5 99 [some (vR d_), some (vR p), some (vz pl), some (vz 1), some (vz 1), none] [vz (-1)] _
        exfalso; omega
    · refine ab_aload_n d_RD_append_43 rfl ?_
      refine ab_getf (fs := [vR x, vR g1, vz dp, vz flg, vz grp, vR na, vR nl, vz l26, vz m27, vz bh28]) f_RD_187 d_RD_append_44 hd_.2.2 rfl ?_
      refine zz_sipush d_RD_append_47 (by decide) ?_
      refine zz_icmp_eq (tgt := 77) d_RD_append_50 (by decide) (by omega) (by decide) (fun c35 => ?_) (fun c35 => ?_)
      · refine zz_iconst d_RD_append_77 ?_
        refine ab_istore d_RD_append_78 (Nat.le_of_ble_eq_true rfl) (Nat.le_of_ble_eq_true rfl) rfl ?_
        change ab_W _ _ _ G5 80 [some (vR d_), some (vR p), some (vz pl), some (vz 1), some (vz 0), none] [] _
        refine ab_iload_n d_RD_append_80 rfl ?_
        refine zz_if_eq (tgt := 101) d_RD_append_81 (by decide) (by decide) (fun c36 => absurd c36 (by decide)) (fun c36 => ?_)
        refine ab_iload d_RD_append_84 rfl ?_
        refine zz_if_eq (tgt := 101) d_RD_append_86 (by decide) (by decide) (fun c37 => ?_) (fun c37 => absurd c37 (by decide))
        refine ab_aload_n d_RD_append_101 rfl ?_
        refine ab_getf (fs := [vR x, vR g1, vz dp, vz flg, vz grp, vR na, vR nl, vz l26, vz m27, vz bh28]) f_RD_12 d_RD_append_102 hd_.2.2 rfl ?_
        refine ab_aload_n d_RD_append_105 rfl ?_
        refine ab_getf (fs := [vR x, vR g1, vz dp, vz flg, vz grp, vR na, vR nl, vz l26, vz m27, vz bh28]) f_RD_190 d_RD_append_106 hd_.2.2 rfl ?_
        refine ab_putf (fs := [vR se, vR by_, vz n, vz pl, vz fa, vz fp, vR kd, vz kn]) f_RD_55 (Or.inl rfl) d_RD_append_109 hx.2.2 (Nat.le_of_ble_eq_true rfl) (fun _ => ⟨rfl, rfl⟩) (hx.2.1 (by decide)) ?_
        obtain ⟨G38, eG38⟩ : ∃ z : ab_G, z = List.set G5 x (ab_ob 10 [vR se, vR by_, vz n, vz bh28, vz fa, vz fp, vR kd, vz kn]) := ⟨_, rfl⟩
        have hd_ := hd_.keep hx eG38 (by decide)
        have hby_ := hby_.keep hx eG38 (by decide)
        have hg1 := hg1.keep hx eG38 (by decide)
        have hr1 := hr1.keep hx eG38 (by decide)
        have hp := hp.keep hx eG38 (by decide)
        have hfz := hfz.wl ppaI_0 hx eG38 (by decide)
        have hst := (fx.rf (o := o) (S := [24]) (G := G5)).wr hx eG38 (List.mem_singleton.mpr rfl)
        have pszJ_0 := szJ.fr hst ppaI_0 pszJ_0 (by decide) (by decide)
        have pdnJ_0 := dnJ.fr hst ppaI_0 pdnJ_0 (by decide) (by decide)
        have popI_0 := opI.fr hst ppaI_0 popI_0 (by decide) (by decide)
        have ppaI_0 := paI.fr hst ppaI_0 (by decide) (by decide) (by decide) (by decide)
        have hlen := (z_len eG38).trans hlen
        have hsl := (z_sl hx eG38 rfl).trans hsl
        have hfr := hfr.wr hx eG38 (by decide)
        have hx := hx.kept eG38
        change ab_W _ _ _ (List.set G5 x (ab_ob 10 [vR se, vR by_, vz n, vz bh28, vz fa, vz fp, vR kd, vz kn])) 112 [some (vR d_), some (vR p), some (vz pl), some (vz 1), some (vz 0), none] [] _
        rw [← eG38]
        refine ab_aload_n d_RD_append_112 rfl ?_
        refine ab_getf (fs := [vR x, vR g1, vz dp, vz flg, vz grp, vR na, vR nl, vz l26, vz m27, vz bh28]) f_RD_12 d_RD_append_113 hd_.2.2 rfl ?_
        refine zz_iconst d_RD_append_116 ?_
        refine ab_callV (d' := d - 1) (as := [vz 0]) (st := []) (r := _) (z_TX_peek0 (o := o) (x := x) (lx := 24) (se := se) (by_ := by_) (lby := 23) (m := m) (f := f) (n := n) (pl := bh28) (fa := fa) (fp := fp) (kd := kd) (kn := kn) hx hby_ (by omega) hb) (fun oc G2 h => by rcases h with ⟨_, h, _⟩ <;> exact ⟨_, h⟩) (by omega) m_TX_peek ml_RD_79 im_TX_peek se_TX_peek c_TX hx.2.2 (Nat.le_of_ble_eq_true rfl) d_RD_append_117 rfl ?_
        intro v G39 hq
        rcases hq with ⟨v40, hv, hGe, hq41, hq42⟩
        cases hv
        rw [hGe]
        change ab_W _ _ _ G38 120 [some (vR d_), some (vR p), some (vz pl), some (vz 1), some (vz 0), none] [vz v40] _
        refine zz_bipush d_RD_append_120 (by decide) ?_
        refine zz_icmp_ne (tgt := 129) d_RD_append_122 (by decide) (by omega) (by decide) (fun c43 => ?_) (fun c43 => ?_)
        · refine zz_iconst d_RD_append_129 ?_
          refine ab_istore d_RD_append_130 (Nat.le_of_ble_eq_true rfl) (Nat.le_of_ble_eq_true rfl) rfl ?_
          change ab_W _ _ _ G38 132 [some (vR d_), some (vR p), some (vz pl), some (vz 1), some (vz 0), some (vz 0)] [] _
          refine ab_aload_n d_RD_append_132 rfl ?_
          refine ab_getf (fs := [vR x, vR g1, vz dp, vz flg, vz grp, vR na, vR nl, vz l26, vz m27, vz bh28]) f_RD_12 d_RD_append_133 hd_.2.2 rfl ?_
          refine ab_dup d_RD_append_136 rfl ?_
          refine ab_getf (fs := [vR se, vR by_, vz n, vz bh28, vz fa, vz fp, vR kd, vz kn]) f_RD_55 d_RD_append_137 hx.2.2 rfl ?_
          refine ab_iload d_RD_append_140 rfl ?_
          refine zz_if_eq (tgt := 149) d_RD_append_142 (by decide) (by decide) (fun c44 => ?_) (fun c44 => absurd c44 (by decide))
          refine zz_iconst d_RD_append_149 ?_
          refine zz_iadd d_RD_append_150 ?_
          refine ab_putf (fs := [vR se, vR by_, vz n, vz bh28, vz fa, vz fp, vR kd, vz kn]) f_RD_55 (Or.inl rfl) d_RD_append_151 hx.2.2 (Nat.le_of_ble_eq_true rfl) (fun _ => ⟨rfl, rfl⟩) (hx.2.1 (by decide)) ?_
          obtain ⟨G45, eG45⟩ : ∃ z : ab_G, z = List.set G38 x (ab_ob 10 [vR se, vR by_, vz n, vz (bh28 + 0), vz fa, vz fp, vR kd, vz kn]) := ⟨_, rfl⟩
          have hd_ := hd_.keep hx eG45 (by decide)
          have hby_ := hby_.keep hx eG45 (by decide)
          have hg1 := hg1.keep hx eG45 (by decide)
          have hr1 := hr1.keep hx eG45 (by decide)
          have hp := hp.keep hx eG45 (by decide)
          have hfz := hfz.wl ppaI_0 hx eG45 (by decide)
          have hst := (fx.rf (o := o) (S := [24]) (G := G38)).wr hx eG45 (List.mem_singleton.mpr rfl)
          have pszJ_0 := szJ.fr hst ppaI_0 pszJ_0 (by decide) (by decide)
          have pdnJ_0 := dnJ.fr hst ppaI_0 pdnJ_0 (by decide) (by decide)
          have popI_0 := opI.fr hst ppaI_0 popI_0 (by decide) (by decide)
          have ppaI_0 := paI.fr hst ppaI_0 (by decide) (by decide) (by decide) (by decide)
          have hlen := (z_len eG45).trans hlen
          have hsl := (z_sl hx eG45 rfl).trans hsl
          have hfr := hfr.wr hx eG45 (by decide)
          have hx := hx.kept eG45
          change ab_W _ _ _ (List.set G38 x (ab_ob 10 [vR se, vR by_, vz n, vz (bh28 + 0), vz fa, vz fp, vR kd, vz kn])) 154 [some (vR d_), some (vR p), some (vz pl), some (vz 1), some (vz 0), some (vz 0)] [] _
          rw [← eG45]
          refine ab_aload_n d_RD_append_154 rfl ?_
          refine ab_aload_n d_RD_append_155 rfl ?_
          refine ab_getf (fs := [vR x, vR g1, vz dp, vz flg, vz grp, vR na, vR nl, vz l26, vz m27, vz bh28]) f_RD_184 d_RD_append_156 hd_.2.2 rfl ?_
          refine ab_aload_n d_RD_append_159 rfl ?_
          refine ab_getf (fs := [vR x, vR g1, vz dp, vz flg, vz grp, vR na, vR nl, vz l26, vz m27, vz bh28]) f_RD_187 d_RD_append_160 hd_.2.2 rfl ?_
          refine ab_iload d_RD_append_163 rfl ?_
          refine ab_aload_n d_RD_append_165 rfl ?_
          refine zz_bipush d_RD_append_166 (by decide) ?_
          refine ab_callV (d' := d - 1) (as := [vz 8]) (st := [vz 0, vz m27, vz l26, vR p]) (r := _) (z8_RD_isOn (o := o) (d_ := d_) (inn := vR g1) (dp := dp) (flg := flg) (grp := grp) (na := na) (nl := nl) (lst := l26) (mst := m27) (bh := bh28) (x := x) hd_ (by omega)) (fun oc G2 h => by rcases h with ⟨_, h, _⟩ <;> exact ⟨_, h⟩) (by omega) m_RD_isOn ml_RD_94 im_RD_isOn se_RD_isOn c_RD hd_.2.2 (Nat.le_of_ble_eq_true rfl) d_RD_append_168 rfl ?_
          intro v G46 hq
          rcases hq with ⟨v47, hv, hGe, hq48, hq49⟩
          cases hv
          rw [hGe]
          change ab_W _ _ _ G45 171 [some (vR d_), some (vR p), some (vz pl), some (vz 1), some (vz 0), some (vz 0)] [vz v47, vz 0, vz m27, vz l26, vR p] _
          refine zz_icmp_eq (tgt := 178) d_RD_append_171 (by decide) (by decide) (by omega) (fun c50 => ?_) (fun c50 => ?_)
          · refine zz_iconst d_RD_append_178 ?_
            refine ab_callV (d' := d - 1) (as := [vz l26, vz m27, vz 0]) (st := []) (r := _) (z_PA_repeat (o := o) (k := k_4) (v := v_4) (rg := rg_4) (pl := pl_4) (fl := fl_4) (ou := ou_4) (ls := ls_4) (bf := bf_4) (sz := sz_4) (mb := mb_4) (oe := oe_4) (le := le_4) (mo := mo_4) (la := la_4) (rc := rc_4) (ps := ps) (wt := wt) (bs := bs) (gr := grp) (Pr := pr0) (ph := ph) (p := p) (l0 := l26) (m0 := m27) (z0 := 0) hp ppaI_0 (by omega) hpp hn4 (by omega) (ho4.up (by omega)) (hl4.up (by omega)) (hf4.up (by omega)) (by omega) (by omega)) (fun oc G2 h => by rcases h with ⟨_, _, _, h, _⟩ <;> exact ⟨_, h⟩) (by omega) m_PA_repeat ml_RD_193 im_PA_repeat se_PA_repeat c_PA hp.2.2 (Nat.le_of_ble_eq_true rfl) d_RD_append_179 rfl ?_
            intro v G51 hq
            rcases hq with ⟨sz252, mb253, oe254, hv, hfk, hlk, hsk, hNp, pNpaI_0, hq55, hq56, hq57, hq58, hq59⟩
            cases hv
            have hd_ := hfk.get hd_ (by decide)
            have hx := hfk.get hx (by decide)
            have hby_ := hfk.get hby_ (by decide)
            have hKg1 := hq56.get hfk hg1 (Or.inl hpg1) (by simp only [List.mem_cons, List.not_mem_nil, or_false, not_or]; exact (show g1 ≠ p from hgp))
            have hr1 := hfk.get hr1 (by decide)
            have hg1 := hKg1
            have hfz := hfz.tr hq56 (by simp)
            have popI_0 := popI_0.fz (o2 := o) hq56 (by intro y hy; simp only [List.mem_cons, List.not_mem_nil, or_false] at hy; omega)
            have ppaI_0 := pNpaI_0
            have hfr := hfr.tr hfk (by decide)
            have hlen := hlk.trans hlen
            have hsl := hsk.trans hsl
            have hp := hNp
            change ab_W _ _ _ G51 182 [some (vR d_), some (vR p), some (vz pl), some (vz 1), some (vz 0), some (vz 0)] [] _
            refine ab_goto (tgt := 192) d_RD_append_182 (by decide) ?_
            refine ab_aload_n d_RD_append_192 rfl ?_
            refine ab_getf (fs := [vR x, vR g1, vz dp, vz flg, vz grp, vR na, vR nl, vz l26, vz m27, vz bh28]) f_RD_23 d_RD_append_193 hd_.2.2 rfl ?_
            refine ab_aload_n d_RD_append_196 rfl ?_
            refine ab_callV (d' := d - 1) (as := [vR p]) (st := []) (r := _) (z_PA_pushInLastRow (o := o) (k := k_4) (v := v_4) (rg := rg_4) (pl := pl_4) (fl := fl_4) (ou := ou_4) (ls := ls_4) (bf := bf_4) (sz := sz252) (mb := mb253) (oe := oe254) (le := l26) (mo := m27) (la := 0) (rc := rc_4) (lr := ls3) (br := bf3) (sr := sz3) (mr := mb3) (ps := ps) (wt := wt) (bs := bs) (gr := grp) (Pr := pr0) (ph := ph) (r := r1) (p := p) (kg := k_2) (vg := v_2) (rgg := rg_2) (plg := pl_2) (flg := fl_2) (oug := ou_2) (bfg := bf_2) (szg := sz_2) (mbg := mb_2) (oeg := oe_2) (leg := le_2) (mog := mo_2) (lag := la_2) (rcg := rc_2) (q := g1) hg1 hp hr1 ppaI_0 (by omega) hgp hpg1 hpp hpr1 hn4 (by omega) (by omega) (ho4.up (by omega)) (hl4.up (by omega)) (hf4.up (by omega)) (hlv1.up (by omega)) (hf3.up (by omega)) (hlv1.up (by omega)) (by omega) (by omega)) (fun oc G2 h => by rcases h with ⟨_, _, h, _⟩ <;> exact ⟨_, h⟩) (by omega) m_PA_pushInLastRow ml_RD_197 im_PA_pushInLastRow se_PA_pushInLastRow c_PA hg1.2.2 (Nat.le_of_ble_eq_true rfl) d_RD_append_197 rfl ?_
            intro v G60 hq
            rcases hq with ⟨sr261, mr262, hv, hfk, hlk, hsk, hNg1, hNp, hNr1, pNpaI_0, hq63, hq64, hq65, hq66⟩
            cases hv
            have hd_ := hfk.get hd_ (by decide)
            have hx := hfk.get hx (by decide)
            have hby_ := hfk.get hby_ (by decide)
            have hfz := hfz.tr hq64 (by simp)
            have popI_0 := popI_0.fz (o2 := o) hq64 (by intro y hy; simp only [List.mem_cons, List.not_mem_nil, or_false] at hy; omega)
            have ppaI_0 := pNpaI_0
            have hfr := hfr.tr hfk (by decide)
            have hlen := hlk.trans hlen
            have hsl := hsk.trans hsl
            have hg1 := hNg1
            have hp := hNp
            have hr1 := hNr1
            change ab_W _ _ _ G60 200 [some (vR d_), some (vR p), some (vz pl), some (vz 1), some (vz 0), some (vz 0)] [] _
            have pszJ_0 : szJ o G60 0 ps ((a1_, b1_, c1_, d1_, (e1_ + (tms l26 m27 * psz + mre l26 m27))) :: t_) G60.length (vR g1) wh 0 0 := (szJ.appC hsz9 hpa9 hfz hg9 hp9 hr9 hp hr1 hpr1 (by omega) (by omega) (by omega) (by omega) (by omega) hq57 hq65).up (by omega)
            have hdn8 := (dnJ.appC (o2 := o) hdn9 hsz9 hpa9 hfz hg9 hp9 hr9 hp hr1 hpr1 (by omega) (by omega) (by omega) (by omega) (by omega) hq57 hq65 (by omega) (by omega) (by omega) (by omega)).up (hi2 := G60.length) (by omega)
            rw [show 0 = lzR f n bh28 flg from (by unfold lzR; split <;> omega)] at hdn8
            have pdnJ_0 : dnJ o G60 0 ps wt ((ao_, (mnC ro_ (mnR l26 m27 (lzR f n bh28 flg) ov))) :: ts_) G60.length (vR g1) 0 mnI := hdn8
            have popI_0 : opI o G60 0 ps (j1 + 1) G60.length (vR g1) := ⟨g1, r1, ou_2, (vR p), rfl, ⟨hpg1, hpr1⟩, ⟨by omega, by omega⟩, by unfold pf; rw [hg1.2.2]; rfl, by unfold pf; rw [hg1.2.2]; rfl, by unfold pf; rw [hr1.2.2]; rfl, (Or.inr ⟨_, rfl, hpp, by have hlt := hp.lt; omega⟩), popI_0⟩
            rw [← hj1] at popI_0
            refine ab_vret rfl d_RD_append_200 ?_
            rw [hQ]; exact (Or.inr (Or.inl ⟨_, _, _, _, _, _, _, _, _, _, _, _, _, 1, _, _, rfl, hfr, hlen, hsl, hd_, hx, ppaI_0, popI_0, pszJ_0, pdnJ_0, (by exact hft_), (by exact hfs_), (by exact hq11), (by exact fun z => by have t := z.2; unfold tooR at t; omega), (by unfold askR; first | (left; omega) | (right; omega)), (by first | omega | (have t_ := tpk_w (f := f) (n := n) (i := bh28) (by omega); omega)), (by omega)⟩))
          · refine zz_iconst d_RD_append_174 ?_
            refine ab_goto (tgt := 179) d_RD_append_175 (by decide) ?_
            refine ab_callV (d' := d - 1) (as := [vz l26, vz m27, vz 1]) (st := []) (r := _) (z_PA_repeat (o := o) (k := k_4) (v := v_4) (rg := rg_4) (pl := pl_4) (fl := fl_4) (ou := ou_4) (ls := ls_4) (bf := bf_4) (sz := sz_4) (mb := mb_4) (oe := oe_4) (le := le_4) (mo := mo_4) (la := la_4) (rc := rc_4) (ps := ps) (wt := wt) (bs := bs) (gr := grp) (Pr := pr0) (ph := ph) (p := p) (l0 := l26) (m0 := m27) (z0 := 1) hp ppaI_0 (by omega) hpp hn4 (by omega) (ho4.up (by omega)) (hl4.up (by omega)) (hf4.up (by omega)) (by omega) (by omega)) (fun oc G2 h => by rcases h with ⟨_, _, _, h, _⟩ <;> exact ⟨_, h⟩) (by omega) m_PA_repeat ml_RD_193 im_PA_repeat se_PA_repeat c_PA hp.2.2 (Nat.le_of_ble_eq_true rfl) d_RD_append_179 rfl ?_
            intro v G67 hq
            rcases hq with ⟨sz268, mb269, oe270, hv, hfk, hlk, hsk, hNp, pNpaI_0, hq71, hq72, hq73, hq74, hq75⟩
            cases hv
            have hd_ := hfk.get hd_ (by decide)
            have hx := hfk.get hx (by decide)
            have hby_ := hfk.get hby_ (by decide)
            have hKg1 := hq72.get hfk hg1 (Or.inl hpg1) (by simp only [List.mem_cons, List.not_mem_nil, or_false, not_or]; exact (show g1 ≠ p from hgp))
            have hr1 := hfk.get hr1 (by decide)
            have hg1 := hKg1
            have hfz := hfz.tr hq72 (by simp)
            have popI_0 := popI_0.fz (o2 := o) hq72 (by intro y hy; simp only [List.mem_cons, List.not_mem_nil, or_false] at hy; omega)
            have ppaI_0 := pNpaI_0
            have hfr := hfr.tr hfk (by decide)
            have hlen := hlk.trans hlen
            have hsl := hsk.trans hsl
            have hp := hNp
            change ab_W _ _ _ G67 182 [some (vR d_), some (vR p), some (vz pl), some (vz 1), some (vz 0), some (vz 0)] [] _
            refine ab_goto (tgt := 192) d_RD_append_182 (by decide) ?_
            refine ab_aload_n d_RD_append_192 rfl ?_
            refine ab_getf (fs := [vR x, vR g1, vz dp, vz flg, vz grp, vR na, vR nl, vz l26, vz m27, vz bh28]) f_RD_23 d_RD_append_193 hd_.2.2 rfl ?_
            refine ab_aload_n d_RD_append_196 rfl ?_
            refine ab_callV (d' := d - 1) (as := [vR p]) (st := []) (r := _) (z_PA_pushInLastRow (o := o) (k := k_4) (v := v_4) (rg := rg_4) (pl := pl_4) (fl := fl_4) (ou := ou_4) (ls := ls_4) (bf := bf_4) (sz := sz268) (mb := mb269) (oe := oe270) (le := l26) (mo := m27) (la := 1) (rc := rc_4) (lr := ls3) (br := bf3) (sr := sz3) (mr := mb3) (ps := ps) (wt := wt) (bs := bs) (gr := grp) (Pr := pr0) (ph := ph) (r := r1) (p := p) (kg := k_2) (vg := v_2) (rgg := rg_2) (plg := pl_2) (flg := fl_2) (oug := ou_2) (bfg := bf_2) (szg := sz_2) (mbg := mb_2) (oeg := oe_2) (leg := le_2) (mog := mo_2) (lag := la_2) (rcg := rc_2) (q := g1) hg1 hp hr1 ppaI_0 (by omega) hgp hpg1 hpp hpr1 hn4 (by omega) (by omega) (ho4.up (by omega)) (hl4.up (by omega)) (hf4.up (by omega)) (hlv1.up (by omega)) (hf3.up (by omega)) (hlv1.up (by omega)) (by omega) (by omega)) (fun oc G2 h => by rcases h with ⟨_, _, h, _⟩ <;> exact ⟨_, h⟩) (by omega) m_PA_pushInLastRow ml_RD_197 im_PA_pushInLastRow se_PA_pushInLastRow c_PA hg1.2.2 (Nat.le_of_ble_eq_true rfl) d_RD_append_197 rfl ?_
            intro v G76 hq
            rcases hq with ⟨sr277, mr278, hv, hfk, hlk, hsk, hNg1, hNp, hNr1, pNpaI_0, hq79, hq80, hq81, hq82⟩
            cases hv
            have hd_ := hfk.get hd_ (by decide)
            have hx := hfk.get hx (by decide)
            have hby_ := hfk.get hby_ (by decide)
            have hfz := hfz.tr hq80 (by simp)
            have popI_0 := popI_0.fz (o2 := o) hq80 (by intro y hy; simp only [List.mem_cons, List.not_mem_nil, or_false] at hy; omega)
            have ppaI_0 := pNpaI_0
            have hfr := hfr.tr hfk (by decide)
            have hlen := hlk.trans hlen
            have hsl := hsk.trans hsl
            have hg1 := hNg1
            have hp := hNp
            have hr1 := hNr1
            change ab_W _ _ _ G76 200 [some (vR d_), some (vR p), some (vz pl), some (vz 1), some (vz 0), some (vz 0)] [] _
            have pszJ_0 : szJ o G76 0 ps ((a1_, b1_, c1_, d1_, (e1_ + (tms l26 m27 * psz + mre l26 m27))) :: t_) G76.length (vR g1) wh 0 0 := (szJ.appC hsz9 hpa9 hfz hg9 hp9 hr9 hp hr1 hpr1 (by omega) (by omega) (by omega) (by omega) (by omega) hq73 hq81).up (by omega)
            have hdn8 := (dnJ.appC (o2 := o) hdn9 hsz9 hpa9 hfz hg9 hp9 hr9 hp hr1 hpr1 (by omega) (by omega) (by omega) (by omega) (by omega) hq73 hq81 (by omega) (by omega) (by omega) (by omega)).up (hi2 := G76.length) (by omega)
            rw [show 1 = lzR f n bh28 flg from (by unfold lzR; split <;> omega)] at hdn8
            have pdnJ_0 : dnJ o G76 0 ps wt ((ao_, (mnC ro_ (mnR l26 m27 (lzR f n bh28 flg) ov))) :: ts_) G76.length (vR g1) 0 mnI := hdn8
            have popI_0 : opI o G76 0 ps (j1 + 1) G76.length (vR g1) := ⟨g1, r1, ou_2, (vR p), rfl, ⟨hpg1, hpr1⟩, ⟨by omega, by omega⟩, by unfold pf; rw [hg1.2.2]; rfl, by unfold pf; rw [hg1.2.2]; rfl, by unfold pf; rw [hr1.2.2]; rfl, (Or.inr ⟨_, rfl, hpp, by have hlt := hp.lt; omega⟩), popI_0⟩
            rw [← hj1] at popI_0
            refine ab_vret rfl d_RD_append_200 ?_
            rw [hQ]; exact (Or.inr (Or.inl ⟨_, _, _, _, _, _, _, _, _, _, _, _, _, 1, _, _, rfl, hfr, hlen, hsl, hd_, hx, ppaI_0, popI_0, pszJ_0, pdnJ_0, (by exact hft_), (by exact hfs_), (by exact hq11), (by exact fun z => by have t := z.2; unfold tooR at t; omega), (by unfold askR; first | (left; omega) | (right; omega)), (by first | omega | (have t_ := tpk_w (f := f) (n := n) (i := bh28) (by omega); omega)), (by omega)⟩))
        · refine zz_iconst d_RD_append_125 ?_
          refine ab_goto (tgt := 130) d_RD_append_126 (by decide) ?_
          refine ab_istore d_RD_append_130 (Nat.le_of_ble_eq_true rfl) (Nat.le_of_ble_eq_true rfl) rfl ?_
          change ab_W _ _ _ G38 132 [some (vR d_), some (vR p), some (vz pl), some (vz 1), some (vz 0), some (vz 1)] [] _
          refine ab_aload_n d_RD_append_132 rfl ?_
          refine ab_getf (fs := [vR x, vR g1, vz dp, vz flg, vz grp, vR na, vR nl, vz l26, vz m27, vz bh28]) f_RD_12 d_RD_append_133 hd_.2.2 rfl ?_
          refine ab_dup d_RD_append_136 rfl ?_
          refine ab_getf (fs := [vR se, vR by_, vz n, vz bh28, vz fa, vz fp, vR kd, vz kn]) f_RD_55 d_RD_append_137 hx.2.2 rfl ?_
          refine ab_iload d_RD_append_140 rfl ?_
          refine zz_if_eq (tgt := 149) d_RD_append_142 (by decide) (by decide) (fun c83 => absurd c83 (by decide)) (fun c83 => ?_)
          refine zz_iconst d_RD_append_145 ?_
          refine ab_goto (tgt := 150) d_RD_append_146 (by decide) ?_
          refine zz_iadd d_RD_append_150 ?_
          refine ab_putf (fs := [vR se, vR by_, vz n, vz bh28, vz fa, vz fp, vR kd, vz kn]) f_RD_55 (Or.inl rfl) d_RD_append_151 hx.2.2 (Nat.le_of_ble_eq_true rfl) (fun _ => ⟨rfl, rfl⟩) (hx.2.1 (by decide)) ?_
          obtain ⟨G84, eG84⟩ : ∃ z : ab_G, z = List.set G38 x (ab_ob 10 [vR se, vR by_, vz n, vz (bh28 + 1), vz fa, vz fp, vR kd, vz kn]) := ⟨_, rfl⟩
          have hd_ := hd_.keep hx eG84 (by decide)
          have hby_ := hby_.keep hx eG84 (by decide)
          have hg1 := hg1.keep hx eG84 (by decide)
          have hr1 := hr1.keep hx eG84 (by decide)
          have hp := hp.keep hx eG84 (by decide)
          have hfz := hfz.wl ppaI_0 hx eG84 (by decide)
          have hst := (fx.rf (o := o) (S := [24]) (G := G38)).wr hx eG84 (List.mem_singleton.mpr rfl)
          have pszJ_0 := szJ.fr hst ppaI_0 pszJ_0 (by decide) (by decide)
          have pdnJ_0 := dnJ.fr hst ppaI_0 pdnJ_0 (by decide) (by decide)
          have popI_0 := opI.fr hst ppaI_0 popI_0 (by decide) (by decide)
          have ppaI_0 := paI.fr hst ppaI_0 (by decide) (by decide) (by decide) (by decide)
          have hlen := (z_len eG84).trans hlen
          have hsl := (z_sl hx eG84 rfl).trans hsl
          have hfr := hfr.wr hx eG84 (by decide)
          have hx := hx.kept eG84
          change ab_W _ _ _ (List.set G38 x (ab_ob 10 [vR se, vR by_, vz n, vz (bh28 + 1), vz fa, vz fp, vR kd, vz kn])) 154 [some (vR d_), some (vR p), some (vz pl), some (vz 1), some (vz 0), some (vz 1)] [] _
          rw [← eG84]
          refine ab_aload_n d_RD_append_154 rfl ?_
          refine ab_aload_n d_RD_append_155 rfl ?_
          refine ab_getf (fs := [vR x, vR g1, vz dp, vz flg, vz grp, vR na, vR nl, vz l26, vz m27, vz bh28]) f_RD_184 d_RD_append_156 hd_.2.2 rfl ?_
          refine ab_aload_n d_RD_append_159 rfl ?_
          refine ab_getf (fs := [vR x, vR g1, vz dp, vz flg, vz grp, vR na, vR nl, vz l26, vz m27, vz bh28]) f_RD_187 d_RD_append_160 hd_.2.2 rfl ?_
          refine ab_iload d_RD_append_163 rfl ?_
          refine ab_aload_n d_RD_append_165 rfl ?_
          refine zz_bipush d_RD_append_166 (by decide) ?_
          refine ab_callV (d' := d - 1) (as := [vz 8]) (st := [vz 1, vz m27, vz l26, vR p]) (r := _) (z8_RD_isOn (o := o) (d_ := d_) (inn := vR g1) (dp := dp) (flg := flg) (grp := grp) (na := na) (nl := nl) (lst := l26) (mst := m27) (bh := bh28) (x := x) hd_ (by omega)) (fun oc G2 h => by rcases h with ⟨_, h, _⟩ <;> exact ⟨_, h⟩) (by omega) m_RD_isOn ml_RD_94 im_RD_isOn se_RD_isOn c_RD hd_.2.2 (Nat.le_of_ble_eq_true rfl) d_RD_append_168 rfl ?_
          intro v G85 hq
          rcases hq with ⟨v86, hv, hGe, hq87, hq88⟩
          cases hv
          rw [hGe]
          change ab_W _ _ _ G84 171 [some (vR d_), some (vR p), some (vz pl), some (vz 1), some (vz 0), some (vz 1)] [vz v86, vz 1, vz m27, vz l26, vR p] _
          refine zz_icmp_eq (tgt := 178) d_RD_append_171 (by decide) (by decide) (by omega) (fun c89 => ?_) (fun c89 => ?_)
          · refine zz_iconst d_RD_append_178 ?_
            refine ab_callV (d' := d - 1) (as := [vz l26, vz m27, vz 0]) (st := []) (r := _) (z_PA_repeat (o := o) (k := k_4) (v := v_4) (rg := rg_4) (pl := pl_4) (fl := fl_4) (ou := ou_4) (ls := ls_4) (bf := bf_4) (sz := sz_4) (mb := mb_4) (oe := oe_4) (le := le_4) (mo := mo_4) (la := la_4) (rc := rc_4) (ps := ps) (wt := wt) (bs := bs) (gr := grp) (Pr := pr0) (ph := ph) (p := p) (l0 := l26) (m0 := m27) (z0 := 0) hp ppaI_0 (by omega) hpp hn4 (by omega) (ho4.up (by omega)) (hl4.up (by omega)) (hf4.up (by omega)) (by omega) (by omega)) (fun oc G2 h => by rcases h with ⟨_, _, _, h, _⟩ <;> exact ⟨_, h⟩) (by omega) m_PA_repeat ml_RD_193 im_PA_repeat se_PA_repeat c_PA hp.2.2 (Nat.le_of_ble_eq_true rfl) d_RD_append_179 rfl ?_
            intro v G90 hq
            rcases hq with ⟨sz291, mb292, oe293, hv, hfk, hlk, hsk, hNp, pNpaI_0, hq94, hq95, hq96, hq97, hq98⟩
            cases hv
            have hd_ := hfk.get hd_ (by decide)
            have hx := hfk.get hx (by decide)
            have hby_ := hfk.get hby_ (by decide)
            have hKg1 := hq95.get hfk hg1 (Or.inl hpg1) (by simp only [List.mem_cons, List.not_mem_nil, or_false, not_or]; exact (show g1 ≠ p from hgp))
            have hr1 := hfk.get hr1 (by decide)
            have hg1 := hKg1
            have hfz := hfz.tr hq95 (by simp)
            have popI_0 := popI_0.fz (o2 := o) hq95 (by intro y hy; simp only [List.mem_cons, List.not_mem_nil, or_false] at hy; omega)
            have ppaI_0 := pNpaI_0
            have hfr := hfr.tr hfk (by decide)
            have hlen := hlk.trans hlen
            have hsl := hsk.trans hsl
            have hp := hNp
            change ab_W _ _ _ G90 182 [some (vR d_), some (vR p), some (vz pl), some (vz 1), some (vz 0), some (vz 1)] [] _
            refine ab_goto (tgt := 192) d_RD_append_182 (by decide) ?_
            refine ab_aload_n d_RD_append_192 rfl ?_
            refine ab_getf (fs := [vR x, vR g1, vz dp, vz flg, vz grp, vR na, vR nl, vz l26, vz m27, vz bh28]) f_RD_23 d_RD_append_193 hd_.2.2 rfl ?_
            refine ab_aload_n d_RD_append_196 rfl ?_
            refine ab_callV (d' := d - 1) (as := [vR p]) (st := []) (r := _) (z_PA_pushInLastRow (o := o) (k := k_4) (v := v_4) (rg := rg_4) (pl := pl_4) (fl := fl_4) (ou := ou_4) (ls := ls_4) (bf := bf_4) (sz := sz291) (mb := mb292) (oe := oe293) (le := l26) (mo := m27) (la := 0) (rc := rc_4) (lr := ls3) (br := bf3) (sr := sz3) (mr := mb3) (ps := ps) (wt := wt) (bs := bs) (gr := grp) (Pr := pr0) (ph := ph) (r := r1) (p := p) (kg := k_2) (vg := v_2) (rgg := rg_2) (plg := pl_2) (flg := fl_2) (oug := ou_2) (bfg := bf_2) (szg := sz_2) (mbg := mb_2) (oeg := oe_2) (leg := le_2) (mog := mo_2) (lag := la_2) (rcg := rc_2) (q := g1) hg1 hp hr1 ppaI_0 (by omega) hgp hpg1 hpp hpr1 hn4 (by omega) (by omega) (ho4.up (by omega)) (hl4.up (by omega)) (hf4.up (by omega)) (hlv1.up (by omega)) (hf3.up (by omega)) (hlv1.up (by omega)) (by omega) (by omega)) (fun oc G2 h => by rcases h with ⟨_, _, h, _⟩ <;> exact ⟨_, h⟩) (by omega) m_PA_pushInLastRow ml_RD_197 im_PA_pushInLastRow se_PA_pushInLastRow c_PA hg1.2.2 (Nat.le_of_ble_eq_true rfl) d_RD_append_197 rfl ?_
            intro v G99 hq
            rcases hq with ⟨sr2100, mr2101, hv, hfk, hlk, hsk, hNg1, hNp, hNr1, pNpaI_0, hq102, hq103, hq104, hq105⟩
            cases hv
            have hd_ := hfk.get hd_ (by decide)
            have hx := hfk.get hx (by decide)
            have hby_ := hfk.get hby_ (by decide)
            have hfz := hfz.tr hq103 (by simp)
            have popI_0 := popI_0.fz (o2 := o) hq103 (by intro y hy; simp only [List.mem_cons, List.not_mem_nil, or_false] at hy; omega)
            have ppaI_0 := pNpaI_0
            have hfr := hfr.tr hfk (by decide)
            have hlen := hlk.trans hlen
            have hsl := hsk.trans hsl
            have hg1 := hNg1
            have hp := hNp
            have hr1 := hNr1
            change ab_W _ _ _ G99 200 [some (vR d_), some (vR p), some (vz pl), some (vz 1), some (vz 0), some (vz 1)] [] _
            have pszJ_0 : szJ o G99 0 ps ((a1_, b1_, c1_, d1_, (e1_ + (tms l26 m27 * psz + mre l26 m27))) :: t_) G99.length (vR g1) wh 0 0 := (szJ.appC hsz9 hpa9 hfz hg9 hp9 hr9 hp hr1 hpr1 (by omega) (by omega) (by omega) (by omega) (by omega) hq96 hq104).up (by omega)
            have hdn8 := (dnJ.appC (o2 := o) hdn9 hsz9 hpa9 hfz hg9 hp9 hr9 hp hr1 hpr1 (by omega) (by omega) (by omega) (by omega) (by omega) hq96 hq104 (by omega) (by omega) (by omega) (by omega)).up (hi2 := G99.length) (by omega)
            rw [show 0 = lzR f n bh28 flg from (by unfold lzR; split <;> omega)] at hdn8
            have pdnJ_0 : dnJ o G99 0 ps wt ((ao_, (mnC ro_ (mnR l26 m27 (lzR f n bh28 flg) ov))) :: ts_) G99.length (vR g1) 0 mnI := hdn8
            have popI_0 : opI o G99 0 ps (j1 + 1) G99.length (vR g1) := ⟨g1, r1, ou_2, (vR p), rfl, ⟨hpg1, hpr1⟩, ⟨by omega, by omega⟩, by unfold pf; rw [hg1.2.2]; rfl, by unfold pf; rw [hg1.2.2]; rfl, by unfold pf; rw [hr1.2.2]; rfl, (Or.inr ⟨_, rfl, hpp, by have hlt := hp.lt; omega⟩), popI_0⟩
            rw [← hj1] at popI_0
            refine ab_vret rfl d_RD_append_200 ?_
            rw [hQ]; exact (Or.inr (Or.inl ⟨_, _, _, _, _, _, _, _, _, _, _, _, _, 1, _, _, rfl, hfr, hlen, hsl, hd_, hx, ppaI_0, popI_0, pszJ_0, pdnJ_0, (by exact hft_), (by exact hfs_), (by exact hq11), (by exact fun z => by have t := z.2; unfold tooR at t; omega), (by unfold askR; first | (left; omega) | (right; omega)), (by first | omega | (have t_ := tpk_w (f := f) (n := n) (i := bh28) (by omega); omega)), (by omega)⟩))
          · refine zz_iconst d_RD_append_174 ?_
            refine ab_goto (tgt := 179) d_RD_append_175 (by decide) ?_
            refine ab_callV (d' := d - 1) (as := [vz l26, vz m27, vz 1]) (st := []) (r := _) (z_PA_repeat (o := o) (k := k_4) (v := v_4) (rg := rg_4) (pl := pl_4) (fl := fl_4) (ou := ou_4) (ls := ls_4) (bf := bf_4) (sz := sz_4) (mb := mb_4) (oe := oe_4) (le := le_4) (mo := mo_4) (la := la_4) (rc := rc_4) (ps := ps) (wt := wt) (bs := bs) (gr := grp) (Pr := pr0) (ph := ph) (p := p) (l0 := l26) (m0 := m27) (z0 := 1) hp ppaI_0 (by omega) hpp hn4 (by omega) (ho4.up (by omega)) (hl4.up (by omega)) (hf4.up (by omega)) (by omega) (by omega)) (fun oc G2 h => by rcases h with ⟨_, _, _, h, _⟩ <;> exact ⟨_, h⟩) (by omega) m_PA_repeat ml_RD_193 im_PA_repeat se_PA_repeat c_PA hp.2.2 (Nat.le_of_ble_eq_true rfl) d_RD_append_179 rfl ?_
            intro v G106 hq
            rcases hq with ⟨sz2107, mb2108, oe2109, hv, hfk, hlk, hsk, hNp, pNpaI_0, hq110, hq111, hq112, hq113, hq114⟩
            cases hv
            have hd_ := hfk.get hd_ (by decide)
            have hx := hfk.get hx (by decide)
            have hby_ := hfk.get hby_ (by decide)
            have hKg1 := hq111.get hfk hg1 (Or.inl hpg1) (by simp only [List.mem_cons, List.not_mem_nil, or_false, not_or]; exact (show g1 ≠ p from hgp))
            have hr1 := hfk.get hr1 (by decide)
            have hg1 := hKg1
            have hfz := hfz.tr hq111 (by simp)
            have popI_0 := popI_0.fz (o2 := o) hq111 (by intro y hy; simp only [List.mem_cons, List.not_mem_nil, or_false] at hy; omega)
            have ppaI_0 := pNpaI_0
            have hfr := hfr.tr hfk (by decide)
            have hlen := hlk.trans hlen
            have hsl := hsk.trans hsl
            have hp := hNp
            change ab_W _ _ _ G106 182 [some (vR d_), some (vR p), some (vz pl), some (vz 1), some (vz 0), some (vz 1)] [] _
            refine ab_goto (tgt := 192) d_RD_append_182 (by decide) ?_
            refine ab_aload_n d_RD_append_192 rfl ?_
            refine ab_getf (fs := [vR x, vR g1, vz dp, vz flg, vz grp, vR na, vR nl, vz l26, vz m27, vz bh28]) f_RD_23 d_RD_append_193 hd_.2.2 rfl ?_
            refine ab_aload_n d_RD_append_196 rfl ?_
            refine ab_callV (d' := d - 1) (as := [vR p]) (st := []) (r := _) (z_PA_pushInLastRow (o := o) (k := k_4) (v := v_4) (rg := rg_4) (pl := pl_4) (fl := fl_4) (ou := ou_4) (ls := ls_4) (bf := bf_4) (sz := sz2107) (mb := mb2108) (oe := oe2109) (le := l26) (mo := m27) (la := 1) (rc := rc_4) (lr := ls3) (br := bf3) (sr := sz3) (mr := mb3) (ps := ps) (wt := wt) (bs := bs) (gr := grp) (Pr := pr0) (ph := ph) (r := r1) (p := p) (kg := k_2) (vg := v_2) (rgg := rg_2) (plg := pl_2) (flg := fl_2) (oug := ou_2) (bfg := bf_2) (szg := sz_2) (mbg := mb_2) (oeg := oe_2) (leg := le_2) (mog := mo_2) (lag := la_2) (rcg := rc_2) (q := g1) hg1 hp hr1 ppaI_0 (by omega) hgp hpg1 hpp hpr1 hn4 (by omega) (by omega) (ho4.up (by omega)) (hl4.up (by omega)) (hf4.up (by omega)) (hlv1.up (by omega)) (hf3.up (by omega)) (hlv1.up (by omega)) (by omega) (by omega)) (fun oc G2 h => by rcases h with ⟨_, _, h, _⟩ <;> exact ⟨_, h⟩) (by omega) m_PA_pushInLastRow ml_RD_197 im_PA_pushInLastRow se_PA_pushInLastRow c_PA hg1.2.2 (Nat.le_of_ble_eq_true rfl) d_RD_append_197 rfl ?_
            intro v G115 hq
            rcases hq with ⟨sr2116, mr2117, hv, hfk, hlk, hsk, hNg1, hNp, hNr1, pNpaI_0, hq118, hq119, hq120, hq121⟩
            cases hv
            have hd_ := hfk.get hd_ (by decide)
            have hx := hfk.get hx (by decide)
            have hby_ := hfk.get hby_ (by decide)
            have hfz := hfz.tr hq119 (by simp)
            have popI_0 := popI_0.fz (o2 := o) hq119 (by intro y hy; simp only [List.mem_cons, List.not_mem_nil, or_false] at hy; omega)
            have ppaI_0 := pNpaI_0
            have hfr := hfr.tr hfk (by decide)
            have hlen := hlk.trans hlen
            have hsl := hsk.trans hsl
            have hg1 := hNg1
            have hp := hNp
            have hr1 := hNr1
            change ab_W _ _ _ G115 200 [some (vR d_), some (vR p), some (vz pl), some (vz 1), some (vz 0), some (vz 1)] [] _
            have pszJ_0 : szJ o G115 0 ps ((a1_, b1_, c1_, d1_, (e1_ + (tms l26 m27 * psz + mre l26 m27))) :: t_) G115.length (vR g1) wh 0 0 := (szJ.appC hsz9 hpa9 hfz hg9 hp9 hr9 hp hr1 hpr1 (by omega) (by omega) (by omega) (by omega) (by omega) hq112 hq120).up (by omega)
            have hdn8 := (dnJ.appC (o2 := o) hdn9 hsz9 hpa9 hfz hg9 hp9 hr9 hp hr1 hpr1 (by omega) (by omega) (by omega) (by omega) (by omega) hq112 hq120 (by omega) (by omega) (by omega) (by omega)).up (hi2 := G115.length) (by omega)
            rw [show 1 = lzR f n bh28 flg from (by unfold lzR; split <;> omega)] at hdn8
            have pdnJ_0 : dnJ o G115 0 ps wt ((ao_, (mnC ro_ (mnR l26 m27 (lzR f n bh28 flg) ov))) :: ts_) G115.length (vR g1) 0 mnI := hdn8
            have popI_0 : opI o G115 0 ps (j1 + 1) G115.length (vR g1) := ⟨g1, r1, ou_2, (vR p), rfl, ⟨hpg1, hpr1⟩, ⟨by omega, by omega⟩, by unfold pf; rw [hg1.2.2]; rfl, by unfold pf; rw [hg1.2.2]; rfl, by unfold pf; rw [hr1.2.2]; rfl, (Or.inr ⟨_, rfl, hpp, by have hlt := hp.lt; omega⟩), popI_0⟩
            rw [← hj1] at popI_0
            refine ab_vret rfl d_RD_append_200 ?_
            rw [hQ]; exact (Or.inr (Or.inl ⟨_, _, _, _, _, _, _, _, _, _, _, _, _, 1, _, _, rfl, hfr, hlen, hsl, hd_, hx, ppaI_0, popI_0, pszJ_0, pdnJ_0, (by exact hft_), (by exact hfs_), (by exact hq11), (by exact fun z => by have t := z.2; unfold tooR at t; omega), (by unfold askR; first | (left; omega) | (right; omega)), (by first | omega | (have t_ := tpk_w (f := f) (n := n) (i := bh28) (by omega); omega)), (by omega)⟩))
      · refine ab_aload_n d_RD_append_53 rfl ?_
        refine ab_getf (fs := [vR x, vR g1, vz dp, vz flg, vz grp, vR na, vR nl, vz l26, vz m27, vz bh28]) f_RD_187 d_RD_append_54 hd_.2.2 rfl ?_
        refine zz_bipush d_RD_append_57 (by decide) ?_
        refine zz_icmp_gt (tgt := 73) d_RD_append_59 (by decide) (by omega) (by decide) (fun c122 => ?_) (fun c122 => ?_)
        · refine zz_iconst d_RD_append_73 ?_
          refine ab_goto (tgt := 78) d_RD_append_74 (by decide) ?_
          refine ab_istore d_RD_append_78 (Nat.le_of_ble_eq_true rfl) (Nat.le_of_ble_eq_true rfl) rfl ?_
          change ab_W _ _ _ G5 80 [some (vR d_), some (vR p), some (vz pl), some (vz 1), some (vz 1), none] [] _
          refine ab_iload_n d_RD_append_80 rfl ?_
          refine zz_if_eq (tgt := 101) d_RD_append_81 (by decide) (by decide) (fun c123 => absurd c123 (by decide)) (fun c123 => ?_)
          refine ab_iload d_RD_append_84 rfl ?_
          refine zz_if_eq (tgt := 101) d_RD_append_86 (by decide) (by decide) (fun c124 => absurd c124 (by decide)) (fun c124 => ?_)
          refine ab_aload_n d_RD_append_89 rfl ?_
          refine ab_getf (fs := [vR x, vR g1, vz dp, vz flg, vz grp, vR na, vR nl, vz l26, vz m27, vz bh28]) f_RD_12 d_RD_append_90 hd_.2.2 rfl ?_
          refine zz_bipush d_RD_append_93 (by decide) ?_
          refine ab_iload_n d_RD_append_95 rfl ?_
          refine ab_callV (d' := d - 1) (as := [vz 9, vz pl]) (st := []) (r := _) (z_TX_fail (o := o) (x := x) (lx := 24) (se := se) (by_ := by_) (n := n) (pl := pl) (fa := fa) (fp := fp) (kd := kd) (kn := kn) (w := 9) (p := pl) hx (by omega) (by omega) (by omega)) (fun oc G2 h => by rcases h with ⟨h, _⟩ | ⟨h, _⟩ <;> exact ⟨_, h⟩) (by omega) m_TX_fail ml_RD_69 im_TX_fail se_TX_fail c_TX hx.2.2 (Nat.le_of_ble_eq_true rfl) d_RD_append_96 rfl ?_
          intro v G125 hq
          rcases hq with ⟨hv, hfk, hlk, hsk, hNx, hq126⟩ | ⟨hv, hGe, hq127⟩
          · cases hv
            have hd_ := hfk.get hd_ (by decide)
            have hby_ := hfk.get hby_ (by decide)
            have hg1 := hfk.get hg1 (by decide)
            have hr1 := hfk.get hr1 (by decide)
            have hp := hfk.get hp (by decide)
            have hfz := hfz.tr (fz.fx ppaI_0 hfk (by decide) (by decide)) (by simp)
            have pszJ_0 := szJ.fr hfk ppaI_0 pszJ_0 (by decide) (by decide)
            have pdnJ_0 := dnJ.fr hfk ppaI_0 pdnJ_0 (by decide) (by decide)
            have popI_0 := opI.fr hfk ppaI_0 popI_0 (by decide) (by decide)
            have ppaI_0 := paI.fr hfk ppaI_0 (by decide) (by decide) (by decide) (by decide)
            have hfr := hfr.tr hfk (by decide)
            have hlen := hlk.trans hlen
            have hsl := hsk.trans hsl
            have hx := hNx
            change ab_W _ _ _ G125 99 [some (vR d_), some (vR p), some (vz pl), some (vz 1), some (vz 1), none] [vz (-1)] _
            refine ab_pop d_RD_append_99 rfl ?_
            have pszJ_0 := pszJ_0.drop.up (hi2 := G125.length) (by omega)
            have pdnJ_0 := pdnJ_0.drop.up (hi2 := G125.length) (by omega)
            have popI_0 : opI o G125 0 ps (j1 + 1) G125.length (vR g1) := ⟨g1, r1, ou_2, ls3, rfl, ⟨hpg1, hpr1⟩, ⟨by omega, by omega⟩, by unfold pf; rw [hg1.2.2]; rfl, by unfold pf; rw [hg1.2.2]; rfl, by unfold pf; rw [hr1.2.2]; rfl, (hlv1.up (by omega)), popI_0⟩
            rw [← hj1] at popI_0
            refine ab_vret rfl d_RD_append_100 ?_
            rw [hQ]; exact (Or.inl ⟨_, _, _, _, _, _, _, _, _, _, _, _, _, _, rfl, hfr, hlen, hsl, hd_, hx, ppaI_0, popI_0, pszJ_0, pdnJ_0, (by exact hft_), (by exact hfs_), (by exact hq11), (by unfold tooR; omega), (by omega)⟩)
          · cases hv
            rw [hGe]
            change ab_W _ _ _ G5 99 [some (vR d_), some (vR p), some (vz pl), some (vz 1), some (vz 1), none] [vz (-1)] _
            exfalso; omega
        · refine ab_aload_n d_RD_append_62 rfl ?_
          refine ab_getf (fs := [vR x, vR g1, vz dp, vz flg, vz grp, vR na, vR nl, vz l26, vz m27, vz bh28]) f_RD_184 d_RD_append_63 hd_.2.2 rfl ?_
          refine ab_aload_n d_RD_append_66 rfl ?_
          refine ab_getf (fs := [vR x, vR g1, vz dp, vz flg, vz grp, vR na, vR nl, vz l26, vz m27, vz bh28]) f_RD_187 d_RD_append_67 hd_.2.2 rfl ?_
          refine zz_icmp_le (tgt := 77) d_RD_append_70 (by decide) (by omega) (by omega) (fun c128 => ?_) (fun c128 => ?_)
          · refine zz_iconst d_RD_append_77 ?_
            refine ab_istore d_RD_append_78 (Nat.le_of_ble_eq_true rfl) (Nat.le_of_ble_eq_true rfl) rfl ?_
            change ab_W _ _ _ G5 80 [some (vR d_), some (vR p), some (vz pl), some (vz 1), some (vz 0), none] [] _
            refine ab_iload_n d_RD_append_80 rfl ?_
            refine zz_if_eq (tgt := 101) d_RD_append_81 (by decide) (by decide) (fun c129 => absurd c129 (by decide)) (fun c129 => ?_)
            refine ab_iload d_RD_append_84 rfl ?_
            refine zz_if_eq (tgt := 101) d_RD_append_86 (by decide) (by decide) (fun c130 => ?_) (fun c130 => absurd c130 (by decide))
            refine ab_aload_n d_RD_append_101 rfl ?_
            refine ab_getf (fs := [vR x, vR g1, vz dp, vz flg, vz grp, vR na, vR nl, vz l26, vz m27, vz bh28]) f_RD_12 d_RD_append_102 hd_.2.2 rfl ?_
            refine ab_aload_n d_RD_append_105 rfl ?_
            refine ab_getf (fs := [vR x, vR g1, vz dp, vz flg, vz grp, vR na, vR nl, vz l26, vz m27, vz bh28]) f_RD_190 d_RD_append_106 hd_.2.2 rfl ?_
            refine ab_putf (fs := [vR se, vR by_, vz n, vz pl, vz fa, vz fp, vR kd, vz kn]) f_RD_55 (Or.inl rfl) d_RD_append_109 hx.2.2 (Nat.le_of_ble_eq_true rfl) (fun _ => ⟨rfl, rfl⟩) (hx.2.1 (by decide)) ?_
            obtain ⟨G131, eG131⟩ : ∃ z : ab_G, z = List.set G5 x (ab_ob 10 [vR se, vR by_, vz n, vz bh28, vz fa, vz fp, vR kd, vz kn]) := ⟨_, rfl⟩
            have hd_ := hd_.keep hx eG131 (by decide)
            have hby_ := hby_.keep hx eG131 (by decide)
            have hg1 := hg1.keep hx eG131 (by decide)
            have hr1 := hr1.keep hx eG131 (by decide)
            have hp := hp.keep hx eG131 (by decide)
            have hfz := hfz.wl ppaI_0 hx eG131 (by decide)
            have hst := (fx.rf (o := o) (S := [24]) (G := G5)).wr hx eG131 (List.mem_singleton.mpr rfl)
            have pszJ_0 := szJ.fr hst ppaI_0 pszJ_0 (by decide) (by decide)
            have pdnJ_0 := dnJ.fr hst ppaI_0 pdnJ_0 (by decide) (by decide)
            have popI_0 := opI.fr hst ppaI_0 popI_0 (by decide) (by decide)
            have ppaI_0 := paI.fr hst ppaI_0 (by decide) (by decide) (by decide) (by decide)
            have hlen := (z_len eG131).trans hlen
            have hsl := (z_sl hx eG131 rfl).trans hsl
            have hfr := hfr.wr hx eG131 (by decide)
            have hx := hx.kept eG131
            change ab_W _ _ _ (List.set G5 x (ab_ob 10 [vR se, vR by_, vz n, vz bh28, vz fa, vz fp, vR kd, vz kn])) 112 [some (vR d_), some (vR p), some (vz pl), some (vz 1), some (vz 0), none] [] _
            rw [← eG131]
            refine ab_aload_n d_RD_append_112 rfl ?_
            refine ab_getf (fs := [vR x, vR g1, vz dp, vz flg, vz grp, vR na, vR nl, vz l26, vz m27, vz bh28]) f_RD_12 d_RD_append_113 hd_.2.2 rfl ?_
            refine zz_iconst d_RD_append_116 ?_
            refine ab_callV (d' := d - 1) (as := [vz 0]) (st := []) (r := _) (z_TX_peek0 (o := o) (x := x) (lx := 24) (se := se) (by_ := by_) (lby := 23) (m := m) (f := f) (n := n) (pl := bh28) (fa := fa) (fp := fp) (kd := kd) (kn := kn) hx hby_ (by omega) hb) (fun oc G2 h => by rcases h with ⟨_, h, _⟩ <;> exact ⟨_, h⟩) (by omega) m_TX_peek ml_RD_79 im_TX_peek se_TX_peek c_TX hx.2.2 (Nat.le_of_ble_eq_true rfl) d_RD_append_117 rfl ?_
            intro v G132 hq
            rcases hq with ⟨v133, hv, hGe, hq134, hq135⟩
            cases hv
            rw [hGe]
            change ab_W _ _ _ G131 120 [some (vR d_), some (vR p), some (vz pl), some (vz 1), some (vz 0), none] [vz v133] _
            refine zz_bipush d_RD_append_120 (by decide) ?_
            refine zz_icmp_ne (tgt := 129) d_RD_append_122 (by decide) (by omega) (by decide) (fun c136 => ?_) (fun c136 => ?_)
            · refine zz_iconst d_RD_append_129 ?_
              refine ab_istore d_RD_append_130 (Nat.le_of_ble_eq_true rfl) (Nat.le_of_ble_eq_true rfl) rfl ?_
              change ab_W _ _ _ G131 132 [some (vR d_), some (vR p), some (vz pl), some (vz 1), some (vz 0), some (vz 0)] [] _
              refine ab_aload_n d_RD_append_132 rfl ?_
              refine ab_getf (fs := [vR x, vR g1, vz dp, vz flg, vz grp, vR na, vR nl, vz l26, vz m27, vz bh28]) f_RD_12 d_RD_append_133 hd_.2.2 rfl ?_
              refine ab_dup d_RD_append_136 rfl ?_
              refine ab_getf (fs := [vR se, vR by_, vz n, vz bh28, vz fa, vz fp, vR kd, vz kn]) f_RD_55 d_RD_append_137 hx.2.2 rfl ?_
              refine ab_iload d_RD_append_140 rfl ?_
              refine zz_if_eq (tgt := 149) d_RD_append_142 (by decide) (by decide) (fun c137 => ?_) (fun c137 => absurd c137 (by decide))
              refine zz_iconst d_RD_append_149 ?_
              refine zz_iadd d_RD_append_150 ?_
              refine ab_putf (fs := [vR se, vR by_, vz n, vz bh28, vz fa, vz fp, vR kd, vz kn]) f_RD_55 (Or.inl rfl) d_RD_append_151 hx.2.2 (Nat.le_of_ble_eq_true rfl) (fun _ => ⟨rfl, rfl⟩) (hx.2.1 (by decide)) ?_
              obtain ⟨G138, eG138⟩ : ∃ z : ab_G, z = List.set G131 x (ab_ob 10 [vR se, vR by_, vz n, vz (bh28 + 0), vz fa, vz fp, vR kd, vz kn]) := ⟨_, rfl⟩
              have hd_ := hd_.keep hx eG138 (by decide)
              have hby_ := hby_.keep hx eG138 (by decide)
              have hg1 := hg1.keep hx eG138 (by decide)
              have hr1 := hr1.keep hx eG138 (by decide)
              have hp := hp.keep hx eG138 (by decide)
              have hfz := hfz.wl ppaI_0 hx eG138 (by decide)
              have hst := (fx.rf (o := o) (S := [24]) (G := G131)).wr hx eG138 (List.mem_singleton.mpr rfl)
              have pszJ_0 := szJ.fr hst ppaI_0 pszJ_0 (by decide) (by decide)
              have pdnJ_0 := dnJ.fr hst ppaI_0 pdnJ_0 (by decide) (by decide)
              have popI_0 := opI.fr hst ppaI_0 popI_0 (by decide) (by decide)
              have ppaI_0 := paI.fr hst ppaI_0 (by decide) (by decide) (by decide) (by decide)
              have hlen := (z_len eG138).trans hlen
              have hsl := (z_sl hx eG138 rfl).trans hsl
              have hfr := hfr.wr hx eG138 (by decide)
              have hx := hx.kept eG138
              change ab_W _ _ _ (List.set G131 x (ab_ob 10 [vR se, vR by_, vz n, vz (bh28 + 0), vz fa, vz fp, vR kd, vz kn])) 154 [some (vR d_), some (vR p), some (vz pl), some (vz 1), some (vz 0), some (vz 0)] [] _
              rw [← eG138]
              refine ab_aload_n d_RD_append_154 rfl ?_
              refine ab_aload_n d_RD_append_155 rfl ?_
              refine ab_getf (fs := [vR x, vR g1, vz dp, vz flg, vz grp, vR na, vR nl, vz l26, vz m27, vz bh28]) f_RD_184 d_RD_append_156 hd_.2.2 rfl ?_
              refine ab_aload_n d_RD_append_159 rfl ?_
              refine ab_getf (fs := [vR x, vR g1, vz dp, vz flg, vz grp, vR na, vR nl, vz l26, vz m27, vz bh28]) f_RD_187 d_RD_append_160 hd_.2.2 rfl ?_
              refine ab_iload d_RD_append_163 rfl ?_
              refine ab_aload_n d_RD_append_165 rfl ?_
              refine zz_bipush d_RD_append_166 (by decide) ?_
              refine ab_callV (d' := d - 1) (as := [vz 8]) (st := [vz 0, vz m27, vz l26, vR p]) (r := _) (z8_RD_isOn (o := o) (d_ := d_) (inn := vR g1) (dp := dp) (flg := flg) (grp := grp) (na := na) (nl := nl) (lst := l26) (mst := m27) (bh := bh28) (x := x) hd_ (by omega)) (fun oc G2 h => by rcases h with ⟨_, h, _⟩ <;> exact ⟨_, h⟩) (by omega) m_RD_isOn ml_RD_94 im_RD_isOn se_RD_isOn c_RD hd_.2.2 (Nat.le_of_ble_eq_true rfl) d_RD_append_168 rfl ?_
              intro v G139 hq
              rcases hq with ⟨v140, hv, hGe, hq141, hq142⟩
              cases hv
              rw [hGe]
              change ab_W _ _ _ G138 171 [some (vR d_), some (vR p), some (vz pl), some (vz 1), some (vz 0), some (vz 0)] [vz v140, vz 0, vz m27, vz l26, vR p] _
              refine zz_icmp_eq (tgt := 178) d_RD_append_171 (by decide) (by decide) (by omega) (fun c143 => ?_) (fun c143 => ?_)
              · refine zz_iconst d_RD_append_178 ?_
                refine ab_callV (d' := d - 1) (as := [vz l26, vz m27, vz 0]) (st := []) (r := _) (z_PA_repeat (o := o) (k := k_4) (v := v_4) (rg := rg_4) (pl := pl_4) (fl := fl_4) (ou := ou_4) (ls := ls_4) (bf := bf_4) (sz := sz_4) (mb := mb_4) (oe := oe_4) (le := le_4) (mo := mo_4) (la := la_4) (rc := rc_4) (ps := ps) (wt := wt) (bs := bs) (gr := grp) (Pr := pr0) (ph := ph) (p := p) (l0 := l26) (m0 := m27) (z0 := 0) hp ppaI_0 (by omega) hpp hn4 (by omega) (ho4.up (by omega)) (hl4.up (by omega)) (hf4.up (by omega)) (by omega) (by omega)) (fun oc G2 h => by rcases h with ⟨_, _, _, h, _⟩ <;> exact ⟨_, h⟩) (by omega) m_PA_repeat ml_RD_193 im_PA_repeat se_PA_repeat c_PA hp.2.2 (Nat.le_of_ble_eq_true rfl) d_RD_append_179 rfl ?_
                intro v G144 hq
                rcases hq with ⟨sz2145, mb2146, oe2147, hv, hfk, hlk, hsk, hNp, pNpaI_0, hq148, hq149, hq150, hq151, hq152⟩
                cases hv
                have hd_ := hfk.get hd_ (by decide)
                have hx := hfk.get hx (by decide)
                have hby_ := hfk.get hby_ (by decide)
                have hKg1 := hq149.get hfk hg1 (Or.inl hpg1) (by simp only [List.mem_cons, List.not_mem_nil, or_false, not_or]; exact (show g1 ≠ p from hgp))
                have hr1 := hfk.get hr1 (by decide)
                have hg1 := hKg1
                have hfz := hfz.tr hq149 (by simp)
                have popI_0 := popI_0.fz (o2 := o) hq149 (by intro y hy; simp only [List.mem_cons, List.not_mem_nil, or_false] at hy; omega)
                have ppaI_0 := pNpaI_0
                have hfr := hfr.tr hfk (by decide)
                have hlen := hlk.trans hlen
                have hsl := hsk.trans hsl
                have hp := hNp
                change ab_W _ _ _ G144 182 [some (vR d_), some (vR p), some (vz pl), some (vz 1), some (vz 0), some (vz 0)] [] _
                refine ab_goto (tgt := 192) d_RD_append_182 (by decide) ?_
                refine ab_aload_n d_RD_append_192 rfl ?_
                refine ab_getf (fs := [vR x, vR g1, vz dp, vz flg, vz grp, vR na, vR nl, vz l26, vz m27, vz bh28]) f_RD_23 d_RD_append_193 hd_.2.2 rfl ?_
                refine ab_aload_n d_RD_append_196 rfl ?_
                refine ab_callV (d' := d - 1) (as := [vR p]) (st := []) (r := _) (z_PA_pushInLastRow (o := o) (k := k_4) (v := v_4) (rg := rg_4) (pl := pl_4) (fl := fl_4) (ou := ou_4) (ls := ls_4) (bf := bf_4) (sz := sz2145) (mb := mb2146) (oe := oe2147) (le := l26) (mo := m27) (la := 0) (rc := rc_4) (lr := ls3) (br := bf3) (sr := sz3) (mr := mb3) (ps := ps) (wt := wt) (bs := bs) (gr := grp) (Pr := pr0) (ph := ph) (r := r1) (p := p) (kg := k_2) (vg := v_2) (rgg := rg_2) (plg := pl_2) (flg := fl_2) (oug := ou_2) (bfg := bf_2) (szg := sz_2) (mbg := mb_2) (oeg := oe_2) (leg := le_2) (mog := mo_2) (lag := la_2) (rcg := rc_2) (q := g1) hg1 hp hr1 ppaI_0 (by omega) hgp hpg1 hpp hpr1 hn4 (by omega) (by omega) (ho4.up (by omega)) (hl4.up (by omega)) (hf4.up (by omega)) (hlv1.up (by omega)) (hf3.up (by omega)) (hlv1.up (by omega)) (by omega) (by omega)) (fun oc G2 h => by rcases h with ⟨_, _, h, _⟩ <;> exact ⟨_, h⟩) (by omega) m_PA_pushInLastRow ml_RD_197 im_PA_pushInLastRow se_PA_pushInLastRow c_PA hg1.2.2 (Nat.le_of_ble_eq_true rfl) d_RD_append_197 rfl ?_
                intro v G153 hq
                rcases hq with ⟨sr2154, mr2155, hv, hfk, hlk, hsk, hNg1, hNp, hNr1, pNpaI_0, hq156, hq157, hq158, hq159⟩
                cases hv
                have hd_ := hfk.get hd_ (by decide)
                have hx := hfk.get hx (by decide)
                have hby_ := hfk.get hby_ (by decide)
                have hfz := hfz.tr hq157 (by simp)
                have popI_0 := popI_0.fz (o2 := o) hq157 (by intro y hy; simp only [List.mem_cons, List.not_mem_nil, or_false] at hy; omega)
                have ppaI_0 := pNpaI_0
                have hfr := hfr.tr hfk (by decide)
                have hlen := hlk.trans hlen
                have hsl := hsk.trans hsl
                have hg1 := hNg1
                have hp := hNp
                have hr1 := hNr1
                change ab_W _ _ _ G153 200 [some (vR d_), some (vR p), some (vz pl), some (vz 1), some (vz 0), some (vz 0)] [] _
                have pszJ_0 : szJ o G153 0 ps ((a1_, b1_, c1_, d1_, (e1_ + (tms l26 m27 * psz + mre l26 m27))) :: t_) G153.length (vR g1) wh 0 0 := (szJ.appC hsz9 hpa9 hfz hg9 hp9 hr9 hp hr1 hpr1 (by omega) (by omega) (by omega) (by omega) (by omega) hq150 hq158).up (by omega)
                have hdn8 := (dnJ.appC (o2 := o) hdn9 hsz9 hpa9 hfz hg9 hp9 hr9 hp hr1 hpr1 (by omega) (by omega) (by omega) (by omega) (by omega) hq150 hq158 (by omega) (by omega) (by omega) (by omega)).up (hi2 := G153.length) (by omega)
                rw [show 0 = lzR f n bh28 flg from (by unfold lzR; split <;> omega)] at hdn8
                have pdnJ_0 : dnJ o G153 0 ps wt ((ao_, (mnC ro_ (mnR l26 m27 (lzR f n bh28 flg) ov))) :: ts_) G153.length (vR g1) 0 mnI := hdn8
                have popI_0 : opI o G153 0 ps (j1 + 1) G153.length (vR g1) := ⟨g1, r1, ou_2, (vR p), rfl, ⟨hpg1, hpr1⟩, ⟨by omega, by omega⟩, by unfold pf; rw [hg1.2.2]; rfl, by unfold pf; rw [hg1.2.2]; rfl, by unfold pf; rw [hr1.2.2]; rfl, (Or.inr ⟨_, rfl, hpp, by have hlt := hp.lt; omega⟩), popI_0⟩
                rw [← hj1] at popI_0
                refine ab_vret rfl d_RD_append_200 ?_
                rw [hQ]; exact (Or.inr (Or.inl ⟨_, _, _, _, _, _, _, _, _, _, _, _, _, 1, _, _, rfl, hfr, hlen, hsl, hd_, hx, ppaI_0, popI_0, pszJ_0, pdnJ_0, (by exact hft_), (by exact hfs_), (by exact hq11), (by exact fun z => by have t := z.2; unfold tooR at t; omega), (by unfold askR; first | (left; omega) | (right; omega)), (by first | omega | (have t_ := tpk_w (f := f) (n := n) (i := bh28) (by omega); omega)), (by omega)⟩))
              · refine zz_iconst d_RD_append_174 ?_
                refine ab_goto (tgt := 179) d_RD_append_175 (by decide) ?_
                refine ab_callV (d' := d - 1) (as := [vz l26, vz m27, vz 1]) (st := []) (r := _) (z_PA_repeat (o := o) (k := k_4) (v := v_4) (rg := rg_4) (pl := pl_4) (fl := fl_4) (ou := ou_4) (ls := ls_4) (bf := bf_4) (sz := sz_4) (mb := mb_4) (oe := oe_4) (le := le_4) (mo := mo_4) (la := la_4) (rc := rc_4) (ps := ps) (wt := wt) (bs := bs) (gr := grp) (Pr := pr0) (ph := ph) (p := p) (l0 := l26) (m0 := m27) (z0 := 1) hp ppaI_0 (by omega) hpp hn4 (by omega) (ho4.up (by omega)) (hl4.up (by omega)) (hf4.up (by omega)) (by omega) (by omega)) (fun oc G2 h => by rcases h with ⟨_, _, _, h, _⟩ <;> exact ⟨_, h⟩) (by omega) m_PA_repeat ml_RD_193 im_PA_repeat se_PA_repeat c_PA hp.2.2 (Nat.le_of_ble_eq_true rfl) d_RD_append_179 rfl ?_
                intro v G160 hq
                rcases hq with ⟨sz2161, mb2162, oe2163, hv, hfk, hlk, hsk, hNp, pNpaI_0, hq164, hq165, hq166, hq167, hq168⟩
                cases hv
                have hd_ := hfk.get hd_ (by decide)
                have hx := hfk.get hx (by decide)
                have hby_ := hfk.get hby_ (by decide)
                have hKg1 := hq165.get hfk hg1 (Or.inl hpg1) (by simp only [List.mem_cons, List.not_mem_nil, or_false, not_or]; exact (show g1 ≠ p from hgp))
                have hr1 := hfk.get hr1 (by decide)
                have hg1 := hKg1
                have hfz := hfz.tr hq165 (by simp)
                have popI_0 := popI_0.fz (o2 := o) hq165 (by intro y hy; simp only [List.mem_cons, List.not_mem_nil, or_false] at hy; omega)
                have ppaI_0 := pNpaI_0
                have hfr := hfr.tr hfk (by decide)
                have hlen := hlk.trans hlen
                have hsl := hsk.trans hsl
                have hp := hNp
                change ab_W _ _ _ G160 182 [some (vR d_), some (vR p), some (vz pl), some (vz 1), some (vz 0), some (vz 0)] [] _
                refine ab_goto (tgt := 192) d_RD_append_182 (by decide) ?_
                refine ab_aload_n d_RD_append_192 rfl ?_
                refine ab_getf (fs := [vR x, vR g1, vz dp, vz flg, vz grp, vR na, vR nl, vz l26, vz m27, vz bh28]) f_RD_23 d_RD_append_193 hd_.2.2 rfl ?_
                refine ab_aload_n d_RD_append_196 rfl ?_
                refine ab_callV (d' := d - 1) (as := [vR p]) (st := []) (r := _) (z_PA_pushInLastRow (o := o) (k := k_4) (v := v_4) (rg := rg_4) (pl := pl_4) (fl := fl_4) (ou := ou_4) (ls := ls_4) (bf := bf_4) (sz := sz2161) (mb := mb2162) (oe := oe2163) (le := l26) (mo := m27) (la := 1) (rc := rc_4) (lr := ls3) (br := bf3) (sr := sz3) (mr := mb3) (ps := ps) (wt := wt) (bs := bs) (gr := grp) (Pr := pr0) (ph := ph) (r := r1) (p := p) (kg := k_2) (vg := v_2) (rgg := rg_2) (plg := pl_2) (flg := fl_2) (oug := ou_2) (bfg := bf_2) (szg := sz_2) (mbg := mb_2) (oeg := oe_2) (leg := le_2) (mog := mo_2) (lag := la_2) (rcg := rc_2) (q := g1) hg1 hp hr1 ppaI_0 (by omega) hgp hpg1 hpp hpr1 hn4 (by omega) (by omega) (ho4.up (by omega)) (hl4.up (by omega)) (hf4.up (by omega)) (hlv1.up (by omega)) (hf3.up (by omega)) (hlv1.up (by omega)) (by omega) (by omega)) (fun oc G2 h => by rcases h with ⟨_, _, h, _⟩ <;> exact ⟨_, h⟩) (by omega) m_PA_pushInLastRow ml_RD_197 im_PA_pushInLastRow se_PA_pushInLastRow c_PA hg1.2.2 (Nat.le_of_ble_eq_true rfl) d_RD_append_197 rfl ?_
                intro v G169 hq
                rcases hq with ⟨sr2170, mr2171, hv, hfk, hlk, hsk, hNg1, hNp, hNr1, pNpaI_0, hq172, hq173, hq174, hq175⟩
                cases hv
                have hd_ := hfk.get hd_ (by decide)
                have hx := hfk.get hx (by decide)
                have hby_ := hfk.get hby_ (by decide)
                have hfz := hfz.tr hq173 (by simp)
                have popI_0 := popI_0.fz (o2 := o) hq173 (by intro y hy; simp only [List.mem_cons, List.not_mem_nil, or_false] at hy; omega)
                have ppaI_0 := pNpaI_0
                have hfr := hfr.tr hfk (by decide)
                have hlen := hlk.trans hlen
                have hsl := hsk.trans hsl
                have hg1 := hNg1
                have hp := hNp
                have hr1 := hNr1
                change ab_W _ _ _ G169 200 [some (vR d_), some (vR p), some (vz pl), some (vz 1), some (vz 0), some (vz 0)] [] _
                have pszJ_0 : szJ o G169 0 ps ((a1_, b1_, c1_, d1_, (e1_ + (tms l26 m27 * psz + mre l26 m27))) :: t_) G169.length (vR g1) wh 0 0 := (szJ.appC hsz9 hpa9 hfz hg9 hp9 hr9 hp hr1 hpr1 (by omega) (by omega) (by omega) (by omega) (by omega) hq166 hq174).up (by omega)
                have hdn8 := (dnJ.appC (o2 := o) hdn9 hsz9 hpa9 hfz hg9 hp9 hr9 hp hr1 hpr1 (by omega) (by omega) (by omega) (by omega) (by omega) hq166 hq174 (by omega) (by omega) (by omega) (by omega)).up (hi2 := G169.length) (by omega)
                rw [show 1 = lzR f n bh28 flg from (by unfold lzR; split <;> omega)] at hdn8
                have pdnJ_0 : dnJ o G169 0 ps wt ((ao_, (mnC ro_ (mnR l26 m27 (lzR f n bh28 flg) ov))) :: ts_) G169.length (vR g1) 0 mnI := hdn8
                have popI_0 : opI o G169 0 ps (j1 + 1) G169.length (vR g1) := ⟨g1, r1, ou_2, (vR p), rfl, ⟨hpg1, hpr1⟩, ⟨by omega, by omega⟩, by unfold pf; rw [hg1.2.2]; rfl, by unfold pf; rw [hg1.2.2]; rfl, by unfold pf; rw [hr1.2.2]; rfl, (Or.inr ⟨_, rfl, hpp, by have hlt := hp.lt; omega⟩), popI_0⟩
                rw [← hj1] at popI_0
                refine ab_vret rfl d_RD_append_200 ?_
                rw [hQ]; exact (Or.inr (Or.inl ⟨_, _, _, _, _, _, _, _, _, _, _, _, _, 1, _, _, rfl, hfr, hlen, hsl, hd_, hx, ppaI_0, popI_0, pszJ_0, pdnJ_0, (by exact hft_), (by exact hfs_), (by exact hq11), (by exact fun z => by have t := z.2; unfold tooR at t; omega), (by unfold askR; first | (left; omega) | (right; omega)), (by first | omega | (have t_ := tpk_w (f := f) (n := n) (i := bh28) (by omega); omega)), (by omega)⟩))
            · refine zz_iconst d_RD_append_125 ?_
              refine ab_goto (tgt := 130) d_RD_append_126 (by decide) ?_
              refine ab_istore d_RD_append_130 (Nat.le_of_ble_eq_true rfl) (Nat.le_of_ble_eq_true rfl) rfl ?_
              change ab_W _ _ _ G131 132 [some (vR d_), some (vR p), some (vz pl), some (vz 1), some (vz 0), some (vz 1)] [] _
              refine ab_aload_n d_RD_append_132 rfl ?_
              refine ab_getf (fs := [vR x, vR g1, vz dp, vz flg, vz grp, vR na, vR nl, vz l26, vz m27, vz bh28]) f_RD_12 d_RD_append_133 hd_.2.2 rfl ?_
              refine ab_dup d_RD_append_136 rfl ?_
              refine ab_getf (fs := [vR se, vR by_, vz n, vz bh28, vz fa, vz fp, vR kd, vz kn]) f_RD_55 d_RD_append_137 hx.2.2 rfl ?_
              refine ab_iload d_RD_append_140 rfl ?_
              refine zz_if_eq (tgt := 149) d_RD_append_142 (by decide) (by decide) (fun c176 => absurd c176 (by decide)) (fun c176 => ?_)
              refine zz_iconst d_RD_append_145 ?_
              refine ab_goto (tgt := 150) d_RD_append_146 (by decide) ?_
              refine zz_iadd d_RD_append_150 ?_
              refine ab_putf (fs := [vR se, vR by_, vz n, vz bh28, vz fa, vz fp, vR kd, vz kn]) f_RD_55 (Or.inl rfl) d_RD_append_151 hx.2.2 (Nat.le_of_ble_eq_true rfl) (fun _ => ⟨rfl, rfl⟩) (hx.2.1 (by decide)) ?_
              obtain ⟨G177, eG177⟩ : ∃ z : ab_G, z = List.set G131 x (ab_ob 10 [vR se, vR by_, vz n, vz (bh28 + 1), vz fa, vz fp, vR kd, vz kn]) := ⟨_, rfl⟩
              have hd_ := hd_.keep hx eG177 (by decide)
              have hby_ := hby_.keep hx eG177 (by decide)
              have hg1 := hg1.keep hx eG177 (by decide)
              have hr1 := hr1.keep hx eG177 (by decide)
              have hp := hp.keep hx eG177 (by decide)
              have hfz := hfz.wl ppaI_0 hx eG177 (by decide)
              have hst := (fx.rf (o := o) (S := [24]) (G := G131)).wr hx eG177 (List.mem_singleton.mpr rfl)
              have pszJ_0 := szJ.fr hst ppaI_0 pszJ_0 (by decide) (by decide)
              have pdnJ_0 := dnJ.fr hst ppaI_0 pdnJ_0 (by decide) (by decide)
              have popI_0 := opI.fr hst ppaI_0 popI_0 (by decide) (by decide)
              have ppaI_0 := paI.fr hst ppaI_0 (by decide) (by decide) (by decide) (by decide)
              have hlen := (z_len eG177).trans hlen
              have hsl := (z_sl hx eG177 rfl).trans hsl
              have hfr := hfr.wr hx eG177 (by decide)
              have hx := hx.kept eG177
              change ab_W _ _ _ (List.set G131 x (ab_ob 10 [vR se, vR by_, vz n, vz (bh28 + 1), vz fa, vz fp, vR kd, vz kn])) 154 [some (vR d_), some (vR p), some (vz pl), some (vz 1), some (vz 0), some (vz 1)] [] _
              rw [← eG177]
              refine ab_aload_n d_RD_append_154 rfl ?_
              refine ab_aload_n d_RD_append_155 rfl ?_
              refine ab_getf (fs := [vR x, vR g1, vz dp, vz flg, vz grp, vR na, vR nl, vz l26, vz m27, vz bh28]) f_RD_184 d_RD_append_156 hd_.2.2 rfl ?_
              refine ab_aload_n d_RD_append_159 rfl ?_
              refine ab_getf (fs := [vR x, vR g1, vz dp, vz flg, vz grp, vR na, vR nl, vz l26, vz m27, vz bh28]) f_RD_187 d_RD_append_160 hd_.2.2 rfl ?_
              refine ab_iload d_RD_append_163 rfl ?_
              refine ab_aload_n d_RD_append_165 rfl ?_
              refine zz_bipush d_RD_append_166 (by decide) ?_
              refine ab_callV (d' := d - 1) (as := [vz 8]) (st := [vz 1, vz m27, vz l26, vR p]) (r := _) (z8_RD_isOn (o := o) (d_ := d_) (inn := vR g1) (dp := dp) (flg := flg) (grp := grp) (na := na) (nl := nl) (lst := l26) (mst := m27) (bh := bh28) (x := x) hd_ (by omega)) (fun oc G2 h => by rcases h with ⟨_, h, _⟩ <;> exact ⟨_, h⟩) (by omega) m_RD_isOn ml_RD_94 im_RD_isOn se_RD_isOn c_RD hd_.2.2 (Nat.le_of_ble_eq_true rfl) d_RD_append_168 rfl ?_
              intro v G178 hq
              rcases hq with ⟨v179, hv, hGe, hq180, hq181⟩
              cases hv
              rw [hGe]
              change ab_W _ _ _ G177 171 [some (vR d_), some (vR p), some (vz pl), some (vz 1), some (vz 0), some (vz 1)] [vz v179, vz 1, vz m27, vz l26, vR p] _
              refine zz_icmp_eq (tgt := 178) d_RD_append_171 (by decide) (by decide) (by omega) (fun c182 => ?_) (fun c182 => ?_)
              · refine zz_iconst d_RD_append_178 ?_
                refine ab_callV (d' := d - 1) (as := [vz l26, vz m27, vz 0]) (st := []) (r := _) (z_PA_repeat (o := o) (k := k_4) (v := v_4) (rg := rg_4) (pl := pl_4) (fl := fl_4) (ou := ou_4) (ls := ls_4) (bf := bf_4) (sz := sz_4) (mb := mb_4) (oe := oe_4) (le := le_4) (mo := mo_4) (la := la_4) (rc := rc_4) (ps := ps) (wt := wt) (bs := bs) (gr := grp) (Pr := pr0) (ph := ph) (p := p) (l0 := l26) (m0 := m27) (z0 := 0) hp ppaI_0 (by omega) hpp hn4 (by omega) (ho4.up (by omega)) (hl4.up (by omega)) (hf4.up (by omega)) (by omega) (by omega)) (fun oc G2 h => by rcases h with ⟨_, _, _, h, _⟩ <;> exact ⟨_, h⟩) (by omega) m_PA_repeat ml_RD_193 im_PA_repeat se_PA_repeat c_PA hp.2.2 (Nat.le_of_ble_eq_true rfl) d_RD_append_179 rfl ?_
                intro v G183 hq
                rcases hq with ⟨sz2184, mb2185, oe2186, hv, hfk, hlk, hsk, hNp, pNpaI_0, hq187, hq188, hq189, hq190, hq191⟩
                cases hv
                have hd_ := hfk.get hd_ (by decide)
                have hx := hfk.get hx (by decide)
                have hby_ := hfk.get hby_ (by decide)
                have hKg1 := hq188.get hfk hg1 (Or.inl hpg1) (by simp only [List.mem_cons, List.not_mem_nil, or_false, not_or]; exact (show g1 ≠ p from hgp))
                have hr1 := hfk.get hr1 (by decide)
                have hg1 := hKg1
                have hfz := hfz.tr hq188 (by simp)
                have popI_0 := popI_0.fz (o2 := o) hq188 (by intro y hy; simp only [List.mem_cons, List.not_mem_nil, or_false] at hy; omega)
                have ppaI_0 := pNpaI_0
                have hfr := hfr.tr hfk (by decide)
                have hlen := hlk.trans hlen
                have hsl := hsk.trans hsl
                have hp := hNp
                change ab_W _ _ _ G183 182 [some (vR d_), some (vR p), some (vz pl), some (vz 1), some (vz 0), some (vz 1)] [] _
                refine ab_goto (tgt := 192) d_RD_append_182 (by decide) ?_
                refine ab_aload_n d_RD_append_192 rfl ?_
                refine ab_getf (fs := [vR x, vR g1, vz dp, vz flg, vz grp, vR na, vR nl, vz l26, vz m27, vz bh28]) f_RD_23 d_RD_append_193 hd_.2.2 rfl ?_
                refine ab_aload_n d_RD_append_196 rfl ?_
                refine ab_callV (d' := d - 1) (as := [vR p]) (st := []) (r := _) (z_PA_pushInLastRow (o := o) (k := k_4) (v := v_4) (rg := rg_4) (pl := pl_4) (fl := fl_4) (ou := ou_4) (ls := ls_4) (bf := bf_4) (sz := sz2184) (mb := mb2185) (oe := oe2186) (le := l26) (mo := m27) (la := 0) (rc := rc_4) (lr := ls3) (br := bf3) (sr := sz3) (mr := mb3) (ps := ps) (wt := wt) (bs := bs) (gr := grp) (Pr := pr0) (ph := ph) (r := r1) (p := p) (kg := k_2) (vg := v_2) (rgg := rg_2) (plg := pl_2) (flg := fl_2) (oug := ou_2) (bfg := bf_2) (szg := sz_2) (mbg := mb_2) (oeg := oe_2) (leg := le_2) (mog := mo_2) (lag := la_2) (rcg := rc_2) (q := g1) hg1 hp hr1 ppaI_0 (by omega) hgp hpg1 hpp hpr1 hn4 (by omega) (by omega) (ho4.up (by omega)) (hl4.up (by omega)) (hf4.up (by omega)) (hlv1.up (by omega)) (hf3.up (by omega)) (hlv1.up (by omega)) (by omega) (by omega)) (fun oc G2 h => by rcases h with ⟨_, _, h, _⟩ <;> exact ⟨_, h⟩) (by omega) m_PA_pushInLastRow ml_RD_197 im_PA_pushInLastRow se_PA_pushInLastRow c_PA hg1.2.2 (Nat.le_of_ble_eq_true rfl) d_RD_append_197 rfl ?_
                intro v G192 hq
                rcases hq with ⟨sr2193, mr2194, hv, hfk, hlk, hsk, hNg1, hNp, hNr1, pNpaI_0, hq195, hq196, hq197, hq198⟩
                cases hv
                have hd_ := hfk.get hd_ (by decide)
                have hx := hfk.get hx (by decide)
                have hby_ := hfk.get hby_ (by decide)
                have hfz := hfz.tr hq196 (by simp)
                have popI_0 := popI_0.fz (o2 := o) hq196 (by intro y hy; simp only [List.mem_cons, List.not_mem_nil, or_false] at hy; omega)
                have ppaI_0 := pNpaI_0
                have hfr := hfr.tr hfk (by decide)
                have hlen := hlk.trans hlen
                have hsl := hsk.trans hsl
                have hg1 := hNg1
                have hp := hNp
                have hr1 := hNr1
                change ab_W _ _ _ G192 200 [some (vR d_), some (vR p), some (vz pl), some (vz 1), some (vz 0), some (vz 1)] [] _
                have pszJ_0 : szJ o G192 0 ps ((a1_, b1_, c1_, d1_, (e1_ + (tms l26 m27 * psz + mre l26 m27))) :: t_) G192.length (vR g1) wh 0 0 := (szJ.appC hsz9 hpa9 hfz hg9 hp9 hr9 hp hr1 hpr1 (by omega) (by omega) (by omega) (by omega) (by omega) hq189 hq197).up (by omega)
                have hdn8 := (dnJ.appC (o2 := o) hdn9 hsz9 hpa9 hfz hg9 hp9 hr9 hp hr1 hpr1 (by omega) (by omega) (by omega) (by omega) (by omega) hq189 hq197 (by omega) (by omega) (by omega) (by omega)).up (hi2 := G192.length) (by omega)
                rw [show 0 = lzR f n bh28 flg from (by unfold lzR; split <;> omega)] at hdn8
                have pdnJ_0 : dnJ o G192 0 ps wt ((ao_, (mnC ro_ (mnR l26 m27 (lzR f n bh28 flg) ov))) :: ts_) G192.length (vR g1) 0 mnI := hdn8
                have popI_0 : opI o G192 0 ps (j1 + 1) G192.length (vR g1) := ⟨g1, r1, ou_2, (vR p), rfl, ⟨hpg1, hpr1⟩, ⟨by omega, by omega⟩, by unfold pf; rw [hg1.2.2]; rfl, by unfold pf; rw [hg1.2.2]; rfl, by unfold pf; rw [hr1.2.2]; rfl, (Or.inr ⟨_, rfl, hpp, by have hlt := hp.lt; omega⟩), popI_0⟩
                rw [← hj1] at popI_0
                refine ab_vret rfl d_RD_append_200 ?_
                rw [hQ]; exact (Or.inr (Or.inl ⟨_, _, _, _, _, _, _, _, _, _, _, _, _, 1, _, _, rfl, hfr, hlen, hsl, hd_, hx, ppaI_0, popI_0, pszJ_0, pdnJ_0, (by exact hft_), (by exact hfs_), (by exact hq11), (by exact fun z => by have t := z.2; unfold tooR at t; omega), (by unfold askR; first | (left; omega) | (right; omega)), (by first | omega | (have t_ := tpk_w (f := f) (n := n) (i := bh28) (by omega); omega)), (by omega)⟩))
              · refine zz_iconst d_RD_append_174 ?_
                refine ab_goto (tgt := 179) d_RD_append_175 (by decide) ?_
                refine ab_callV (d' := d - 1) (as := [vz l26, vz m27, vz 1]) (st := []) (r := _) (z_PA_repeat (o := o) (k := k_4) (v := v_4) (rg := rg_4) (pl := pl_4) (fl := fl_4) (ou := ou_4) (ls := ls_4) (bf := bf_4) (sz := sz_4) (mb := mb_4) (oe := oe_4) (le := le_4) (mo := mo_4) (la := la_4) (rc := rc_4) (ps := ps) (wt := wt) (bs := bs) (gr := grp) (Pr := pr0) (ph := ph) (p := p) (l0 := l26) (m0 := m27) (z0 := 1) hp ppaI_0 (by omega) hpp hn4 (by omega) (ho4.up (by omega)) (hl4.up (by omega)) (hf4.up (by omega)) (by omega) (by omega)) (fun oc G2 h => by rcases h with ⟨_, _, _, h, _⟩ <;> exact ⟨_, h⟩) (by omega) m_PA_repeat ml_RD_193 im_PA_repeat se_PA_repeat c_PA hp.2.2 (Nat.le_of_ble_eq_true rfl) d_RD_append_179 rfl ?_
                intro v G199 hq
                rcases hq with ⟨sz2200, mb2201, oe2202, hv, hfk, hlk, hsk, hNp, pNpaI_0, hq203, hq204, hq205, hq206, hq207⟩
                cases hv
                have hd_ := hfk.get hd_ (by decide)
                have hx := hfk.get hx (by decide)
                have hby_ := hfk.get hby_ (by decide)
                have hKg1 := hq204.get hfk hg1 (Or.inl hpg1) (by simp only [List.mem_cons, List.not_mem_nil, or_false, not_or]; exact (show g1 ≠ p from hgp))
                have hr1 := hfk.get hr1 (by decide)
                have hg1 := hKg1
                have hfz := hfz.tr hq204 (by simp)
                have popI_0 := popI_0.fz (o2 := o) hq204 (by intro y hy; simp only [List.mem_cons, List.not_mem_nil, or_false] at hy; omega)
                have ppaI_0 := pNpaI_0
                have hfr := hfr.tr hfk (by decide)
                have hlen := hlk.trans hlen
                have hsl := hsk.trans hsl
                have hp := hNp
                change ab_W _ _ _ G199 182 [some (vR d_), some (vR p), some (vz pl), some (vz 1), some (vz 0), some (vz 1)] [] _
                refine ab_goto (tgt := 192) d_RD_append_182 (by decide) ?_
                refine ab_aload_n d_RD_append_192 rfl ?_
                refine ab_getf (fs := [vR x, vR g1, vz dp, vz flg, vz grp, vR na, vR nl, vz l26, vz m27, vz bh28]) f_RD_23 d_RD_append_193 hd_.2.2 rfl ?_
                refine ab_aload_n d_RD_append_196 rfl ?_
                refine ab_callV (d' := d - 1) (as := [vR p]) (st := []) (r := _) (z_PA_pushInLastRow (o := o) (k := k_4) (v := v_4) (rg := rg_4) (pl := pl_4) (fl := fl_4) (ou := ou_4) (ls := ls_4) (bf := bf_4) (sz := sz2200) (mb := mb2201) (oe := oe2202) (le := l26) (mo := m27) (la := 1) (rc := rc_4) (lr := ls3) (br := bf3) (sr := sz3) (mr := mb3) (ps := ps) (wt := wt) (bs := bs) (gr := grp) (Pr := pr0) (ph := ph) (r := r1) (p := p) (kg := k_2) (vg := v_2) (rgg := rg_2) (plg := pl_2) (flg := fl_2) (oug := ou_2) (bfg := bf_2) (szg := sz_2) (mbg := mb_2) (oeg := oe_2) (leg := le_2) (mog := mo_2) (lag := la_2) (rcg := rc_2) (q := g1) hg1 hp hr1 ppaI_0 (by omega) hgp hpg1 hpp hpr1 hn4 (by omega) (by omega) (ho4.up (by omega)) (hl4.up (by omega)) (hf4.up (by omega)) (hlv1.up (by omega)) (hf3.up (by omega)) (hlv1.up (by omega)) (by omega) (by omega)) (fun oc G2 h => by rcases h with ⟨_, _, h, _⟩ <;> exact ⟨_, h⟩) (by omega) m_PA_pushInLastRow ml_RD_197 im_PA_pushInLastRow se_PA_pushInLastRow c_PA hg1.2.2 (Nat.le_of_ble_eq_true rfl) d_RD_append_197 rfl ?_
                intro v G208 hq
                rcases hq with ⟨sr2209, mr2210, hv, hfk, hlk, hsk, hNg1, hNp, hNr1, pNpaI_0, hq211, hq212, hq213, hq214⟩
                cases hv
                have hd_ := hfk.get hd_ (by decide)
                have hx := hfk.get hx (by decide)
                have hby_ := hfk.get hby_ (by decide)
                have hfz := hfz.tr hq212 (by simp)
                have popI_0 := popI_0.fz (o2 := o) hq212 (by intro y hy; simp only [List.mem_cons, List.not_mem_nil, or_false] at hy; omega)
                have ppaI_0 := pNpaI_0
                have hfr := hfr.tr hfk (by decide)
                have hlen := hlk.trans hlen
                have hsl := hsk.trans hsl
                have hg1 := hNg1
                have hp := hNp
                have hr1 := hNr1
                change ab_W _ _ _ G208 200 [some (vR d_), some (vR p), some (vz pl), some (vz 1), some (vz 0), some (vz 1)] [] _
                have pszJ_0 : szJ o G208 0 ps ((a1_, b1_, c1_, d1_, (e1_ + (tms l26 m27 * psz + mre l26 m27))) :: t_) G208.length (vR g1) wh 0 0 := (szJ.appC hsz9 hpa9 hfz hg9 hp9 hr9 hp hr1 hpr1 (by omega) (by omega) (by omega) (by omega) (by omega) hq205 hq213).up (by omega)
                have hdn8 := (dnJ.appC (o2 := o) hdn9 hsz9 hpa9 hfz hg9 hp9 hr9 hp hr1 hpr1 (by omega) (by omega) (by omega) (by omega) (by omega) hq205 hq213 (by omega) (by omega) (by omega) (by omega)).up (hi2 := G208.length) (by omega)
                rw [show 1 = lzR f n bh28 flg from (by unfold lzR; split <;> omega)] at hdn8
                have pdnJ_0 : dnJ o G208 0 ps wt ((ao_, (mnC ro_ (mnR l26 m27 (lzR f n bh28 flg) ov))) :: ts_) G208.length (vR g1) 0 mnI := hdn8
                have popI_0 : opI o G208 0 ps (j1 + 1) G208.length (vR g1) := ⟨g1, r1, ou_2, (vR p), rfl, ⟨hpg1, hpr1⟩, ⟨by omega, by omega⟩, by unfold pf; rw [hg1.2.2]; rfl, by unfold pf; rw [hg1.2.2]; rfl, by unfold pf; rw [hr1.2.2]; rfl, (Or.inr ⟨_, rfl, hpp, by have hlt := hp.lt; omega⟩), popI_0⟩
                rw [← hj1] at popI_0
                refine ab_vret rfl d_RD_append_200 ?_
                rw [hQ]; exact (Or.inr (Or.inl ⟨_, _, _, _, _, _, _, _, _, _, _, _, _, 1, _, _, rfl, hfr, hlen, hsl, hd_, hx, ppaI_0, popI_0, pszJ_0, pdnJ_0, (by exact hft_), (by exact hfs_), (by exact hq11), (by exact fun z => by have t := z.2; unfold tooR at t; omega), (by unfold askR; first | (left; omega) | (right; omega)), (by first | omega | (have t_ := tpk_w (f := f) (n := n) (i := bh28) (by omega); omega)), (by omega)⟩))
          · refine zz_iconst d_RD_append_73 ?_
            refine ab_goto (tgt := 78) d_RD_append_74 (by decide) ?_
            refine ab_istore d_RD_append_78 (Nat.le_of_ble_eq_true rfl) (Nat.le_of_ble_eq_true rfl) rfl ?_
            change ab_W _ _ _ G5 80 [some (vR d_), some (vR p), some (vz pl), some (vz 1), some (vz 1), none] [] _
            refine ab_iload_n d_RD_append_80 rfl ?_
            refine zz_if_eq (tgt := 101) d_RD_append_81 (by decide) (by decide) (fun c215 => absurd c215 (by decide)) (fun c215 => ?_)
            refine ab_iload d_RD_append_84 rfl ?_
            refine zz_if_eq (tgt := 101) d_RD_append_86 (by decide) (by decide) (fun c216 => absurd c216 (by decide)) (fun c216 => ?_)
            refine ab_aload_n d_RD_append_89 rfl ?_
            refine ab_getf (fs := [vR x, vR g1, vz dp, vz flg, vz grp, vR na, vR nl, vz l26, vz m27, vz bh28]) f_RD_12 d_RD_append_90 hd_.2.2 rfl ?_
            refine zz_bipush d_RD_append_93 (by decide) ?_
            refine ab_iload_n d_RD_append_95 rfl ?_
            refine ab_callV (d' := d - 1) (as := [vz 9, vz pl]) (st := []) (r := _) (z_TX_fail (o := o) (x := x) (lx := 24) (se := se) (by_ := by_) (n := n) (pl := pl) (fa := fa) (fp := fp) (kd := kd) (kn := kn) (w := 9) (p := pl) hx (by omega) (by omega) (by omega)) (fun oc G2 h => by rcases h with ⟨h, _⟩ | ⟨h, _⟩ <;> exact ⟨_, h⟩) (by omega) m_TX_fail ml_RD_69 im_TX_fail se_TX_fail c_TX hx.2.2 (Nat.le_of_ble_eq_true rfl) d_RD_append_96 rfl ?_
            intro v G217 hq
            rcases hq with ⟨hv, hfk, hlk, hsk, hNx, hq218⟩ | ⟨hv, hGe, hq219⟩
            · cases hv
              have hd_ := hfk.get hd_ (by decide)
              have hby_ := hfk.get hby_ (by decide)
              have hg1 := hfk.get hg1 (by decide)
              have hr1 := hfk.get hr1 (by decide)
              have hp := hfk.get hp (by decide)
              have hfz := hfz.tr (fz.fx ppaI_0 hfk (by decide) (by decide)) (by simp)
              have pszJ_0 := szJ.fr hfk ppaI_0 pszJ_0 (by decide) (by decide)
              have pdnJ_0 := dnJ.fr hfk ppaI_0 pdnJ_0 (by decide) (by decide)
              have popI_0 := opI.fr hfk ppaI_0 popI_0 (by decide) (by decide)
              have ppaI_0 := paI.fr hfk ppaI_0 (by decide) (by decide) (by decide) (by decide)
              have hfr := hfr.tr hfk (by decide)
              have hlen := hlk.trans hlen
              have hsl := hsk.trans hsl
              have hx := hNx
              change ab_W _ _ _ G217 99 [some (vR d_), some (vR p), some (vz pl), some (vz 1), some (vz 1), none] [vz (-1)] _
              refine ab_pop d_RD_append_99 rfl ?_
              have pszJ_0 := pszJ_0.drop.up (hi2 := G217.length) (by omega)
              have pdnJ_0 := pdnJ_0.drop.up (hi2 := G217.length) (by omega)
              have popI_0 : opI o G217 0 ps (j1 + 1) G217.length (vR g1) := ⟨g1, r1, ou_2, ls3, rfl, ⟨hpg1, hpr1⟩, ⟨by omega, by omega⟩, by unfold pf; rw [hg1.2.2]; rfl, by unfold pf; rw [hg1.2.2]; rfl, by unfold pf; rw [hr1.2.2]; rfl, (hlv1.up (by omega)), popI_0⟩
              rw [← hj1] at popI_0
              refine ab_vret rfl d_RD_append_100 ?_
              rw [hQ]; exact (Or.inl ⟨_, _, _, _, _, _, _, _, _, _, _, _, _, _, rfl, hfr, hlen, hsl, hd_, hx, ppaI_0, popI_0, pszJ_0, pdnJ_0, (by exact hft_), (by exact hfs_), (by exact hq11), (by unfold tooR; omega), (by omega)⟩)
            · cases hv
              rw [hGe]
              change ab_W _ _ _ G5 99 [some (vR d_), some (vR p), some (vz pl), some (vz 1), some (vz 1), none] [vz (-1)] _
              exfalso; omega
  · cases hv
    have hx := hfk.get hx (by decide)
    have hby_ := hfk.get hby_ (by decide)
    have hg1 := hfk.get hg1 (by decide)
    have hr1 := hfk.get hr1 (by decide)
    have hp := hfk.get hp (by decide)
    have hfz := hfz.tr (fz.fx ppaI_0 hfk (by decide) (by decide)) (by simp)
    have pszJ_0 := szJ.fr hfk ppaI_0 pszJ_0 (by decide) (by decide)
    have pdnJ_0 := dnJ.fr hfk ppaI_0 pdnJ_0 (by decide) (by decide)
    have popI_0 := opI.fr hfk ppaI_0 popI_0 (by decide) (by decide)
    have ppaI_0 := paI.fr hfk ppaI_0 (by decide) (by decide) (by decide) (by decide)
    have hfr := hfr.tr hfk (by decide)
    have hlen := hlk.trans hlen
    have hsl := hsk.trans hsl
    have hd_ := hNd_
    change ab_W _ _ _ G5 4 [some (vR d_), some (vR p), none, none, none, none] [vz 1] _
    refine zz_if_eq (tgt := 185) d_RD_append_4 (by decide) (by decide) (fun c220 => absurd c220 (by decide)) (fun c220 => ?_)
    refine ab_aload_n d_RD_append_7 rfl ?_
    refine ab_getf (fs := [vR x, vR g1, vz dp, vz flg, vz grp, vR na, vR nl, vz l212, vz m213, vz bh214]) f_RD_12 d_RD_append_8 hd_.2.2 rfl ?_
    refine ab_getf (fs := [vR se, vR by_, vz n, vz pl, vz fa, vz fp, vR kd, vz kn]) f_RD_55 d_RD_append_11 hx.2.2 rfl ?_
    refine ab_istore_n d_RD_append_14 (Nat.le_of_ble_eq_true rfl) (Nat.le_of_ble_eq_true rfl) rfl ?_
    change ab_W _ _ _ G5 15 [some (vR d_), some (vR p), some (vz pl), none, none, none] [] _
    refine ab_aload_n d_RD_append_15 rfl ?_
    refine ab_getf (fs := [vR x, vR g1, vz dp, vz flg, vz grp, vR na, vR nl, vz l212, vz m213, vz bh214]) f_RD_12 d_RD_append_16 hd_.2.2 rfl ?_
    refine zz_iconst d_RD_append_19 ?_
    refine ab_callV (d' := d - 1) (as := [vz 0]) (st := []) (r := _) (z_TX_peek0 (o := o) (x := x) (lx := 24) (se := se) (by_ := by_) (lby := 23) (m := m) (f := f) (n := n) (pl := pl) (fa := fa) (fp := fp) (kd := kd) (kn := kn) hx hby_ (by omega) hb) (fun oc G2 h => by rcases h with ⟨_, h, _⟩ <;> exact ⟨_, h⟩) (by omega) m_TX_peek ml_RD_79 im_TX_peek se_TX_peek c_TX hx.2.2 (Nat.le_of_ble_eq_true rfl) d_RD_append_20 rfl ?_
    intro v G221 hq
    rcases hq with ⟨v222, hv, hGe, hq223, hq224⟩
    cases hv
    rw [hGe]
    change ab_W _ _ _ G5 23 [some (vR d_), some (vR p), some (vz pl), none, none, none] [vz v222] _
    refine zz_bipush d_RD_append_23 (by decide) ?_
    refine zz_icmp_ne (tgt := 32) d_RD_append_25 (by decide) (by omega) (by decide) (fun c225 => ?_) (fun c225 => absurd c225 (by omega))
    refine zz_iconst d_RD_append_32 ?_
    refine ab_istore_n d_RD_append_33 (Nat.le_of_ble_eq_true rfl) (Nat.le_of_ble_eq_true rfl) rfl ?_
    change ab_W _ _ _ G5 34 [some (vR d_), some (vR p), some (vz pl), some (vz 0), none, none] [] _
    refine ab_aload_n d_RD_append_34 rfl ?_
    refine ab_getf (fs := [vR x, vR g1, vz dp, vz flg, vz grp, vR na, vR nl, vz l212, vz m213, vz bh214]) f_RD_184 d_RD_append_35 hd_.2.2 rfl ?_
    refine zz_bipush d_RD_append_38 (by decide) ?_
    refine zz_icmp_gt (tgt := 73) d_RD_append_40 (by decide) (by omega) (by decide) (fun c226 => absurd c226 (by omega)) (fun c226 => ?_)
    refine ab_aload_n d_RD_append_43 rfl ?_
    refine ab_getf (fs := [vR x, vR g1, vz dp, vz flg, vz grp, vR na, vR nl, vz l212, vz m213, vz bh214]) f_RD_187 d_RD_append_44 hd_.2.2 rfl ?_
    refine zz_sipush d_RD_append_47 (by decide) ?_
    refine zz_icmp_eq (tgt := 77) d_RD_append_50 (by decide) (by omega) (by decide) (fun c227 => ?_) (fun c227 => ?_)
    · refine zz_iconst d_RD_append_77 ?_
      refine ab_istore d_RD_append_78 (Nat.le_of_ble_eq_true rfl) (Nat.le_of_ble_eq_true rfl) rfl ?_
      change ab_W _ _ _ G5 80 [some (vR d_), some (vR p), some (vz pl), some (vz 0), some (vz 0), none] [] _
      refine ab_iload_n d_RD_append_80 rfl ?_
      refine zz_if_eq (tgt := 101) d_RD_append_81 (by decide) (by decide) (fun c228 => ?_) (fun c228 => absurd c228 (by decide))
      refine ab_aload_n d_RD_append_101 rfl ?_
      refine ab_getf (fs := [vR x, vR g1, vz dp, vz flg, vz grp, vR na, vR nl, vz l212, vz m213, vz bh214]) f_RD_12 d_RD_append_102 hd_.2.2 rfl ?_
      refine ab_aload_n d_RD_append_105 rfl ?_
      refine ab_getf (fs := [vR x, vR g1, vz dp, vz flg, vz grp, vR na, vR nl, vz l212, vz m213, vz bh214]) f_RD_190 d_RD_append_106 hd_.2.2 rfl ?_
      refine ab_putf (fs := [vR se, vR by_, vz n, vz pl, vz fa, vz fp, vR kd, vz kn]) f_RD_55 (Or.inl rfl) d_RD_append_109 hx.2.2 (Nat.le_of_ble_eq_true rfl) (fun _ => ⟨rfl, rfl⟩) (hx.2.1 (by decide)) ?_
      obtain ⟨G229, eG229⟩ : ∃ z : ab_G, z = List.set G5 x (ab_ob 10 [vR se, vR by_, vz n, vz bh214, vz fa, vz fp, vR kd, vz kn]) := ⟨_, rfl⟩
      have hd_ := hd_.keep hx eG229 (by decide)
      have hby_ := hby_.keep hx eG229 (by decide)
      have hg1 := hg1.keep hx eG229 (by decide)
      have hr1 := hr1.keep hx eG229 (by decide)
      have hp := hp.keep hx eG229 (by decide)
      have hfz := hfz.wl ppaI_0 hx eG229 (by decide)
      have hst := (fx.rf (o := o) (S := [24]) (G := G5)).wr hx eG229 (List.mem_singleton.mpr rfl)
      have pszJ_0 := szJ.fr hst ppaI_0 pszJ_0 (by decide) (by decide)
      have pdnJ_0 := dnJ.fr hst ppaI_0 pdnJ_0 (by decide) (by decide)
      have popI_0 := opI.fr hst ppaI_0 popI_0 (by decide) (by decide)
      have ppaI_0 := paI.fr hst ppaI_0 (by decide) (by decide) (by decide) (by decide)
      have hlen := (z_len eG229).trans hlen
      have hsl := (z_sl hx eG229 rfl).trans hsl
      have hfr := hfr.wr hx eG229 (by decide)
      have hx := hx.kept eG229
      change ab_W _ _ _ (List.set G5 x (ab_ob 10 [vR se, vR by_, vz n, vz bh214, vz fa, vz fp, vR kd, vz kn])) 112 [some (vR d_), some (vR p), some (vz pl), some (vz 0), some (vz 0), none] [] _
      rw [← eG229]
      refine ab_aload_n d_RD_append_112 rfl ?_
      refine ab_getf (fs := [vR x, vR g1, vz dp, vz flg, vz grp, vR na, vR nl, vz l212, vz m213, vz bh214]) f_RD_12 d_RD_append_113 hd_.2.2 rfl ?_
      refine zz_iconst d_RD_append_116 ?_
      refine ab_callV (d' := d - 1) (as := [vz 0]) (st := []) (r := _) (z_TX_peek0 (o := o) (x := x) (lx := 24) (se := se) (by_ := by_) (lby := 23) (m := m) (f := f) (n := n) (pl := bh214) (fa := fa) (fp := fp) (kd := kd) (kn := kn) hx hby_ (by omega) hb) (fun oc G2 h => by rcases h with ⟨_, h, _⟩ <;> exact ⟨_, h⟩) (by omega) m_TX_peek ml_RD_79 im_TX_peek se_TX_peek c_TX hx.2.2 (Nat.le_of_ble_eq_true rfl) d_RD_append_117 rfl ?_
      intro v G230 hq
      rcases hq with ⟨v231, hv, hGe, hq232, hq233⟩
      cases hv
      rw [hGe]
      change ab_W _ _ _ G229 120 [some (vR d_), some (vR p), some (vz pl), some (vz 0), some (vz 0), none] [vz v231] _
      refine zz_bipush d_RD_append_120 (by decide) ?_
      refine zz_icmp_ne (tgt := 129) d_RD_append_122 (by decide) (by omega) (by decide) (fun c234 => ?_) (fun c234 => ?_)
      · refine zz_iconst d_RD_append_129 ?_
        refine ab_istore d_RD_append_130 (Nat.le_of_ble_eq_true rfl) (Nat.le_of_ble_eq_true rfl) rfl ?_
        change ab_W _ _ _ G229 132 [some (vR d_), some (vR p), some (vz pl), some (vz 0), some (vz 0), some (vz 0)] [] _
        refine ab_aload_n d_RD_append_132 rfl ?_
        refine ab_getf (fs := [vR x, vR g1, vz dp, vz flg, vz grp, vR na, vR nl, vz l212, vz m213, vz bh214]) f_RD_12 d_RD_append_133 hd_.2.2 rfl ?_
        refine ab_dup d_RD_append_136 rfl ?_
        refine ab_getf (fs := [vR se, vR by_, vz n, vz bh214, vz fa, vz fp, vR kd, vz kn]) f_RD_55 d_RD_append_137 hx.2.2 rfl ?_
        refine ab_iload d_RD_append_140 rfl ?_
        refine zz_if_eq (tgt := 149) d_RD_append_142 (by decide) (by decide) (fun c235 => ?_) (fun c235 => absurd c235 (by decide))
        refine zz_iconst d_RD_append_149 ?_
        refine zz_iadd d_RD_append_150 ?_
        refine ab_putf (fs := [vR se, vR by_, vz n, vz bh214, vz fa, vz fp, vR kd, vz kn]) f_RD_55 (Or.inl rfl) d_RD_append_151 hx.2.2 (Nat.le_of_ble_eq_true rfl) (fun _ => ⟨rfl, rfl⟩) (hx.2.1 (by decide)) ?_
        obtain ⟨G236, eG236⟩ : ∃ z : ab_G, z = List.set G229 x (ab_ob 10 [vR se, vR by_, vz n, vz (bh214 + 0), vz fa, vz fp, vR kd, vz kn]) := ⟨_, rfl⟩
        have hd_ := hd_.keep hx eG236 (by decide)
        have hby_ := hby_.keep hx eG236 (by decide)
        have hg1 := hg1.keep hx eG236 (by decide)
        have hr1 := hr1.keep hx eG236 (by decide)
        have hp := hp.keep hx eG236 (by decide)
        have hfz := hfz.wl ppaI_0 hx eG236 (by decide)
        have hst := (fx.rf (o := o) (S := [24]) (G := G229)).wr hx eG236 (List.mem_singleton.mpr rfl)
        have pszJ_0 := szJ.fr hst ppaI_0 pszJ_0 (by decide) (by decide)
        have pdnJ_0 := dnJ.fr hst ppaI_0 pdnJ_0 (by decide) (by decide)
        have popI_0 := opI.fr hst ppaI_0 popI_0 (by decide) (by decide)
        have ppaI_0 := paI.fr hst ppaI_0 (by decide) (by decide) (by decide) (by decide)
        have hlen := (z_len eG236).trans hlen
        have hsl := (z_sl hx eG236 rfl).trans hsl
        have hfr := hfr.wr hx eG236 (by decide)
        have hx := hx.kept eG236
        change ab_W _ _ _ (List.set G229 x (ab_ob 10 [vR se, vR by_, vz n, vz (bh214 + 0), vz fa, vz fp, vR kd, vz kn])) 154 [some (vR d_), some (vR p), some (vz pl), some (vz 0), some (vz 0), some (vz 0)] [] _
        rw [← eG236]
        refine ab_aload_n d_RD_append_154 rfl ?_
        refine ab_aload_n d_RD_append_155 rfl ?_
        refine ab_getf (fs := [vR x, vR g1, vz dp, vz flg, vz grp, vR na, vR nl, vz l212, vz m213, vz bh214]) f_RD_184 d_RD_append_156 hd_.2.2 rfl ?_
        refine ab_aload_n d_RD_append_159 rfl ?_
        refine ab_getf (fs := [vR x, vR g1, vz dp, vz flg, vz grp, vR na, vR nl, vz l212, vz m213, vz bh214]) f_RD_187 d_RD_append_160 hd_.2.2 rfl ?_
        refine ab_iload d_RD_append_163 rfl ?_
        refine ab_aload_n d_RD_append_165 rfl ?_
        refine zz_bipush d_RD_append_166 (by decide) ?_
        refine ab_callV (d' := d - 1) (as := [vz 8]) (st := [vz 0, vz m213, vz l212, vR p]) (r := _) (z8_RD_isOn (o := o) (d_ := d_) (inn := vR g1) (dp := dp) (flg := flg) (grp := grp) (na := na) (nl := nl) (lst := l212) (mst := m213) (bh := bh214) (x := x) hd_ (by omega)) (fun oc G2 h => by rcases h with ⟨_, h, _⟩ <;> exact ⟨_, h⟩) (by omega) m_RD_isOn ml_RD_94 im_RD_isOn se_RD_isOn c_RD hd_.2.2 (Nat.le_of_ble_eq_true rfl) d_RD_append_168 rfl ?_
        intro v G237 hq
        rcases hq with ⟨v238, hv, hGe, hq239, hq240⟩
        cases hv
        rw [hGe]
        change ab_W _ _ _ G236 171 [some (vR d_), some (vR p), some (vz pl), some (vz 0), some (vz 0), some (vz 0)] [vz v238, vz 0, vz m213, vz l212, vR p] _
        refine zz_icmp_eq (tgt := 178) d_RD_append_171 (by decide) (by decide) (by omega) (fun c241 => ?_) (fun c241 => ?_)
        · refine zz_iconst d_RD_append_178 ?_
          refine ab_callV (d' := d - 1) (as := [vz l212, vz m213, vz 0]) (st := []) (r := _) (z_PA_repeat (o := o) (k := k_4) (v := v_4) (rg := rg_4) (pl := pl_4) (fl := fl_4) (ou := ou_4) (ls := ls_4) (bf := bf_4) (sz := sz_4) (mb := mb_4) (oe := oe_4) (le := le_4) (mo := mo_4) (la := la_4) (rc := rc_4) (ps := ps) (wt := wt) (bs := bs) (gr := grp) (Pr := pr0) (ph := ph) (p := p) (l0 := l212) (m0 := m213) (z0 := 0) hp ppaI_0 (by omega) hpp hn4 (by omega) (ho4.up (by omega)) (hl4.up (by omega)) (hf4.up (by omega)) (by omega) (by omega)) (fun oc G2 h => by rcases h with ⟨_, _, _, h, _⟩ <;> exact ⟨_, h⟩) (by omega) m_PA_repeat ml_RD_193 im_PA_repeat se_PA_repeat c_PA hp.2.2 (Nat.le_of_ble_eq_true rfl) d_RD_append_179 rfl ?_
          intro v G242 hq
          rcases hq with ⟨sz2243, mb2244, oe2245, hv, hfk, hlk, hsk, hNp, pNpaI_0, hq246, hq247, hq248, hq249, hq250⟩
          cases hv
          have hd_ := hfk.get hd_ (by decide)
          have hx := hfk.get hx (by decide)
          have hby_ := hfk.get hby_ (by decide)
          have hKg1 := hq247.get hfk hg1 (Or.inl hpg1) (by simp only [List.mem_cons, List.not_mem_nil, or_false, not_or]; exact (show g1 ≠ p from hgp))
          have hr1 := hfk.get hr1 (by decide)
          have hg1 := hKg1
          have hfz := hfz.tr hq247 (by simp)
          have popI_0 := popI_0.fz (o2 := o) hq247 (by intro y hy; simp only [List.mem_cons, List.not_mem_nil, or_false] at hy; omega)
          have ppaI_0 := pNpaI_0
          have hfr := hfr.tr hfk (by decide)
          have hlen := hlk.trans hlen
          have hsl := hsk.trans hsl
          have hp := hNp
          change ab_W _ _ _ G242 182 [some (vR d_), some (vR p), some (vz pl), some (vz 0), some (vz 0), some (vz 0)] [] _
          refine ab_goto (tgt := 192) d_RD_append_182 (by decide) ?_
          refine ab_aload_n d_RD_append_192 rfl ?_
          refine ab_getf (fs := [vR x, vR g1, vz dp, vz flg, vz grp, vR na, vR nl, vz l212, vz m213, vz bh214]) f_RD_23 d_RD_append_193 hd_.2.2 rfl ?_
          refine ab_aload_n d_RD_append_196 rfl ?_
          refine ab_callV (d' := d - 1) (as := [vR p]) (st := []) (r := _) (z_PA_pushInLastRow (o := o) (k := k_4) (v := v_4) (rg := rg_4) (pl := pl_4) (fl := fl_4) (ou := ou_4) (ls := ls_4) (bf := bf_4) (sz := sz2243) (mb := mb2244) (oe := oe2245) (le := l212) (mo := m213) (la := 0) (rc := rc_4) (lr := ls3) (br := bf3) (sr := sz3) (mr := mb3) (ps := ps) (wt := wt) (bs := bs) (gr := grp) (Pr := pr0) (ph := ph) (r := r1) (p := p) (kg := k_2) (vg := v_2) (rgg := rg_2) (plg := pl_2) (flg := fl_2) (oug := ou_2) (bfg := bf_2) (szg := sz_2) (mbg := mb_2) (oeg := oe_2) (leg := le_2) (mog := mo_2) (lag := la_2) (rcg := rc_2) (q := g1) hg1 hp hr1 ppaI_0 (by omega) hgp hpg1 hpp hpr1 hn4 (by omega) (by omega) (ho4.up (by omega)) (hl4.up (by omega)) (hf4.up (by omega)) (hlv1.up (by omega)) (hf3.up (by omega)) (hlv1.up (by omega)) (by omega) (by omega)) (fun oc G2 h => by rcases h with ⟨_, _, h, _⟩ <;> exact ⟨_, h⟩) (by omega) m_PA_pushInLastRow ml_RD_197 im_PA_pushInLastRow se_PA_pushInLastRow c_PA hg1.2.2 (Nat.le_of_ble_eq_true rfl) d_RD_append_197 rfl ?_
          intro v G251 hq
          rcases hq with ⟨sr2252, mr2253, hv, hfk, hlk, hsk, hNg1, hNp, hNr1, pNpaI_0, hq254, hq255, hq256, hq257⟩
          cases hv
          have hd_ := hfk.get hd_ (by decide)
          have hx := hfk.get hx (by decide)
          have hby_ := hfk.get hby_ (by decide)
          have hfz := hfz.tr hq255 (by simp)
          have popI_0 := popI_0.fz (o2 := o) hq255 (by intro y hy; simp only [List.mem_cons, List.not_mem_nil, or_false] at hy; omega)
          have ppaI_0 := pNpaI_0
          have hfr := hfr.tr hfk (by decide)
          have hlen := hlk.trans hlen
          have hsl := hsk.trans hsl
          have hg1 := hNg1
          have hp := hNp
          have hr1 := hNr1
          change ab_W _ _ _ G251 200 [some (vR d_), some (vR p), some (vz pl), some (vz 0), some (vz 0), some (vz 0)] [] _
          have pszJ_0 : szJ o G251 0 ps ((a1_, b1_, c1_, d1_, (e1_ + (tms l212 m213 * psz + mre l212 m213))) :: t_) G251.length (vR g1) wh 0 0 := (szJ.appC hsz9 hpa9 hfz hg9 hp9 hr9 hp hr1 hpr1 (by omega) (by omega) (by omega) (by omega) (by omega) hq248 hq256).up (by omega)
          have hdn8 := (dnJ.appC (o2 := o) hdn9 hsz9 hpa9 hfz hg9 hp9 hr9 hp hr1 hpr1 (by omega) (by omega) (by omega) (by omega) (by omega) hq248 hq256 (by omega) (by omega) (by omega) (by omega)).up (hi2 := G251.length) (by omega)
          rw [show 0 = lzR f n bh214 flg from (by unfold lzR; split <;> omega)] at hdn8
          have pdnJ_0 : dnJ o G251 0 ps wt ((ao_, (mnC ro_ (mnR l212 m213 (lzR f n bh214 flg) ov))) :: ts_) G251.length (vR g1) 0 mnI := hdn8
          have popI_0 : opI o G251 0 ps (j1 + 1) G251.length (vR g1) := ⟨g1, r1, ou_2, (vR p), rfl, ⟨hpg1, hpr1⟩, ⟨by omega, by omega⟩, by unfold pf; rw [hg1.2.2]; rfl, by unfold pf; rw [hg1.2.2]; rfl, by unfold pf; rw [hr1.2.2]; rfl, (Or.inr ⟨_, rfl, hpp, by have hlt := hp.lt; omega⟩), popI_0⟩
          rw [← hj1] at popI_0
          refine ab_vret rfl d_RD_append_200 ?_
          rw [hQ]; exact (Or.inr (Or.inl ⟨_, _, _, _, _, _, _, _, _, _, _, _, _, 0, _, _, rfl, hfr, hlen, hsl, hd_, hx, ppaI_0, popI_0, pszJ_0, pdnJ_0, (by exact hft_), (by exact hfs_), (by exact hq17), (by exact fun z => absurd z.1 (by decide)), (by unfold askR; first | (left; omega) | (right; omega)), (by first | omega | (have t_ := tpk_w (f := f) (n := n) (i := bh214) (by omega); omega)), (by omega)⟩))
        · refine zz_iconst d_RD_append_174 ?_
          refine ab_goto (tgt := 179) d_RD_append_175 (by decide) ?_
          refine ab_callV (d' := d - 1) (as := [vz l212, vz m213, vz 1]) (st := []) (r := _) (z_PA_repeat (o := o) (k := k_4) (v := v_4) (rg := rg_4) (pl := pl_4) (fl := fl_4) (ou := ou_4) (ls := ls_4) (bf := bf_4) (sz := sz_4) (mb := mb_4) (oe := oe_4) (le := le_4) (mo := mo_4) (la := la_4) (rc := rc_4) (ps := ps) (wt := wt) (bs := bs) (gr := grp) (Pr := pr0) (ph := ph) (p := p) (l0 := l212) (m0 := m213) (z0 := 1) hp ppaI_0 (by omega) hpp hn4 (by omega) (ho4.up (by omega)) (hl4.up (by omega)) (hf4.up (by omega)) (by omega) (by omega)) (fun oc G2 h => by rcases h with ⟨_, _, _, h, _⟩ <;> exact ⟨_, h⟩) (by omega) m_PA_repeat ml_RD_193 im_PA_repeat se_PA_repeat c_PA hp.2.2 (Nat.le_of_ble_eq_true rfl) d_RD_append_179 rfl ?_
          intro v G258 hq
          rcases hq with ⟨sz2259, mb2260, oe2261, hv, hfk, hlk, hsk, hNp, pNpaI_0, hq262, hq263, hq264, hq265, hq266⟩
          cases hv
          have hd_ := hfk.get hd_ (by decide)
          have hx := hfk.get hx (by decide)
          have hby_ := hfk.get hby_ (by decide)
          have hKg1 := hq263.get hfk hg1 (Or.inl hpg1) (by simp only [List.mem_cons, List.not_mem_nil, or_false, not_or]; exact (show g1 ≠ p from hgp))
          have hr1 := hfk.get hr1 (by decide)
          have hg1 := hKg1
          have hfz := hfz.tr hq263 (by simp)
          have popI_0 := popI_0.fz (o2 := o) hq263 (by intro y hy; simp only [List.mem_cons, List.not_mem_nil, or_false] at hy; omega)
          have ppaI_0 := pNpaI_0
          have hfr := hfr.tr hfk (by decide)
          have hlen := hlk.trans hlen
          have hsl := hsk.trans hsl
          have hp := hNp
          change ab_W _ _ _ G258 182 [some (vR d_), some (vR p), some (vz pl), some (vz 0), some (vz 0), some (vz 0)] [] _
          refine ab_goto (tgt := 192) d_RD_append_182 (by decide) ?_
          refine ab_aload_n d_RD_append_192 rfl ?_
          refine ab_getf (fs := [vR x, vR g1, vz dp, vz flg, vz grp, vR na, vR nl, vz l212, vz m213, vz bh214]) f_RD_23 d_RD_append_193 hd_.2.2 rfl ?_
          refine ab_aload_n d_RD_append_196 rfl ?_
          refine ab_callV (d' := d - 1) (as := [vR p]) (st := []) (r := _) (z_PA_pushInLastRow (o := o) (k := k_4) (v := v_4) (rg := rg_4) (pl := pl_4) (fl := fl_4) (ou := ou_4) (ls := ls_4) (bf := bf_4) (sz := sz2259) (mb := mb2260) (oe := oe2261) (le := l212) (mo := m213) (la := 1) (rc := rc_4) (lr := ls3) (br := bf3) (sr := sz3) (mr := mb3) (ps := ps) (wt := wt) (bs := bs) (gr := grp) (Pr := pr0) (ph := ph) (r := r1) (p := p) (kg := k_2) (vg := v_2) (rgg := rg_2) (plg := pl_2) (flg := fl_2) (oug := ou_2) (bfg := bf_2) (szg := sz_2) (mbg := mb_2) (oeg := oe_2) (leg := le_2) (mog := mo_2) (lag := la_2) (rcg := rc_2) (q := g1) hg1 hp hr1 ppaI_0 (by omega) hgp hpg1 hpp hpr1 hn4 (by omega) (by omega) (ho4.up (by omega)) (hl4.up (by omega)) (hf4.up (by omega)) (hlv1.up (by omega)) (hf3.up (by omega)) (hlv1.up (by omega)) (by omega) (by omega)) (fun oc G2 h => by rcases h with ⟨_, _, h, _⟩ <;> exact ⟨_, h⟩) (by omega) m_PA_pushInLastRow ml_RD_197 im_PA_pushInLastRow se_PA_pushInLastRow c_PA hg1.2.2 (Nat.le_of_ble_eq_true rfl) d_RD_append_197 rfl ?_
          intro v G267 hq
          rcases hq with ⟨sr2268, mr2269, hv, hfk, hlk, hsk, hNg1, hNp, hNr1, pNpaI_0, hq270, hq271, hq272, hq273⟩
          cases hv
          have hd_ := hfk.get hd_ (by decide)
          have hx := hfk.get hx (by decide)
          have hby_ := hfk.get hby_ (by decide)
          have hfz := hfz.tr hq271 (by simp)
          have popI_0 := popI_0.fz (o2 := o) hq271 (by intro y hy; simp only [List.mem_cons, List.not_mem_nil, or_false] at hy; omega)
          have ppaI_0 := pNpaI_0
          have hfr := hfr.tr hfk (by decide)
          have hlen := hlk.trans hlen
          have hsl := hsk.trans hsl
          have hg1 := hNg1
          have hp := hNp
          have hr1 := hNr1
          change ab_W _ _ _ G267 200 [some (vR d_), some (vR p), some (vz pl), some (vz 0), some (vz 0), some (vz 0)] [] _
          have pszJ_0 : szJ o G267 0 ps ((a1_, b1_, c1_, d1_, (e1_ + (tms l212 m213 * psz + mre l212 m213))) :: t_) G267.length (vR g1) wh 0 0 := (szJ.appC hsz9 hpa9 hfz hg9 hp9 hr9 hp hr1 hpr1 (by omega) (by omega) (by omega) (by omega) (by omega) hq264 hq272).up (by omega)
          have hdn8 := (dnJ.appC (o2 := o) hdn9 hsz9 hpa9 hfz hg9 hp9 hr9 hp hr1 hpr1 (by omega) (by omega) (by omega) (by omega) (by omega) hq264 hq272 (by omega) (by omega) (by omega) (by omega)).up (hi2 := G267.length) (by omega)
          rw [show 1 = lzR f n bh214 flg from (by unfold lzR; split <;> omega)] at hdn8
          have pdnJ_0 : dnJ o G267 0 ps wt ((ao_, (mnC ro_ (mnR l212 m213 (lzR f n bh214 flg) ov))) :: ts_) G267.length (vR g1) 0 mnI := hdn8
          have popI_0 : opI o G267 0 ps (j1 + 1) G267.length (vR g1) := ⟨g1, r1, ou_2, (vR p), rfl, ⟨hpg1, hpr1⟩, ⟨by omega, by omega⟩, by unfold pf; rw [hg1.2.2]; rfl, by unfold pf; rw [hg1.2.2]; rfl, by unfold pf; rw [hr1.2.2]; rfl, (Or.inr ⟨_, rfl, hpp, by have hlt := hp.lt; omega⟩), popI_0⟩
          rw [← hj1] at popI_0
          refine ab_vret rfl d_RD_append_200 ?_
          rw [hQ]; exact (Or.inr (Or.inl ⟨_, _, _, _, _, _, _, _, _, _, _, _, _, 0, _, _, rfl, hfr, hlen, hsl, hd_, hx, ppaI_0, popI_0, pszJ_0, pdnJ_0, (by exact hft_), (by exact hfs_), (by exact hq17), (by exact fun z => absurd z.1 (by decide)), (by unfold askR; first | (left; omega) | (right; omega)), (by first | omega | (have t_ := tpk_w (f := f) (n := n) (i := bh214) (by omega); omega)), (by omega)⟩))
      · refine zz_iconst d_RD_append_125 ?_
        refine ab_goto (tgt := 130) d_RD_append_126 (by decide) ?_
        refine ab_istore d_RD_append_130 (Nat.le_of_ble_eq_true rfl) (Nat.le_of_ble_eq_true rfl) rfl ?_
        change ab_W _ _ _ G229 132 [some (vR d_), some (vR p), some (vz pl), some (vz 0), some (vz 0), some (vz 1)] [] _
        refine ab_aload_n d_RD_append_132 rfl ?_
        refine ab_getf (fs := [vR x, vR g1, vz dp, vz flg, vz grp, vR na, vR nl, vz l212, vz m213, vz bh214]) f_RD_12 d_RD_append_133 hd_.2.2 rfl ?_
        refine ab_dup d_RD_append_136 rfl ?_
        refine ab_getf (fs := [vR se, vR by_, vz n, vz bh214, vz fa, vz fp, vR kd, vz kn]) f_RD_55 d_RD_append_137 hx.2.2 rfl ?_
        refine ab_iload d_RD_append_140 rfl ?_
        refine zz_if_eq (tgt := 149) d_RD_append_142 (by decide) (by decide) (fun c274 => absurd c274 (by decide)) (fun c274 => ?_)
        refine zz_iconst d_RD_append_145 ?_
        refine ab_goto (tgt := 150) d_RD_append_146 (by decide) ?_
        refine zz_iadd d_RD_append_150 ?_
        refine ab_putf (fs := [vR se, vR by_, vz n, vz bh214, vz fa, vz fp, vR kd, vz kn]) f_RD_55 (Or.inl rfl) d_RD_append_151 hx.2.2 (Nat.le_of_ble_eq_true rfl) (fun _ => ⟨rfl, rfl⟩) (hx.2.1 (by decide)) ?_
        obtain ⟨G275, eG275⟩ : ∃ z : ab_G, z = List.set G229 x (ab_ob 10 [vR se, vR by_, vz n, vz (bh214 + 1), vz fa, vz fp, vR kd, vz kn]) := ⟨_, rfl⟩
        have hd_ := hd_.keep hx eG275 (by decide)
        have hby_ := hby_.keep hx eG275 (by decide)
        have hg1 := hg1.keep hx eG275 (by decide)
        have hr1 := hr1.keep hx eG275 (by decide)
        have hp := hp.keep hx eG275 (by decide)
        have hfz := hfz.wl ppaI_0 hx eG275 (by decide)
        have hst := (fx.rf (o := o) (S := [24]) (G := G229)).wr hx eG275 (List.mem_singleton.mpr rfl)
        have pszJ_0 := szJ.fr hst ppaI_0 pszJ_0 (by decide) (by decide)
        have pdnJ_0 := dnJ.fr hst ppaI_0 pdnJ_0 (by decide) (by decide)
        have popI_0 := opI.fr hst ppaI_0 popI_0 (by decide) (by decide)
        have ppaI_0 := paI.fr hst ppaI_0 (by decide) (by decide) (by decide) (by decide)
        have hlen := (z_len eG275).trans hlen
        have hsl := (z_sl hx eG275 rfl).trans hsl
        have hfr := hfr.wr hx eG275 (by decide)
        have hx := hx.kept eG275
        change ab_W _ _ _ (List.set G229 x (ab_ob 10 [vR se, vR by_, vz n, vz (bh214 + 1), vz fa, vz fp, vR kd, vz kn])) 154 [some (vR d_), some (vR p), some (vz pl), some (vz 0), some (vz 0), some (vz 1)] [] _
        rw [← eG275]
        refine ab_aload_n d_RD_append_154 rfl ?_
        refine ab_aload_n d_RD_append_155 rfl ?_
        refine ab_getf (fs := [vR x, vR g1, vz dp, vz flg, vz grp, vR na, vR nl, vz l212, vz m213, vz bh214]) f_RD_184 d_RD_append_156 hd_.2.2 rfl ?_
        refine ab_aload_n d_RD_append_159 rfl ?_
        refine ab_getf (fs := [vR x, vR g1, vz dp, vz flg, vz grp, vR na, vR nl, vz l212, vz m213, vz bh214]) f_RD_187 d_RD_append_160 hd_.2.2 rfl ?_
        refine ab_iload d_RD_append_163 rfl ?_
        refine ab_aload_n d_RD_append_165 rfl ?_
        refine zz_bipush d_RD_append_166 (by decide) ?_
        refine ab_callV (d' := d - 1) (as := [vz 8]) (st := [vz 1, vz m213, vz l212, vR p]) (r := _) (z8_RD_isOn (o := o) (d_ := d_) (inn := vR g1) (dp := dp) (flg := flg) (grp := grp) (na := na) (nl := nl) (lst := l212) (mst := m213) (bh := bh214) (x := x) hd_ (by omega)) (fun oc G2 h => by rcases h with ⟨_, h, _⟩ <;> exact ⟨_, h⟩) (by omega) m_RD_isOn ml_RD_94 im_RD_isOn se_RD_isOn c_RD hd_.2.2 (Nat.le_of_ble_eq_true rfl) d_RD_append_168 rfl ?_
        intro v G276 hq
        rcases hq with ⟨v277, hv, hGe, hq278, hq279⟩
        cases hv
        rw [hGe]
        change ab_W _ _ _ G275 171 [some (vR d_), some (vR p), some (vz pl), some (vz 0), some (vz 0), some (vz 1)] [vz v277, vz 1, vz m213, vz l212, vR p] _
        refine zz_icmp_eq (tgt := 178) d_RD_append_171 (by decide) (by decide) (by omega) (fun c280 => ?_) (fun c280 => ?_)
        · refine zz_iconst d_RD_append_178 ?_
          refine ab_callV (d' := d - 1) (as := [vz l212, vz m213, vz 0]) (st := []) (r := _) (z_PA_repeat (o := o) (k := k_4) (v := v_4) (rg := rg_4) (pl := pl_4) (fl := fl_4) (ou := ou_4) (ls := ls_4) (bf := bf_4) (sz := sz_4) (mb := mb_4) (oe := oe_4) (le := le_4) (mo := mo_4) (la := la_4) (rc := rc_4) (ps := ps) (wt := wt) (bs := bs) (gr := grp) (Pr := pr0) (ph := ph) (p := p) (l0 := l212) (m0 := m213) (z0 := 0) hp ppaI_0 (by omega) hpp hn4 (by omega) (ho4.up (by omega)) (hl4.up (by omega)) (hf4.up (by omega)) (by omega) (by omega)) (fun oc G2 h => by rcases h with ⟨_, _, _, h, _⟩ <;> exact ⟨_, h⟩) (by omega) m_PA_repeat ml_RD_193 im_PA_repeat se_PA_repeat c_PA hp.2.2 (Nat.le_of_ble_eq_true rfl) d_RD_append_179 rfl ?_
          intro v G281 hq
          rcases hq with ⟨sz2282, mb2283, oe2284, hv, hfk, hlk, hsk, hNp, pNpaI_0, hq285, hq286, hq287, hq288, hq289⟩
          cases hv
          have hd_ := hfk.get hd_ (by decide)
          have hx := hfk.get hx (by decide)
          have hby_ := hfk.get hby_ (by decide)
          have hKg1 := hq286.get hfk hg1 (Or.inl hpg1) (by simp only [List.mem_cons, List.not_mem_nil, or_false, not_or]; exact (show g1 ≠ p from hgp))
          have hr1 := hfk.get hr1 (by decide)
          have hg1 := hKg1
          have hfz := hfz.tr hq286 (by simp)
          have popI_0 := popI_0.fz (o2 := o) hq286 (by intro y hy; simp only [List.mem_cons, List.not_mem_nil, or_false] at hy; omega)
          have ppaI_0 := pNpaI_0
          have hfr := hfr.tr hfk (by decide)
          have hlen := hlk.trans hlen
          have hsl := hsk.trans hsl
          have hp := hNp
          change ab_W _ _ _ G281 182 [some (vR d_), some (vR p), some (vz pl), some (vz 0), some (vz 0), some (vz 1)] [] _
          refine ab_goto (tgt := 192) d_RD_append_182 (by decide) ?_
          refine ab_aload_n d_RD_append_192 rfl ?_
          refine ab_getf (fs := [vR x, vR g1, vz dp, vz flg, vz grp, vR na, vR nl, vz l212, vz m213, vz bh214]) f_RD_23 d_RD_append_193 hd_.2.2 rfl ?_
          refine ab_aload_n d_RD_append_196 rfl ?_
          refine ab_callV (d' := d - 1) (as := [vR p]) (st := []) (r := _) (z_PA_pushInLastRow (o := o) (k := k_4) (v := v_4) (rg := rg_4) (pl := pl_4) (fl := fl_4) (ou := ou_4) (ls := ls_4) (bf := bf_4) (sz := sz2282) (mb := mb2283) (oe := oe2284) (le := l212) (mo := m213) (la := 0) (rc := rc_4) (lr := ls3) (br := bf3) (sr := sz3) (mr := mb3) (ps := ps) (wt := wt) (bs := bs) (gr := grp) (Pr := pr0) (ph := ph) (r := r1) (p := p) (kg := k_2) (vg := v_2) (rgg := rg_2) (plg := pl_2) (flg := fl_2) (oug := ou_2) (bfg := bf_2) (szg := sz_2) (mbg := mb_2) (oeg := oe_2) (leg := le_2) (mog := mo_2) (lag := la_2) (rcg := rc_2) (q := g1) hg1 hp hr1 ppaI_0 (by omega) hgp hpg1 hpp hpr1 hn4 (by omega) (by omega) (ho4.up (by omega)) (hl4.up (by omega)) (hf4.up (by omega)) (hlv1.up (by omega)) (hf3.up (by omega)) (hlv1.up (by omega)) (by omega) (by omega)) (fun oc G2 h => by rcases h with ⟨_, _, h, _⟩ <;> exact ⟨_, h⟩) (by omega) m_PA_pushInLastRow ml_RD_197 im_PA_pushInLastRow se_PA_pushInLastRow c_PA hg1.2.2 (Nat.le_of_ble_eq_true rfl) d_RD_append_197 rfl ?_
          intro v G290 hq
          rcases hq with ⟨sr2291, mr2292, hv, hfk, hlk, hsk, hNg1, hNp, hNr1, pNpaI_0, hq293, hq294, hq295, hq296⟩
          cases hv
          have hd_ := hfk.get hd_ (by decide)
          have hx := hfk.get hx (by decide)
          have hby_ := hfk.get hby_ (by decide)
          have hfz := hfz.tr hq294 (by simp)
          have popI_0 := popI_0.fz (o2 := o) hq294 (by intro y hy; simp only [List.mem_cons, List.not_mem_nil, or_false] at hy; omega)
          have ppaI_0 := pNpaI_0
          have hfr := hfr.tr hfk (by decide)
          have hlen := hlk.trans hlen
          have hsl := hsk.trans hsl
          have hg1 := hNg1
          have hp := hNp
          have hr1 := hNr1
          change ab_W _ _ _ G290 200 [some (vR d_), some (vR p), some (vz pl), some (vz 0), some (vz 0), some (vz 1)] [] _
          have pszJ_0 : szJ o G290 0 ps ((a1_, b1_, c1_, d1_, (e1_ + (tms l212 m213 * psz + mre l212 m213))) :: t_) G290.length (vR g1) wh 0 0 := (szJ.appC hsz9 hpa9 hfz hg9 hp9 hr9 hp hr1 hpr1 (by omega) (by omega) (by omega) (by omega) (by omega) hq287 hq295).up (by omega)
          have hdn8 := (dnJ.appC (o2 := o) hdn9 hsz9 hpa9 hfz hg9 hp9 hr9 hp hr1 hpr1 (by omega) (by omega) (by omega) (by omega) (by omega) hq287 hq295 (by omega) (by omega) (by omega) (by omega)).up (hi2 := G290.length) (by omega)
          rw [show 0 = lzR f n bh214 flg from (by unfold lzR; split <;> omega)] at hdn8
          have pdnJ_0 : dnJ o G290 0 ps wt ((ao_, (mnC ro_ (mnR l212 m213 (lzR f n bh214 flg) ov))) :: ts_) G290.length (vR g1) 0 mnI := hdn8
          have popI_0 : opI o G290 0 ps (j1 + 1) G290.length (vR g1) := ⟨g1, r1, ou_2, (vR p), rfl, ⟨hpg1, hpr1⟩, ⟨by omega, by omega⟩, by unfold pf; rw [hg1.2.2]; rfl, by unfold pf; rw [hg1.2.2]; rfl, by unfold pf; rw [hr1.2.2]; rfl, (Or.inr ⟨_, rfl, hpp, by have hlt := hp.lt; omega⟩), popI_0⟩
          rw [← hj1] at popI_0
          refine ab_vret rfl d_RD_append_200 ?_
          rw [hQ]; exact (Or.inr (Or.inl ⟨_, _, _, _, _, _, _, _, _, _, _, _, _, 0, _, _, rfl, hfr, hlen, hsl, hd_, hx, ppaI_0, popI_0, pszJ_0, pdnJ_0, (by exact hft_), (by exact hfs_), (by exact hq17), (by exact fun z => absurd z.1 (by decide)), (by unfold askR; first | (left; omega) | (right; omega)), (by first | omega | (have t_ := tpk_w (f := f) (n := n) (i := bh214) (by omega); omega)), (by omega)⟩))
        · refine zz_iconst d_RD_append_174 ?_
          refine ab_goto (tgt := 179) d_RD_append_175 (by decide) ?_
          refine ab_callV (d' := d - 1) (as := [vz l212, vz m213, vz 1]) (st := []) (r := _) (z_PA_repeat (o := o) (k := k_4) (v := v_4) (rg := rg_4) (pl := pl_4) (fl := fl_4) (ou := ou_4) (ls := ls_4) (bf := bf_4) (sz := sz_4) (mb := mb_4) (oe := oe_4) (le := le_4) (mo := mo_4) (la := la_4) (rc := rc_4) (ps := ps) (wt := wt) (bs := bs) (gr := grp) (Pr := pr0) (ph := ph) (p := p) (l0 := l212) (m0 := m213) (z0 := 1) hp ppaI_0 (by omega) hpp hn4 (by omega) (ho4.up (by omega)) (hl4.up (by omega)) (hf4.up (by omega)) (by omega) (by omega)) (fun oc G2 h => by rcases h with ⟨_, _, _, h, _⟩ <;> exact ⟨_, h⟩) (by omega) m_PA_repeat ml_RD_193 im_PA_repeat se_PA_repeat c_PA hp.2.2 (Nat.le_of_ble_eq_true rfl) d_RD_append_179 rfl ?_
          intro v G297 hq
          rcases hq with ⟨sz2298, mb2299, oe2300, hv, hfk, hlk, hsk, hNp, pNpaI_0, hq301, hq302, hq303, hq304, hq305⟩
          cases hv
          have hd_ := hfk.get hd_ (by decide)
          have hx := hfk.get hx (by decide)
          have hby_ := hfk.get hby_ (by decide)
          have hKg1 := hq302.get hfk hg1 (Or.inl hpg1) (by simp only [List.mem_cons, List.not_mem_nil, or_false, not_or]; exact (show g1 ≠ p from hgp))
          have hr1 := hfk.get hr1 (by decide)
          have hg1 := hKg1
          have hfz := hfz.tr hq302 (by simp)
          have popI_0 := popI_0.fz (o2 := o) hq302 (by intro y hy; simp only [List.mem_cons, List.not_mem_nil, or_false] at hy; omega)
          have ppaI_0 := pNpaI_0
          have hfr := hfr.tr hfk (by decide)
          have hlen := hlk.trans hlen
          have hsl := hsk.trans hsl
          have hp := hNp
          change ab_W _ _ _ G297 182 [some (vR d_), some (vR p), some (vz pl), some (vz 0), some (vz 0), some (vz 1)] [] _
          refine ab_goto (tgt := 192) d_RD_append_182 (by decide) ?_
          refine ab_aload_n d_RD_append_192 rfl ?_
          refine ab_getf (fs := [vR x, vR g1, vz dp, vz flg, vz grp, vR na, vR nl, vz l212, vz m213, vz bh214]) f_RD_23 d_RD_append_193 hd_.2.2 rfl ?_
          refine ab_aload_n d_RD_append_196 rfl ?_
          refine ab_callV (d' := d - 1) (as := [vR p]) (st := []) (r := _) (z_PA_pushInLastRow (o := o) (k := k_4) (v := v_4) (rg := rg_4) (pl := pl_4) (fl := fl_4) (ou := ou_4) (ls := ls_4) (bf := bf_4) (sz := sz2298) (mb := mb2299) (oe := oe2300) (le := l212) (mo := m213) (la := 1) (rc := rc_4) (lr := ls3) (br := bf3) (sr := sz3) (mr := mb3) (ps := ps) (wt := wt) (bs := bs) (gr := grp) (Pr := pr0) (ph := ph) (r := r1) (p := p) (kg := k_2) (vg := v_2) (rgg := rg_2) (plg := pl_2) (flg := fl_2) (oug := ou_2) (bfg := bf_2) (szg := sz_2) (mbg := mb_2) (oeg := oe_2) (leg := le_2) (mog := mo_2) (lag := la_2) (rcg := rc_2) (q := g1) hg1 hp hr1 ppaI_0 (by omega) hgp hpg1 hpp hpr1 hn4 (by omega) (by omega) (ho4.up (by omega)) (hl4.up (by omega)) (hf4.up (by omega)) (hlv1.up (by omega)) (hf3.up (by omega)) (hlv1.up (by omega)) (by omega) (by omega)) (fun oc G2 h => by rcases h with ⟨_, _, h, _⟩ <;> exact ⟨_, h⟩) (by omega) m_PA_pushInLastRow ml_RD_197 im_PA_pushInLastRow se_PA_pushInLastRow c_PA hg1.2.2 (Nat.le_of_ble_eq_true rfl) d_RD_append_197 rfl ?_
          intro v G306 hq
          rcases hq with ⟨sr2307, mr2308, hv, hfk, hlk, hsk, hNg1, hNp, hNr1, pNpaI_0, hq309, hq310, hq311, hq312⟩
          cases hv
          have hd_ := hfk.get hd_ (by decide)
          have hx := hfk.get hx (by decide)
          have hby_ := hfk.get hby_ (by decide)
          have hfz := hfz.tr hq310 (by simp)
          have popI_0 := popI_0.fz (o2 := o) hq310 (by intro y hy; simp only [List.mem_cons, List.not_mem_nil, or_false] at hy; omega)
          have ppaI_0 := pNpaI_0
          have hfr := hfr.tr hfk (by decide)
          have hlen := hlk.trans hlen
          have hsl := hsk.trans hsl
          have hg1 := hNg1
          have hp := hNp
          have hr1 := hNr1
          change ab_W _ _ _ G306 200 [some (vR d_), some (vR p), some (vz pl), some (vz 0), some (vz 0), some (vz 1)] [] _
          have pszJ_0 : szJ o G306 0 ps ((a1_, b1_, c1_, d1_, (e1_ + (tms l212 m213 * psz + mre l212 m213))) :: t_) G306.length (vR g1) wh 0 0 := (szJ.appC hsz9 hpa9 hfz hg9 hp9 hr9 hp hr1 hpr1 (by omega) (by omega) (by omega) (by omega) (by omega) hq303 hq311).up (by omega)
          have hdn8 := (dnJ.appC (o2 := o) hdn9 hsz9 hpa9 hfz hg9 hp9 hr9 hp hr1 hpr1 (by omega) (by omega) (by omega) (by omega) (by omega) hq303 hq311 (by omega) (by omega) (by omega) (by omega)).up (hi2 := G306.length) (by omega)
          rw [show 1 = lzR f n bh214 flg from (by unfold lzR; split <;> omega)] at hdn8
          have pdnJ_0 : dnJ o G306 0 ps wt ((ao_, (mnC ro_ (mnR l212 m213 (lzR f n bh214 flg) ov))) :: ts_) G306.length (vR g1) 0 mnI := hdn8
          have popI_0 : opI o G306 0 ps (j1 + 1) G306.length (vR g1) := ⟨g1, r1, ou_2, (vR p), rfl, ⟨hpg1, hpr1⟩, ⟨by omega, by omega⟩, by unfold pf; rw [hg1.2.2]; rfl, by unfold pf; rw [hg1.2.2]; rfl, by unfold pf; rw [hr1.2.2]; rfl, (Or.inr ⟨_, rfl, hpp, by have hlt := hp.lt; omega⟩), popI_0⟩
          rw [← hj1] at popI_0
          refine ab_vret rfl d_RD_append_200 ?_
          rw [hQ]; exact (Or.inr (Or.inl ⟨_, _, _, _, _, _, _, _, _, _, _, _, _, 0, _, _, rfl, hfr, hlen, hsl, hd_, hx, ppaI_0, popI_0, pszJ_0, pdnJ_0, (by exact hft_), (by exact hfs_), (by exact hq17), (by exact fun z => absurd z.1 (by decide)), (by unfold askR; first | (left; omega) | (right; omega)), (by first | omega | (have t_ := tpk_w (f := f) (n := n) (i := bh214) (by omega); omega)), (by omega)⟩))
    · refine ab_aload_n d_RD_append_53 rfl ?_
      refine ab_getf (fs := [vR x, vR g1, vz dp, vz flg, vz grp, vR na, vR nl, vz l212, vz m213, vz bh214]) f_RD_187 d_RD_append_54 hd_.2.2 rfl ?_
      refine zz_bipush d_RD_append_57 (by decide) ?_
      refine zz_icmp_gt (tgt := 73) d_RD_append_59 (by decide) (by omega) (by decide) (fun c313 => ?_) (fun c313 => ?_)
      · refine zz_iconst d_RD_append_73 ?_
        refine ab_goto (tgt := 78) d_RD_append_74 (by decide) ?_
        refine ab_istore d_RD_append_78 (Nat.le_of_ble_eq_true rfl) (Nat.le_of_ble_eq_true rfl) rfl ?_
        change ab_W _ _ _ G5 80 [some (vR d_), some (vR p), some (vz pl), some (vz 0), some (vz 1), none] [] _
        refine ab_iload_n d_RD_append_80 rfl ?_
        refine zz_if_eq (tgt := 101) d_RD_append_81 (by decide) (by decide) (fun c314 => ?_) (fun c314 => absurd c314 (by decide))
        refine ab_aload_n d_RD_append_101 rfl ?_
        refine ab_getf (fs := [vR x, vR g1, vz dp, vz flg, vz grp, vR na, vR nl, vz l212, vz m213, vz bh214]) f_RD_12 d_RD_append_102 hd_.2.2 rfl ?_
        refine ab_aload_n d_RD_append_105 rfl ?_
        refine ab_getf (fs := [vR x, vR g1, vz dp, vz flg, vz grp, vR na, vR nl, vz l212, vz m213, vz bh214]) f_RD_190 d_RD_append_106 hd_.2.2 rfl ?_
        refine ab_putf (fs := [vR se, vR by_, vz n, vz pl, vz fa, vz fp, vR kd, vz kn]) f_RD_55 (Or.inl rfl) d_RD_append_109 hx.2.2 (Nat.le_of_ble_eq_true rfl) (fun _ => ⟨rfl, rfl⟩) (hx.2.1 (by decide)) ?_
        obtain ⟨G315, eG315⟩ : ∃ z : ab_G, z = List.set G5 x (ab_ob 10 [vR se, vR by_, vz n, vz bh214, vz fa, vz fp, vR kd, vz kn]) := ⟨_, rfl⟩
        have hd_ := hd_.keep hx eG315 (by decide)
        have hby_ := hby_.keep hx eG315 (by decide)
        have hg1 := hg1.keep hx eG315 (by decide)
        have hr1 := hr1.keep hx eG315 (by decide)
        have hp := hp.keep hx eG315 (by decide)
        have hfz := hfz.wl ppaI_0 hx eG315 (by decide)
        have hst := (fx.rf (o := o) (S := [24]) (G := G5)).wr hx eG315 (List.mem_singleton.mpr rfl)
        have pszJ_0 := szJ.fr hst ppaI_0 pszJ_0 (by decide) (by decide)
        have pdnJ_0 := dnJ.fr hst ppaI_0 pdnJ_0 (by decide) (by decide)
        have popI_0 := opI.fr hst ppaI_0 popI_0 (by decide) (by decide)
        have ppaI_0 := paI.fr hst ppaI_0 (by decide) (by decide) (by decide) (by decide)
        have hlen := (z_len eG315).trans hlen
        have hsl := (z_sl hx eG315 rfl).trans hsl
        have hfr := hfr.wr hx eG315 (by decide)
        have hx := hx.kept eG315
        change ab_W _ _ _ (List.set G5 x (ab_ob 10 [vR se, vR by_, vz n, vz bh214, vz fa, vz fp, vR kd, vz kn])) 112 [some (vR d_), some (vR p), some (vz pl), some (vz 0), some (vz 1), none] [] _
        rw [← eG315]
        refine ab_aload_n d_RD_append_112 rfl ?_
        refine ab_getf (fs := [vR x, vR g1, vz dp, vz flg, vz grp, vR na, vR nl, vz l212, vz m213, vz bh214]) f_RD_12 d_RD_append_113 hd_.2.2 rfl ?_
        refine zz_iconst d_RD_append_116 ?_
        refine ab_callV (d' := d - 1) (as := [vz 0]) (st := []) (r := _) (z_TX_peek0 (o := o) (x := x) (lx := 24) (se := se) (by_ := by_) (lby := 23) (m := m) (f := f) (n := n) (pl := bh214) (fa := fa) (fp := fp) (kd := kd) (kn := kn) hx hby_ (by omega) hb) (fun oc G2 h => by rcases h with ⟨_, h, _⟩ <;> exact ⟨_, h⟩) (by omega) m_TX_peek ml_RD_79 im_TX_peek se_TX_peek c_TX hx.2.2 (Nat.le_of_ble_eq_true rfl) d_RD_append_117 rfl ?_
        intro v G316 hq
        rcases hq with ⟨v317, hv, hGe, hq318, hq319⟩
        cases hv
        rw [hGe]
        change ab_W _ _ _ G315 120 [some (vR d_), some (vR p), some (vz pl), some (vz 0), some (vz 1), none] [vz v317] _
        refine zz_bipush d_RD_append_120 (by decide) ?_
        refine zz_icmp_ne (tgt := 129) d_RD_append_122 (by decide) (by omega) (by decide) (fun c320 => ?_) (fun c320 => ?_)
        · refine zz_iconst d_RD_append_129 ?_
          refine ab_istore d_RD_append_130 (Nat.le_of_ble_eq_true rfl) (Nat.le_of_ble_eq_true rfl) rfl ?_
          change ab_W _ _ _ G315 132 [some (vR d_), some (vR p), some (vz pl), some (vz 0), some (vz 1), some (vz 0)] [] _
          refine ab_aload_n d_RD_append_132 rfl ?_
          refine ab_getf (fs := [vR x, vR g1, vz dp, vz flg, vz grp, vR na, vR nl, vz l212, vz m213, vz bh214]) f_RD_12 d_RD_append_133 hd_.2.2 rfl ?_
          refine ab_dup d_RD_append_136 rfl ?_
          refine ab_getf (fs := [vR se, vR by_, vz n, vz bh214, vz fa, vz fp, vR kd, vz kn]) f_RD_55 d_RD_append_137 hx.2.2 rfl ?_
          refine ab_iload d_RD_append_140 rfl ?_
          refine zz_if_eq (tgt := 149) d_RD_append_142 (by decide) (by decide) (fun c321 => ?_) (fun c321 => absurd c321 (by decide))
          refine zz_iconst d_RD_append_149 ?_
          refine zz_iadd d_RD_append_150 ?_
          refine ab_putf (fs := [vR se, vR by_, vz n, vz bh214, vz fa, vz fp, vR kd, vz kn]) f_RD_55 (Or.inl rfl) d_RD_append_151 hx.2.2 (Nat.le_of_ble_eq_true rfl) (fun _ => ⟨rfl, rfl⟩) (hx.2.1 (by decide)) ?_
          obtain ⟨G322, eG322⟩ : ∃ z : ab_G, z = List.set G315 x (ab_ob 10 [vR se, vR by_, vz n, vz (bh214 + 0), vz fa, vz fp, vR kd, vz kn]) := ⟨_, rfl⟩
          have hd_ := hd_.keep hx eG322 (by decide)
          have hby_ := hby_.keep hx eG322 (by decide)
          have hg1 := hg1.keep hx eG322 (by decide)
          have hr1 := hr1.keep hx eG322 (by decide)
          have hp := hp.keep hx eG322 (by decide)
          have hfz := hfz.wl ppaI_0 hx eG322 (by decide)
          have hst := (fx.rf (o := o) (S := [24]) (G := G315)).wr hx eG322 (List.mem_singleton.mpr rfl)
          have pszJ_0 := szJ.fr hst ppaI_0 pszJ_0 (by decide) (by decide)
          have pdnJ_0 := dnJ.fr hst ppaI_0 pdnJ_0 (by decide) (by decide)
          have popI_0 := opI.fr hst ppaI_0 popI_0 (by decide) (by decide)
          have ppaI_0 := paI.fr hst ppaI_0 (by decide) (by decide) (by decide) (by decide)
          have hlen := (z_len eG322).trans hlen
          have hsl := (z_sl hx eG322 rfl).trans hsl
          have hfr := hfr.wr hx eG322 (by decide)
          have hx := hx.kept eG322
          change ab_W _ _ _ (List.set G315 x (ab_ob 10 [vR se, vR by_, vz n, vz (bh214 + 0), vz fa, vz fp, vR kd, vz kn])) 154 [some (vR d_), some (vR p), some (vz pl), some (vz 0), some (vz 1), some (vz 0)] [] _
          rw [← eG322]
          refine ab_aload_n d_RD_append_154 rfl ?_
          refine ab_aload_n d_RD_append_155 rfl ?_
          refine ab_getf (fs := [vR x, vR g1, vz dp, vz flg, vz grp, vR na, vR nl, vz l212, vz m213, vz bh214]) f_RD_184 d_RD_append_156 hd_.2.2 rfl ?_
          refine ab_aload_n d_RD_append_159 rfl ?_
          refine ab_getf (fs := [vR x, vR g1, vz dp, vz flg, vz grp, vR na, vR nl, vz l212, vz m213, vz bh214]) f_RD_187 d_RD_append_160 hd_.2.2 rfl ?_
          refine ab_iload d_RD_append_163 rfl ?_
          refine ab_aload_n d_RD_append_165 rfl ?_
          refine zz_bipush d_RD_append_166 (by decide) ?_
          refine ab_callV (d' := d - 1) (as := [vz 8]) (st := [vz 0, vz m213, vz l212, vR p]) (r := _) (z8_RD_isOn (o := o) (d_ := d_) (inn := vR g1) (dp := dp) (flg := flg) (grp := grp) (na := na) (nl := nl) (lst := l212) (mst := m213) (bh := bh214) (x := x) hd_ (by omega)) (fun oc G2 h => by rcases h with ⟨_, h, _⟩ <;> exact ⟨_, h⟩) (by omega) m_RD_isOn ml_RD_94 im_RD_isOn se_RD_isOn c_RD hd_.2.2 (Nat.le_of_ble_eq_true rfl) d_RD_append_168 rfl ?_
          intro v G323 hq
          rcases hq with ⟨v324, hv, hGe, hq325, hq326⟩
          cases hv
          rw [hGe]
          change ab_W _ _ _ G322 171 [some (vR d_), some (vR p), some (vz pl), some (vz 0), some (vz 1), some (vz 0)] [vz v324, vz 0, vz m213, vz l212, vR p] _
          refine zz_icmp_eq (tgt := 178) d_RD_append_171 (by decide) (by decide) (by omega) (fun c327 => ?_) (fun c327 => ?_)
          · refine zz_iconst d_RD_append_178 ?_
            refine ab_callV (d' := d - 1) (as := [vz l212, vz m213, vz 0]) (st := []) (r := _) (z_PA_repeat (o := o) (k := k_4) (v := v_4) (rg := rg_4) (pl := pl_4) (fl := fl_4) (ou := ou_4) (ls := ls_4) (bf := bf_4) (sz := sz_4) (mb := mb_4) (oe := oe_4) (le := le_4) (mo := mo_4) (la := la_4) (rc := rc_4) (ps := ps) (wt := wt) (bs := bs) (gr := grp) (Pr := pr0) (ph := ph) (p := p) (l0 := l212) (m0 := m213) (z0 := 0) hp ppaI_0 (by omega) hpp hn4 (by omega) (ho4.up (by omega)) (hl4.up (by omega)) (hf4.up (by omega)) (by omega) (by omega)) (fun oc G2 h => by rcases h with ⟨_, _, _, h, _⟩ <;> exact ⟨_, h⟩) (by omega) m_PA_repeat ml_RD_193 im_PA_repeat se_PA_repeat c_PA hp.2.2 (Nat.le_of_ble_eq_true rfl) d_RD_append_179 rfl ?_
            intro v G328 hq
            rcases hq with ⟨sz2329, mb2330, oe2331, hv, hfk, hlk, hsk, hNp, pNpaI_0, hq332, hq333, hq334, hq335, hq336⟩
            cases hv
            have hd_ := hfk.get hd_ (by decide)
            have hx := hfk.get hx (by decide)
            have hby_ := hfk.get hby_ (by decide)
            have hKg1 := hq333.get hfk hg1 (Or.inl hpg1) (by simp only [List.mem_cons, List.not_mem_nil, or_false, not_or]; exact (show g1 ≠ p from hgp))
            have hr1 := hfk.get hr1 (by decide)
            have hg1 := hKg1
            have hfz := hfz.tr hq333 (by simp)
            have popI_0 := popI_0.fz (o2 := o) hq333 (by intro y hy; simp only [List.mem_cons, List.not_mem_nil, or_false] at hy; omega)
            have ppaI_0 := pNpaI_0
            have hfr := hfr.tr hfk (by decide)
            have hlen := hlk.trans hlen
            have hsl := hsk.trans hsl
            have hp := hNp
            change ab_W _ _ _ G328 182 [some (vR d_), some (vR p), some (vz pl), some (vz 0), some (vz 1), some (vz 0)] [] _
            refine ab_goto (tgt := 192) d_RD_append_182 (by decide) ?_
            refine ab_aload_n d_RD_append_192 rfl ?_
            refine ab_getf (fs := [vR x, vR g1, vz dp, vz flg, vz grp, vR na, vR nl, vz l212, vz m213, vz bh214]) f_RD_23 d_RD_append_193 hd_.2.2 rfl ?_
            refine ab_aload_n d_RD_append_196 rfl ?_
            refine ab_callV (d' := d - 1) (as := [vR p]) (st := []) (r := _) (z_PA_pushInLastRow (o := o) (k := k_4) (v := v_4) (rg := rg_4) (pl := pl_4) (fl := fl_4) (ou := ou_4) (ls := ls_4) (bf := bf_4) (sz := sz2329) (mb := mb2330) (oe := oe2331) (le := l212) (mo := m213) (la := 0) (rc := rc_4) (lr := ls3) (br := bf3) (sr := sz3) (mr := mb3) (ps := ps) (wt := wt) (bs := bs) (gr := grp) (Pr := pr0) (ph := ph) (r := r1) (p := p) (kg := k_2) (vg := v_2) (rgg := rg_2) (plg := pl_2) (flg := fl_2) (oug := ou_2) (bfg := bf_2) (szg := sz_2) (mbg := mb_2) (oeg := oe_2) (leg := le_2) (mog := mo_2) (lag := la_2) (rcg := rc_2) (q := g1) hg1 hp hr1 ppaI_0 (by omega) hgp hpg1 hpp hpr1 hn4 (by omega) (by omega) (ho4.up (by omega)) (hl4.up (by omega)) (hf4.up (by omega)) (hlv1.up (by omega)) (hf3.up (by omega)) (hlv1.up (by omega)) (by omega) (by omega)) (fun oc G2 h => by rcases h with ⟨_, _, h, _⟩ <;> exact ⟨_, h⟩) (by omega) m_PA_pushInLastRow ml_RD_197 im_PA_pushInLastRow se_PA_pushInLastRow c_PA hg1.2.2 (Nat.le_of_ble_eq_true rfl) d_RD_append_197 rfl ?_
            intro v G337 hq
            rcases hq with ⟨sr2338, mr2339, hv, hfk, hlk, hsk, hNg1, hNp, hNr1, pNpaI_0, hq340, hq341, hq342, hq343⟩
            cases hv
            have hd_ := hfk.get hd_ (by decide)
            have hx := hfk.get hx (by decide)
            have hby_ := hfk.get hby_ (by decide)
            have hfz := hfz.tr hq341 (by simp)
            have popI_0 := popI_0.fz (o2 := o) hq341 (by intro y hy; simp only [List.mem_cons, List.not_mem_nil, or_false] at hy; omega)
            have ppaI_0 := pNpaI_0
            have hfr := hfr.tr hfk (by decide)
            have hlen := hlk.trans hlen
            have hsl := hsk.trans hsl
            have hg1 := hNg1
            have hp := hNp
            have hr1 := hNr1
            change ab_W _ _ _ G337 200 [some (vR d_), some (vR p), some (vz pl), some (vz 0), some (vz 1), some (vz 0)] [] _
            have pszJ_0 : szJ o G337 0 ps ((a1_, b1_, c1_, d1_, (e1_ + (tms l212 m213 * psz + mre l212 m213))) :: t_) G337.length (vR g1) wh 0 0 := (szJ.appC hsz9 hpa9 hfz hg9 hp9 hr9 hp hr1 hpr1 (by omega) (by omega) (by omega) (by omega) (by omega) hq334 hq342).up (by omega)
            have hdn8 := (dnJ.appC (o2 := o) hdn9 hsz9 hpa9 hfz hg9 hp9 hr9 hp hr1 hpr1 (by omega) (by omega) (by omega) (by omega) (by omega) hq334 hq342 (by omega) (by omega) (by omega) (by omega)).up (hi2 := G337.length) (by omega)
            rw [show 0 = lzR f n bh214 flg from (by unfold lzR; split <;> omega)] at hdn8
            have pdnJ_0 : dnJ o G337 0 ps wt ((ao_, (mnC ro_ (mnR l212 m213 (lzR f n bh214 flg) ov))) :: ts_) G337.length (vR g1) 0 mnI := hdn8
            have popI_0 : opI o G337 0 ps (j1 + 1) G337.length (vR g1) := ⟨g1, r1, ou_2, (vR p), rfl, ⟨hpg1, hpr1⟩, ⟨by omega, by omega⟩, by unfold pf; rw [hg1.2.2]; rfl, by unfold pf; rw [hg1.2.2]; rfl, by unfold pf; rw [hr1.2.2]; rfl, (Or.inr ⟨_, rfl, hpp, by have hlt := hp.lt; omega⟩), popI_0⟩
            rw [← hj1] at popI_0
            refine ab_vret rfl d_RD_append_200 ?_
            rw [hQ]; exact (Or.inr (Or.inl ⟨_, _, _, _, _, _, _, _, _, _, _, _, _, 0, _, _, rfl, hfr, hlen, hsl, hd_, hx, ppaI_0, popI_0, pszJ_0, pdnJ_0, (by exact hft_), (by exact hfs_), (by exact hq17), (by exact fun z => absurd z.1 (by decide)), (by unfold askR; first | (left; omega) | (right; omega)), (by first | omega | (have t_ := tpk_w (f := f) (n := n) (i := bh214) (by omega); omega)), (by omega)⟩))
          · refine zz_iconst d_RD_append_174 ?_
            refine ab_goto (tgt := 179) d_RD_append_175 (by decide) ?_
            refine ab_callV (d' := d - 1) (as := [vz l212, vz m213, vz 1]) (st := []) (r := _) (z_PA_repeat (o := o) (k := k_4) (v := v_4) (rg := rg_4) (pl := pl_4) (fl := fl_4) (ou := ou_4) (ls := ls_4) (bf := bf_4) (sz := sz_4) (mb := mb_4) (oe := oe_4) (le := le_4) (mo := mo_4) (la := la_4) (rc := rc_4) (ps := ps) (wt := wt) (bs := bs) (gr := grp) (Pr := pr0) (ph := ph) (p := p) (l0 := l212) (m0 := m213) (z0 := 1) hp ppaI_0 (by omega) hpp hn4 (by omega) (ho4.up (by omega)) (hl4.up (by omega)) (hf4.up (by omega)) (by omega) (by omega)) (fun oc G2 h => by rcases h with ⟨_, _, _, h, _⟩ <;> exact ⟨_, h⟩) (by omega) m_PA_repeat ml_RD_193 im_PA_repeat se_PA_repeat c_PA hp.2.2 (Nat.le_of_ble_eq_true rfl) d_RD_append_179 rfl ?_
            intro v G344 hq
            rcases hq with ⟨sz2345, mb2346, oe2347, hv, hfk, hlk, hsk, hNp, pNpaI_0, hq348, hq349, hq350, hq351, hq352⟩
            cases hv
            have hd_ := hfk.get hd_ (by decide)
            have hx := hfk.get hx (by decide)
            have hby_ := hfk.get hby_ (by decide)
            have hKg1 := hq349.get hfk hg1 (Or.inl hpg1) (by simp only [List.mem_cons, List.not_mem_nil, or_false, not_or]; exact (show g1 ≠ p from hgp))
            have hr1 := hfk.get hr1 (by decide)
            have hg1 := hKg1
            have hfz := hfz.tr hq349 (by simp)
            have popI_0 := popI_0.fz (o2 := o) hq349 (by intro y hy; simp only [List.mem_cons, List.not_mem_nil, or_false] at hy; omega)
            have ppaI_0 := pNpaI_0
            have hfr := hfr.tr hfk (by decide)
            have hlen := hlk.trans hlen
            have hsl := hsk.trans hsl
            have hp := hNp
            change ab_W _ _ _ G344 182 [some (vR d_), some (vR p), some (vz pl), some (vz 0), some (vz 1), some (vz 0)] [] _
            refine ab_goto (tgt := 192) d_RD_append_182 (by decide) ?_
            refine ab_aload_n d_RD_append_192 rfl ?_
            refine ab_getf (fs := [vR x, vR g1, vz dp, vz flg, vz grp, vR na, vR nl, vz l212, vz m213, vz bh214]) f_RD_23 d_RD_append_193 hd_.2.2 rfl ?_
            refine ab_aload_n d_RD_append_196 rfl ?_
            refine ab_callV (d' := d - 1) (as := [vR p]) (st := []) (r := _) (z_PA_pushInLastRow (o := o) (k := k_4) (v := v_4) (rg := rg_4) (pl := pl_4) (fl := fl_4) (ou := ou_4) (ls := ls_4) (bf := bf_4) (sz := sz2345) (mb := mb2346) (oe := oe2347) (le := l212) (mo := m213) (la := 1) (rc := rc_4) (lr := ls3) (br := bf3) (sr := sz3) (mr := mb3) (ps := ps) (wt := wt) (bs := bs) (gr := grp) (Pr := pr0) (ph := ph) (r := r1) (p := p) (kg := k_2) (vg := v_2) (rgg := rg_2) (plg := pl_2) (flg := fl_2) (oug := ou_2) (bfg := bf_2) (szg := sz_2) (mbg := mb_2) (oeg := oe_2) (leg := le_2) (mog := mo_2) (lag := la_2) (rcg := rc_2) (q := g1) hg1 hp hr1 ppaI_0 (by omega) hgp hpg1 hpp hpr1 hn4 (by omega) (by omega) (ho4.up (by omega)) (hl4.up (by omega)) (hf4.up (by omega)) (hlv1.up (by omega)) (hf3.up (by omega)) (hlv1.up (by omega)) (by omega) (by omega)) (fun oc G2 h => by rcases h with ⟨_, _, h, _⟩ <;> exact ⟨_, h⟩) (by omega) m_PA_pushInLastRow ml_RD_197 im_PA_pushInLastRow se_PA_pushInLastRow c_PA hg1.2.2 (Nat.le_of_ble_eq_true rfl) d_RD_append_197 rfl ?_
            intro v G353 hq
            rcases hq with ⟨sr2354, mr2355, hv, hfk, hlk, hsk, hNg1, hNp, hNr1, pNpaI_0, hq356, hq357, hq358, hq359⟩
            cases hv
            have hd_ := hfk.get hd_ (by decide)
            have hx := hfk.get hx (by decide)
            have hby_ := hfk.get hby_ (by decide)
            have hfz := hfz.tr hq357 (by simp)
            have popI_0 := popI_0.fz (o2 := o) hq357 (by intro y hy; simp only [List.mem_cons, List.not_mem_nil, or_false] at hy; omega)
            have ppaI_0 := pNpaI_0
            have hfr := hfr.tr hfk (by decide)
            have hlen := hlk.trans hlen
            have hsl := hsk.trans hsl
            have hg1 := hNg1
            have hp := hNp
            have hr1 := hNr1
            change ab_W _ _ _ G353 200 [some (vR d_), some (vR p), some (vz pl), some (vz 0), some (vz 1), some (vz 0)] [] _
            have pszJ_0 : szJ o G353 0 ps ((a1_, b1_, c1_, d1_, (e1_ + (tms l212 m213 * psz + mre l212 m213))) :: t_) G353.length (vR g1) wh 0 0 := (szJ.appC hsz9 hpa9 hfz hg9 hp9 hr9 hp hr1 hpr1 (by omega) (by omega) (by omega) (by omega) (by omega) hq350 hq358).up (by omega)
            have hdn8 := (dnJ.appC (o2 := o) hdn9 hsz9 hpa9 hfz hg9 hp9 hr9 hp hr1 hpr1 (by omega) (by omega) (by omega) (by omega) (by omega) hq350 hq358 (by omega) (by omega) (by omega) (by omega)).up (hi2 := G353.length) (by omega)
            rw [show 1 = lzR f n bh214 flg from (by unfold lzR; split <;> omega)] at hdn8
            have pdnJ_0 : dnJ o G353 0 ps wt ((ao_, (mnC ro_ (mnR l212 m213 (lzR f n bh214 flg) ov))) :: ts_) G353.length (vR g1) 0 mnI := hdn8
            have popI_0 : opI o G353 0 ps (j1 + 1) G353.length (vR g1) := ⟨g1, r1, ou_2, (vR p), rfl, ⟨hpg1, hpr1⟩, ⟨by omega, by omega⟩, by unfold pf; rw [hg1.2.2]; rfl, by unfold pf; rw [hg1.2.2]; rfl, by unfold pf; rw [hr1.2.2]; rfl, (Or.inr ⟨_, rfl, hpp, by have hlt := hp.lt; omega⟩), popI_0⟩
            rw [← hj1] at popI_0
            refine ab_vret rfl d_RD_append_200 ?_
            rw [hQ]; exact (Or.inr (Or.inl ⟨_, _, _, _, _, _, _, _, _, _, _, _, _, 0, _, _, rfl, hfr, hlen, hsl, hd_, hx, ppaI_0, popI_0, pszJ_0, pdnJ_0, (by exact hft_), (by exact hfs_), (by exact hq17), (by exact fun z => absurd z.1 (by decide)), (by unfold askR; first | (left; omega) | (right; omega)), (by first | omega | (have t_ := tpk_w (f := f) (n := n) (i := bh214) (by omega); omega)), (by omega)⟩))
        · refine zz_iconst d_RD_append_125 ?_
          refine ab_goto (tgt := 130) d_RD_append_126 (by decide) ?_
          refine ab_istore d_RD_append_130 (Nat.le_of_ble_eq_true rfl) (Nat.le_of_ble_eq_true rfl) rfl ?_
          change ab_W _ _ _ G315 132 [some (vR d_), some (vR p), some (vz pl), some (vz 0), some (vz 1), some (vz 1)] [] _
          refine ab_aload_n d_RD_append_132 rfl ?_
          refine ab_getf (fs := [vR x, vR g1, vz dp, vz flg, vz grp, vR na, vR nl, vz l212, vz m213, vz bh214]) f_RD_12 d_RD_append_133 hd_.2.2 rfl ?_
          refine ab_dup d_RD_append_136 rfl ?_
          refine ab_getf (fs := [vR se, vR by_, vz n, vz bh214, vz fa, vz fp, vR kd, vz kn]) f_RD_55 d_RD_append_137 hx.2.2 rfl ?_
          refine ab_iload d_RD_append_140 rfl ?_
          refine zz_if_eq (tgt := 149) d_RD_append_142 (by decide) (by decide) (fun c360 => absurd c360 (by decide)) (fun c360 => ?_)
          refine zz_iconst d_RD_append_145 ?_
          refine ab_goto (tgt := 150) d_RD_append_146 (by decide) ?_
          refine zz_iadd d_RD_append_150 ?_
          refine ab_putf (fs := [vR se, vR by_, vz n, vz bh214, vz fa, vz fp, vR kd, vz kn]) f_RD_55 (Or.inl rfl) d_RD_append_151 hx.2.2 (Nat.le_of_ble_eq_true rfl) (fun _ => ⟨rfl, rfl⟩) (hx.2.1 (by decide)) ?_
          obtain ⟨G361, eG361⟩ : ∃ z : ab_G, z = List.set G315 x (ab_ob 10 [vR se, vR by_, vz n, vz (bh214 + 1), vz fa, vz fp, vR kd, vz kn]) := ⟨_, rfl⟩
          have hd_ := hd_.keep hx eG361 (by decide)
          have hby_ := hby_.keep hx eG361 (by decide)
          have hg1 := hg1.keep hx eG361 (by decide)
          have hr1 := hr1.keep hx eG361 (by decide)
          have hp := hp.keep hx eG361 (by decide)
          have hfz := hfz.wl ppaI_0 hx eG361 (by decide)
          have hst := (fx.rf (o := o) (S := [24]) (G := G315)).wr hx eG361 (List.mem_singleton.mpr rfl)
          have pszJ_0 := szJ.fr hst ppaI_0 pszJ_0 (by decide) (by decide)
          have pdnJ_0 := dnJ.fr hst ppaI_0 pdnJ_0 (by decide) (by decide)
          have popI_0 := opI.fr hst ppaI_0 popI_0 (by decide) (by decide)
          have ppaI_0 := paI.fr hst ppaI_0 (by decide) (by decide) (by decide) (by decide)
          have hlen := (z_len eG361).trans hlen
          have hsl := (z_sl hx eG361 rfl).trans hsl
          have hfr := hfr.wr hx eG361 (by decide)
          have hx := hx.kept eG361
          change ab_W _ _ _ (List.set G315 x (ab_ob 10 [vR se, vR by_, vz n, vz (bh214 + 1), vz fa, vz fp, vR kd, vz kn])) 154 [some (vR d_), some (vR p), some (vz pl), some (vz 0), some (vz 1), some (vz 1)] [] _
          rw [← eG361]
          refine ab_aload_n d_RD_append_154 rfl ?_
          refine ab_aload_n d_RD_append_155 rfl ?_
          refine ab_getf (fs := [vR x, vR g1, vz dp, vz flg, vz grp, vR na, vR nl, vz l212, vz m213, vz bh214]) f_RD_184 d_RD_append_156 hd_.2.2 rfl ?_
          refine ab_aload_n d_RD_append_159 rfl ?_
          refine ab_getf (fs := [vR x, vR g1, vz dp, vz flg, vz grp, vR na, vR nl, vz l212, vz m213, vz bh214]) f_RD_187 d_RD_append_160 hd_.2.2 rfl ?_
          refine ab_iload d_RD_append_163 rfl ?_
          refine ab_aload_n d_RD_append_165 rfl ?_
          refine zz_bipush d_RD_append_166 (by decide) ?_
          refine ab_callV (d' := d - 1) (as := [vz 8]) (st := [vz 1, vz m213, vz l212, vR p]) (r := _) (z8_RD_isOn (o := o) (d_ := d_) (inn := vR g1) (dp := dp) (flg := flg) (grp := grp) (na := na) (nl := nl) (lst := l212) (mst := m213) (bh := bh214) (x := x) hd_ (by omega)) (fun oc G2 h => by rcases h with ⟨_, h, _⟩ <;> exact ⟨_, h⟩) (by omega) m_RD_isOn ml_RD_94 im_RD_isOn se_RD_isOn c_RD hd_.2.2 (Nat.le_of_ble_eq_true rfl) d_RD_append_168 rfl ?_
          intro v G362 hq
          rcases hq with ⟨v363, hv, hGe, hq364, hq365⟩
          cases hv
          rw [hGe]
          change ab_W _ _ _ G361 171 [some (vR d_), some (vR p), some (vz pl), some (vz 0), some (vz 1), some (vz 1)] [vz v363, vz 1, vz m213, vz l212, vR p] _
          refine zz_icmp_eq (tgt := 178) d_RD_append_171 (by decide) (by decide) (by omega) (fun c366 => ?_) (fun c366 => ?_)
          · refine zz_iconst d_RD_append_178 ?_
            refine ab_callV (d' := d - 1) (as := [vz l212, vz m213, vz 0]) (st := []) (r := _) (z_PA_repeat (o := o) (k := k_4) (v := v_4) (rg := rg_4) (pl := pl_4) (fl := fl_4) (ou := ou_4) (ls := ls_4) (bf := bf_4) (sz := sz_4) (mb := mb_4) (oe := oe_4) (le := le_4) (mo := mo_4) (la := la_4) (rc := rc_4) (ps := ps) (wt := wt) (bs := bs) (gr := grp) (Pr := pr0) (ph := ph) (p := p) (l0 := l212) (m0 := m213) (z0 := 0) hp ppaI_0 (by omega) hpp hn4 (by omega) (ho4.up (by omega)) (hl4.up (by omega)) (hf4.up (by omega)) (by omega) (by omega)) (fun oc G2 h => by rcases h with ⟨_, _, _, h, _⟩ <;> exact ⟨_, h⟩) (by omega) m_PA_repeat ml_RD_193 im_PA_repeat se_PA_repeat c_PA hp.2.2 (Nat.le_of_ble_eq_true rfl) d_RD_append_179 rfl ?_
            intro v G367 hq
            rcases hq with ⟨sz2368, mb2369, oe2370, hv, hfk, hlk, hsk, hNp, pNpaI_0, hq371, hq372, hq373, hq374, hq375⟩
            cases hv
            have hd_ := hfk.get hd_ (by decide)
            have hx := hfk.get hx (by decide)
            have hby_ := hfk.get hby_ (by decide)
            have hKg1 := hq372.get hfk hg1 (Or.inl hpg1) (by simp only [List.mem_cons, List.not_mem_nil, or_false, not_or]; exact (show g1 ≠ p from hgp))
            have hr1 := hfk.get hr1 (by decide)
            have hg1 := hKg1
            have hfz := hfz.tr hq372 (by simp)
            have popI_0 := popI_0.fz (o2 := o) hq372 (by intro y hy; simp only [List.mem_cons, List.not_mem_nil, or_false] at hy; omega)
            have ppaI_0 := pNpaI_0
            have hfr := hfr.tr hfk (by decide)
            have hlen := hlk.trans hlen
            have hsl := hsk.trans hsl
            have hp := hNp
            change ab_W _ _ _ G367 182 [some (vR d_), some (vR p), some (vz pl), some (vz 0), some (vz 1), some (vz 1)] [] _
            refine ab_goto (tgt := 192) d_RD_append_182 (by decide) ?_
            refine ab_aload_n d_RD_append_192 rfl ?_
            refine ab_getf (fs := [vR x, vR g1, vz dp, vz flg, vz grp, vR na, vR nl, vz l212, vz m213, vz bh214]) f_RD_23 d_RD_append_193 hd_.2.2 rfl ?_
            refine ab_aload_n d_RD_append_196 rfl ?_
            refine ab_callV (d' := d - 1) (as := [vR p]) (st := []) (r := _) (z_PA_pushInLastRow (o := o) (k := k_4) (v := v_4) (rg := rg_4) (pl := pl_4) (fl := fl_4) (ou := ou_4) (ls := ls_4) (bf := bf_4) (sz := sz2368) (mb := mb2369) (oe := oe2370) (le := l212) (mo := m213) (la := 0) (rc := rc_4) (lr := ls3) (br := bf3) (sr := sz3) (mr := mb3) (ps := ps) (wt := wt) (bs := bs) (gr := grp) (Pr := pr0) (ph := ph) (r := r1) (p := p) (kg := k_2) (vg := v_2) (rgg := rg_2) (plg := pl_2) (flg := fl_2) (oug := ou_2) (bfg := bf_2) (szg := sz_2) (mbg := mb_2) (oeg := oe_2) (leg := le_2) (mog := mo_2) (lag := la_2) (rcg := rc_2) (q := g1) hg1 hp hr1 ppaI_0 (by omega) hgp hpg1 hpp hpr1 hn4 (by omega) (by omega) (ho4.up (by omega)) (hl4.up (by omega)) (hf4.up (by omega)) (hlv1.up (by omega)) (hf3.up (by omega)) (hlv1.up (by omega)) (by omega) (by omega)) (fun oc G2 h => by rcases h with ⟨_, _, h, _⟩ <;> exact ⟨_, h⟩) (by omega) m_PA_pushInLastRow ml_RD_197 im_PA_pushInLastRow se_PA_pushInLastRow c_PA hg1.2.2 (Nat.le_of_ble_eq_true rfl) d_RD_append_197 rfl ?_
            intro v G376 hq
            rcases hq with ⟨sr2377, mr2378, hv, hfk, hlk, hsk, hNg1, hNp, hNr1, pNpaI_0, hq379, hq380, hq381, hq382⟩
            cases hv
            have hd_ := hfk.get hd_ (by decide)
            have hx := hfk.get hx (by decide)
            have hby_ := hfk.get hby_ (by decide)
            have hfz := hfz.tr hq380 (by simp)
            have popI_0 := popI_0.fz (o2 := o) hq380 (by intro y hy; simp only [List.mem_cons, List.not_mem_nil, or_false] at hy; omega)
            have ppaI_0 := pNpaI_0
            have hfr := hfr.tr hfk (by decide)
            have hlen := hlk.trans hlen
            have hsl := hsk.trans hsl
            have hg1 := hNg1
            have hp := hNp
            have hr1 := hNr1
            change ab_W _ _ _ G376 200 [some (vR d_), some (vR p), some (vz pl), some (vz 0), some (vz 1), some (vz 1)] [] _
            have pszJ_0 : szJ o G376 0 ps ((a1_, b1_, c1_, d1_, (e1_ + (tms l212 m213 * psz + mre l212 m213))) :: t_) G376.length (vR g1) wh 0 0 := (szJ.appC hsz9 hpa9 hfz hg9 hp9 hr9 hp hr1 hpr1 (by omega) (by omega) (by omega) (by omega) (by omega) hq373 hq381).up (by omega)
            have hdn8 := (dnJ.appC (o2 := o) hdn9 hsz9 hpa9 hfz hg9 hp9 hr9 hp hr1 hpr1 (by omega) (by omega) (by omega) (by omega) (by omega) hq373 hq381 (by omega) (by omega) (by omega) (by omega)).up (hi2 := G376.length) (by omega)
            rw [show 0 = lzR f n bh214 flg from (by unfold lzR; split <;> omega)] at hdn8
            have pdnJ_0 : dnJ o G376 0 ps wt ((ao_, (mnC ro_ (mnR l212 m213 (lzR f n bh214 flg) ov))) :: ts_) G376.length (vR g1) 0 mnI := hdn8
            have popI_0 : opI o G376 0 ps (j1 + 1) G376.length (vR g1) := ⟨g1, r1, ou_2, (vR p), rfl, ⟨hpg1, hpr1⟩, ⟨by omega, by omega⟩, by unfold pf; rw [hg1.2.2]; rfl, by unfold pf; rw [hg1.2.2]; rfl, by unfold pf; rw [hr1.2.2]; rfl, (Or.inr ⟨_, rfl, hpp, by have hlt := hp.lt; omega⟩), popI_0⟩
            rw [← hj1] at popI_0
            refine ab_vret rfl d_RD_append_200 ?_
            rw [hQ]; exact (Or.inr (Or.inl ⟨_, _, _, _, _, _, _, _, _, _, _, _, _, 0, _, _, rfl, hfr, hlen, hsl, hd_, hx, ppaI_0, popI_0, pszJ_0, pdnJ_0, (by exact hft_), (by exact hfs_), (by exact hq17), (by exact fun z => absurd z.1 (by decide)), (by unfold askR; first | (left; omega) | (right; omega)), (by first | omega | (have t_ := tpk_w (f := f) (n := n) (i := bh214) (by omega); omega)), (by omega)⟩))
          · refine zz_iconst d_RD_append_174 ?_
            refine ab_goto (tgt := 179) d_RD_append_175 (by decide) ?_
            refine ab_callV (d' := d - 1) (as := [vz l212, vz m213, vz 1]) (st := []) (r := _) (z_PA_repeat (o := o) (k := k_4) (v := v_4) (rg := rg_4) (pl := pl_4) (fl := fl_4) (ou := ou_4) (ls := ls_4) (bf := bf_4) (sz := sz_4) (mb := mb_4) (oe := oe_4) (le := le_4) (mo := mo_4) (la := la_4) (rc := rc_4) (ps := ps) (wt := wt) (bs := bs) (gr := grp) (Pr := pr0) (ph := ph) (p := p) (l0 := l212) (m0 := m213) (z0 := 1) hp ppaI_0 (by omega) hpp hn4 (by omega) (ho4.up (by omega)) (hl4.up (by omega)) (hf4.up (by omega)) (by omega) (by omega)) (fun oc G2 h => by rcases h with ⟨_, _, _, h, _⟩ <;> exact ⟨_, h⟩) (by omega) m_PA_repeat ml_RD_193 im_PA_repeat se_PA_repeat c_PA hp.2.2 (Nat.le_of_ble_eq_true rfl) d_RD_append_179 rfl ?_
            intro v G383 hq
            rcases hq with ⟨sz2384, mb2385, oe2386, hv, hfk, hlk, hsk, hNp, pNpaI_0, hq387, hq388, hq389, hq390, hq391⟩
            cases hv
            have hd_ := hfk.get hd_ (by decide)
            have hx := hfk.get hx (by decide)
            have hby_ := hfk.get hby_ (by decide)
            have hKg1 := hq388.get hfk hg1 (Or.inl hpg1) (by simp only [List.mem_cons, List.not_mem_nil, or_false, not_or]; exact (show g1 ≠ p from hgp))
            have hr1 := hfk.get hr1 (by decide)
            have hg1 := hKg1
            have hfz := hfz.tr hq388 (by simp)
            have popI_0 := popI_0.fz (o2 := o) hq388 (by intro y hy; simp only [List.mem_cons, List.not_mem_nil, or_false] at hy; omega)
            have ppaI_0 := pNpaI_0
            have hfr := hfr.tr hfk (by decide)
            have hlen := hlk.trans hlen
            have hsl := hsk.trans hsl
            have hp := hNp
            change ab_W _ _ _ G383 182 [some (vR d_), some (vR p), some (vz pl), some (vz 0), some (vz 1), some (vz 1)] [] _
            refine ab_goto (tgt := 192) d_RD_append_182 (by decide) ?_
            refine ab_aload_n d_RD_append_192 rfl ?_
            refine ab_getf (fs := [vR x, vR g1, vz dp, vz flg, vz grp, vR na, vR nl, vz l212, vz m213, vz bh214]) f_RD_23 d_RD_append_193 hd_.2.2 rfl ?_
            refine ab_aload_n d_RD_append_196 rfl ?_
            refine ab_callV (d' := d - 1) (as := [vR p]) (st := []) (r := _) (z_PA_pushInLastRow (o := o) (k := k_4) (v := v_4) (rg := rg_4) (pl := pl_4) (fl := fl_4) (ou := ou_4) (ls := ls_4) (bf := bf_4) (sz := sz2384) (mb := mb2385) (oe := oe2386) (le := l212) (mo := m213) (la := 1) (rc := rc_4) (lr := ls3) (br := bf3) (sr := sz3) (mr := mb3) (ps := ps) (wt := wt) (bs := bs) (gr := grp) (Pr := pr0) (ph := ph) (r := r1) (p := p) (kg := k_2) (vg := v_2) (rgg := rg_2) (plg := pl_2) (flg := fl_2) (oug := ou_2) (bfg := bf_2) (szg := sz_2) (mbg := mb_2) (oeg := oe_2) (leg := le_2) (mog := mo_2) (lag := la_2) (rcg := rc_2) (q := g1) hg1 hp hr1 ppaI_0 (by omega) hgp hpg1 hpp hpr1 hn4 (by omega) (by omega) (ho4.up (by omega)) (hl4.up (by omega)) (hf4.up (by omega)) (hlv1.up (by omega)) (hf3.up (by omega)) (hlv1.up (by omega)) (by omega) (by omega)) (fun oc G2 h => by rcases h with ⟨_, _, h, _⟩ <;> exact ⟨_, h⟩) (by omega) m_PA_pushInLastRow ml_RD_197 im_PA_pushInLastRow se_PA_pushInLastRow c_PA hg1.2.2 (Nat.le_of_ble_eq_true rfl) d_RD_append_197 rfl ?_
            intro v G392 hq
            rcases hq with ⟨sr2393, mr2394, hv, hfk, hlk, hsk, hNg1, hNp, hNr1, pNpaI_0, hq395, hq396, hq397, hq398⟩
            cases hv
            have hd_ := hfk.get hd_ (by decide)
            have hx := hfk.get hx (by decide)
            have hby_ := hfk.get hby_ (by decide)
            have hfz := hfz.tr hq396 (by simp)
            have popI_0 := popI_0.fz (o2 := o) hq396 (by intro y hy; simp only [List.mem_cons, List.not_mem_nil, or_false] at hy; omega)
            have ppaI_0 := pNpaI_0
            have hfr := hfr.tr hfk (by decide)
            have hlen := hlk.trans hlen
            have hsl := hsk.trans hsl
            have hg1 := hNg1
            have hp := hNp
            have hr1 := hNr1
            change ab_W _ _ _ G392 200 [some (vR d_), some (vR p), some (vz pl), some (vz 0), some (vz 1), some (vz 1)] [] _
            have pszJ_0 : szJ o G392 0 ps ((a1_, b1_, c1_, d1_, (e1_ + (tms l212 m213 * psz + mre l212 m213))) :: t_) G392.length (vR g1) wh 0 0 := (szJ.appC hsz9 hpa9 hfz hg9 hp9 hr9 hp hr1 hpr1 (by omega) (by omega) (by omega) (by omega) (by omega) hq389 hq397).up (by omega)
            have hdn8 := (dnJ.appC (o2 := o) hdn9 hsz9 hpa9 hfz hg9 hp9 hr9 hp hr1 hpr1 (by omega) (by omega) (by omega) (by omega) (by omega) hq389 hq397 (by omega) (by omega) (by omega) (by omega)).up (hi2 := G392.length) (by omega)
            rw [show 1 = lzR f n bh214 flg from (by unfold lzR; split <;> omega)] at hdn8
            have pdnJ_0 : dnJ o G392 0 ps wt ((ao_, (mnC ro_ (mnR l212 m213 (lzR f n bh214 flg) ov))) :: ts_) G392.length (vR g1) 0 mnI := hdn8
            have popI_0 : opI o G392 0 ps (j1 + 1) G392.length (vR g1) := ⟨g1, r1, ou_2, (vR p), rfl, ⟨hpg1, hpr1⟩, ⟨by omega, by omega⟩, by unfold pf; rw [hg1.2.2]; rfl, by unfold pf; rw [hg1.2.2]; rfl, by unfold pf; rw [hr1.2.2]; rfl, (Or.inr ⟨_, rfl, hpp, by have hlt := hp.lt; omega⟩), popI_0⟩
            rw [← hj1] at popI_0
            refine ab_vret rfl d_RD_append_200 ?_
            rw [hQ]; exact (Or.inr (Or.inl ⟨_, _, _, _, _, _, _, _, _, _, _, _, _, 0, _, _, rfl, hfr, hlen, hsl, hd_, hx, ppaI_0, popI_0, pszJ_0, pdnJ_0, (by exact hft_), (by exact hfs_), (by exact hq17), (by exact fun z => absurd z.1 (by decide)), (by unfold askR; first | (left; omega) | (right; omega)), (by first | omega | (have t_ := tpk_w (f := f) (n := n) (i := bh214) (by omega); omega)), (by omega)⟩))
      · refine ab_aload_n d_RD_append_62 rfl ?_
        refine ab_getf (fs := [vR x, vR g1, vz dp, vz flg, vz grp, vR na, vR nl, vz l212, vz m213, vz bh214]) f_RD_184 d_RD_append_63 hd_.2.2 rfl ?_
        refine ab_aload_n d_RD_append_66 rfl ?_
        refine ab_getf (fs := [vR x, vR g1, vz dp, vz flg, vz grp, vR na, vR nl, vz l212, vz m213, vz bh214]) f_RD_187 d_RD_append_67 hd_.2.2 rfl ?_
        refine zz_icmp_le (tgt := 77) d_RD_append_70 (by decide) (by omega) (by omega) (fun c399 => ?_) (fun c399 => absurd c399 (by omega))
        refine zz_iconst d_RD_append_77 ?_
        refine ab_istore d_RD_append_78 (Nat.le_of_ble_eq_true rfl) (Nat.le_of_ble_eq_true rfl) rfl ?_
        change ab_W _ _ _ G5 80 [some (vR d_), some (vR p), some (vz pl), some (vz 0), some (vz 0), none] [] _
        refine ab_iload_n d_RD_append_80 rfl ?_
        refine zz_if_eq (tgt := 101) d_RD_append_81 (by decide) (by decide) (fun c400 => ?_) (fun c400 => absurd c400 (by decide))
        refine ab_aload_n d_RD_append_101 rfl ?_
        refine ab_getf (fs := [vR x, vR g1, vz dp, vz flg, vz grp, vR na, vR nl, vz l212, vz m213, vz bh214]) f_RD_12 d_RD_append_102 hd_.2.2 rfl ?_
        refine ab_aload_n d_RD_append_105 rfl ?_
        refine ab_getf (fs := [vR x, vR g1, vz dp, vz flg, vz grp, vR na, vR nl, vz l212, vz m213, vz bh214]) f_RD_190 d_RD_append_106 hd_.2.2 rfl ?_
        refine ab_putf (fs := [vR se, vR by_, vz n, vz pl, vz fa, vz fp, vR kd, vz kn]) f_RD_55 (Or.inl rfl) d_RD_append_109 hx.2.2 (Nat.le_of_ble_eq_true rfl) (fun _ => ⟨rfl, rfl⟩) (hx.2.1 (by decide)) ?_
        obtain ⟨G401, eG401⟩ : ∃ z : ab_G, z = List.set G5 x (ab_ob 10 [vR se, vR by_, vz n, vz bh214, vz fa, vz fp, vR kd, vz kn]) := ⟨_, rfl⟩
        have hd_ := hd_.keep hx eG401 (by decide)
        have hby_ := hby_.keep hx eG401 (by decide)
        have hg1 := hg1.keep hx eG401 (by decide)
        have hr1 := hr1.keep hx eG401 (by decide)
        have hp := hp.keep hx eG401 (by decide)
        have hfz := hfz.wl ppaI_0 hx eG401 (by decide)
        have hst := (fx.rf (o := o) (S := [24]) (G := G5)).wr hx eG401 (List.mem_singleton.mpr rfl)
        have pszJ_0 := szJ.fr hst ppaI_0 pszJ_0 (by decide) (by decide)
        have pdnJ_0 := dnJ.fr hst ppaI_0 pdnJ_0 (by decide) (by decide)
        have popI_0 := opI.fr hst ppaI_0 popI_0 (by decide) (by decide)
        have ppaI_0 := paI.fr hst ppaI_0 (by decide) (by decide) (by decide) (by decide)
        have hlen := (z_len eG401).trans hlen
        have hsl := (z_sl hx eG401 rfl).trans hsl
        have hfr := hfr.wr hx eG401 (by decide)
        have hx := hx.kept eG401
        change ab_W _ _ _ (List.set G5 x (ab_ob 10 [vR se, vR by_, vz n, vz bh214, vz fa, vz fp, vR kd, vz kn])) 112 [some (vR d_), some (vR p), some (vz pl), some (vz 0), some (vz 0), none] [] _
        rw [← eG401]
        refine ab_aload_n d_RD_append_112 rfl ?_
        refine ab_getf (fs := [vR x, vR g1, vz dp, vz flg, vz grp, vR na, vR nl, vz l212, vz m213, vz bh214]) f_RD_12 d_RD_append_113 hd_.2.2 rfl ?_
        refine zz_iconst d_RD_append_116 ?_
        refine ab_callV (d' := d - 1) (as := [vz 0]) (st := []) (r := _) (z_TX_peek0 (o := o) (x := x) (lx := 24) (se := se) (by_ := by_) (lby := 23) (m := m) (f := f) (n := n) (pl := bh214) (fa := fa) (fp := fp) (kd := kd) (kn := kn) hx hby_ (by omega) hb) (fun oc G2 h => by rcases h with ⟨_, h, _⟩ <;> exact ⟨_, h⟩) (by omega) m_TX_peek ml_RD_79 im_TX_peek se_TX_peek c_TX hx.2.2 (Nat.le_of_ble_eq_true rfl) d_RD_append_117 rfl ?_
        intro v G402 hq
        rcases hq with ⟨v403, hv, hGe, hq404, hq405⟩
        cases hv
        rw [hGe]
        change ab_W _ _ _ G401 120 [some (vR d_), some (vR p), some (vz pl), some (vz 0), some (vz 0), none] [vz v403] _
        refine zz_bipush d_RD_append_120 (by decide) ?_
        refine zz_icmp_ne (tgt := 129) d_RD_append_122 (by decide) (by omega) (by decide) (fun c406 => ?_) (fun c406 => ?_)
        · refine zz_iconst d_RD_append_129 ?_
          refine ab_istore d_RD_append_130 (Nat.le_of_ble_eq_true rfl) (Nat.le_of_ble_eq_true rfl) rfl ?_
          change ab_W _ _ _ G401 132 [some (vR d_), some (vR p), some (vz pl), some (vz 0), some (vz 0), some (vz 0)] [] _
          refine ab_aload_n d_RD_append_132 rfl ?_
          refine ab_getf (fs := [vR x, vR g1, vz dp, vz flg, vz grp, vR na, vR nl, vz l212, vz m213, vz bh214]) f_RD_12 d_RD_append_133 hd_.2.2 rfl ?_
          refine ab_dup d_RD_append_136 rfl ?_
          refine ab_getf (fs := [vR se, vR by_, vz n, vz bh214, vz fa, vz fp, vR kd, vz kn]) f_RD_55 d_RD_append_137 hx.2.2 rfl ?_
          refine ab_iload d_RD_append_140 rfl ?_
          refine zz_if_eq (tgt := 149) d_RD_append_142 (by decide) (by decide) (fun c407 => ?_) (fun c407 => absurd c407 (by decide))
          refine zz_iconst d_RD_append_149 ?_
          refine zz_iadd d_RD_append_150 ?_
          refine ab_putf (fs := [vR se, vR by_, vz n, vz bh214, vz fa, vz fp, vR kd, vz kn]) f_RD_55 (Or.inl rfl) d_RD_append_151 hx.2.2 (Nat.le_of_ble_eq_true rfl) (fun _ => ⟨rfl, rfl⟩) (hx.2.1 (by decide)) ?_
          obtain ⟨G408, eG408⟩ : ∃ z : ab_G, z = List.set G401 x (ab_ob 10 [vR se, vR by_, vz n, vz (bh214 + 0), vz fa, vz fp, vR kd, vz kn]) := ⟨_, rfl⟩
          have hd_ := hd_.keep hx eG408 (by decide)
          have hby_ := hby_.keep hx eG408 (by decide)
          have hg1 := hg1.keep hx eG408 (by decide)
          have hr1 := hr1.keep hx eG408 (by decide)
          have hp := hp.keep hx eG408 (by decide)
          have hfz := hfz.wl ppaI_0 hx eG408 (by decide)
          have hst := (fx.rf (o := o) (S := [24]) (G := G401)).wr hx eG408 (List.mem_singleton.mpr rfl)
          have pszJ_0 := szJ.fr hst ppaI_0 pszJ_0 (by decide) (by decide)
          have pdnJ_0 := dnJ.fr hst ppaI_0 pdnJ_0 (by decide) (by decide)
          have popI_0 := opI.fr hst ppaI_0 popI_0 (by decide) (by decide)
          have ppaI_0 := paI.fr hst ppaI_0 (by decide) (by decide) (by decide) (by decide)
          have hlen := (z_len eG408).trans hlen
          have hsl := (z_sl hx eG408 rfl).trans hsl
          have hfr := hfr.wr hx eG408 (by decide)
          have hx := hx.kept eG408
          change ab_W _ _ _ (List.set G401 x (ab_ob 10 [vR se, vR by_, vz n, vz (bh214 + 0), vz fa, vz fp, vR kd, vz kn])) 154 [some (vR d_), some (vR p), some (vz pl), some (vz 0), some (vz 0), some (vz 0)] [] _
          rw [← eG408]
          refine ab_aload_n d_RD_append_154 rfl ?_
          refine ab_aload_n d_RD_append_155 rfl ?_
          refine ab_getf (fs := [vR x, vR g1, vz dp, vz flg, vz grp, vR na, vR nl, vz l212, vz m213, vz bh214]) f_RD_184 d_RD_append_156 hd_.2.2 rfl ?_
          refine ab_aload_n d_RD_append_159 rfl ?_
          refine ab_getf (fs := [vR x, vR g1, vz dp, vz flg, vz grp, vR na, vR nl, vz l212, vz m213, vz bh214]) f_RD_187 d_RD_append_160 hd_.2.2 rfl ?_
          refine ab_iload d_RD_append_163 rfl ?_
          refine ab_aload_n d_RD_append_165 rfl ?_
          refine zz_bipush d_RD_append_166 (by decide) ?_
          refine ab_callV (d' := d - 1) (as := [vz 8]) (st := [vz 0, vz m213, vz l212, vR p]) (r := _) (z8_RD_isOn (o := o) (d_ := d_) (inn := vR g1) (dp := dp) (flg := flg) (grp := grp) (na := na) (nl := nl) (lst := l212) (mst := m213) (bh := bh214) (x := x) hd_ (by omega)) (fun oc G2 h => by rcases h with ⟨_, h, _⟩ <;> exact ⟨_, h⟩) (by omega) m_RD_isOn ml_RD_94 im_RD_isOn se_RD_isOn c_RD hd_.2.2 (Nat.le_of_ble_eq_true rfl) d_RD_append_168 rfl ?_
          intro v G409 hq
          rcases hq with ⟨v410, hv, hGe, hq411, hq412⟩
          cases hv
          rw [hGe]
          change ab_W _ _ _ G408 171 [some (vR d_), some (vR p), some (vz pl), some (vz 0), some (vz 0), some (vz 0)] [vz v410, vz 0, vz m213, vz l212, vR p] _
          refine zz_icmp_eq (tgt := 178) d_RD_append_171 (by decide) (by decide) (by omega) (fun c413 => ?_) (fun c413 => ?_)
          · refine zz_iconst d_RD_append_178 ?_
            refine ab_callV (d' := d - 1) (as := [vz l212, vz m213, vz 0]) (st := []) (r := _) (z_PA_repeat (o := o) (k := k_4) (v := v_4) (rg := rg_4) (pl := pl_4) (fl := fl_4) (ou := ou_4) (ls := ls_4) (bf := bf_4) (sz := sz_4) (mb := mb_4) (oe := oe_4) (le := le_4) (mo := mo_4) (la := la_4) (rc := rc_4) (ps := ps) (wt := wt) (bs := bs) (gr := grp) (Pr := pr0) (ph := ph) (p := p) (l0 := l212) (m0 := m213) (z0 := 0) hp ppaI_0 (by omega) hpp hn4 (by omega) (ho4.up (by omega)) (hl4.up (by omega)) (hf4.up (by omega)) (by omega) (by omega)) (fun oc G2 h => by rcases h with ⟨_, _, _, h, _⟩ <;> exact ⟨_, h⟩) (by omega) m_PA_repeat ml_RD_193 im_PA_repeat se_PA_repeat c_PA hp.2.2 (Nat.le_of_ble_eq_true rfl) d_RD_append_179 rfl ?_
            intro v G414 hq
            rcases hq with ⟨sz2415, mb2416, oe2417, hv, hfk, hlk, hsk, hNp, pNpaI_0, hq418, hq419, hq420, hq421, hq422⟩
            cases hv
            have hd_ := hfk.get hd_ (by decide)
            have hx := hfk.get hx (by decide)
            have hby_ := hfk.get hby_ (by decide)
            have hKg1 := hq419.get hfk hg1 (Or.inl hpg1) (by simp only [List.mem_cons, List.not_mem_nil, or_false, not_or]; exact (show g1 ≠ p from hgp))
            have hr1 := hfk.get hr1 (by decide)
            have hg1 := hKg1
            have hfz := hfz.tr hq419 (by simp)
            have popI_0 := popI_0.fz (o2 := o) hq419 (by intro y hy; simp only [List.mem_cons, List.not_mem_nil, or_false] at hy; omega)
            have ppaI_0 := pNpaI_0
            have hfr := hfr.tr hfk (by decide)
            have hlen := hlk.trans hlen
            have hsl := hsk.trans hsl
            have hp := hNp
            change ab_W _ _ _ G414 182 [some (vR d_), some (vR p), some (vz pl), some (vz 0), some (vz 0), some (vz 0)] [] _
            refine ab_goto (tgt := 192) d_RD_append_182 (by decide) ?_
            refine ab_aload_n d_RD_append_192 rfl ?_
            refine ab_getf (fs := [vR x, vR g1, vz dp, vz flg, vz grp, vR na, vR nl, vz l212, vz m213, vz bh214]) f_RD_23 d_RD_append_193 hd_.2.2 rfl ?_
            refine ab_aload_n d_RD_append_196 rfl ?_
            refine ab_callV (d' := d - 1) (as := [vR p]) (st := []) (r := _) (z_PA_pushInLastRow (o := o) (k := k_4) (v := v_4) (rg := rg_4) (pl := pl_4) (fl := fl_4) (ou := ou_4) (ls := ls_4) (bf := bf_4) (sz := sz2415) (mb := mb2416) (oe := oe2417) (le := l212) (mo := m213) (la := 0) (rc := rc_4) (lr := ls3) (br := bf3) (sr := sz3) (mr := mb3) (ps := ps) (wt := wt) (bs := bs) (gr := grp) (Pr := pr0) (ph := ph) (r := r1) (p := p) (kg := k_2) (vg := v_2) (rgg := rg_2) (plg := pl_2) (flg := fl_2) (oug := ou_2) (bfg := bf_2) (szg := sz_2) (mbg := mb_2) (oeg := oe_2) (leg := le_2) (mog := mo_2) (lag := la_2) (rcg := rc_2) (q := g1) hg1 hp hr1 ppaI_0 (by omega) hgp hpg1 hpp hpr1 hn4 (by omega) (by omega) (ho4.up (by omega)) (hl4.up (by omega)) (hf4.up (by omega)) (hlv1.up (by omega)) (hf3.up (by omega)) (hlv1.up (by omega)) (by omega) (by omega)) (fun oc G2 h => by rcases h with ⟨_, _, h, _⟩ <;> exact ⟨_, h⟩) (by omega) m_PA_pushInLastRow ml_RD_197 im_PA_pushInLastRow se_PA_pushInLastRow c_PA hg1.2.2 (Nat.le_of_ble_eq_true rfl) d_RD_append_197 rfl ?_
            intro v G423 hq
            rcases hq with ⟨sr2424, mr2425, hv, hfk, hlk, hsk, hNg1, hNp, hNr1, pNpaI_0, hq426, hq427, hq428, hq429⟩
            cases hv
            have hd_ := hfk.get hd_ (by decide)
            have hx := hfk.get hx (by decide)
            have hby_ := hfk.get hby_ (by decide)
            have hfz := hfz.tr hq427 (by simp)
            have popI_0 := popI_0.fz (o2 := o) hq427 (by intro y hy; simp only [List.mem_cons, List.not_mem_nil, or_false] at hy; omega)
            have ppaI_0 := pNpaI_0
            have hfr := hfr.tr hfk (by decide)
            have hlen := hlk.trans hlen
            have hsl := hsk.trans hsl
            have hg1 := hNg1
            have hp := hNp
            have hr1 := hNr1
            change ab_W _ _ _ G423 200 [some (vR d_), some (vR p), some (vz pl), some (vz 0), some (vz 0), some (vz 0)] [] _
            have pszJ_0 : szJ o G423 0 ps ((a1_, b1_, c1_, d1_, (e1_ + (tms l212 m213 * psz + mre l212 m213))) :: t_) G423.length (vR g1) wh 0 0 := (szJ.appC hsz9 hpa9 hfz hg9 hp9 hr9 hp hr1 hpr1 (by omega) (by omega) (by omega) (by omega) (by omega) hq420 hq428).up (by omega)
            have hdn8 := (dnJ.appC (o2 := o) hdn9 hsz9 hpa9 hfz hg9 hp9 hr9 hp hr1 hpr1 (by omega) (by omega) (by omega) (by omega) (by omega) hq420 hq428 (by omega) (by omega) (by omega) (by omega)).up (hi2 := G423.length) (by omega)
            rw [show 0 = lzR f n bh214 flg from (by unfold lzR; split <;> omega)] at hdn8
            have pdnJ_0 : dnJ o G423 0 ps wt ((ao_, (mnC ro_ (mnR l212 m213 (lzR f n bh214 flg) ov))) :: ts_) G423.length (vR g1) 0 mnI := hdn8
            have popI_0 : opI o G423 0 ps (j1 + 1) G423.length (vR g1) := ⟨g1, r1, ou_2, (vR p), rfl, ⟨hpg1, hpr1⟩, ⟨by omega, by omega⟩, by unfold pf; rw [hg1.2.2]; rfl, by unfold pf; rw [hg1.2.2]; rfl, by unfold pf; rw [hr1.2.2]; rfl, (Or.inr ⟨_, rfl, hpp, by have hlt := hp.lt; omega⟩), popI_0⟩
            rw [← hj1] at popI_0
            refine ab_vret rfl d_RD_append_200 ?_
            rw [hQ]; exact (Or.inr (Or.inl ⟨_, _, _, _, _, _, _, _, _, _, _, _, _, 0, _, _, rfl, hfr, hlen, hsl, hd_, hx, ppaI_0, popI_0, pszJ_0, pdnJ_0, (by exact hft_), (by exact hfs_), (by exact hq17), (by exact fun z => absurd z.1 (by decide)), (by unfold askR; first | (left; omega) | (right; omega)), (by first | omega | (have t_ := tpk_w (f := f) (n := n) (i := bh214) (by omega); omega)), (by omega)⟩))
          · refine zz_iconst d_RD_append_174 ?_
            refine ab_goto (tgt := 179) d_RD_append_175 (by decide) ?_
            refine ab_callV (d' := d - 1) (as := [vz l212, vz m213, vz 1]) (st := []) (r := _) (z_PA_repeat (o := o) (k := k_4) (v := v_4) (rg := rg_4) (pl := pl_4) (fl := fl_4) (ou := ou_4) (ls := ls_4) (bf := bf_4) (sz := sz_4) (mb := mb_4) (oe := oe_4) (le := le_4) (mo := mo_4) (la := la_4) (rc := rc_4) (ps := ps) (wt := wt) (bs := bs) (gr := grp) (Pr := pr0) (ph := ph) (p := p) (l0 := l212) (m0 := m213) (z0 := 1) hp ppaI_0 (by omega) hpp hn4 (by omega) (ho4.up (by omega)) (hl4.up (by omega)) (hf4.up (by omega)) (by omega) (by omega)) (fun oc G2 h => by rcases h with ⟨_, _, _, h, _⟩ <;> exact ⟨_, h⟩) (by omega) m_PA_repeat ml_RD_193 im_PA_repeat se_PA_repeat c_PA hp.2.2 (Nat.le_of_ble_eq_true rfl) d_RD_append_179 rfl ?_
            intro v G430 hq
            rcases hq with ⟨sz2431, mb2432, oe2433, hv, hfk, hlk, hsk, hNp, pNpaI_0, hq434, hq435, hq436, hq437, hq438⟩
            cases hv
            have hd_ := hfk.get hd_ (by decide)
            have hx := hfk.get hx (by decide)
            have hby_ := hfk.get hby_ (by decide)
            have hKg1 := hq435.get hfk hg1 (Or.inl hpg1) (by simp only [List.mem_cons, List.not_mem_nil, or_false, not_or]; exact (show g1 ≠ p from hgp))
            have hr1 := hfk.get hr1 (by decide)
            have hg1 := hKg1
            have hfz := hfz.tr hq435 (by simp)
            have popI_0 := popI_0.fz (o2 := o) hq435 (by intro y hy; simp only [List.mem_cons, List.not_mem_nil, or_false] at hy; omega)
            have ppaI_0 := pNpaI_0
            have hfr := hfr.tr hfk (by decide)
            have hlen := hlk.trans hlen
            have hsl := hsk.trans hsl
            have hp := hNp
            change ab_W _ _ _ G430 182 [some (vR d_), some (vR p), some (vz pl), some (vz 0), some (vz 0), some (vz 0)] [] _
            refine ab_goto (tgt := 192) d_RD_append_182 (by decide) ?_
            refine ab_aload_n d_RD_append_192 rfl ?_
            refine ab_getf (fs := [vR x, vR g1, vz dp, vz flg, vz grp, vR na, vR nl, vz l212, vz m213, vz bh214]) f_RD_23 d_RD_append_193 hd_.2.2 rfl ?_
            refine ab_aload_n d_RD_append_196 rfl ?_
            refine ab_callV (d' := d - 1) (as := [vR p]) (st := []) (r := _) (z_PA_pushInLastRow (o := o) (k := k_4) (v := v_4) (rg := rg_4) (pl := pl_4) (fl := fl_4) (ou := ou_4) (ls := ls_4) (bf := bf_4) (sz := sz2431) (mb := mb2432) (oe := oe2433) (le := l212) (mo := m213) (la := 1) (rc := rc_4) (lr := ls3) (br := bf3) (sr := sz3) (mr := mb3) (ps := ps) (wt := wt) (bs := bs) (gr := grp) (Pr := pr0) (ph := ph) (r := r1) (p := p) (kg := k_2) (vg := v_2) (rgg := rg_2) (plg := pl_2) (flg := fl_2) (oug := ou_2) (bfg := bf_2) (szg := sz_2) (mbg := mb_2) (oeg := oe_2) (leg := le_2) (mog := mo_2) (lag := la_2) (rcg := rc_2) (q := g1) hg1 hp hr1 ppaI_0 (by omega) hgp hpg1 hpp hpr1 hn4 (by omega) (by omega) (ho4.up (by omega)) (hl4.up (by omega)) (hf4.up (by omega)) (hlv1.up (by omega)) (hf3.up (by omega)) (hlv1.up (by omega)) (by omega) (by omega)) (fun oc G2 h => by rcases h with ⟨_, _, h, _⟩ <;> exact ⟨_, h⟩) (by omega) m_PA_pushInLastRow ml_RD_197 im_PA_pushInLastRow se_PA_pushInLastRow c_PA hg1.2.2 (Nat.le_of_ble_eq_true rfl) d_RD_append_197 rfl ?_
            intro v G439 hq
            rcases hq with ⟨sr2440, mr2441, hv, hfk, hlk, hsk, hNg1, hNp, hNr1, pNpaI_0, hq442, hq443, hq444, hq445⟩
            cases hv
            have hd_ := hfk.get hd_ (by decide)
            have hx := hfk.get hx (by decide)
            have hby_ := hfk.get hby_ (by decide)
            have hfz := hfz.tr hq443 (by simp)
            have popI_0 := popI_0.fz (o2 := o) hq443 (by intro y hy; simp only [List.mem_cons, List.not_mem_nil, or_false] at hy; omega)
            have ppaI_0 := pNpaI_0
            have hfr := hfr.tr hfk (by decide)
            have hlen := hlk.trans hlen
            have hsl := hsk.trans hsl
            have hg1 := hNg1
            have hp := hNp
            have hr1 := hNr1
            change ab_W _ _ _ G439 200 [some (vR d_), some (vR p), some (vz pl), some (vz 0), some (vz 0), some (vz 0)] [] _
            have pszJ_0 : szJ o G439 0 ps ((a1_, b1_, c1_, d1_, (e1_ + (tms l212 m213 * psz + mre l212 m213))) :: t_) G439.length (vR g1) wh 0 0 := (szJ.appC hsz9 hpa9 hfz hg9 hp9 hr9 hp hr1 hpr1 (by omega) (by omega) (by omega) (by omega) (by omega) hq436 hq444).up (by omega)
            have hdn8 := (dnJ.appC (o2 := o) hdn9 hsz9 hpa9 hfz hg9 hp9 hr9 hp hr1 hpr1 (by omega) (by omega) (by omega) (by omega) (by omega) hq436 hq444 (by omega) (by omega) (by omega) (by omega)).up (hi2 := G439.length) (by omega)
            rw [show 1 = lzR f n bh214 flg from (by unfold lzR; split <;> omega)] at hdn8
            have pdnJ_0 : dnJ o G439 0 ps wt ((ao_, (mnC ro_ (mnR l212 m213 (lzR f n bh214 flg) ov))) :: ts_) G439.length (vR g1) 0 mnI := hdn8
            have popI_0 : opI o G439 0 ps (j1 + 1) G439.length (vR g1) := ⟨g1, r1, ou_2, (vR p), rfl, ⟨hpg1, hpr1⟩, ⟨by omega, by omega⟩, by unfold pf; rw [hg1.2.2]; rfl, by unfold pf; rw [hg1.2.2]; rfl, by unfold pf; rw [hr1.2.2]; rfl, (Or.inr ⟨_, rfl, hpp, by have hlt := hp.lt; omega⟩), popI_0⟩
            rw [← hj1] at popI_0
            refine ab_vret rfl d_RD_append_200 ?_
            rw [hQ]; exact (Or.inr (Or.inl ⟨_, _, _, _, _, _, _, _, _, _, _, _, _, 0, _, _, rfl, hfr, hlen, hsl, hd_, hx, ppaI_0, popI_0, pszJ_0, pdnJ_0, (by exact hft_), (by exact hfs_), (by exact hq17), (by exact fun z => absurd z.1 (by decide)), (by unfold askR; first | (left; omega) | (right; omega)), (by first | omega | (have t_ := tpk_w (f := f) (n := n) (i := bh214) (by omega); omega)), (by omega)⟩))
        · refine zz_iconst d_RD_append_125 ?_
          refine ab_goto (tgt := 130) d_RD_append_126 (by decide) ?_
          refine ab_istore d_RD_append_130 (Nat.le_of_ble_eq_true rfl) (Nat.le_of_ble_eq_true rfl) rfl ?_
          change ab_W _ _ _ G401 132 [some (vR d_), some (vR p), some (vz pl), some (vz 0), some (vz 0), some (vz 1)] [] _
          refine ab_aload_n d_RD_append_132 rfl ?_
          refine ab_getf (fs := [vR x, vR g1, vz dp, vz flg, vz grp, vR na, vR nl, vz l212, vz m213, vz bh214]) f_RD_12 d_RD_append_133 hd_.2.2 rfl ?_
          refine ab_dup d_RD_append_136 rfl ?_
          refine ab_getf (fs := [vR se, vR by_, vz n, vz bh214, vz fa, vz fp, vR kd, vz kn]) f_RD_55 d_RD_append_137 hx.2.2 rfl ?_
          refine ab_iload d_RD_append_140 rfl ?_
          refine zz_if_eq (tgt := 149) d_RD_append_142 (by decide) (by decide) (fun c446 => absurd c446 (by decide)) (fun c446 => ?_)
          refine zz_iconst d_RD_append_145 ?_
          refine ab_goto (tgt := 150) d_RD_append_146 (by decide) ?_
          refine zz_iadd d_RD_append_150 ?_
          refine ab_putf (fs := [vR se, vR by_, vz n, vz bh214, vz fa, vz fp, vR kd, vz kn]) f_RD_55 (Or.inl rfl) d_RD_append_151 hx.2.2 (Nat.le_of_ble_eq_true rfl) (fun _ => ⟨rfl, rfl⟩) (hx.2.1 (by decide)) ?_
          obtain ⟨G447, eG447⟩ : ∃ z : ab_G, z = List.set G401 x (ab_ob 10 [vR se, vR by_, vz n, vz (bh214 + 1), vz fa, vz fp, vR kd, vz kn]) := ⟨_, rfl⟩
          have hd_ := hd_.keep hx eG447 (by decide)
          have hby_ := hby_.keep hx eG447 (by decide)
          have hg1 := hg1.keep hx eG447 (by decide)
          have hr1 := hr1.keep hx eG447 (by decide)
          have hp := hp.keep hx eG447 (by decide)
          have hfz := hfz.wl ppaI_0 hx eG447 (by decide)
          have hst := (fx.rf (o := o) (S := [24]) (G := G401)).wr hx eG447 (List.mem_singleton.mpr rfl)
          have pszJ_0 := szJ.fr hst ppaI_0 pszJ_0 (by decide) (by decide)
          have pdnJ_0 := dnJ.fr hst ppaI_0 pdnJ_0 (by decide) (by decide)
          have popI_0 := opI.fr hst ppaI_0 popI_0 (by decide) (by decide)
          have ppaI_0 := paI.fr hst ppaI_0 (by decide) (by decide) (by decide) (by decide)
          have hlen := (z_len eG447).trans hlen
          have hsl := (z_sl hx eG447 rfl).trans hsl
          have hfr := hfr.wr hx eG447 (by decide)
          have hx := hx.kept eG447
          change ab_W _ _ _ (List.set G401 x (ab_ob 10 [vR se, vR by_, vz n, vz (bh214 + 1), vz fa, vz fp, vR kd, vz kn])) 154 [some (vR d_), some (vR p), some (vz pl), some (vz 0), some (vz 0), some (vz 1)] [] _
          rw [← eG447]
          refine ab_aload_n d_RD_append_154 rfl ?_
          refine ab_aload_n d_RD_append_155 rfl ?_
          refine ab_getf (fs := [vR x, vR g1, vz dp, vz flg, vz grp, vR na, vR nl, vz l212, vz m213, vz bh214]) f_RD_184 d_RD_append_156 hd_.2.2 rfl ?_
          refine ab_aload_n d_RD_append_159 rfl ?_
          refine ab_getf (fs := [vR x, vR g1, vz dp, vz flg, vz grp, vR na, vR nl, vz l212, vz m213, vz bh214]) f_RD_187 d_RD_append_160 hd_.2.2 rfl ?_
          refine ab_iload d_RD_append_163 rfl ?_
          refine ab_aload_n d_RD_append_165 rfl ?_
          refine zz_bipush d_RD_append_166 (by decide) ?_
          refine ab_callV (d' := d - 1) (as := [vz 8]) (st := [vz 1, vz m213, vz l212, vR p]) (r := _) (z8_RD_isOn (o := o) (d_ := d_) (inn := vR g1) (dp := dp) (flg := flg) (grp := grp) (na := na) (nl := nl) (lst := l212) (mst := m213) (bh := bh214) (x := x) hd_ (by omega)) (fun oc G2 h => by rcases h with ⟨_, h, _⟩ <;> exact ⟨_, h⟩) (by omega) m_RD_isOn ml_RD_94 im_RD_isOn se_RD_isOn c_RD hd_.2.2 (Nat.le_of_ble_eq_true rfl) d_RD_append_168 rfl ?_
          intro v G448 hq
          rcases hq with ⟨v449, hv, hGe, hq450, hq451⟩
          cases hv
          rw [hGe]
          change ab_W _ _ _ G447 171 [some (vR d_), some (vR p), some (vz pl), some (vz 0), some (vz 0), some (vz 1)] [vz v449, vz 1, vz m213, vz l212, vR p] _
          refine zz_icmp_eq (tgt := 178) d_RD_append_171 (by decide) (by decide) (by omega) (fun c452 => ?_) (fun c452 => ?_)
          · refine zz_iconst d_RD_append_178 ?_
            refine ab_callV (d' := d - 1) (as := [vz l212, vz m213, vz 0]) (st := []) (r := _) (z_PA_repeat (o := o) (k := k_4) (v := v_4) (rg := rg_4) (pl := pl_4) (fl := fl_4) (ou := ou_4) (ls := ls_4) (bf := bf_4) (sz := sz_4) (mb := mb_4) (oe := oe_4) (le := le_4) (mo := mo_4) (la := la_4) (rc := rc_4) (ps := ps) (wt := wt) (bs := bs) (gr := grp) (Pr := pr0) (ph := ph) (p := p) (l0 := l212) (m0 := m213) (z0 := 0) hp ppaI_0 (by omega) hpp hn4 (by omega) (ho4.up (by omega)) (hl4.up (by omega)) (hf4.up (by omega)) (by omega) (by omega)) (fun oc G2 h => by rcases h with ⟨_, _, _, h, _⟩ <;> exact ⟨_, h⟩) (by omega) m_PA_repeat ml_RD_193 im_PA_repeat se_PA_repeat c_PA hp.2.2 (Nat.le_of_ble_eq_true rfl) d_RD_append_179 rfl ?_
            intro v G453 hq
            rcases hq with ⟨sz2454, mb2455, oe2456, hv, hfk, hlk, hsk, hNp, pNpaI_0, hq457, hq458, hq459, hq460, hq461⟩
            cases hv
            have hd_ := hfk.get hd_ (by decide)
            have hx := hfk.get hx (by decide)
            have hby_ := hfk.get hby_ (by decide)
            have hKg1 := hq458.get hfk hg1 (Or.inl hpg1) (by simp only [List.mem_cons, List.not_mem_nil, or_false, not_or]; exact (show g1 ≠ p from hgp))
            have hr1 := hfk.get hr1 (by decide)
            have hg1 := hKg1
            have hfz := hfz.tr hq458 (by simp)
            have popI_0 := popI_0.fz (o2 := o) hq458 (by intro y hy; simp only [List.mem_cons, List.not_mem_nil, or_false] at hy; omega)
            have ppaI_0 := pNpaI_0
            have hfr := hfr.tr hfk (by decide)
            have hlen := hlk.trans hlen
            have hsl := hsk.trans hsl
            have hp := hNp
            change ab_W _ _ _ G453 182 [some (vR d_), some (vR p), some (vz pl), some (vz 0), some (vz 0), some (vz 1)] [] _
            refine ab_goto (tgt := 192) d_RD_append_182 (by decide) ?_
            refine ab_aload_n d_RD_append_192 rfl ?_
            refine ab_getf (fs := [vR x, vR g1, vz dp, vz flg, vz grp, vR na, vR nl, vz l212, vz m213, vz bh214]) f_RD_23 d_RD_append_193 hd_.2.2 rfl ?_
            refine ab_aload_n d_RD_append_196 rfl ?_
            refine ab_callV (d' := d - 1) (as := [vR p]) (st := []) (r := _) (z_PA_pushInLastRow (o := o) (k := k_4) (v := v_4) (rg := rg_4) (pl := pl_4) (fl := fl_4) (ou := ou_4) (ls := ls_4) (bf := bf_4) (sz := sz2454) (mb := mb2455) (oe := oe2456) (le := l212) (mo := m213) (la := 0) (rc := rc_4) (lr := ls3) (br := bf3) (sr := sz3) (mr := mb3) (ps := ps) (wt := wt) (bs := bs) (gr := grp) (Pr := pr0) (ph := ph) (r := r1) (p := p) (kg := k_2) (vg := v_2) (rgg := rg_2) (plg := pl_2) (flg := fl_2) (oug := ou_2) (bfg := bf_2) (szg := sz_2) (mbg := mb_2) (oeg := oe_2) (leg := le_2) (mog := mo_2) (lag := la_2) (rcg := rc_2) (q := g1) hg1 hp hr1 ppaI_0 (by omega) hgp hpg1 hpp hpr1 hn4 (by omega) (by omega) (ho4.up (by omega)) (hl4.up (by omega)) (hf4.up (by omega)) (hlv1.up (by omega)) (hf3.up (by omega)) (hlv1.up (by omega)) (by omega) (by omega)) (fun oc G2 h => by rcases h with ⟨_, _, h, _⟩ <;> exact ⟨_, h⟩) (by omega) m_PA_pushInLastRow ml_RD_197 im_PA_pushInLastRow se_PA_pushInLastRow c_PA hg1.2.2 (Nat.le_of_ble_eq_true rfl) d_RD_append_197 rfl ?_
            intro v G462 hq
            rcases hq with ⟨sr2463, mr2464, hv, hfk, hlk, hsk, hNg1, hNp, hNr1, pNpaI_0, hq465, hq466, hq467, hq468⟩
            cases hv
            have hd_ := hfk.get hd_ (by decide)
            have hx := hfk.get hx (by decide)
            have hby_ := hfk.get hby_ (by decide)
            have hfz := hfz.tr hq466 (by simp)
            have popI_0 := popI_0.fz (o2 := o) hq466 (by intro y hy; simp only [List.mem_cons, List.not_mem_nil, or_false] at hy; omega)
            have ppaI_0 := pNpaI_0
            have hfr := hfr.tr hfk (by decide)
            have hlen := hlk.trans hlen
            have hsl := hsk.trans hsl
            have hg1 := hNg1
            have hp := hNp
            have hr1 := hNr1
            change ab_W _ _ _ G462 200 [some (vR d_), some (vR p), some (vz pl), some (vz 0), some (vz 0), some (vz 1)] [] _
            have pszJ_0 : szJ o G462 0 ps ((a1_, b1_, c1_, d1_, (e1_ + (tms l212 m213 * psz + mre l212 m213))) :: t_) G462.length (vR g1) wh 0 0 := (szJ.appC hsz9 hpa9 hfz hg9 hp9 hr9 hp hr1 hpr1 (by omega) (by omega) (by omega) (by omega) (by omega) hq459 hq467).up (by omega)
            have hdn8 := (dnJ.appC (o2 := o) hdn9 hsz9 hpa9 hfz hg9 hp9 hr9 hp hr1 hpr1 (by omega) (by omega) (by omega) (by omega) (by omega) hq459 hq467 (by omega) (by omega) (by omega) (by omega)).up (hi2 := G462.length) (by omega)
            rw [show 0 = lzR f n bh214 flg from (by unfold lzR; split <;> omega)] at hdn8
            have pdnJ_0 : dnJ o G462 0 ps wt ((ao_, (mnC ro_ (mnR l212 m213 (lzR f n bh214 flg) ov))) :: ts_) G462.length (vR g1) 0 mnI := hdn8
            have popI_0 : opI o G462 0 ps (j1 + 1) G462.length (vR g1) := ⟨g1, r1, ou_2, (vR p), rfl, ⟨hpg1, hpr1⟩, ⟨by omega, by omega⟩, by unfold pf; rw [hg1.2.2]; rfl, by unfold pf; rw [hg1.2.2]; rfl, by unfold pf; rw [hr1.2.2]; rfl, (Or.inr ⟨_, rfl, hpp, by have hlt := hp.lt; omega⟩), popI_0⟩
            rw [← hj1] at popI_0
            refine ab_vret rfl d_RD_append_200 ?_
            rw [hQ]; exact (Or.inr (Or.inl ⟨_, _, _, _, _, _, _, _, _, _, _, _, _, 0, _, _, rfl, hfr, hlen, hsl, hd_, hx, ppaI_0, popI_0, pszJ_0, pdnJ_0, (by exact hft_), (by exact hfs_), (by exact hq17), (by exact fun z => absurd z.1 (by decide)), (by unfold askR; first | (left; omega) | (right; omega)), (by first | omega | (have t_ := tpk_w (f := f) (n := n) (i := bh214) (by omega); omega)), (by omega)⟩))
          · refine zz_iconst d_RD_append_174 ?_
            refine ab_goto (tgt := 179) d_RD_append_175 (by decide) ?_
            refine ab_callV (d' := d - 1) (as := [vz l212, vz m213, vz 1]) (st := []) (r := _) (z_PA_repeat (o := o) (k := k_4) (v := v_4) (rg := rg_4) (pl := pl_4) (fl := fl_4) (ou := ou_4) (ls := ls_4) (bf := bf_4) (sz := sz_4) (mb := mb_4) (oe := oe_4) (le := le_4) (mo := mo_4) (la := la_4) (rc := rc_4) (ps := ps) (wt := wt) (bs := bs) (gr := grp) (Pr := pr0) (ph := ph) (p := p) (l0 := l212) (m0 := m213) (z0 := 1) hp ppaI_0 (by omega) hpp hn4 (by omega) (ho4.up (by omega)) (hl4.up (by omega)) (hf4.up (by omega)) (by omega) (by omega)) (fun oc G2 h => by rcases h with ⟨_, _, _, h, _⟩ <;> exact ⟨_, h⟩) (by omega) m_PA_repeat ml_RD_193 im_PA_repeat se_PA_repeat c_PA hp.2.2 (Nat.le_of_ble_eq_true rfl) d_RD_append_179 rfl ?_
            intro v G469 hq
            rcases hq with ⟨sz2470, mb2471, oe2472, hv, hfk, hlk, hsk, hNp, pNpaI_0, hq473, hq474, hq475, hq476, hq477⟩
            cases hv
            have hd_ := hfk.get hd_ (by decide)
            have hx := hfk.get hx (by decide)
            have hby_ := hfk.get hby_ (by decide)
            have hKg1 := hq474.get hfk hg1 (Or.inl hpg1) (by simp only [List.mem_cons, List.not_mem_nil, or_false, not_or]; exact (show g1 ≠ p from hgp))
            have hr1 := hfk.get hr1 (by decide)
            have hg1 := hKg1
            have hfz := hfz.tr hq474 (by simp)
            have popI_0 := popI_0.fz (o2 := o) hq474 (by intro y hy; simp only [List.mem_cons, List.not_mem_nil, or_false] at hy; omega)
            have ppaI_0 := pNpaI_0
            have hfr := hfr.tr hfk (by decide)
            have hlen := hlk.trans hlen
            have hsl := hsk.trans hsl
            have hp := hNp
            change ab_W _ _ _ G469 182 [some (vR d_), some (vR p), some (vz pl), some (vz 0), some (vz 0), some (vz 1)] [] _
            refine ab_goto (tgt := 192) d_RD_append_182 (by decide) ?_
            refine ab_aload_n d_RD_append_192 rfl ?_
            refine ab_getf (fs := [vR x, vR g1, vz dp, vz flg, vz grp, vR na, vR nl, vz l212, vz m213, vz bh214]) f_RD_23 d_RD_append_193 hd_.2.2 rfl ?_
            refine ab_aload_n d_RD_append_196 rfl ?_
            refine ab_callV (d' := d - 1) (as := [vR p]) (st := []) (r := _) (z_PA_pushInLastRow (o := o) (k := k_4) (v := v_4) (rg := rg_4) (pl := pl_4) (fl := fl_4) (ou := ou_4) (ls := ls_4) (bf := bf_4) (sz := sz2470) (mb := mb2471) (oe := oe2472) (le := l212) (mo := m213) (la := 1) (rc := rc_4) (lr := ls3) (br := bf3) (sr := sz3) (mr := mb3) (ps := ps) (wt := wt) (bs := bs) (gr := grp) (Pr := pr0) (ph := ph) (r := r1) (p := p) (kg := k_2) (vg := v_2) (rgg := rg_2) (plg := pl_2) (flg := fl_2) (oug := ou_2) (bfg := bf_2) (szg := sz_2) (mbg := mb_2) (oeg := oe_2) (leg := le_2) (mog := mo_2) (lag := la_2) (rcg := rc_2) (q := g1) hg1 hp hr1 ppaI_0 (by omega) hgp hpg1 hpp hpr1 hn4 (by omega) (by omega) (ho4.up (by omega)) (hl4.up (by omega)) (hf4.up (by omega)) (hlv1.up (by omega)) (hf3.up (by omega)) (hlv1.up (by omega)) (by omega) (by omega)) (fun oc G2 h => by rcases h with ⟨_, _, h, _⟩ <;> exact ⟨_, h⟩) (by omega) m_PA_pushInLastRow ml_RD_197 im_PA_pushInLastRow se_PA_pushInLastRow c_PA hg1.2.2 (Nat.le_of_ble_eq_true rfl) d_RD_append_197 rfl ?_
            intro v G478 hq
            rcases hq with ⟨sr2479, mr2480, hv, hfk, hlk, hsk, hNg1, hNp, hNr1, pNpaI_0, hq481, hq482, hq483, hq484⟩
            cases hv
            have hd_ := hfk.get hd_ (by decide)
            have hx := hfk.get hx (by decide)
            have hby_ := hfk.get hby_ (by decide)
            have hfz := hfz.tr hq482 (by simp)
            have popI_0 := popI_0.fz (o2 := o) hq482 (by intro y hy; simp only [List.mem_cons, List.not_mem_nil, or_false] at hy; omega)
            have ppaI_0 := pNpaI_0
            have hfr := hfr.tr hfk (by decide)
            have hlen := hlk.trans hlen
            have hsl := hsk.trans hsl
            have hg1 := hNg1
            have hp := hNp
            have hr1 := hNr1
            change ab_W _ _ _ G478 200 [some (vR d_), some (vR p), some (vz pl), some (vz 0), some (vz 0), some (vz 1)] [] _
            have pszJ_0 : szJ o G478 0 ps ((a1_, b1_, c1_, d1_, (e1_ + (tms l212 m213 * psz + mre l212 m213))) :: t_) G478.length (vR g1) wh 0 0 := (szJ.appC hsz9 hpa9 hfz hg9 hp9 hr9 hp hr1 hpr1 (by omega) (by omega) (by omega) (by omega) (by omega) hq475 hq483).up (by omega)
            have hdn8 := (dnJ.appC (o2 := o) hdn9 hsz9 hpa9 hfz hg9 hp9 hr9 hp hr1 hpr1 (by omega) (by omega) (by omega) (by omega) (by omega) hq475 hq483 (by omega) (by omega) (by omega) (by omega)).up (hi2 := G478.length) (by omega)
            rw [show 1 = lzR f n bh214 flg from (by unfold lzR; split <;> omega)] at hdn8
            have pdnJ_0 : dnJ o G478 0 ps wt ((ao_, (mnC ro_ (mnR l212 m213 (lzR f n bh214 flg) ov))) :: ts_) G478.length (vR g1) 0 mnI := hdn8
            have popI_0 : opI o G478 0 ps (j1 + 1) G478.length (vR g1) := ⟨g1, r1, ou_2, (vR p), rfl, ⟨hpg1, hpr1⟩, ⟨by omega, by omega⟩, by unfold pf; rw [hg1.2.2]; rfl, by unfold pf; rw [hg1.2.2]; rfl, by unfold pf; rw [hr1.2.2]; rfl, (Or.inr ⟨_, rfl, hpp, by have hlt := hp.lt; omega⟩), popI_0⟩
            rw [← hj1] at popI_0
            refine ab_vret rfl d_RD_append_200 ?_
            rw [hQ]; exact (Or.inr (Or.inl ⟨_, _, _, _, _, _, _, _, _, _, _, _, _, 0, _, _, rfl, hfr, hlen, hsl, hd_, hx, ppaI_0, popI_0, pszJ_0, pdnJ_0, (by exact hft_), (by exact hfs_), (by exact hq17), (by exact fun z => absurd z.1 (by decide)), (by unfold askR; first | (left; omega) | (right; omega)), (by first | omega | (have t_ := tpk_w (f := f) (n := n) (i := bh214) (by omega); omega)), (by omega)⟩))
  · cases hv
    have hx := hfk.get hx (by decide)
    have hby_ := hfk.get hby_ (by decide)
    have hg1 := hfk.get hg1 (by decide)
    have hr1 := hfk.get hr1 (by decide)
    have hp := hfk.get hp (by decide)
    have hfz := hfz.tr (fz.fx ppaI_0 hfk (by decide) (by decide)) (by simp)
    have pszJ_0 := szJ.fr hfk ppaI_0 pszJ_0 (by decide) (by decide)
    have pdnJ_0 := dnJ.fr hfk ppaI_0 pdnJ_0 (by decide) (by decide)
    have popI_0 := opI.fr hfk ppaI_0 popI_0 (by decide) (by decide)
    have ppaI_0 := paI.fr hfk ppaI_0 (by decide) (by decide) (by decide) (by decide)
    have hfr := hfr.tr hfk (by decide)
    have hlen := hlk.trans hlen
    have hsl := hsk.trans hsl
    have hd_ := hNd_
    change ab_W _ _ _ G5 4 [some (vR d_), some (vR p), none, none, none, none] [vz 0] _
    refine zz_if_eq (tgt := 185) d_RD_append_4 (by decide) (by decide) (fun c485 => ?_) (fun c485 => absurd c485 (by decide))
    refine ab_aload_n d_RD_append_185 rfl ?_
    refine zz_iconst d_RD_append_186 ?_
    refine zz_iconst d_RD_append_187 ?_
    refine zz_iconst d_RD_append_188 ?_
    refine ab_callV (d' := d - 1) (as := [vz 1, vz 1, vz 0]) (st := []) (r := _) (z_PA_repeat (o := o) (k := k_4) (v := v_4) (rg := rg_4) (pl := pl_4) (fl := fl_4) (ou := ou_4) (ls := ls_4) (bf := bf_4) (sz := sz_4) (mb := mb_4) (oe := oe_4) (le := le_4) (mo := mo_4) (la := la_4) (rc := rc_4) (ps := ps) (wt := wt) (bs := bs) (gr := grp) (Pr := pr0) (ph := ph) (p := p) (l0 := 1) (m0 := 1) (z0 := 0) hp ppaI_0 (by omega) hpp hn4 (by omega) (ho4.up (by omega)) (hl4.up (by omega)) (hf4.up (by omega)) (by omega) (by omega)) (fun oc G2 h => by rcases h with ⟨_, _, _, h, _⟩ <;> exact ⟨_, h⟩) (by omega) m_PA_repeat ml_RD_193 im_PA_repeat se_PA_repeat c_PA hp.2.2 (Nat.le_of_ble_eq_true rfl) d_RD_append_189 rfl ?_
    intro v G486 hq
    rcases hq with ⟨sz2487, mb2488, oe2489, hv, hfk, hlk, hsk, hNp, pNpaI_0, hq490, hq491, hq492, hq493, hq494⟩
    cases hv
    have hd_ := hfk.get hd_ (by decide)
    have hx := hfk.get hx (by decide)
    have hby_ := hfk.get hby_ (by decide)
    have hKg1 := hq491.get hfk hg1 (Or.inl hpg1) (by simp only [List.mem_cons, List.not_mem_nil, or_false, not_or]; exact (show g1 ≠ p from hgp))
    have hr1 := hfk.get hr1 (by decide)
    have hg1 := hKg1
    have hfz := hfz.tr hq491 (by simp)
    have popI_0 := popI_0.fz (o2 := o) hq491 (by intro y hy; simp only [List.mem_cons, List.not_mem_nil, or_false] at hy; omega)
    have ppaI_0 := pNpaI_0
    have hfr := hfr.tr hfk (by decide)
    have hlen := hlk.trans hlen
    have hsl := hsk.trans hsl
    have hp := hNp
    change ab_W _ _ _ G486 192 [some (vR d_), some (vR p), none, none, none, none] [] _
    refine ab_aload_n d_RD_append_192 rfl ?_
    refine ab_getf (fs := [vR x, vR g1, vz dp, vz flg, vz grp, vR na, vR nl, vz l218, vz m219, vz bh220]) f_RD_23 d_RD_append_193 hd_.2.2 rfl ?_
    refine ab_aload_n d_RD_append_196 rfl ?_
    refine ab_callV (d' := d - 1) (as := [vR p]) (st := []) (r := _) (z_PA_pushInLastRow (o := o) (k := k_4) (v := v_4) (rg := rg_4) (pl := pl_4) (fl := fl_4) (ou := ou_4) (ls := ls_4) (bf := bf_4) (sz := sz2487) (mb := mb2488) (oe := oe2489) (le := 1) (mo := 1) (la := 0) (rc := rc_4) (lr := ls3) (br := bf3) (sr := sz3) (mr := mb3) (ps := ps) (wt := wt) (bs := bs) (gr := grp) (Pr := pr0) (ph := ph) (r := r1) (p := p) (kg := k_2) (vg := v_2) (rgg := rg_2) (plg := pl_2) (flg := fl_2) (oug := ou_2) (bfg := bf_2) (szg := sz_2) (mbg := mb_2) (oeg := oe_2) (leg := le_2) (mog := mo_2) (lag := la_2) (rcg := rc_2) (q := g1) hg1 hp hr1 ppaI_0 (by omega) hgp hpg1 hpp hpr1 hn4 (by omega) (by omega) (ho4.up (by omega)) (hl4.up (by omega)) (hf4.up (by omega)) (hlv1.up (by omega)) (hf3.up (by omega)) (hlv1.up (by omega)) (by omega) (by omega)) (fun oc G2 h => by rcases h with ⟨_, _, h, _⟩ <;> exact ⟨_, h⟩) (by omega) m_PA_pushInLastRow ml_RD_197 im_PA_pushInLastRow se_PA_pushInLastRow c_PA hg1.2.2 (Nat.le_of_ble_eq_true rfl) d_RD_append_197 rfl ?_
    intro v G495 hq
    rcases hq with ⟨sr2496, mr2497, hv, hfk, hlk, hsk, hNg1, hNp, hNr1, pNpaI_0, hq498, hq499, hq500, hq501⟩
    cases hv
    have hd_ := hfk.get hd_ (by decide)
    have hx := hfk.get hx (by decide)
    have hby_ := hfk.get hby_ (by decide)
    have hfz := hfz.tr hq499 (by simp)
    have popI_0 := popI_0.fz (o2 := o) hq499 (by intro y hy; simp only [List.mem_cons, List.not_mem_nil, or_false] at hy; omega)
    have ppaI_0 := pNpaI_0
    have hfr := hfr.tr hfk (by decide)
    have hlen := hlk.trans hlen
    have hsl := hsk.trans hsl
    have hg1 := hNg1
    have hp := hNp
    have hr1 := hNr1
    change ab_W _ _ _ G495 200 [some (vR d_), some (vR p), none, none, none, none] [] _
    have pszJ_0 : szJ o G495 0 ps ((a1_, b1_, c1_, d1_, (e1_ + (tms 1 1 * psz + mre 1 1))) :: t_) G495.length (vR g1) wh 0 0 := (szJ.appC hsz9 hpa9 hfz hg9 hp9 hr9 hp hr1 hpr1 (by omega) (by omega) (by omega) (by omega) (by omega) hq492 hq500).up (by omega)
    have hdn8 := (dnJ.appC (o2 := o) hdn9 hsz9 hpa9 hfz hg9 hp9 hr9 hp hr1 hpr1 (by omega) (by omega) (by omega) (by omega) (by omega) hq492 hq500 (by omega) (by omega) (by omega) (by omega)).up (hi2 := G495.length) (by omega)
    rw [mnR_1] at hdn8
    have pdnJ_0 : dnJ o G495 0 ps wt ((ao_, (mnC ro_ ov)) :: ts_) G495.length (vR g1) 0 mnI := hdn8
    have popI_0 : opI o G495 0 ps (j1 + 1) G495.length (vR g1) := ⟨g1, r1, ou_2, (vR p), rfl, ⟨hpg1, hpr1⟩, ⟨by omega, by omega⟩, by unfold pf; rw [hg1.2.2]; rfl, by unfold pf; rw [hg1.2.2]; rfl, by unfold pf; rw [hr1.2.2]; rfl, (Or.inr ⟨_, rfl, hpp, by have hlt := hp.lt; omega⟩), popI_0⟩
    rw [← hj1] at popI_0
    refine ab_vret rfl d_RD_append_200 ?_
    rw [hQ]; exact (Or.inr (Or.inr ⟨_, _, _, _, _, _, _, _, _, _, _, _, _, _, rfl, hfr, hlen, hsl, hd_, hx, ppaI_0, popI_0, pszJ_0, pdnJ_0, (by exact hft_), (by exact hfs_), (by exact hq22), (by omega)⟩))
set_option maxRecDepth 100000 in
set_option maxHeartbeats 4000000 in
theorem z_RD_open {X : ab_X} {d : Nat} {o : Nat → Nat} {G : ab_G} {d_ : Nat} {inn : Value} {dp : Int} {flg : Int} {grp : Int} {na : Nat} {nl : Nat} {lst : Int} {mst : Int} {bh : Int} {NA : Int → Int} {NL : Int → Int} {x : Nat} {se : Nat} {by_ : Nat} {m : Nat} {f : Int → Int} {n : Int} {pl : Int} {fa : Int} {fp : Int} {kd : Nat} {kn : Int} {ps : Nat → Nat} {wt : Nat → Wt} {bs : Nat} {ph : Int} {k : Nat} {hi : Nat} {wh : Nat} {fr : List Fr} {FS : List Fs} (hd_ : cc o G d_ 25 (ab_ob 6 [vR x, inn, vz dp, vz flg, vz grp, vR na, vR nl, vz lst, vz mst, vz bh])) (hx : cc o G x 24 (ab_ob 10 [vR se, vR by_, vz n, vz pl, vz fa, vz fp, vR kd, vz kn])) (hna : cc o G na 86 (za 10 NA)) (hnl : cc o G nl 87 (za 10 NL)) (hby_ : cc o G by_ 23 (za m f)) (ppaI_0 : paI o G 0 ps wt bs grp pr0 ph) (popI_0 : opI o G 0 ps k hi inn) (pszJ_0 : szJ o G 0 ps fr hi inn wh 0 0) (pdnJ_0 : dnJ o G 0 ps wt FS hi inn 0 mnI) (n18 : ab_n0 = 18) (cn_ : 0 ≤ n ∧ n ≤ ↑m ∧ m ≤ 2000) (hb : bytes f n) (cf : 0 ≤ flg ∧ flg ≤ 31) (cg : 0 ≤ grp ∧ grp ≤ 9) (ck : 0 ≤ dp ∧ dp ≤ 30 ∧ ↑k = dp + 1 ∧ hi ≤ G.length) (hnm : nmok NA NL grp n) (cbs : bs ≤ G.length ∧ 18 ≤ G.length) (cfa : fa = 0) (cp : 0 ≤ pl ∧ pl < n) (hkf : k = fr.length) (hks : k = FS.length) (rc : G.length + 9 ≤ ab_n0 + room_1.cells) (rs : ab_slots G + 30 ≤ room_1.slots) (hd : 5 ≤ d) : ab_F X d y_RD_open (.code y_RD_open b_RD_open 4 none) [vR d_, vz pl] G (fun oc G2 => (∃ o2 : Nat → Nat, ∃ inn2 : Value, ∃ k2 : Nat, ∃ hi2 : Nat, ∃ ps2 : Nat → Nat, ∃ wt2 : Nat → Wt, ∃ ph2 : Int, oc = .returned none ∧ fx o o2 [24, 25, 86, 87, 90, 94] G G2 ∧ cc o2 G2 d_ 25 (ab_ob 6 [vR x, inn2, vz (dp + 1), vz flg, vz (grp + 1), vR na, vR nl, vz lst, vz mst, vz bh]) ∧ cc o2 G2 x 24 (ab_ob 10 [vR se, vR by_, vz n, vz (pl + 1), vz fa, vz fp, vR kd, vz kn]) ∧ cc o2 G2 na 86 (za 10 (zu NA (grp + 1) 0)) ∧ cc o2 G2 nl 87 (za 10 (zu NL (grp + 1) 0)) ∧ paI o2 G2 0 ps2 wt2 bs (grp + 1) pr0 ph2 ∧ opI o2 G2 0 ps2 k2 hi2 inn2 ∧ szJ o2 G2 0 ps2 ((pl, flg, (grp + 1), 0, 0) :: fr) hi2 inn2 wh 0 0 ∧ dnJ o2 G2 0 ps2 wt2 ((none, mnI) :: FS) hi2 inn2 0 mnI ∧ (¬ tpk f n (pl + 1) = 63) ∧ (dp < 30 ∧ grp < 9) ∧ (k2 = k + 1) ∧ (nmok (zu NA (grp + 1) 0) (zu NL (grp + 1) 0) (grp + 1) n) ∧ (hi2 ≤ G2.length) ∧ (psx ps ps2 G.length) ∧ (ph2 ≤ ph) ∧ (G2.length ≤ G.length + 2) ∧ (ab_slots G2 ≤ ab_slots G + 30)) ∨ (∃ o2 : Nat → Nat, ∃ nm2 : Int, ∃ inn2 : Value, ∃ k2 : Nat, ∃ hi2 : Nat, ∃ ps2 : Nat → Nat, ∃ wt2 : Nat → Wt, ∃ ph2 : Int, oc = .returned none ∧ fx o o2 [24, 25, 86, 87, 90, 94] G G2 ∧ cc o2 G2 d_ 25 (ab_ob 6 [vR x, inn2, vz (dp + 1), vz flg, vz (grp + 1), vR na, vR nl, vz lst, vz mst, vz bh]) ∧ cc o2 G2 x 24 (ab_ob 10 [vR se, vR by_, vz n, vz ((pl + 5) + nm2), vz fa, vz fp, vR kd, vz kn]) ∧ cc o2 G2 na 86 (za 10 (zu NA (grp + 1) (pl + 4))) ∧ cc o2 G2 nl 87 (za 10 (zu NL (grp + 1) nm2)) ∧ paI o2 G2 0 ps2 wt2 bs (grp + 1) pr0 ph2 ∧ opI o2 G2 0 ps2 k2 hi2 inn2 ∧ szJ o2 G2 0 ps2 ((pl, flg, (grp + 1), 0, 0) :: fr) hi2 inn2 wh 0 0 ∧ dnJ o2 G2 0 ps2 wt2 ((none, mnI) :: FS) hi2 inn2 0 mnI ∧ (tpk f n (pl + 1) = 63) ∧ (tpk f n (pl + 1 + 1) = 80 ∧ tpk f n (pl + 1 + 2) = 60) ∧ (nmR f n (pl + 4) nm2) ∧ (¬ nm2 = 0) ∧ (tkI f NA NL (grp + 1) (pl + 4) nm2 0) ∧ (dp < 30 ∧ grp < 9) ∧ (k2 = k + 1) ∧ (nmok (zu NA (grp + 1) (pl + 4)) (zu NL (grp + 1) nm2) (grp + 1) n) ∧ (hi2 ≤ G2.length) ∧ (psx ps ps2 G.length) ∧ (ph2 ≤ ph) ∧ (G2.length ≤ G.length + 2) ∧ (ab_slots G2 ≤ ab_slots G + 30)) ∨ (∃ o2 : Nat → Nat, ∃ v2 : Int, ∃ e2 : Int, ∃ inn2 : Value, ∃ k2 : Nat, ∃ hi2 : Nat, ∃ ps2 : Nat → Nat, ∃ wt2 : Nat → Wt, ∃ ph2 : Int, oc = .returned none ∧ fx o o2 [24, 25, 86, 87, 90, 94] G G2 ∧ cc o2 G2 d_ 25 (ab_ob 6 [vR x, inn2, vz (dp + 1), vz v2, vz grp, vR na, vR nl, vz lst, vz mst, vz bh]) ∧ cc o2 G2 x 24 (ab_ob 10 [vR se, vR by_, vz n, vz (e2 + 1), vz fa, vz fp, vR kd, vz kn]) ∧ cc o2 G2 na 86 (za 10 NA) ∧ cc o2 G2 nl 87 (za 10 NL) ∧ paI o2 G2 0 ps2 wt2 bs grp pr0 ph2 ∧ opI o2 G2 0 ps2 k2 hi2 inn2 ∧ szJ o2 G2 0 ps2 ((pl, flg, 0, 0, 0) :: fr) hi2 inn2 wh 0 0 ∧ dnJ o2 G2 0 ps2 wt2 ((none, mnI) :: FS) hi2 inn2 0 mnI ∧ (tpk f n (pl + 1) = 63) ∧ (¬ (tpk f n (pl + 1 + 1) = 80 ∧ tpk f n (pl + 1 + 2) = 60)) ∧ (flgR f n (pl + 2) flg v2 e2) ∧ (tpk f n e2 = 58) ∧ (dp < 30) ∧ (k2 = k + 1) ∧ (nmok NA NL grp n) ∧ (hi2 ≤ G2.length) ∧ (psx ps ps2 G.length) ∧ (ph2 ≤ ph) ∧ (G2.length ≤ G.length + 2) ∧ (ab_slots G2 ≤ ab_slots G + 30)) ∨ (∃ o2 : Nat → Nat, ∃ v2 : Int, ∃ e2 : Int, oc = .returned none ∧ fx o o2 [24, 25, 86, 87, 90, 94] G G2 ∧ cc o2 G2 d_ 25 (ab_ob 6 [vR x, inn, vz dp, vz v2, vz grp, vR na, vR nl, vz lst, vz mst, vz bh]) ∧ cc o2 G2 x 24 (ab_ob 10 [vR se, vR by_, vz n, vz (e2 + 1), vz fa, vz fp, vR kd, vz kn]) ∧ cc o2 G2 na 86 (za 10 NA) ∧ cc o2 G2 nl 87 (za 10 NL) ∧ paI o2 G2 0 ps wt bs grp pr0 ph ∧ opI o2 G2 0 ps k hi inn ∧ szJ o2 G2 0 ps fr hi inn wh 0 0 ∧ dnJ o2 G2 0 ps wt FS hi inn 0 mnI ∧ (tpk f n (pl + 1) = 63) ∧ (¬ (tpk f n (pl + 1 + 1) = 80 ∧ tpk f n (pl + 1 + 2) = 60)) ∧ (flgR f n (pl + 2) flg v2 e2) ∧ (¬ tpk f n e2 = 58) ∧ (0 ≤ v2 ∧ v2 ≤ 31) ∧ (G2.length = G.length) ∧ (ab_slots G2 = ab_slots G)) ∨ (∃ o2 : Nat → Nat, ∃ p2 : Int, ∃ fa2 : Int, ∃ fp2 : Int, oc = .returned none ∧ fx o o2 [24, 25, 86, 87, 90, 94] G G2 ∧ cc o2 G2 d_ 25 (ab_ob 6 [vR x, inn, vz dp, vz flg, vz grp, vR na, vR nl, vz lst, vz mst, vz bh]) ∧ cc o2 G2 x 24 (ab_ob 10 [vR se, vR by_, vz n, vz p2, vz fa2, vz fp2, vR kd, vz kn]) ∧ cc o2 G2 na 86 (za 10 NA) ∧ cc o2 G2 nl 87 (za 10 NL) ∧ paI o2 G2 0 ps wt bs grp pr0 ph ∧ opI o2 G2 0 ps k hi inn ∧ szJ o2 G2 0 ps fr hi inn wh 0 0 ∧ dnJ o2 G2 0 ps wt FS hi inn 0 mnI ∧ (opF f n pl flg grp dp NA NL fa2) ∧ (fp2 = pl ∧ 1 ≤ fa2 ∧ fa2 ≤ 14) ∧ (pl < p2 ∧ p2 ≤ 6020) ∧ (G2.length = G.length) ∧ (ab_slots G2 = ab_slots G))) := by
  refine ab_F_of (by decide +kernel) (Nat.le_of_ble_eq_true rfl) ?_
  obtain ⟨Q, hQ⟩ : ∃ z : Outcome → ab_G → Prop, z = (fun oc G2 => (∃ o2 : Nat → Nat, ∃ inn2 : Value, ∃ k2 : Nat, ∃ hi2 : Nat, ∃ ps2 : Nat → Nat, ∃ wt2 : Nat → Wt, ∃ ph2 : Int, oc = .returned none ∧ fx o o2 [24, 25, 86, 87, 90, 94] G G2 ∧ cc o2 G2 d_ 25 (ab_ob 6 [vR x, inn2, vz (dp + 1), vz flg, vz (grp + 1), vR na, vR nl, vz lst, vz mst, vz bh]) ∧ cc o2 G2 x 24 (ab_ob 10 [vR se, vR by_, vz n, vz (pl + 1), vz fa, vz fp, vR kd, vz kn]) ∧ cc o2 G2 na 86 (za 10 (zu NA (grp + 1) 0)) ∧ cc o2 G2 nl 87 (za 10 (zu NL (grp + 1) 0)) ∧ paI o2 G2 0 ps2 wt2 bs (grp + 1) pr0 ph2 ∧ opI o2 G2 0 ps2 k2 hi2 inn2 ∧ szJ o2 G2 0 ps2 ((pl, flg, (grp + 1), 0, 0) :: fr) hi2 inn2 wh 0 0 ∧ dnJ o2 G2 0 ps2 wt2 ((none, mnI) :: FS) hi2 inn2 0 mnI ∧ (¬ tpk f n (pl + 1) = 63) ∧ (dp < 30 ∧ grp < 9) ∧ (k2 = k + 1) ∧ (nmok (zu NA (grp + 1) 0) (zu NL (grp + 1) 0) (grp + 1) n) ∧ (hi2 ≤ G2.length) ∧ (psx ps ps2 G.length) ∧ (ph2 ≤ ph) ∧ (G2.length ≤ G.length + 2) ∧ (ab_slots G2 ≤ ab_slots G + 30)) ∨ (∃ o2 : Nat → Nat, ∃ nm2 : Int, ∃ inn2 : Value, ∃ k2 : Nat, ∃ hi2 : Nat, ∃ ps2 : Nat → Nat, ∃ wt2 : Nat → Wt, ∃ ph2 : Int, oc = .returned none ∧ fx o o2 [24, 25, 86, 87, 90, 94] G G2 ∧ cc o2 G2 d_ 25 (ab_ob 6 [vR x, inn2, vz (dp + 1), vz flg, vz (grp + 1), vR na, vR nl, vz lst, vz mst, vz bh]) ∧ cc o2 G2 x 24 (ab_ob 10 [vR se, vR by_, vz n, vz ((pl + 5) + nm2), vz fa, vz fp, vR kd, vz kn]) ∧ cc o2 G2 na 86 (za 10 (zu NA (grp + 1) (pl + 4))) ∧ cc o2 G2 nl 87 (za 10 (zu NL (grp + 1) nm2)) ∧ paI o2 G2 0 ps2 wt2 bs (grp + 1) pr0 ph2 ∧ opI o2 G2 0 ps2 k2 hi2 inn2 ∧ szJ o2 G2 0 ps2 ((pl, flg, (grp + 1), 0, 0) :: fr) hi2 inn2 wh 0 0 ∧ dnJ o2 G2 0 ps2 wt2 ((none, mnI) :: FS) hi2 inn2 0 mnI ∧ (tpk f n (pl + 1) = 63) ∧ (tpk f n (pl + 1 + 1) = 80 ∧ tpk f n (pl + 1 + 2) = 60) ∧ (nmR f n (pl + 4) nm2) ∧ (¬ nm2 = 0) ∧ (tkI f NA NL (grp + 1) (pl + 4) nm2 0) ∧ (dp < 30 ∧ grp < 9) ∧ (k2 = k + 1) ∧ (nmok (zu NA (grp + 1) (pl + 4)) (zu NL (grp + 1) nm2) (grp + 1) n) ∧ (hi2 ≤ G2.length) ∧ (psx ps ps2 G.length) ∧ (ph2 ≤ ph) ∧ (G2.length ≤ G.length + 2) ∧ (ab_slots G2 ≤ ab_slots G + 30)) ∨ (∃ o2 : Nat → Nat, ∃ v2 : Int, ∃ e2 : Int, ∃ inn2 : Value, ∃ k2 : Nat, ∃ hi2 : Nat, ∃ ps2 : Nat → Nat, ∃ wt2 : Nat → Wt, ∃ ph2 : Int, oc = .returned none ∧ fx o o2 [24, 25, 86, 87, 90, 94] G G2 ∧ cc o2 G2 d_ 25 (ab_ob 6 [vR x, inn2, vz (dp + 1), vz v2, vz grp, vR na, vR nl, vz lst, vz mst, vz bh]) ∧ cc o2 G2 x 24 (ab_ob 10 [vR se, vR by_, vz n, vz (e2 + 1), vz fa, vz fp, vR kd, vz kn]) ∧ cc o2 G2 na 86 (za 10 NA) ∧ cc o2 G2 nl 87 (za 10 NL) ∧ paI o2 G2 0 ps2 wt2 bs grp pr0 ph2 ∧ opI o2 G2 0 ps2 k2 hi2 inn2 ∧ szJ o2 G2 0 ps2 ((pl, flg, 0, 0, 0) :: fr) hi2 inn2 wh 0 0 ∧ dnJ o2 G2 0 ps2 wt2 ((none, mnI) :: FS) hi2 inn2 0 mnI ∧ (tpk f n (pl + 1) = 63) ∧ (¬ (tpk f n (pl + 1 + 1) = 80 ∧ tpk f n (pl + 1 + 2) = 60)) ∧ (flgR f n (pl + 2) flg v2 e2) ∧ (tpk f n e2 = 58) ∧ (dp < 30) ∧ (k2 = k + 1) ∧ (nmok NA NL grp n) ∧ (hi2 ≤ G2.length) ∧ (psx ps ps2 G.length) ∧ (ph2 ≤ ph) ∧ (G2.length ≤ G.length + 2) ∧ (ab_slots G2 ≤ ab_slots G + 30)) ∨ (∃ o2 : Nat → Nat, ∃ v2 : Int, ∃ e2 : Int, oc = .returned none ∧ fx o o2 [24, 25, 86, 87, 90, 94] G G2 ∧ cc o2 G2 d_ 25 (ab_ob 6 [vR x, inn, vz dp, vz v2, vz grp, vR na, vR nl, vz lst, vz mst, vz bh]) ∧ cc o2 G2 x 24 (ab_ob 10 [vR se, vR by_, vz n, vz (e2 + 1), vz fa, vz fp, vR kd, vz kn]) ∧ cc o2 G2 na 86 (za 10 NA) ∧ cc o2 G2 nl 87 (za 10 NL) ∧ paI o2 G2 0 ps wt bs grp pr0 ph ∧ opI o2 G2 0 ps k hi inn ∧ szJ o2 G2 0 ps fr hi inn wh 0 0 ∧ dnJ o2 G2 0 ps wt FS hi inn 0 mnI ∧ (tpk f n (pl + 1) = 63) ∧ (¬ (tpk f n (pl + 1 + 1) = 80 ∧ tpk f n (pl + 1 + 2) = 60)) ∧ (flgR f n (pl + 2) flg v2 e2) ∧ (¬ tpk f n e2 = 58) ∧ (0 ≤ v2 ∧ v2 ≤ 31) ∧ (G2.length = G.length) ∧ (ab_slots G2 = ab_slots G)) ∨ (∃ o2 : Nat → Nat, ∃ p2 : Int, ∃ fa2 : Int, ∃ fp2 : Int, oc = .returned none ∧ fx o o2 [24, 25, 86, 87, 90, 94] G G2 ∧ cc o2 G2 d_ 25 (ab_ob 6 [vR x, inn, vz dp, vz flg, vz grp, vR na, vR nl, vz lst, vz mst, vz bh]) ∧ cc o2 G2 x 24 (ab_ob 10 [vR se, vR by_, vz n, vz p2, vz fa2, vz fp2, vR kd, vz kn]) ∧ cc o2 G2 na 86 (za 10 NA) ∧ cc o2 G2 nl 87 (za 10 NL) ∧ paI o2 G2 0 ps wt bs grp pr0 ph ∧ opI o2 G2 0 ps k hi inn ∧ szJ o2 G2 0 ps fr hi inn wh 0 0 ∧ dnJ o2 G2 0 ps wt FS hi inn 0 mnI ∧ (opF f n pl flg grp dp NA NL fa2) ∧ (fp2 = pl ∧ 1 ≤ fa2 ∧ fa2 ≤ 14) ∧ (pl < p2 ∧ p2 ≤ 6020) ∧ (G2.length = G.length) ∧ (ab_slots G2 = ab_slots G))) := ⟨_, rfl⟩
  rw [← hQ]
  change ab_W X (ab_pl y_RD_open b_RD_open 4 none) d G 0 [some (vR d_), some (vz pl), none, none] [] Q
  have hfr : fx o o [24, 25, 86, 87, 90, 94] G G := fx.rf
  refine ab_aload_n d_RD_open_0 rfl ?_
  refine ab_getf (fs := [vR x, inn, vz dp, vz flg, vz grp, vR na, vR nl, vz lst, vz mst, vz bh]) f_RD_12 d_RD_open_1 hd_.2.2 rfl ?_
  refine ab_iload_n d_RD_open_4 rfl ?_
  refine zz_iconst d_RD_open_5 ?_
  refine zz_iadd d_RD_open_6 ?_
  refine ab_putf (fs := [vR se, vR by_, vz n, vz pl, vz fa, vz fp, vR kd, vz kn]) f_RD_55 (Or.inl rfl) d_RD_open_7 hx.2.2 (Nat.le_of_ble_eq_true rfl) (fun _ => ⟨rfl, rfl⟩) (hx.2.1 (by decide)) ?_
  obtain ⟨G1, eG1⟩ : ∃ z : ab_G, z = List.set G x (ab_ob 10 [vR se, vR by_, vz n, vz (pl + 1), vz fa, vz fp, vR kd, vz kn]) := ⟨_, rfl⟩
  have hd_ := hd_.keep hx eG1 (by decide)
  have hna := hna.keep hx eG1 (by decide)
  have hnl := hnl.keep hx eG1 (by decide)
  have hby_ := hby_.keep hx eG1 (by decide)
  have hst := (fx.rf (o := o) (S := [24]) (G := G)).wr hx eG1 (List.mem_singleton.mpr rfl)
  have popI_0 := opI.fr hst ppaI_0 popI_0 (by decide) (by decide)
  have pszJ_0 := szJ.fr hst ppaI_0 pszJ_0 (by decide) (by decide)
  have pdnJ_0 := dnJ.fr hst ppaI_0 pdnJ_0 (by decide) (by decide)
  have ppaI_0 := paI.fr hst ppaI_0 (by decide) (by decide) (by decide) (by decide)
  have hq2 := z_len eG1
  have hq3 := z_sl hx eG1 rfl
  have hfr := hfr.wr hx eG1 (by decide)
  have hx := hx.kept eG1
  change ab_W _ _ _ (List.set G x (ab_ob 10 [vR se, vR by_, vz n, vz (pl + 1), vz fa, vz fp, vR kd, vz kn])) 10 [some (vR d_), some (vz pl), none, none] [] _
  rw [← eG1]
  refine ab_aload_n d_RD_open_10 rfl ?_
  refine ab_getf (fs := [vR x, inn, vz dp, vz flg, vz grp, vR na, vR nl, vz lst, vz mst, vz bh]) f_RD_12 d_RD_open_11 hd_.2.2 rfl ?_
  refine zz_iconst d_RD_open_14 ?_
  refine ab_callV (d' := d - 1) (as := [vz 0]) (st := []) (r := _) (z_TX_peek0 (o := o) (x := x) (lx := 24) (se := se) (by_ := by_) (lby := 23) (m := m) (f := f) (n := n) (pl := (pl + 1)) (fa := fa) (fp := fp) (kd := kd) (kn := kn) hx hby_ (by omega) hb) (fun oc G2 h => by rcases h with ⟨_, h, _⟩ <;> exact ⟨_, h⟩) (by omega) m_TX_peek ml_RD_79 im_TX_peek se_TX_peek c_TX hx.2.2 (Nat.le_of_ble_eq_true rfl) d_RD_open_15 rfl ?_
  intro v G4 hq
  rcases hq with ⟨v5, hv, hGe, hq6, hq7⟩
  cases hv
  rw [hGe]
  change ab_W _ _ _ G1 18 [some (vR d_), some (vz pl), none, none] [vz v5] _
  refine zz_bipush d_RD_open_18 (by decide) ?_
  refine zz_icmp_eq (tgt := 37) d_RD_open_20 (by decide) (by omega) (by decide) (fun c8 => ?_) (fun c8 => ?_)
  · refine ab_aload_n d_RD_open_37 rfl ?_
    refine ab_getf (fs := [vR x, inn, vz dp, vz flg, vz grp, vR na, vR nl, vz lst, vz mst, vz bh]) f_RD_12 d_RD_open_38 hd_.2.2 rfl ?_
    refine zz_iconst d_RD_open_41 ?_
    refine ab_callV (d' := d - 1) (as := [vz 1]) (st := []) (r := _) (z_TX_peek (o := o) (x := x) (lx := 24) (se := se) (by_ := by_) (lby := 23) (m := m) (f := f) (n := n) (pl := (pl + 1)) (fa := fa) (fp := fp) (kd := kd) (kn := kn) (k := 1) hx hby_ (by omega) hb (by omega)) (fun oc G2 h => by rcases h with ⟨_, h, _⟩ <;> exact ⟨_, h⟩) (by omega) m_TX_peek ml_RD_79 im_TX_peek se_TX_peek c_TX hx.2.2 (Nat.le_of_ble_eq_true rfl) d_RD_open_42 rfl ?_
    intro v G9 hq
    rcases hq with ⟨v10, hv, hGe, hq11, hq12⟩
    cases hv
    rw [hGe]
    change ab_W _ _ _ G1 45 [some (vR d_), some (vz pl), none, none] [vz v10] _
    refine zz_bipush d_RD_open_45 (by decide) ?_
    refine zz_icmp_ne (tgt := 135) d_RD_open_47 (by decide) (by omega) (by decide) (fun c13 => ?_) (fun c13 => ?_)
    · refine ab_aload_n d_RD_open_135 rfl ?_
      refine ab_getf (fs := [vR x, inn, vz dp, vz flg, vz grp, vR na, vR nl, vz lst, vz mst, vz bh]) f_RD_12 d_RD_open_136 hd_.2.2 rfl ?_
      refine ab_iload_n d_RD_open_139 rfl ?_
      refine zz_iconst d_RD_open_140 ?_
      refine zz_iadd d_RD_open_141 ?_
      refine ab_putf (fs := [vR se, vR by_, vz n, vz (pl + 1), vz fa, vz fp, vR kd, vz kn]) f_RD_55 (Or.inl rfl) d_RD_open_142 hx.2.2 (Nat.le_of_ble_eq_true rfl) (fun _ => ⟨rfl, rfl⟩) (hx.2.1 (by decide)) ?_
      obtain ⟨G14, eG14⟩ : ∃ z : ab_G, z = List.set G1 x (ab_ob 10 [vR se, vR by_, vz n, vz (pl + 2), vz fa, vz fp, vR kd, vz kn]) := ⟨_, rfl⟩
      have hd_ := hd_.keep hx eG14 (by decide)
      have hna := hna.keep hx eG14 (by decide)
      have hnl := hnl.keep hx eG14 (by decide)
      have hby_ := hby_.keep hx eG14 (by decide)
      have hst := (fx.rf (o := o) (S := [24]) (G := G1)).wr hx eG14 (List.mem_singleton.mpr rfl)
      have popI_0 := opI.fr hst ppaI_0 popI_0 (by decide) (by decide)
      have pszJ_0 := szJ.fr hst ppaI_0 pszJ_0 (by decide) (by decide)
      have pdnJ_0 := dnJ.fr hst ppaI_0 pdnJ_0 (by decide) (by decide)
      have ppaI_0 := paI.fr hst ppaI_0 (by decide) (by decide) (by decide) (by decide)
      have hq15 := z_len eG14
      have hq16 := z_sl hx eG14 rfl
      have hfr := hfr.wr hx eG14 (by decide)
      have hx := hx.kept eG14
      change ab_W _ _ _ (List.set G1 x (ab_ob 10 [vR se, vR by_, vz n, vz (pl + 2), vz fa, vz fp, vR kd, vz kn])) 145 [some (vR d_), some (vz pl), none, none] [] _
      rw [← eG14]
      refine ab_aload_n d_RD_open_145 rfl ?_
      refine ab_iload_n d_RD_open_146 rfl ?_
      refine ab_callV (d' := d - 1) (as := [vz pl]) (st := []) (r := _) (z_RD_flagsTold (o := o) (d_ := d_) (inn := inn) (dp := dp) (flg := flg) (grp := grp) (na := na) (nl := nl) (lst := lst) (mst := mst) (bh := bh) (x := x) (se := se) (by_ := by_) (m := m) (f := f) (n := n) (pl := (pl + 2)) (fa := fa) (fp := fp) (kd := kd) (kn := kn) (at_ := pl) hd_ hx hby_ (by omega) hb (by omega) (by omega) (by omega) (by omega) (by have t := tpk_w (f := f) (n := n) (i := pl + 1) (by omega); omega) (by omega)) (fun oc G2 h => by rcases h with ⟨_, _, h, _⟩ | ⟨_, _, _, h, _⟩ <;> exact ⟨_, h⟩) (by omega) m_RD_flagsTold ml_RD_166 im_RD_flagsTold se_RD_flagsTold c_RD hd_.2.2 (Nat.le_of_ble_eq_true rfl) d_RD_open_147 rfl ?_
      intro v G17 hq
      rcases hq with ⟨v18, p219, hv, hfk, hlk, hsk, hNx, hNd_, hq20, hq21, hq22⟩ | ⟨p223, fa224, fp225, hv, hfk, hlk, hsk, hNx, hNd_, hq26, hq27, hq28, hq29⟩
      · cases hv
        have hna := hfk.get hna (by decide)
        have hnl := hfk.get hnl (by decide)
        have hby_ := hfk.get hby_ (by decide)
        have popI_0 := opI.fr hfk ppaI_0 popI_0 (by decide) (by decide)
        have pszJ_0 := szJ.fr hfk ppaI_0 pszJ_0 (by decide) (by decide)
        have pdnJ_0 := dnJ.fr hfk ppaI_0 pdnJ_0 (by decide) (by decide)
        have ppaI_0 := paI.fr hfk ppaI_0 (by decide) (by decide) (by decide) (by decide)
        have hfr := hfr.tr hfk (by decide)
        have hq30 := hlk
        have hq31 := hsk
        have hx := hNx
        have hd_ := hNd_
        change ab_W _ _ _ G17 150 [some (vR d_), some (vz pl), none, none] [vz v18] _
        refine ab_istore_n d_RD_open_150 (Nat.le_of_ble_eq_true rfl) (Nat.le_of_ble_eq_true rfl) rfl ?_
        change ab_W _ _ _ G17 151 [some (vR d_), some (vz pl), some (vz v18), none] [] _
        refine ab_aload_n d_RD_open_151 rfl ?_
        refine ab_getf (fs := [vR x, inn, vz dp, vz flg, vz grp, vR na, vR nl, vz lst, vz mst, vz bh]) f_RD_12 d_RD_open_152 hd_.2.2 rfl ?_
        refine zz_iconst d_RD_open_155 ?_
        refine ab_callV (d' := d - 1) (as := [vz 0]) (st := []) (r := _) (z_TX_peek0 (o := o) (x := x) (lx := 24) (se := se) (by_ := by_) (lby := 23) (m := m) (f := f) (n := n) (pl := p219) (fa := fa) (fp := fp) (kd := kd) (kn := kn) hx hby_ (by omega) hb) (fun oc G2 h => by rcases h with ⟨_, h, _⟩ <;> exact ⟨_, h⟩) (by omega) m_TX_peek ml_RD_79 im_TX_peek se_TX_peek c_TX hx.2.2 (Nat.le_of_ble_eq_true rfl) d_RD_open_156 rfl ?_
        intro v G34 hq
        rcases hq with ⟨v35, hv, hGe, hq36, hq37⟩
        cases hv
        rw [hGe]
        change ab_W _ _ _ G17 159 [some (vR d_), some (vz pl), some (vz v18), none] [vz v35] _
        refine zz_bipush d_RD_open_159 (by decide) ?_
        refine zz_icmp_ne (tgt := 168) d_RD_open_161 (by decide) (by omega) (by decide) (fun c38 => ?_) (fun c38 => ?_)
        · refine zz_iconst d_RD_open_168 ?_
          refine ab_istore_n d_RD_open_169 (Nat.le_of_ble_eq_true rfl) (Nat.le_of_ble_eq_true rfl) rfl ?_
          change ab_W _ _ _ G17 170 [some (vR d_), some (vz pl), some (vz v18), some (vz 0)] [] _
          refine ab_aload_n d_RD_open_170 rfl ?_
          refine ab_getf (fs := [vR x, inn, vz dp, vz flg, vz grp, vR na, vR nl, vz lst, vz mst, vz bh]) f_RD_12 d_RD_open_171 hd_.2.2 rfl ?_
          refine ab_dup d_RD_open_174 rfl ?_
          refine ab_getf (fs := [vR se, vR by_, vz n, vz p219, vz fa, vz fp, vR kd, vz kn]) f_RD_55 d_RD_open_175 hx.2.2 rfl ?_
          refine zz_iconst d_RD_open_178 ?_
          refine zz_iadd d_RD_open_179 ?_
          refine ab_putf (fs := [vR se, vR by_, vz n, vz p219, vz fa, vz fp, vR kd, vz kn]) f_RD_55 (Or.inl rfl) d_RD_open_180 hx.2.2 (Nat.le_of_ble_eq_true rfl) (fun _ => ⟨rfl, rfl⟩) (hx.2.1 (by decide)) ?_
          obtain ⟨G39, eG39⟩ : ∃ z : ab_G, z = List.set G17 x (ab_ob 10 [vR se, vR by_, vz n, vz (p219 + 1), vz fa, vz fp, vR kd, vz kn]) := ⟨_, rfl⟩
          have hd_ := hd_.keep hx eG39 (by decide)
          have hna := hna.keep hx eG39 (by decide)
          have hnl := hnl.keep hx eG39 (by decide)
          have hby_ := hby_.keep hx eG39 (by decide)
          have hst := (fx.rf (o := o) (S := [24]) (G := G17)).wr hx eG39 (List.mem_singleton.mpr rfl)
          have popI_0 := opI.fr hst ppaI_0 popI_0 (by decide) (by decide)
          have pszJ_0 := szJ.fr hst ppaI_0 pszJ_0 (by decide) (by decide)
          have pdnJ_0 := dnJ.fr hst ppaI_0 pdnJ_0 (by decide) (by decide)
          have ppaI_0 := paI.fr hst ppaI_0 (by decide) (by decide) (by decide) (by decide)
          have hq40 := z_len eG39
          have hq41 := z_sl hx eG39 rfl
          have hfr := hfr.wr hx eG39 (by decide)
          have hx := hx.kept eG39
          change ab_W _ _ _ (List.set G17 x (ab_ob 10 [vR se, vR by_, vz n, vz (p219 + 1), vz fa, vz fp, vR kd, vz kn])) 183 [some (vR d_), some (vz pl), some (vz v18), some (vz 0)] [] _
          rw [← eG39]
          refine ab_iload_n d_RD_open_183 rfl ?_
          refine zz_iconst d_RD_open_184 ?_
          refine zz_icmp_eq (tgt := 203) d_RD_open_185 (by decide) (by omega) (by decide) (fun c42 => absurd c42 (by omega)) (fun c42 => ?_)
          refine ab_iload_n d_RD_open_188 rfl ?_
          refine zz_if_eq (tgt := 203) d_RD_open_189 (by decide) (by decide) (fun c43 => ?_) (fun c43 => absurd c43 (by decide))
          refine ab_iload_n d_RD_open_203 rfl ?_
          refine zz_iconst d_RD_open_204 ?_
          refine zz_icmp_eq (tgt := 213) d_RD_open_205 (by decide) (by omega) (by decide) (fun c44 => absurd c44 (by omega)) (fun c44 => ?_)
          refine ab_aload_n d_RD_open_208 rfl ?_
          refine ab_iload_n d_RD_open_209 rfl ?_
          refine ab_putf (fs := [vR x, inn, vz dp, vz flg, vz grp, vR na, vR nl, vz lst, vz mst, vz bh]) f_RD_38 (Or.inl rfl) d_RD_open_210 hd_.2.2 (Nat.le_of_ble_eq_true rfl) (fun _ => ⟨rfl, rfl⟩) (hd_.2.1 (by decide)) ?_
          obtain ⟨G45, eG45⟩ : ∃ z : ab_G, z = List.set G39 d_ (ab_ob 6 [vR x, inn, vz dp, vz v18, vz grp, vR na, vR nl, vz lst, vz mst, vz bh]) := ⟨_, rfl⟩
          have hx := hx.keep hd_ eG45 (by decide)
          have hna := hna.keep hd_ eG45 (by decide)
          have hnl := hnl.keep hd_ eG45 (by decide)
          have hby_ := hby_.keep hd_ eG45 (by decide)
          have hst := (fx.rf (o := o) (S := [25]) (G := G39)).wr hd_ eG45 (List.mem_singleton.mpr rfl)
          have popI_0 := opI.fr hst ppaI_0 popI_0 (by decide) (by decide)
          have pszJ_0 := szJ.fr hst ppaI_0 pszJ_0 (by decide) (by decide)
          have pdnJ_0 := dnJ.fr hst ppaI_0 pdnJ_0 (by decide) (by decide)
          have ppaI_0 := paI.fr hst ppaI_0 (by decide) (by decide) (by decide) (by decide)
          have hq46 := z_len eG45
          have hq47 := z_sl hd_ eG45 rfl
          have hfr := hfr.wr hd_ eG45 (by decide)
          have hd_ := hd_.kept eG45
          change ab_W _ _ _ (List.set G39 d_ (ab_ob 6 [vR x, inn, vz dp, vz v18, vz grp, vR na, vR nl, vz lst, vz mst, vz bh])) 213 [some (vR d_), some (vz pl), some (vz v18), some (vz 0)] [] _
          rw [← eG45]
          refine ab_vret rfl d_RD_open_213 ?_
          rw [hQ]; exact (Or.inr (Or.inr (Or.inr (Or.inl ⟨_, _, _, rfl, hfr, hd_, hx, hna, hnl, ppaI_0, popI_0, pszJ_0, pdnJ_0, (by omega), (by omega), (by exact hq22), (by omega), (by omega), (by omega), (by omega)⟩))))
        · refine zz_iconst d_RD_open_164 ?_
          refine ab_goto (tgt := 169) d_RD_open_165 (by decide) ?_
          refine ab_istore_n d_RD_open_169 (Nat.le_of_ble_eq_true rfl) (Nat.le_of_ble_eq_true rfl) rfl ?_
          change ab_W _ _ _ G17 170 [some (vR d_), some (vz pl), some (vz v18), some (vz 1)] [] _
          refine ab_aload_n d_RD_open_170 rfl ?_
          refine ab_getf (fs := [vR x, inn, vz dp, vz flg, vz grp, vR na, vR nl, vz lst, vz mst, vz bh]) f_RD_12 d_RD_open_171 hd_.2.2 rfl ?_
          refine ab_dup d_RD_open_174 rfl ?_
          refine ab_getf (fs := [vR se, vR by_, vz n, vz p219, vz fa, vz fp, vR kd, vz kn]) f_RD_55 d_RD_open_175 hx.2.2 rfl ?_
          refine zz_iconst d_RD_open_178 ?_
          refine zz_iadd d_RD_open_179 ?_
          refine ab_putf (fs := [vR se, vR by_, vz n, vz p219, vz fa, vz fp, vR kd, vz kn]) f_RD_55 (Or.inl rfl) d_RD_open_180 hx.2.2 (Nat.le_of_ble_eq_true rfl) (fun _ => ⟨rfl, rfl⟩) (hx.2.1 (by decide)) ?_
          obtain ⟨G48, eG48⟩ : ∃ z : ab_G, z = List.set G17 x (ab_ob 10 [vR se, vR by_, vz n, vz (p219 + 1), vz fa, vz fp, vR kd, vz kn]) := ⟨_, rfl⟩
          have hd_ := hd_.keep hx eG48 (by decide)
          have hna := hna.keep hx eG48 (by decide)
          have hnl := hnl.keep hx eG48 (by decide)
          have hby_ := hby_.keep hx eG48 (by decide)
          have hst := (fx.rf (o := o) (S := [24]) (G := G17)).wr hx eG48 (List.mem_singleton.mpr rfl)
          have popI_0 := opI.fr hst ppaI_0 popI_0 (by decide) (by decide)
          have pszJ_0 := szJ.fr hst ppaI_0 pszJ_0 (by decide) (by decide)
          have pdnJ_0 := dnJ.fr hst ppaI_0 pdnJ_0 (by decide) (by decide)
          have ppaI_0 := paI.fr hst ppaI_0 (by decide) (by decide) (by decide) (by decide)
          have hq49 := z_len eG48
          have hq50 := z_sl hx eG48 rfl
          have hfr := hfr.wr hx eG48 (by decide)
          have hx := hx.kept eG48
          change ab_W _ _ _ (List.set G17 x (ab_ob 10 [vR se, vR by_, vz n, vz (p219 + 1), vz fa, vz fp, vR kd, vz kn])) 183 [some (vR d_), some (vz pl), some (vz v18), some (vz 1)] [] _
          rw [← eG48]
          refine ab_iload_n d_RD_open_183 rfl ?_
          refine zz_iconst d_RD_open_184 ?_
          refine zz_icmp_eq (tgt := 203) d_RD_open_185 (by decide) (by omega) (by decide) (fun c51 => absurd c51 (by omega)) (fun c51 => ?_)
          refine ab_iload_n d_RD_open_188 rfl ?_
          refine zz_if_eq (tgt := 203) d_RD_open_189 (by decide) (by decide) (fun c52 => absurd c52 (by decide)) (fun c52 => ?_)
          refine ab_aload_n d_RD_open_192 rfl ?_
          refine ab_iload_n d_RD_open_193 rfl ?_
          refine zz_iconst d_RD_open_194 ?_
          refine ab_iload_n d_RD_open_195 rfl ?_
          refine zz_iconst d_RD_open_196 ?_
          refine ab_callV (d' := d - 1) (as := [vz pl, vz 0, vz v18, vz 0]) (st := []) (r := _) (zc_RD_enter (o := o) (d_ := d_) (inn := inn) (dp := dp) (flg := flg) (grp := grp) (na := na) (nl := nl) (lst := lst) (mst := mst) (bh := bh) (NA := NA) (NL := NL) (x := x) (se := se) (by_ := by_) (n := n) (pl := (p219 + 1)) (fa := fa) (fp := fp) (kd := kd) (kn := kn) (ps := ps) (wt := wt) (bs := bs) (ph := ph) (k := k) (hi := hi) (wh := wh) (fr := fr) (FS := FS) (at_ := pl) (ins := v18) hd_ hx hna hnl ppaI_0 popI_0 pszJ_0 pdnJ_0 (by omega) (by omega) (by omega) (by omega) (by omega) hnm (by omega) (by omega) (by omega) (by omega) (by omega) (by omega) (by omega) (by omega)) (fun oc G2 h => by rcases h with ⟨_, _, _, h, _⟩ | ⟨_, _, _, _, _, _, _, h, _⟩ <;> exact ⟨_, h⟩) (by omega) m_RD_enter ml_RD_155 im_RD_enter se_RD_enter c_RD hd_.2.2 (Nat.le_of_ble_eq_true rfl) d_RD_open_197 rfl ?_
          intro v G53 hq
          rcases hq with ⟨o54, fa255, fp256, hv, hfk, hNd_, hNx, hNna, hNnl, pNpaI_0, pNopI_0, pNszJ_0, pNdnJ_0, hq57, hq58, hq59, hq60⟩ | ⟨o61, inn262, k263, hi264, ps265, wt266, ph267, hv, hfk, hNd_, hNx, hNna, hNnl, pNpaI_0, pNopI_0, pNszJ_0, pNdnJ_0, hq68, hq69, hq70, hq71, hq72, hq73, hq74, hq75⟩
          · cases hv
            have hby_ := hfk.get hby_ (by decide)
            have ppaI_0 := pNpaI_0
            have popI_0 := pNopI_0
            have pszJ_0 := pNszJ_0
            have pdnJ_0 := pNdnJ_0
            have hfr := hfr.tr hfk (by decide)
            have hq76 := hfk.1
            have hd_ := hNd_
            have hx := hNx
            have hna := hNna
            have hnl := hNnl
            change ab_W _ _ _ G53 200 [some (vR d_), some (vz pl), some (vz v18), some (vz 1)] [] _
            refine ab_goto (tgt := 213) d_RD_open_200 (by decide) ?_
            refine ab_vret rfl d_RD_open_213 ?_
            rw [hQ]; exact (Or.inr (Or.inr (Or.inr (Or.inr ⟨_, _, _, _, rfl, hfr, hd_, hx, hna, hnl, ppaI_0, popI_0, pszJ_0, pdnJ_0, (by exact Or.inr (Or.inr ⟨by omega, by omega, Or.inr ⟨_, _, hq22, by omega, (by have t := hq57; unfold entF at t; omega), (by have t := hq57; unfold entF at t; omega)⟩⟩)), (by have t := hq57; unfold entF at t; omega), (by omega), (by omega), (by omega)⟩))))
          · cases hv
            have hby_ := hfk.get hby_ (by decide)
            have ppaI_0 := pNpaI_0
            have popI_0 := pNopI_0
            have pszJ_0 := pNszJ_0
            have pdnJ_0 := pNdnJ_0
            have hfr := hfr.tr hfk (by decide)
            have hq77 := hfk.1
            have hd_ := hNd_
            have hx := hNx
            have hna := hNna
            have hnl := hNnl
            change ab_W _ _ _ G53 200 [some (vR d_), some (vz pl), some (vz v18), some (vz 1)] [] _
            refine ab_goto (tgt := 213) d_RD_open_200 (by decide) ?_
            refine ab_vret rfl d_RD_open_213 ?_
            rw [hQ]; exact (Or.inr (Or.inr (Or.inl ⟨_, _, _, _, _, _, _, _, _, rfl, hfr, hd_, hx, hna, hnl, ppaI_0, popI_0, pszJ_0, pdnJ_0, (by omega), (by omega), (by exact hq22), (by omega), (by omega), (by omega), (by exact hq70), (by omega), (by exact hq72.lt (by omega)), (by omega), (by omega), (by omega)⟩)))
      · cases hv
        have hna := hfk.get hna (by decide)
        have hnl := hfk.get hnl (by decide)
        have hby_ := hfk.get hby_ (by decide)
        have popI_0 := opI.fr hfk ppaI_0 popI_0 (by decide) (by decide)
        have pszJ_0 := szJ.fr hfk ppaI_0 pszJ_0 (by decide) (by decide)
        have pdnJ_0 := dnJ.fr hfk ppaI_0 pdnJ_0 (by decide) (by decide)
        have ppaI_0 := paI.fr hfk ppaI_0 (by decide) (by decide) (by decide) (by decide)
        have hfr := hfr.tr hfk (by decide)
        have hq32 := hlk
        have hq33 := hsk
        have hx := hNx
        have hd_ := hNd_
        change ab_W _ _ _ G17 150 [some (vR d_), some (vz pl), none, none] [vz (-1)] _
        refine ab_istore_n d_RD_open_150 (Nat.le_of_ble_eq_true rfl) (Nat.le_of_ble_eq_true rfl) rfl ?_
        change ab_W _ _ _ G17 151 [some (vR d_), some (vz pl), some (vz (-1)), none] [] _
        refine ab_aload_n d_RD_open_151 rfl ?_
        refine ab_getf (fs := [vR x, inn, vz dp, vz flg, vz grp, vR na, vR nl, vz lst, vz mst, vz bh]) f_RD_12 d_RD_open_152 hd_.2.2 rfl ?_
        refine zz_iconst d_RD_open_155 ?_
        refine ab_callV (d' := d - 1) (as := [vz 0]) (st := []) (r := _) (z_TX_peek0 (o := o) (x := x) (lx := 24) (se := se) (by_ := by_) (lby := 23) (m := m) (f := f) (n := n) (pl := p223) (fa := fa224) (fp := fp225) (kd := kd) (kn := kn) hx hby_ (by omega) hb) (fun oc G2 h => by rcases h with ⟨_, h, _⟩ <;> exact ⟨_, h⟩) (by omega) m_TX_peek ml_RD_79 im_TX_peek se_TX_peek c_TX hx.2.2 (Nat.le_of_ble_eq_true rfl) d_RD_open_156 rfl ?_
        intro v G78 hq
        rcases hq with ⟨v79, hv, hGe, hq80, hq81⟩
        cases hv
        rw [hGe]
        change ab_W _ _ _ G17 159 [some (vR d_), some (vz pl), some (vz (-1)), none] [vz v79] _
        refine zz_bipush d_RD_open_159 (by decide) ?_
        refine zz_icmp_ne (tgt := 168) d_RD_open_161 (by decide) (by omega) (by decide) (fun c82 => ?_) (fun c82 => ?_)
        · refine zz_iconst d_RD_open_168 ?_
          refine ab_istore_n d_RD_open_169 (Nat.le_of_ble_eq_true rfl) (Nat.le_of_ble_eq_true rfl) rfl ?_
          change ab_W _ _ _ G17 170 [some (vR d_), some (vz pl), some (vz (-1)), some (vz 0)] [] _
          refine ab_aload_n d_RD_open_170 rfl ?_
          refine ab_getf (fs := [vR x, inn, vz dp, vz flg, vz grp, vR na, vR nl, vz lst, vz mst, vz bh]) f_RD_12 d_RD_open_171 hd_.2.2 rfl ?_
          refine ab_dup d_RD_open_174 rfl ?_
          refine ab_getf (fs := [vR se, vR by_, vz n, vz p223, vz fa224, vz fp225, vR kd, vz kn]) f_RD_55 d_RD_open_175 hx.2.2 rfl ?_
          refine zz_iconst d_RD_open_178 ?_
          refine zz_iadd d_RD_open_179 ?_
          refine ab_putf (fs := [vR se, vR by_, vz n, vz p223, vz fa224, vz fp225, vR kd, vz kn]) f_RD_55 (Or.inl rfl) d_RD_open_180 hx.2.2 (Nat.le_of_ble_eq_true rfl) (fun _ => ⟨rfl, rfl⟩) (hx.2.1 (by decide)) ?_
          obtain ⟨G83, eG83⟩ : ∃ z : ab_G, z = List.set G17 x (ab_ob 10 [vR se, vR by_, vz n, vz (p223 + 1), vz fa224, vz fp225, vR kd, vz kn]) := ⟨_, rfl⟩
          have hd_ := hd_.keep hx eG83 (by decide)
          have hna := hna.keep hx eG83 (by decide)
          have hnl := hnl.keep hx eG83 (by decide)
          have hby_ := hby_.keep hx eG83 (by decide)
          have hst := (fx.rf (o := o) (S := [24]) (G := G17)).wr hx eG83 (List.mem_singleton.mpr rfl)
          have popI_0 := opI.fr hst ppaI_0 popI_0 (by decide) (by decide)
          have pszJ_0 := szJ.fr hst ppaI_0 pszJ_0 (by decide) (by decide)
          have pdnJ_0 := dnJ.fr hst ppaI_0 pdnJ_0 (by decide) (by decide)
          have ppaI_0 := paI.fr hst ppaI_0 (by decide) (by decide) (by decide) (by decide)
          have hq84 := z_len eG83
          have hq85 := z_sl hx eG83 rfl
          have hfr := hfr.wr hx eG83 (by decide)
          have hx := hx.kept eG83
          change ab_W _ _ _ (List.set G17 x (ab_ob 10 [vR se, vR by_, vz n, vz (p223 + 1), vz fa224, vz fp225, vR kd, vz kn])) 183 [some (vR d_), some (vz pl), some (vz (-1)), some (vz 0)] [] _
          rw [← eG83]
          refine ab_iload_n d_RD_open_183 rfl ?_
          refine zz_iconst d_RD_open_184 ?_
          refine zz_icmp_eq (tgt := 203) d_RD_open_185 (by decide) (by decide) (by decide) (fun c86 => ?_) (fun c86 => absurd c86 (by decide))
          refine ab_iload_n d_RD_open_203 rfl ?_
          refine zz_iconst d_RD_open_204 ?_
          refine zz_icmp_eq (tgt := 213) d_RD_open_205 (by decide) (by decide) (by decide) (fun c87 => ?_) (fun c87 => absurd c87 (by decide))
          refine ab_vret rfl d_RD_open_213 ?_
          rw [hQ]; exact (Or.inr (Or.inr (Or.inr (Or.inr ⟨_, _, _, _, rfl, hfr, hd_, hx, hna, hnl, ppaI_0, popI_0, pszJ_0, pdnJ_0, (by exact Or.inr (Or.inr ⟨by omega, by omega, Or.inl ⟨hq29, by omega⟩⟩)), (by omega), (by omega), (by omega), (by omega)⟩))))
        · refine zz_iconst d_RD_open_164 ?_
          refine ab_goto (tgt := 169) d_RD_open_165 (by decide) ?_
          refine ab_istore_n d_RD_open_169 (Nat.le_of_ble_eq_true rfl) (Nat.le_of_ble_eq_true rfl) rfl ?_
          change ab_W _ _ _ G17 170 [some (vR d_), some (vz pl), some (vz (-1)), some (vz 1)] [] _
          refine ab_aload_n d_RD_open_170 rfl ?_
          refine ab_getf (fs := [vR x, inn, vz dp, vz flg, vz grp, vR na, vR nl, vz lst, vz mst, vz bh]) f_RD_12 d_RD_open_171 hd_.2.2 rfl ?_
          refine ab_dup d_RD_open_174 rfl ?_
          refine ab_getf (fs := [vR se, vR by_, vz n, vz p223, vz fa224, vz fp225, vR kd, vz kn]) f_RD_55 d_RD_open_175 hx.2.2 rfl ?_
          refine zz_iconst d_RD_open_178 ?_
          refine zz_iadd d_RD_open_179 ?_
          refine ab_putf (fs := [vR se, vR by_, vz n, vz p223, vz fa224, vz fp225, vR kd, vz kn]) f_RD_55 (Or.inl rfl) d_RD_open_180 hx.2.2 (Nat.le_of_ble_eq_true rfl) (fun _ => ⟨rfl, rfl⟩) (hx.2.1 (by decide)) ?_
          obtain ⟨G88, eG88⟩ : ∃ z : ab_G, z = List.set G17 x (ab_ob 10 [vR se, vR by_, vz n, vz (p223 + 1), vz fa224, vz fp225, vR kd, vz kn]) := ⟨_, rfl⟩
          have hd_ := hd_.keep hx eG88 (by decide)
          have hna := hna.keep hx eG88 (by decide)
          have hnl := hnl.keep hx eG88 (by decide)
          have hby_ := hby_.keep hx eG88 (by decide)
          have hst := (fx.rf (o := o) (S := [24]) (G := G17)).wr hx eG88 (List.mem_singleton.mpr rfl)
          have popI_0 := opI.fr hst ppaI_0 popI_0 (by decide) (by decide)
          have pszJ_0 := szJ.fr hst ppaI_0 pszJ_0 (by decide) (by decide)
          have pdnJ_0 := dnJ.fr hst ppaI_0 pdnJ_0 (by decide) (by decide)
          have ppaI_0 := paI.fr hst ppaI_0 (by decide) (by decide) (by decide) (by decide)
          have hq89 := z_len eG88
          have hq90 := z_sl hx eG88 rfl
          have hfr := hfr.wr hx eG88 (by decide)
          have hx := hx.kept eG88
          change ab_W _ _ _ (List.set G17 x (ab_ob 10 [vR se, vR by_, vz n, vz (p223 + 1), vz fa224, vz fp225, vR kd, vz kn])) 183 [some (vR d_), some (vz pl), some (vz (-1)), some (vz 1)] [] _
          rw [← eG88]
          refine ab_iload_n d_RD_open_183 rfl ?_
          refine zz_iconst d_RD_open_184 ?_
          refine zz_icmp_eq (tgt := 203) d_RD_open_185 (by decide) (by decide) (by decide) (fun c91 => ?_) (fun c91 => absurd c91 (by decide))
          refine ab_iload_n d_RD_open_203 rfl ?_
          refine zz_iconst d_RD_open_204 ?_
          refine zz_icmp_eq (tgt := 213) d_RD_open_205 (by decide) (by decide) (by decide) (fun c92 => ?_) (fun c92 => absurd c92 (by decide))
          refine ab_vret rfl d_RD_open_213 ?_
          rw [hQ]; exact (Or.inr (Or.inr (Or.inr (Or.inr ⟨_, _, _, _, rfl, hfr, hd_, hx, hna, hnl, ppaI_0, popI_0, pszJ_0, pdnJ_0, (by exact Or.inr (Or.inr ⟨by omega, by omega, Or.inl ⟨hq29, by omega⟩⟩)), (by omega), (by omega), (by omega), (by omega)⟩))))
    · refine ab_aload_n d_RD_open_50 rfl ?_
      refine ab_getf (fs := [vR x, inn, vz dp, vz flg, vz grp, vR na, vR nl, vz lst, vz mst, vz bh]) f_RD_12 d_RD_open_51 hd_.2.2 rfl ?_
      refine zz_iconst d_RD_open_54 ?_
      refine ab_callV (d' := d - 1) (as := [vz 2]) (st := []) (r := _) (z_TX_peek (o := o) (x := x) (lx := 24) (se := se) (by_ := by_) (lby := 23) (m := m) (f := f) (n := n) (pl := (pl + 1)) (fa := fa) (fp := fp) (kd := kd) (kn := kn) (k := 2) hx hby_ (by omega) hb (by omega)) (fun oc G2 h => by rcases h with ⟨_, h, _⟩ <;> exact ⟨_, h⟩) (by omega) m_TX_peek ml_RD_79 im_TX_peek se_TX_peek c_TX hx.2.2 (Nat.le_of_ble_eq_true rfl) d_RD_open_55 rfl ?_
      intro v G93 hq
      rcases hq with ⟨v94, hv, hGe, hq95, hq96⟩
      cases hv
      rw [hGe]
      change ab_W _ _ _ G1 58 [some (vR d_), some (vz pl), none, none] [vz v94] _
      refine zz_bipush d_RD_open_58 (by decide) ?_
      refine zz_icmp_ne (tgt := 135) d_RD_open_60 (by decide) (by omega) (by decide) (fun c97 => ?_) (fun c97 => ?_)
      · refine ab_aload_n d_RD_open_135 rfl ?_
        refine ab_getf (fs := [vR x, inn, vz dp, vz flg, vz grp, vR na, vR nl, vz lst, vz mst, vz bh]) f_RD_12 d_RD_open_136 hd_.2.2 rfl ?_
        refine ab_iload_n d_RD_open_139 rfl ?_
        refine zz_iconst d_RD_open_140 ?_
        refine zz_iadd d_RD_open_141 ?_
        refine ab_putf (fs := [vR se, vR by_, vz n, vz (pl + 1), vz fa, vz fp, vR kd, vz kn]) f_RD_55 (Or.inl rfl) d_RD_open_142 hx.2.2 (Nat.le_of_ble_eq_true rfl) (fun _ => ⟨rfl, rfl⟩) (hx.2.1 (by decide)) ?_
        obtain ⟨G98, eG98⟩ : ∃ z : ab_G, z = List.set G1 x (ab_ob 10 [vR se, vR by_, vz n, vz (pl + 2), vz fa, vz fp, vR kd, vz kn]) := ⟨_, rfl⟩
        have hd_ := hd_.keep hx eG98 (by decide)
        have hna := hna.keep hx eG98 (by decide)
        have hnl := hnl.keep hx eG98 (by decide)
        have hby_ := hby_.keep hx eG98 (by decide)
        have hst := (fx.rf (o := o) (S := [24]) (G := G1)).wr hx eG98 (List.mem_singleton.mpr rfl)
        have popI_0 := opI.fr hst ppaI_0 popI_0 (by decide) (by decide)
        have pszJ_0 := szJ.fr hst ppaI_0 pszJ_0 (by decide) (by decide)
        have pdnJ_0 := dnJ.fr hst ppaI_0 pdnJ_0 (by decide) (by decide)
        have ppaI_0 := paI.fr hst ppaI_0 (by decide) (by decide) (by decide) (by decide)
        have hq99 := z_len eG98
        have hq100 := z_sl hx eG98 rfl
        have hfr := hfr.wr hx eG98 (by decide)
        have hx := hx.kept eG98
        change ab_W _ _ _ (List.set G1 x (ab_ob 10 [vR se, vR by_, vz n, vz (pl + 2), vz fa, vz fp, vR kd, vz kn])) 145 [some (vR d_), some (vz pl), none, none] [] _
        rw [← eG98]
        refine ab_aload_n d_RD_open_145 rfl ?_
        refine ab_iload_n d_RD_open_146 rfl ?_
        refine ab_callV (d' := d - 1) (as := [vz pl]) (st := []) (r := _) (z_RD_flagsTold (o := o) (d_ := d_) (inn := inn) (dp := dp) (flg := flg) (grp := grp) (na := na) (nl := nl) (lst := lst) (mst := mst) (bh := bh) (x := x) (se := se) (by_ := by_) (m := m) (f := f) (n := n) (pl := (pl + 2)) (fa := fa) (fp := fp) (kd := kd) (kn := kn) (at_ := pl) hd_ hx hby_ (by omega) hb (by omega) (by omega) (by omega) (by omega) (by have t := tpk_w (f := f) (n := n) (i := pl + 1) (by omega); omega) (by omega)) (fun oc G2 h => by rcases h with ⟨_, _, h, _⟩ | ⟨_, _, _, h, _⟩ <;> exact ⟨_, h⟩) (by omega) m_RD_flagsTold ml_RD_166 im_RD_flagsTold se_RD_flagsTold c_RD hd_.2.2 (Nat.le_of_ble_eq_true rfl) d_RD_open_147 rfl ?_
        intro v G101 hq
        rcases hq with ⟨v102, p2103, hv, hfk, hlk, hsk, hNx, hNd_, hq104, hq105, hq106⟩ | ⟨p2107, fa2108, fp2109, hv, hfk, hlk, hsk, hNx, hNd_, hq110, hq111, hq112, hq113⟩
        · cases hv
          have hna := hfk.get hna (by decide)
          have hnl := hfk.get hnl (by decide)
          have hby_ := hfk.get hby_ (by decide)
          have popI_0 := opI.fr hfk ppaI_0 popI_0 (by decide) (by decide)
          have pszJ_0 := szJ.fr hfk ppaI_0 pszJ_0 (by decide) (by decide)
          have pdnJ_0 := dnJ.fr hfk ppaI_0 pdnJ_0 (by decide) (by decide)
          have ppaI_0 := paI.fr hfk ppaI_0 (by decide) (by decide) (by decide) (by decide)
          have hfr := hfr.tr hfk (by decide)
          have hq114 := hlk
          have hq115 := hsk
          have hx := hNx
          have hd_ := hNd_
          change ab_W _ _ _ G101 150 [some (vR d_), some (vz pl), none, none] [vz v102] _
          refine ab_istore_n d_RD_open_150 (Nat.le_of_ble_eq_true rfl) (Nat.le_of_ble_eq_true rfl) rfl ?_
          change ab_W _ _ _ G101 151 [some (vR d_), some (vz pl), some (vz v102), none] [] _
          refine ab_aload_n d_RD_open_151 rfl ?_
          refine ab_getf (fs := [vR x, inn, vz dp, vz flg, vz grp, vR na, vR nl, vz lst, vz mst, vz bh]) f_RD_12 d_RD_open_152 hd_.2.2 rfl ?_
          refine zz_iconst d_RD_open_155 ?_
          refine ab_callV (d' := d - 1) (as := [vz 0]) (st := []) (r := _) (z_TX_peek0 (o := o) (x := x) (lx := 24) (se := se) (by_ := by_) (lby := 23) (m := m) (f := f) (n := n) (pl := p2103) (fa := fa) (fp := fp) (kd := kd) (kn := kn) hx hby_ (by omega) hb) (fun oc G2 h => by rcases h with ⟨_, h, _⟩ <;> exact ⟨_, h⟩) (by omega) m_TX_peek ml_RD_79 im_TX_peek se_TX_peek c_TX hx.2.2 (Nat.le_of_ble_eq_true rfl) d_RD_open_156 rfl ?_
          intro v G118 hq
          rcases hq with ⟨v119, hv, hGe, hq120, hq121⟩
          cases hv
          rw [hGe]
          change ab_W _ _ _ G101 159 [some (vR d_), some (vz pl), some (vz v102), none] [vz v119] _
          refine zz_bipush d_RD_open_159 (by decide) ?_
          refine zz_icmp_ne (tgt := 168) d_RD_open_161 (by decide) (by omega) (by decide) (fun c122 => ?_) (fun c122 => ?_)
          · refine zz_iconst d_RD_open_168 ?_
            refine ab_istore_n d_RD_open_169 (Nat.le_of_ble_eq_true rfl) (Nat.le_of_ble_eq_true rfl) rfl ?_
            change ab_W _ _ _ G101 170 [some (vR d_), some (vz pl), some (vz v102), some (vz 0)] [] _
            refine ab_aload_n d_RD_open_170 rfl ?_
            refine ab_getf (fs := [vR x, inn, vz dp, vz flg, vz grp, vR na, vR nl, vz lst, vz mst, vz bh]) f_RD_12 d_RD_open_171 hd_.2.2 rfl ?_
            refine ab_dup d_RD_open_174 rfl ?_
            refine ab_getf (fs := [vR se, vR by_, vz n, vz p2103, vz fa, vz fp, vR kd, vz kn]) f_RD_55 d_RD_open_175 hx.2.2 rfl ?_
            refine zz_iconst d_RD_open_178 ?_
            refine zz_iadd d_RD_open_179 ?_
            refine ab_putf (fs := [vR se, vR by_, vz n, vz p2103, vz fa, vz fp, vR kd, vz kn]) f_RD_55 (Or.inl rfl) d_RD_open_180 hx.2.2 (Nat.le_of_ble_eq_true rfl) (fun _ => ⟨rfl, rfl⟩) (hx.2.1 (by decide)) ?_
            obtain ⟨G123, eG123⟩ : ∃ z : ab_G, z = List.set G101 x (ab_ob 10 [vR se, vR by_, vz n, vz (p2103 + 1), vz fa, vz fp, vR kd, vz kn]) := ⟨_, rfl⟩
            have hd_ := hd_.keep hx eG123 (by decide)
            have hna := hna.keep hx eG123 (by decide)
            have hnl := hnl.keep hx eG123 (by decide)
            have hby_ := hby_.keep hx eG123 (by decide)
            have hst := (fx.rf (o := o) (S := [24]) (G := G101)).wr hx eG123 (List.mem_singleton.mpr rfl)
            have popI_0 := opI.fr hst ppaI_0 popI_0 (by decide) (by decide)
            have pszJ_0 := szJ.fr hst ppaI_0 pszJ_0 (by decide) (by decide)
            have pdnJ_0 := dnJ.fr hst ppaI_0 pdnJ_0 (by decide) (by decide)
            have ppaI_0 := paI.fr hst ppaI_0 (by decide) (by decide) (by decide) (by decide)
            have hq124 := z_len eG123
            have hq125 := z_sl hx eG123 rfl
            have hfr := hfr.wr hx eG123 (by decide)
            have hx := hx.kept eG123
            change ab_W _ _ _ (List.set G101 x (ab_ob 10 [vR se, vR by_, vz n, vz (p2103 + 1), vz fa, vz fp, vR kd, vz kn])) 183 [some (vR d_), some (vz pl), some (vz v102), some (vz 0)] [] _
            rw [← eG123]
            refine ab_iload_n d_RD_open_183 rfl ?_
            refine zz_iconst d_RD_open_184 ?_
            refine zz_icmp_eq (tgt := 203) d_RD_open_185 (by decide) (by omega) (by decide) (fun c126 => absurd c126 (by omega)) (fun c126 => ?_)
            refine ab_iload_n d_RD_open_188 rfl ?_
            refine zz_if_eq (tgt := 203) d_RD_open_189 (by decide) (by decide) (fun c127 => ?_) (fun c127 => absurd c127 (by decide))
            refine ab_iload_n d_RD_open_203 rfl ?_
            refine zz_iconst d_RD_open_204 ?_
            refine zz_icmp_eq (tgt := 213) d_RD_open_205 (by decide) (by omega) (by decide) (fun c128 => absurd c128 (by omega)) (fun c128 => ?_)
            refine ab_aload_n d_RD_open_208 rfl ?_
            refine ab_iload_n d_RD_open_209 rfl ?_
            refine ab_putf (fs := [vR x, inn, vz dp, vz flg, vz grp, vR na, vR nl, vz lst, vz mst, vz bh]) f_RD_38 (Or.inl rfl) d_RD_open_210 hd_.2.2 (Nat.le_of_ble_eq_true rfl) (fun _ => ⟨rfl, rfl⟩) (hd_.2.1 (by decide)) ?_
            obtain ⟨G129, eG129⟩ : ∃ z : ab_G, z = List.set G123 d_ (ab_ob 6 [vR x, inn, vz dp, vz v102, vz grp, vR na, vR nl, vz lst, vz mst, vz bh]) := ⟨_, rfl⟩
            have hx := hx.keep hd_ eG129 (by decide)
            have hna := hna.keep hd_ eG129 (by decide)
            have hnl := hnl.keep hd_ eG129 (by decide)
            have hby_ := hby_.keep hd_ eG129 (by decide)
            have hst := (fx.rf (o := o) (S := [25]) (G := G123)).wr hd_ eG129 (List.mem_singleton.mpr rfl)
            have popI_0 := opI.fr hst ppaI_0 popI_0 (by decide) (by decide)
            have pszJ_0 := szJ.fr hst ppaI_0 pszJ_0 (by decide) (by decide)
            have pdnJ_0 := dnJ.fr hst ppaI_0 pdnJ_0 (by decide) (by decide)
            have ppaI_0 := paI.fr hst ppaI_0 (by decide) (by decide) (by decide) (by decide)
            have hq130 := z_len eG129
            have hq131 := z_sl hd_ eG129 rfl
            have hfr := hfr.wr hd_ eG129 (by decide)
            have hd_ := hd_.kept eG129
            change ab_W _ _ _ (List.set G123 d_ (ab_ob 6 [vR x, inn, vz dp, vz v102, vz grp, vR na, vR nl, vz lst, vz mst, vz bh])) 213 [some (vR d_), some (vz pl), some (vz v102), some (vz 0)] [] _
            rw [← eG129]
            refine ab_vret rfl d_RD_open_213 ?_
            rw [hQ]; exact (Or.inr (Or.inr (Or.inr (Or.inl ⟨_, _, _, rfl, hfr, hd_, hx, hna, hnl, ppaI_0, popI_0, pszJ_0, pdnJ_0, (by omega), (by omega), (by exact hq106), (by omega), (by omega), (by omega), (by omega)⟩))))
          · refine zz_iconst d_RD_open_164 ?_
            refine ab_goto (tgt := 169) d_RD_open_165 (by decide) ?_
            refine ab_istore_n d_RD_open_169 (Nat.le_of_ble_eq_true rfl) (Nat.le_of_ble_eq_true rfl) rfl ?_
            change ab_W _ _ _ G101 170 [some (vR d_), some (vz pl), some (vz v102), some (vz 1)] [] _
            refine ab_aload_n d_RD_open_170 rfl ?_
            refine ab_getf (fs := [vR x, inn, vz dp, vz flg, vz grp, vR na, vR nl, vz lst, vz mst, vz bh]) f_RD_12 d_RD_open_171 hd_.2.2 rfl ?_
            refine ab_dup d_RD_open_174 rfl ?_
            refine ab_getf (fs := [vR se, vR by_, vz n, vz p2103, vz fa, vz fp, vR kd, vz kn]) f_RD_55 d_RD_open_175 hx.2.2 rfl ?_
            refine zz_iconst d_RD_open_178 ?_
            refine zz_iadd d_RD_open_179 ?_
            refine ab_putf (fs := [vR se, vR by_, vz n, vz p2103, vz fa, vz fp, vR kd, vz kn]) f_RD_55 (Or.inl rfl) d_RD_open_180 hx.2.2 (Nat.le_of_ble_eq_true rfl) (fun _ => ⟨rfl, rfl⟩) (hx.2.1 (by decide)) ?_
            obtain ⟨G132, eG132⟩ : ∃ z : ab_G, z = List.set G101 x (ab_ob 10 [vR se, vR by_, vz n, vz (p2103 + 1), vz fa, vz fp, vR kd, vz kn]) := ⟨_, rfl⟩
            have hd_ := hd_.keep hx eG132 (by decide)
            have hna := hna.keep hx eG132 (by decide)
            have hnl := hnl.keep hx eG132 (by decide)
            have hby_ := hby_.keep hx eG132 (by decide)
            have hst := (fx.rf (o := o) (S := [24]) (G := G101)).wr hx eG132 (List.mem_singleton.mpr rfl)
            have popI_0 := opI.fr hst ppaI_0 popI_0 (by decide) (by decide)
            have pszJ_0 := szJ.fr hst ppaI_0 pszJ_0 (by decide) (by decide)
            have pdnJ_0 := dnJ.fr hst ppaI_0 pdnJ_0 (by decide) (by decide)
            have ppaI_0 := paI.fr hst ppaI_0 (by decide) (by decide) (by decide) (by decide)
            have hq133 := z_len eG132
            have hq134 := z_sl hx eG132 rfl
            have hfr := hfr.wr hx eG132 (by decide)
            have hx := hx.kept eG132
            change ab_W _ _ _ (List.set G101 x (ab_ob 10 [vR se, vR by_, vz n, vz (p2103 + 1), vz fa, vz fp, vR kd, vz kn])) 183 [some (vR d_), some (vz pl), some (vz v102), some (vz 1)] [] _
            rw [← eG132]
            refine ab_iload_n d_RD_open_183 rfl ?_
            refine zz_iconst d_RD_open_184 ?_
            refine zz_icmp_eq (tgt := 203) d_RD_open_185 (by decide) (by omega) (by decide) (fun c135 => absurd c135 (by omega)) (fun c135 => ?_)
            refine ab_iload_n d_RD_open_188 rfl ?_
            refine zz_if_eq (tgt := 203) d_RD_open_189 (by decide) (by decide) (fun c136 => absurd c136 (by decide)) (fun c136 => ?_)
            refine ab_aload_n d_RD_open_192 rfl ?_
            refine ab_iload_n d_RD_open_193 rfl ?_
            refine zz_iconst d_RD_open_194 ?_
            refine ab_iload_n d_RD_open_195 rfl ?_
            refine zz_iconst d_RD_open_196 ?_
            refine ab_callV (d' := d - 1) (as := [vz pl, vz 0, vz v102, vz 0]) (st := []) (r := _) (zc_RD_enter (o := o) (d_ := d_) (inn := inn) (dp := dp) (flg := flg) (grp := grp) (na := na) (nl := nl) (lst := lst) (mst := mst) (bh := bh) (NA := NA) (NL := NL) (x := x) (se := se) (by_ := by_) (n := n) (pl := (p2103 + 1)) (fa := fa) (fp := fp) (kd := kd) (kn := kn) (ps := ps) (wt := wt) (bs := bs) (ph := ph) (k := k) (hi := hi) (wh := wh) (fr := fr) (FS := FS) (at_ := pl) (ins := v102) hd_ hx hna hnl ppaI_0 popI_0 pszJ_0 pdnJ_0 (by omega) (by omega) (by omega) (by omega) (by omega) hnm (by omega) (by omega) (by omega) (by omega) (by omega) (by omega) (by omega) (by omega)) (fun oc G2 h => by rcases h with ⟨_, _, _, h, _⟩ | ⟨_, _, _, _, _, _, _, h, _⟩ <;> exact ⟨_, h⟩) (by omega) m_RD_enter ml_RD_155 im_RD_enter se_RD_enter c_RD hd_.2.2 (Nat.le_of_ble_eq_true rfl) d_RD_open_197 rfl ?_
            intro v G137 hq
            rcases hq with ⟨o138, fa2139, fp2140, hv, hfk, hNd_, hNx, hNna, hNnl, pNpaI_0, pNopI_0, pNszJ_0, pNdnJ_0, hq141, hq142, hq143, hq144⟩ | ⟨o145, inn2146, k2147, hi2148, ps2149, wt2150, ph2151, hv, hfk, hNd_, hNx, hNna, hNnl, pNpaI_0, pNopI_0, pNszJ_0, pNdnJ_0, hq152, hq153, hq154, hq155, hq156, hq157, hq158, hq159⟩
            · cases hv
              have hby_ := hfk.get hby_ (by decide)
              have ppaI_0 := pNpaI_0
              have popI_0 := pNopI_0
              have pszJ_0 := pNszJ_0
              have pdnJ_0 := pNdnJ_0
              have hfr := hfr.tr hfk (by decide)
              have hq160 := hfk.1
              have hd_ := hNd_
              have hx := hNx
              have hna := hNna
              have hnl := hNnl
              change ab_W _ _ _ G137 200 [some (vR d_), some (vz pl), some (vz v102), some (vz 1)] [] _
              refine ab_goto (tgt := 213) d_RD_open_200 (by decide) ?_
              refine ab_vret rfl d_RD_open_213 ?_
              rw [hQ]; exact (Or.inr (Or.inr (Or.inr (Or.inr ⟨_, _, _, _, rfl, hfr, hd_, hx, hna, hnl, ppaI_0, popI_0, pszJ_0, pdnJ_0, (by exact Or.inr (Or.inr ⟨by omega, by omega, Or.inr ⟨_, _, hq106, by omega, (by have t := hq141; unfold entF at t; omega), (by have t := hq141; unfold entF at t; omega)⟩⟩)), (by have t := hq141; unfold entF at t; omega), (by omega), (by omega), (by omega)⟩))))
            · cases hv
              have hby_ := hfk.get hby_ (by decide)
              have ppaI_0 := pNpaI_0
              have popI_0 := pNopI_0
              have pszJ_0 := pNszJ_0
              have pdnJ_0 := pNdnJ_0
              have hfr := hfr.tr hfk (by decide)
              have hq161 := hfk.1
              have hd_ := hNd_
              have hx := hNx
              have hna := hNna
              have hnl := hNnl
              change ab_W _ _ _ G137 200 [some (vR d_), some (vz pl), some (vz v102), some (vz 1)] [] _
              refine ab_goto (tgt := 213) d_RD_open_200 (by decide) ?_
              refine ab_vret rfl d_RD_open_213 ?_
              rw [hQ]; exact (Or.inr (Or.inr (Or.inl ⟨_, _, _, _, _, _, _, _, _, rfl, hfr, hd_, hx, hna, hnl, ppaI_0, popI_0, pszJ_0, pdnJ_0, (by omega), (by omega), (by exact hq106), (by omega), (by omega), (by omega), (by exact hq154), (by omega), (by exact hq156.lt (by omega)), (by omega), (by omega), (by omega)⟩)))
        · cases hv
          have hna := hfk.get hna (by decide)
          have hnl := hfk.get hnl (by decide)
          have hby_ := hfk.get hby_ (by decide)
          have popI_0 := opI.fr hfk ppaI_0 popI_0 (by decide) (by decide)
          have pszJ_0 := szJ.fr hfk ppaI_0 pszJ_0 (by decide) (by decide)
          have pdnJ_0 := dnJ.fr hfk ppaI_0 pdnJ_0 (by decide) (by decide)
          have ppaI_0 := paI.fr hfk ppaI_0 (by decide) (by decide) (by decide) (by decide)
          have hfr := hfr.tr hfk (by decide)
          have hq116 := hlk
          have hq117 := hsk
          have hx := hNx
          have hd_ := hNd_
          change ab_W _ _ _ G101 150 [some (vR d_), some (vz pl), none, none] [vz (-1)] _
          refine ab_istore_n d_RD_open_150 (Nat.le_of_ble_eq_true rfl) (Nat.le_of_ble_eq_true rfl) rfl ?_
          change ab_W _ _ _ G101 151 [some (vR d_), some (vz pl), some (vz (-1)), none] [] _
          refine ab_aload_n d_RD_open_151 rfl ?_
          refine ab_getf (fs := [vR x, inn, vz dp, vz flg, vz grp, vR na, vR nl, vz lst, vz mst, vz bh]) f_RD_12 d_RD_open_152 hd_.2.2 rfl ?_
          refine zz_iconst d_RD_open_155 ?_
          refine ab_callV (d' := d - 1) (as := [vz 0]) (st := []) (r := _) (z_TX_peek0 (o := o) (x := x) (lx := 24) (se := se) (by_ := by_) (lby := 23) (m := m) (f := f) (n := n) (pl := p2107) (fa := fa2108) (fp := fp2109) (kd := kd) (kn := kn) hx hby_ (by omega) hb) (fun oc G2 h => by rcases h with ⟨_, h, _⟩ <;> exact ⟨_, h⟩) (by omega) m_TX_peek ml_RD_79 im_TX_peek se_TX_peek c_TX hx.2.2 (Nat.le_of_ble_eq_true rfl) d_RD_open_156 rfl ?_
          intro v G162 hq
          rcases hq with ⟨v163, hv, hGe, hq164, hq165⟩
          cases hv
          rw [hGe]
          change ab_W _ _ _ G101 159 [some (vR d_), some (vz pl), some (vz (-1)), none] [vz v163] _
          refine zz_bipush d_RD_open_159 (by decide) ?_
          refine zz_icmp_ne (tgt := 168) d_RD_open_161 (by decide) (by omega) (by decide) (fun c166 => ?_) (fun c166 => ?_)
          · refine zz_iconst d_RD_open_168 ?_
            refine ab_istore_n d_RD_open_169 (Nat.le_of_ble_eq_true rfl) (Nat.le_of_ble_eq_true rfl) rfl ?_
            change ab_W _ _ _ G101 170 [some (vR d_), some (vz pl), some (vz (-1)), some (vz 0)] [] _
            refine ab_aload_n d_RD_open_170 rfl ?_
            refine ab_getf (fs := [vR x, inn, vz dp, vz flg, vz grp, vR na, vR nl, vz lst, vz mst, vz bh]) f_RD_12 d_RD_open_171 hd_.2.2 rfl ?_
            refine ab_dup d_RD_open_174 rfl ?_
            refine ab_getf (fs := [vR se, vR by_, vz n, vz p2107, vz fa2108, vz fp2109, vR kd, vz kn]) f_RD_55 d_RD_open_175 hx.2.2 rfl ?_
            refine zz_iconst d_RD_open_178 ?_
            refine zz_iadd d_RD_open_179 ?_
            refine ab_putf (fs := [vR se, vR by_, vz n, vz p2107, vz fa2108, vz fp2109, vR kd, vz kn]) f_RD_55 (Or.inl rfl) d_RD_open_180 hx.2.2 (Nat.le_of_ble_eq_true rfl) (fun _ => ⟨rfl, rfl⟩) (hx.2.1 (by decide)) ?_
            obtain ⟨G167, eG167⟩ : ∃ z : ab_G, z = List.set G101 x (ab_ob 10 [vR se, vR by_, vz n, vz (p2107 + 1), vz fa2108, vz fp2109, vR kd, vz kn]) := ⟨_, rfl⟩
            have hd_ := hd_.keep hx eG167 (by decide)
            have hna := hna.keep hx eG167 (by decide)
            have hnl := hnl.keep hx eG167 (by decide)
            have hby_ := hby_.keep hx eG167 (by decide)
            have hst := (fx.rf (o := o) (S := [24]) (G := G101)).wr hx eG167 (List.mem_singleton.mpr rfl)
            have popI_0 := opI.fr hst ppaI_0 popI_0 (by decide) (by decide)
            have pszJ_0 := szJ.fr hst ppaI_0 pszJ_0 (by decide) (by decide)
            have pdnJ_0 := dnJ.fr hst ppaI_0 pdnJ_0 (by decide) (by decide)
            have ppaI_0 := paI.fr hst ppaI_0 (by decide) (by decide) (by decide) (by decide)
            have hq168 := z_len eG167
            have hq169 := z_sl hx eG167 rfl
            have hfr := hfr.wr hx eG167 (by decide)
            have hx := hx.kept eG167
            change ab_W _ _ _ (List.set G101 x (ab_ob 10 [vR se, vR by_, vz n, vz (p2107 + 1), vz fa2108, vz fp2109, vR kd, vz kn])) 183 [some (vR d_), some (vz pl), some (vz (-1)), some (vz 0)] [] _
            rw [← eG167]
            refine ab_iload_n d_RD_open_183 rfl ?_
            refine zz_iconst d_RD_open_184 ?_
            refine zz_icmp_eq (tgt := 203) d_RD_open_185 (by decide) (by decide) (by decide) (fun c170 => ?_) (fun c170 => absurd c170 (by decide))
            refine ab_iload_n d_RD_open_203 rfl ?_
            refine zz_iconst d_RD_open_204 ?_
            refine zz_icmp_eq (tgt := 213) d_RD_open_205 (by decide) (by decide) (by decide) (fun c171 => ?_) (fun c171 => absurd c171 (by decide))
            refine ab_vret rfl d_RD_open_213 ?_
            rw [hQ]; exact (Or.inr (Or.inr (Or.inr (Or.inr ⟨_, _, _, _, rfl, hfr, hd_, hx, hna, hnl, ppaI_0, popI_0, pszJ_0, pdnJ_0, (by exact Or.inr (Or.inr ⟨by omega, by omega, Or.inl ⟨hq113, by omega⟩⟩)), (by omega), (by omega), (by omega), (by omega)⟩))))
          · refine zz_iconst d_RD_open_164 ?_
            refine ab_goto (tgt := 169) d_RD_open_165 (by decide) ?_
            refine ab_istore_n d_RD_open_169 (Nat.le_of_ble_eq_true rfl) (Nat.le_of_ble_eq_true rfl) rfl ?_
            change ab_W _ _ _ G101 170 [some (vR d_), some (vz pl), some (vz (-1)), some (vz 1)] [] _
            refine ab_aload_n d_RD_open_170 rfl ?_
            refine ab_getf (fs := [vR x, inn, vz dp, vz flg, vz grp, vR na, vR nl, vz lst, vz mst, vz bh]) f_RD_12 d_RD_open_171 hd_.2.2 rfl ?_
            refine ab_dup d_RD_open_174 rfl ?_
            refine ab_getf (fs := [vR se, vR by_, vz n, vz p2107, vz fa2108, vz fp2109, vR kd, vz kn]) f_RD_55 d_RD_open_175 hx.2.2 rfl ?_
            refine zz_iconst d_RD_open_178 ?_
            refine zz_iadd d_RD_open_179 ?_
            refine ab_putf (fs := [vR se, vR by_, vz n, vz p2107, vz fa2108, vz fp2109, vR kd, vz kn]) f_RD_55 (Or.inl rfl) d_RD_open_180 hx.2.2 (Nat.le_of_ble_eq_true rfl) (fun _ => ⟨rfl, rfl⟩) (hx.2.1 (by decide)) ?_
            obtain ⟨G172, eG172⟩ : ∃ z : ab_G, z = List.set G101 x (ab_ob 10 [vR se, vR by_, vz n, vz (p2107 + 1), vz fa2108, vz fp2109, vR kd, vz kn]) := ⟨_, rfl⟩
            have hd_ := hd_.keep hx eG172 (by decide)
            have hna := hna.keep hx eG172 (by decide)
            have hnl := hnl.keep hx eG172 (by decide)
            have hby_ := hby_.keep hx eG172 (by decide)
            have hst := (fx.rf (o := o) (S := [24]) (G := G101)).wr hx eG172 (List.mem_singleton.mpr rfl)
            have popI_0 := opI.fr hst ppaI_0 popI_0 (by decide) (by decide)
            have pszJ_0 := szJ.fr hst ppaI_0 pszJ_0 (by decide) (by decide)
            have pdnJ_0 := dnJ.fr hst ppaI_0 pdnJ_0 (by decide) (by decide)
            have ppaI_0 := paI.fr hst ppaI_0 (by decide) (by decide) (by decide) (by decide)
            have hq173 := z_len eG172
            have hq174 := z_sl hx eG172 rfl
            have hfr := hfr.wr hx eG172 (by decide)
            have hx := hx.kept eG172
            change ab_W _ _ _ (List.set G101 x (ab_ob 10 [vR se, vR by_, vz n, vz (p2107 + 1), vz fa2108, vz fp2109, vR kd, vz kn])) 183 [some (vR d_), some (vz pl), some (vz (-1)), some (vz 1)] [] _
            rw [← eG172]
            refine ab_iload_n d_RD_open_183 rfl ?_
            refine zz_iconst d_RD_open_184 ?_
            refine zz_icmp_eq (tgt := 203) d_RD_open_185 (by decide) (by decide) (by decide) (fun c175 => ?_) (fun c175 => absurd c175 (by decide))
            refine ab_iload_n d_RD_open_203 rfl ?_
            refine zz_iconst d_RD_open_204 ?_
            refine zz_icmp_eq (tgt := 213) d_RD_open_205 (by decide) (by decide) (by decide) (fun c176 => ?_) (fun c176 => absurd c176 (by decide))
            refine ab_vret rfl d_RD_open_213 ?_
            rw [hQ]; exact (Or.inr (Or.inr (Or.inr (Or.inr ⟨_, _, _, _, rfl, hfr, hd_, hx, hna, hnl, ppaI_0, popI_0, pszJ_0, pdnJ_0, (by exact Or.inr (Or.inr ⟨by omega, by omega, Or.inl ⟨hq113, by omega⟩⟩)), (by omega), (by omega), (by omega), (by omega)⟩))))
      · refine ab_aload_n d_RD_open_63 rfl ?_
        refine ab_iload_n d_RD_open_64 rfl ?_
        refine zz_iconst d_RD_open_65 ?_
        refine zz_iadd d_RD_open_66 ?_
        refine ab_callV (d' := d - 1) (as := [vz (pl + 4)]) (st := []) (r := _) (z_RD_nameLengthAt (o := o) (d_ := d_) (inn := inn) (dp := dp) (flg := flg) (grp := grp) (na := na) (nl := nl) (lst := lst) (mst := mst) (bh := bh) (x := x) (se := se) (by_ := by_) (m := m) (f := f) (n := n) (pl := (pl + 1)) (fa := fa) (fp := fp) (kd := kd) (kn := kn) (b := (pl + 4)) hd_ hx hby_ (by omega) hb (by omega) (by omega)) (fun oc G2 h => by rcases h with ⟨_, h, _⟩ | ⟨h, _⟩ <;> exact ⟨_, h⟩) (by omega) m_RD_nameLengthAt ml_RD_159 im_RD_nameLengthAt se_RD_nameLengthAt c_RD hd_.2.2 (Nat.le_of_ble_eq_true rfl) d_RD_open_67 rfl ?_
        intro v G177 hq
        rcases hq with ⟨v178, hv, hfk, hlk, hsk, hq179, hq180⟩ | ⟨hv, hfk, hlk, hsk, hq181⟩
        · cases hv
          have hd_ := hfk.get hd_ (by decide)
          have hx := hfk.get hx (by decide)
          have hna := hfk.get hna (by decide)
          have hnl := hfk.get hnl (by decide)
          have hby_ := hfk.get hby_ (by decide)
          have popI_0 := opI.fr hfk ppaI_0 popI_0 (by decide) (by decide)
          have pszJ_0 := szJ.fr hfk ppaI_0 pszJ_0 (by decide) (by decide)
          have pdnJ_0 := dnJ.fr hfk ppaI_0 pdnJ_0 (by decide) (by decide)
          have ppaI_0 := paI.fr hfk ppaI_0 (by decide) (by decide) (by decide) (by simp)
          have hfr := hfr.tr hfk (by decide)
          have hq182 := hlk
          have hq183 := hsk
          change ab_W _ _ _ G177 70 [some (vR d_), some (vz pl), none, none] [vz v178] _
          refine ab_istore_n d_RD_open_70 (Nat.le_of_ble_eq_true rfl) (Nat.le_of_ble_eq_true rfl) rfl ?_
          change ab_W _ _ _ G177 71 [some (vR d_), some (vz pl), some (vz v178), none] [] _
          refine ab_aload_n d_RD_open_71 rfl ?_
          refine ab_getf (fs := [vR x, inn, vz dp, vz flg, vz grp, vR na, vR nl, vz lst, vz mst, vz bh]) f_RD_12 d_RD_open_72 hd_.2.2 rfl ?_
          refine ab_iload_n d_RD_open_75 rfl ?_
          refine zz_iconst d_RD_open_76 ?_
          refine zz_iadd d_RD_open_77 ?_
          refine ab_iload_n d_RD_open_78 rfl ?_
          refine zz_iadd d_RD_open_79 ?_
          refine ab_putf (fs := [vR se, vR by_, vz n, vz (pl + 1), vz fa, vz fp, vR kd, vz kn]) f_RD_55 (Or.inl rfl) d_RD_open_80 hx.2.2 (Nat.le_of_ble_eq_true rfl) (fun _ => ⟨rfl, rfl⟩) (hx.2.1 (by decide)) ?_
          obtain ⟨G186, eG186⟩ : ∃ z : ab_G, z = List.set G177 x (ab_ob 10 [vR se, vR by_, vz n, vz ((pl + 5) + v178), vz fa, vz fp, vR kd, vz kn]) := ⟨_, rfl⟩
          have hd_ := hd_.keep hx eG186 (by decide)
          have hna := hna.keep hx eG186 (by decide)
          have hnl := hnl.keep hx eG186 (by decide)
          have hby_ := hby_.keep hx eG186 (by decide)
          have hst := (fx.rf (o := o) (S := [24]) (G := G177)).wr hx eG186 (List.mem_singleton.mpr rfl)
          have popI_0 := opI.fr hst ppaI_0 popI_0 (by decide) (by decide)
          have pszJ_0 := szJ.fr hst ppaI_0 pszJ_0 (by decide) (by decide)
          have pdnJ_0 := dnJ.fr hst ppaI_0 pdnJ_0 (by decide) (by decide)
          have ppaI_0 := paI.fr hst ppaI_0 (by decide) (by decide) (by decide) (by decide)
          have hq187 := z_len eG186
          have hq188 := z_sl hx eG186 rfl
          have hfr := hfr.wr hx eG186 (by decide)
          have hx := hx.kept eG186
          change ab_W _ _ _ (List.set G177 x (ab_ob 10 [vR se, vR by_, vz n, vz ((pl + 5) + v178), vz fa, vz fp, vR kd, vz kn])) 83 [some (vR d_), some (vz pl), some (vz v178), none] [] _
          rw [← eG186]
          refine ab_iload_n d_RD_open_83 rfl ?_
          refine zz_if_eq (tgt := 98) d_RD_open_84 (by decide) (by omega) (fun c189 => ?_) (fun c189 => ?_)
          · refine ab_aload_n d_RD_open_98 rfl ?_
            refine ab_getf (fs := [vR x, inn, vz dp, vz flg, vz grp, vR na, vR nl, vz lst, vz mst, vz bh]) f_RD_12 d_RD_open_99 hd_.2.2 rfl ?_
            refine ab_iload_n d_RD_open_102 rfl ?_
            refine zz_if_ne (tgt := 111) d_RD_open_103 (by decide) (by omega) (fun c190 => absurd c190 (by omega)) (fun c190 => ?_)
            refine zz_bipush d_RD_open_106 (by decide) ?_
            refine ab_goto (tgt := 113) d_RD_open_108 (by decide) ?_
            refine ab_iload_n d_RD_open_113 rfl ?_
            refine ab_callV (d' := d - 1) (as := [vz 10, vz pl]) (st := []) (r := _) (z_TX_fail (o := o) (x := x) (lx := 24) (se := se) (by_ := by_) (n := n) (pl := ((pl + 5) + v178)) (fa := fa) (fp := fp) (kd := kd) (kn := kn) (w := 10) (p := pl) hx (by omega) (by omega) (by omega)) (fun oc G2 h => by rcases h with ⟨h, _⟩ | ⟨h, _⟩ <;> exact ⟨_, h⟩) (by omega) m_TX_fail ml_RD_69 im_TX_fail se_TX_fail c_TX hx.2.2 (Nat.le_of_ble_eq_true rfl) d_RD_open_114 rfl ?_
            intro v G191 hq
            rcases hq with ⟨hv, hfk, hlk, hsk, hNx, hq192⟩ | ⟨hv, hGe, hq193⟩
            · cases hv
              have hd_ := hfk.get hd_ (by decide)
              have hna := hfk.get hna (by decide)
              have hnl := hfk.get hnl (by decide)
              have hby_ := hfk.get hby_ (by decide)
              have popI_0 := opI.fr hfk ppaI_0 popI_0 (by decide) (by decide)
              have pszJ_0 := szJ.fr hfk ppaI_0 pszJ_0 (by decide) (by decide)
              have pdnJ_0 := dnJ.fr hfk ppaI_0 pdnJ_0 (by decide) (by decide)
              have ppaI_0 := paI.fr hfk ppaI_0 (by decide) (by decide) (by decide) (by decide)
              have hfr := hfr.tr hfk (by decide)
              have hq194 := hlk
              have hq195 := hsk
              have hx := hNx
              change ab_W _ _ _ G191 117 [some (vR d_), some (vz pl), some (vz v178), none] [vz (-1)] _
              refine ab_pop d_RD_open_117 rfl ?_
              refine ab_goto (tgt := 132) d_RD_open_118 (by decide) ?_
              refine ab_goto (tgt := 213) d_RD_open_132 (by decide) ?_
              refine ab_vret rfl d_RD_open_213 ?_
              rw [hQ]; exact (Or.inr (Or.inr (Or.inr (Or.inr ⟨_, _, _, _, rfl, hfr, hd_, hx, hna, hnl, ppaI_0, popI_0, pszJ_0, pdnJ_0, (by exact Or.inr (Or.inl ⟨by omega, by omega, _, hq180, Or.inl ⟨by omega, by omega⟩⟩)), (by omega), (by omega), (by omega), (by omega)⟩))))
            · cases hv
              rw [hGe]
              change ab_W _ _ _ G186 117 [some (vR d_), some (vz pl), some (vz v178), none] [vz (-1)] _
              exfalso; omega
          · refine ab_aload_n d_RD_open_87 rfl ?_
            refine ab_iload_n d_RD_open_88 rfl ?_
            refine zz_iconst d_RD_open_89 ?_
            refine zz_iadd d_RD_open_90 ?_
            refine ab_iload_n d_RD_open_91 rfl ?_
            refine ab_callV (d' := d - 1) (as := [vz (pl + 4), vz v178]) (st := []) (r := _) (z_RD_isTaken (o := o) (d_ := d_) (inn := inn) (dp := dp) (flg := flg) (grp := grp) (na := na) (nl := nl) (lst := lst) (mst := mst) (bh := bh) (NA := NA) (NL := NL) (x := x) (se := se) (by_ := by_) (m := m) (f := f) (n := n) (pl := ((pl + 5) + v178)) (fa := fa) (fp := fp) (kd := kd) (kn := kn) (b := (pl + 4)) (le := v178) hd_ hx hby_ hna hnl (by omega) hb hnm (by omega) (by omega)) (fun oc G2 h => by rcases h with ⟨_, h, _⟩ <;> exact ⟨_, h⟩) (by omega) m_RD_isTaken ml_RD_162 im_RD_isTaken se_RD_isTaken c_RD hd_.2.2 (Nat.le_of_ble_eq_true rfl) d_RD_open_92 rfl ?_
            intro v G196 hq
            rcases hq with ⟨tk197, hv, hfk, hlk, hsk, hq198, hq199⟩
            cases hv
            have hd_ := hfk.get hd_ (by decide)
            have hx := hfk.get hx (by decide)
            have hna := hfk.get hna (by decide)
            have hnl := hfk.get hnl (by decide)
            have hby_ := hfk.get hby_ (by decide)
            have popI_0 := opI.fr hfk ppaI_0 popI_0 (by decide) (by decide)
            have pszJ_0 := szJ.fr hfk ppaI_0 pszJ_0 (by decide) (by decide)
            have pdnJ_0 := dnJ.fr hfk ppaI_0 pdnJ_0 (by decide) (by decide)
            have ppaI_0 := paI.fr hfk ppaI_0 (by decide) (by decide) (by decide) (by simp)
            have hfr := hfr.tr hfk (by decide)
            have hq200 := hlk
            have hq201 := hsk
            change ab_W _ _ _ G196 95 [some (vR d_), some (vz pl), some (vz v178), none] [vz tk197] _
            refine zz_if_eq (tgt := 121) d_RD_open_95 (by decide) (by omega) (fun c202 => ?_) (fun c202 => ?_)
            · refine ab_aload_n d_RD_open_121 rfl ?_
              refine ab_iload_n d_RD_open_122 rfl ?_
              refine zz_iconst d_RD_open_123 ?_
              refine ab_aload_n d_RD_open_124 rfl ?_
              refine ab_getf (fs := [vR x, inn, vz dp, vz flg, vz grp, vR na, vR nl, vz lst, vz mst, vz bh]) f_RD_38 d_RD_open_125 hd_.2.2 rfl ?_
              refine ab_iload_n d_RD_open_128 rfl ?_
              refine ab_callV (d' := d - 1) (as := [vz pl, vz 1, vz flg, vz v178]) (st := []) (r := _) (zb_RD_enter (o := o) (d_ := d_) (inn := inn) (dp := dp) (flg := flg) (grp := grp) (na := na) (nl := nl) (lst := lst) (mst := mst) (bh := bh) (NA := NA) (NL := NL) (x := x) (se := se) (by_ := by_) (n := n) (pl := ((pl + 5) + v178)) (fa := fa) (fp := fp) (kd := kd) (kn := kn) (ps := ps) (wt := wt) (bs := bs) (ph := ph) (k := k) (hi := hi) (wh := wh) (fr := fr) (FS := FS) (at_ := pl) (ins := flg) (nm := v178) hd_ hx hna hnl ppaI_0 popI_0 pszJ_0 pdnJ_0 (by omega) (by omega) (by omega) (by omega) (by omega) hnm (by omega) (by omega) (by omega) (by omega) (by omega) (by omega) (by omega) (by omega) (by omega)) (fun oc G2 h => by rcases h with ⟨_, _, _, h, _⟩ | ⟨_, _, _, _, _, _, _, h, _⟩ <;> exact ⟨_, h⟩) (by omega) m_RD_enter ml_RD_155 im_RD_enter se_RD_enter c_RD hd_.2.2 (Nat.le_of_ble_eq_true rfl) d_RD_open_129 rfl ?_
              intro v G203 hq
              rcases hq with ⟨o204, fa2205, fp2206, hv, hfk, hNd_, hNx, hNna, hNnl, pNpaI_0, pNopI_0, pNszJ_0, pNdnJ_0, hq207, hq208, hq209, hq210⟩ | ⟨o211, inn2212, k2213, hi2214, ps2215, wt2216, ph2217, hv, hfk, hNd_, hNx, hNna, hNnl, pNpaI_0, pNopI_0, pNszJ_0, pNdnJ_0, hq218, hq219, hq220, hq221, hq222, hq223, hq224, hq225⟩
              · cases hv
                have hby_ := hfk.get hby_ (by decide)
                have ppaI_0 := pNpaI_0
                have popI_0 := pNopI_0
                have pszJ_0 := pNszJ_0
                have pdnJ_0 := pNdnJ_0
                have hfr := hfr.tr hfk (by decide)
                have hq226 := hfk.1
                have hd_ := hNd_
                have hx := hNx
                have hna := hNna
                have hnl := hNnl
                change ab_W _ _ _ G203 132 [some (vR d_), some (vz pl), some (vz v178), none] [] _
                refine ab_goto (tgt := 213) d_RD_open_132 (by decide) ?_
                refine ab_vret rfl d_RD_open_213 ?_
                rw [hQ]; exact (Or.inr (Or.inr (Or.inr (Or.inr ⟨_, _, _, _, rfl, hfr, hd_, hx, hna, hnl, ppaI_0, popI_0, pszJ_0, pdnJ_0, (by exact Or.inr (Or.inl ⟨by omega, by omega, _, hq180, Or.inr (Or.inr ⟨by omega, (by have t := hq199; rw [show tk197 = 0 by omega] at t; exact t), (by have t := hq207; unfold entF at t; omega)⟩)⟩)), (by have t := hq207; unfold entF at t; omega), (by omega), (by omega), (by omega)⟩))))
              · cases hv
                have hby_ := hfk.get hby_ (by decide)
                have ppaI_0 := pNpaI_0
                have popI_0 := pNopI_0
                have pszJ_0 := pNszJ_0
                have pdnJ_0 := pNdnJ_0
                have hfr := hfr.tr hfk (by decide)
                have hq227 := hfk.1
                have hd_ := hNd_
                have hx := hNx
                have hna := hNna
                have hnl := hNnl
                change ab_W _ _ _ G203 132 [some (vR d_), some (vz pl), some (vz v178), none] [] _
                refine ab_goto (tgt := 213) d_RD_open_132 (by decide) ?_
                refine ab_vret rfl d_RD_open_213 ?_
                rw [hQ]; exact (Or.inr (Or.inl ⟨_, _, _, _, _, _, _, _, rfl, hfr, hd_, hx, hna, hnl, ppaI_0, popI_0, pszJ_0, pdnJ_0, (by omega), (by omega), (by exact hq180), (by omega), (by have t := hq199; rw [show tk197 = 0 by omega] at t; exact t), (by omega), (by omega), (by exact hq220), (by omega), (by exact hq222.lt (by omega)), (by omega), (by omega), (by omega)⟩))
            · refine ab_aload_n d_RD_open_98 rfl ?_
              refine ab_getf (fs := [vR x, inn, vz dp, vz flg, vz grp, vR na, vR nl, vz lst, vz mst, vz bh]) f_RD_12 d_RD_open_99 hd_.2.2 rfl ?_
              refine ab_iload_n d_RD_open_102 rfl ?_
              refine zz_if_ne (tgt := 111) d_RD_open_103 (by decide) (by omega) (fun c228 => ?_) (fun c228 => absurd c228 (by omega))
              refine zz_bipush d_RD_open_111 (by decide) ?_
              refine ab_iload_n d_RD_open_113 rfl ?_
              refine ab_callV (d' := d - 1) (as := [vz 11, vz pl]) (st := []) (r := _) (z_TX_fail (o := o) (x := x) (lx := 24) (se := se) (by_ := by_) (n := n) (pl := ((pl + 5) + v178)) (fa := fa) (fp := fp) (kd := kd) (kn := kn) (w := 11) (p := pl) hx (by omega) (by omega) (by omega)) (fun oc G2 h => by rcases h with ⟨h, _⟩ | ⟨h, _⟩ <;> exact ⟨_, h⟩) (by omega) m_TX_fail ml_RD_69 im_TX_fail se_TX_fail c_TX hx.2.2 (Nat.le_of_ble_eq_true rfl) d_RD_open_114 rfl ?_
              intro v G229 hq
              rcases hq with ⟨hv, hfk, hlk, hsk, hNx, hq230⟩ | ⟨hv, hGe, hq231⟩
              · cases hv
                have hd_ := hfk.get hd_ (by decide)
                have hna := hfk.get hna (by decide)
                have hnl := hfk.get hnl (by decide)
                have hby_ := hfk.get hby_ (by decide)
                have popI_0 := opI.fr hfk ppaI_0 popI_0 (by decide) (by decide)
                have pszJ_0 := szJ.fr hfk ppaI_0 pszJ_0 (by decide) (by decide)
                have pdnJ_0 := dnJ.fr hfk ppaI_0 pdnJ_0 (by decide) (by decide)
                have ppaI_0 := paI.fr hfk ppaI_0 (by decide) (by decide) (by decide) (by decide)
                have hfr := hfr.tr hfk (by decide)
                have hq232 := hlk
                have hq233 := hsk
                have hx := hNx
                change ab_W _ _ _ G229 117 [some (vR d_), some (vz pl), some (vz v178), none] [vz (-1)] _
                refine ab_pop d_RD_open_117 rfl ?_
                refine ab_goto (tgt := 132) d_RD_open_118 (by decide) ?_
                refine ab_goto (tgt := 213) d_RD_open_132 (by decide) ?_
                refine ab_vret rfl d_RD_open_213 ?_
                rw [hQ]; exact (Or.inr (Or.inr (Or.inr (Or.inr ⟨_, _, _, _, rfl, hfr, hd_, hx, hna, hnl, ppaI_0, popI_0, pszJ_0, pdnJ_0, (by exact Or.inr (Or.inl ⟨by omega, by omega, _, hq180, Or.inr (Or.inl ⟨by omega, (by have t := hq199; rw [show tk197 = 1 by omega] at t; exact t), by omega⟩)⟩)), (by omega), (by omega), (by omega), (by omega)⟩))))
              · cases hv
                rw [hGe]
                change ab_W _ _ _ G196 117 [some (vR d_), some (vz pl), some (vz v178), none] [vz (-1)] _
                exfalso; omega
        · cases hv
          have hd_ := hfk.get hd_ (by decide)
          have hx := hfk.get hx (by decide)
          have hna := hfk.get hna (by decide)
          have hnl := hfk.get hnl (by decide)
          have hby_ := hfk.get hby_ (by decide)
          have popI_0 := opI.fr hfk ppaI_0 popI_0 (by decide) (by decide)
          have pszJ_0 := szJ.fr hfk ppaI_0 pszJ_0 (by decide) (by decide)
          have pdnJ_0 := dnJ.fr hfk ppaI_0 pdnJ_0 (by decide) (by decide)
          have ppaI_0 := paI.fr hfk ppaI_0 (by decide) (by decide) (by decide) (by simp)
          have hfr := hfr.tr hfk (by decide)
          have hq184 := hlk
          have hq185 := hsk
          change ab_W _ _ _ G177 70 [some (vR d_), some (vz pl), none, none] [vz 0] _
          refine ab_istore_n d_RD_open_70 (Nat.le_of_ble_eq_true rfl) (Nat.le_of_ble_eq_true rfl) rfl ?_
          change ab_W _ _ _ G177 71 [some (vR d_), some (vz pl), some (vz 0), none] [] _
          refine ab_aload_n d_RD_open_71 rfl ?_
          refine ab_getf (fs := [vR x, inn, vz dp, vz flg, vz grp, vR na, vR nl, vz lst, vz mst, vz bh]) f_RD_12 d_RD_open_72 hd_.2.2 rfl ?_
          refine ab_iload_n d_RD_open_75 rfl ?_
          refine zz_iconst d_RD_open_76 ?_
          refine zz_iadd d_RD_open_77 ?_
          refine ab_iload_n d_RD_open_78 rfl ?_
          refine zz_iadd d_RD_open_79 ?_
          refine ab_putf (fs := [vR se, vR by_, vz n, vz (pl + 1), vz fa, vz fp, vR kd, vz kn]) f_RD_55 (Or.inl rfl) d_RD_open_80 hx.2.2 (Nat.le_of_ble_eq_true rfl) (fun _ => ⟨rfl, rfl⟩) (hx.2.1 (by decide)) ?_
          obtain ⟨G234, eG234⟩ : ∃ z : ab_G, z = List.set G177 x (ab_ob 10 [vR se, vR by_, vz n, vz ((pl + 5) + 0), vz fa, vz fp, vR kd, vz kn]) := ⟨_, rfl⟩
          have hd_ := hd_.keep hx eG234 (by decide)
          have hna := hna.keep hx eG234 (by decide)
          have hnl := hnl.keep hx eG234 (by decide)
          have hby_ := hby_.keep hx eG234 (by decide)
          have hst := (fx.rf (o := o) (S := [24]) (G := G177)).wr hx eG234 (List.mem_singleton.mpr rfl)
          have popI_0 := opI.fr hst ppaI_0 popI_0 (by decide) (by decide)
          have pszJ_0 := szJ.fr hst ppaI_0 pszJ_0 (by decide) (by decide)
          have pdnJ_0 := dnJ.fr hst ppaI_0 pdnJ_0 (by decide) (by decide)
          have ppaI_0 := paI.fr hst ppaI_0 (by decide) (by decide) (by decide) (by decide)
          have hq235 := z_len eG234
          have hq236 := z_sl hx eG234 rfl
          have hfr := hfr.wr hx eG234 (by decide)
          have hx := hx.kept eG234
          change ab_W _ _ _ (List.set G177 x (ab_ob 10 [vR se, vR by_, vz n, vz ((pl + 5) + 0), vz fa, vz fp, vR kd, vz kn])) 83 [some (vR d_), some (vz pl), some (vz 0), none] [] _
          rw [← eG234]
          refine ab_iload_n d_RD_open_83 rfl ?_
          refine zz_if_eq (tgt := 98) d_RD_open_84 (by decide) (by decide) (fun c237 => ?_) (fun c237 => absurd c237 (by decide))
          refine ab_aload_n d_RD_open_98 rfl ?_
          refine ab_getf (fs := [vR x, inn, vz dp, vz flg, vz grp, vR na, vR nl, vz lst, vz mst, vz bh]) f_RD_12 d_RD_open_99 hd_.2.2 rfl ?_
          refine ab_iload_n d_RD_open_102 rfl ?_
          refine zz_if_ne (tgt := 111) d_RD_open_103 (by decide) (by decide) (fun c238 => absurd c238 (by decide)) (fun c238 => ?_)
          refine zz_bipush d_RD_open_106 (by decide) ?_
          refine ab_goto (tgt := 113) d_RD_open_108 (by decide) ?_
          refine ab_iload_n d_RD_open_113 rfl ?_
          refine ab_callV (d' := d - 1) (as := [vz 10, vz pl]) (st := []) (r := _) (z_TX_fail (o := o) (x := x) (lx := 24) (se := se) (by_ := by_) (n := n) (pl := ((pl + 5) + 0)) (fa := fa) (fp := fp) (kd := kd) (kn := kn) (w := 10) (p := pl) hx (by omega) (by omega) (by omega)) (fun oc G2 h => by rcases h with ⟨h, _⟩ | ⟨h, _⟩ <;> exact ⟨_, h⟩) (by omega) m_TX_fail ml_RD_69 im_TX_fail se_TX_fail c_TX hx.2.2 (Nat.le_of_ble_eq_true rfl) d_RD_open_114 rfl ?_
          intro v G239 hq
          rcases hq with ⟨hv, hfk, hlk, hsk, hNx, hq240⟩ | ⟨hv, hGe, hq241⟩
          · cases hv
            have hd_ := hfk.get hd_ (by decide)
            have hna := hfk.get hna (by decide)
            have hnl := hfk.get hnl (by decide)
            have hby_ := hfk.get hby_ (by decide)
            have popI_0 := opI.fr hfk ppaI_0 popI_0 (by decide) (by decide)
            have pszJ_0 := szJ.fr hfk ppaI_0 pszJ_0 (by decide) (by decide)
            have pdnJ_0 := dnJ.fr hfk ppaI_0 pdnJ_0 (by decide) (by decide)
            have ppaI_0 := paI.fr hfk ppaI_0 (by decide) (by decide) (by decide) (by decide)
            have hfr := hfr.tr hfk (by decide)
            have hq242 := hlk
            have hq243 := hsk
            have hx := hNx
            change ab_W _ _ _ G239 117 [some (vR d_), some (vz pl), some (vz 0), none] [vz (-1)] _
            refine ab_pop d_RD_open_117 rfl ?_
            refine ab_goto (tgt := 132) d_RD_open_118 (by decide) ?_
            refine ab_goto (tgt := 213) d_RD_open_132 (by decide) ?_
            refine ab_vret rfl d_RD_open_213 ?_
            rw [hQ]; exact (Or.inr (Or.inr (Or.inr (Or.inr ⟨_, _, _, _, rfl, hfr, hd_, hx, hna, hnl, ppaI_0, popI_0, pszJ_0, pdnJ_0, (by exact Or.inr (Or.inl ⟨by omega, by omega, _, hq181, Or.inl ⟨by omega, by omega⟩⟩)), (by omega), (by omega), (by omega), (by omega)⟩))))
          · cases hv
            rw [hGe]
            change ab_W _ _ _ G234 117 [some (vR d_), some (vz pl), some (vz 0), none] [vz (-1)] _
            exfalso; omega
  · refine ab_aload_n d_RD_open_23 rfl ?_
    refine ab_iload_n d_RD_open_24 rfl ?_
    refine zz_iconst d_RD_open_25 ?_
    refine ab_aload_n d_RD_open_26 rfl ?_
    refine ab_getf (fs := [vR x, inn, vz dp, vz flg, vz grp, vR na, vR nl, vz lst, vz mst, vz bh]) f_RD_38 d_RD_open_27 hd_.2.2 rfl ?_
    refine zz_iconst d_RD_open_30 ?_
    refine ab_callV (d' := d - 1) (as := [vz pl, vz 1, vz flg, vz 0]) (st := []) (r := _) (za_RD_enter (o := o) (d_ := d_) (inn := inn) (dp := dp) (flg := flg) (grp := grp) (na := na) (nl := nl) (lst := lst) (mst := mst) (bh := bh) (NA := NA) (NL := NL) (x := x) (se := se) (by_ := by_) (n := n) (pl := (pl + 1)) (fa := fa) (fp := fp) (kd := kd) (kn := kn) (ps := ps) (wt := wt) (bs := bs) (ph := ph) (k := k) (hi := hi) (wh := wh) (fr := fr) (FS := FS) (at_ := pl) (ins := flg) hd_ hx hna hnl ppaI_0 popI_0 pszJ_0 pdnJ_0 (by omega) (by omega) (by omega) (by omega) (by omega) hnm (by omega) (by omega) (by omega) (by omega) (by omega) (by omega) (by omega) (by omega)) (fun oc G2 h => by rcases h with ⟨_, _, _, h, _⟩ | ⟨_, _, _, _, _, _, _, h, _⟩ <;> exact ⟨_, h⟩) (by omega) m_RD_enter ml_RD_155 im_RD_enter se_RD_enter c_RD hd_.2.2 (Nat.le_of_ble_eq_true rfl) d_RD_open_31 rfl ?_
    intro v G244 hq
    rcases hq with ⟨o245, fa2246, fp2247, hv, hfk, hNd_, hNx, hNna, hNnl, pNpaI_0, pNopI_0, pNszJ_0, pNdnJ_0, hq248, hq249, hq250, hq251⟩ | ⟨o252, inn2253, k2254, hi2255, ps2256, wt2257, ph2258, hv, hfk, hNd_, hNx, hNna, hNnl, pNpaI_0, pNopI_0, pNszJ_0, pNdnJ_0, hq259, hq260, hq261, hq262, hq263, hq264, hq265, hq266⟩
    · cases hv
      have hby_ := hfk.get hby_ (by decide)
      have ppaI_0 := pNpaI_0
      have popI_0 := pNopI_0
      have pszJ_0 := pNszJ_0
      have pdnJ_0 := pNdnJ_0
      have hfr := hfr.tr hfk (by decide)
      have hq267 := hfk.1
      have hd_ := hNd_
      have hx := hNx
      have hna := hNna
      have hnl := hNnl
      change ab_W _ _ _ G244 34 [some (vR d_), some (vz pl), none, none] [] _
      refine ab_goto (tgt := 213) d_RD_open_34 (by decide) ?_
      refine ab_vret rfl d_RD_open_213 ?_
      rw [hQ]; exact (Or.inr (Or.inr (Or.inr (Or.inr ⟨_, _, _, _, rfl, hfr, hd_, hx, hna, hnl, ppaI_0, popI_0, pszJ_0, pdnJ_0, (by exact Or.inl ⟨by omega, (by have t := hq248; unfold entF at t; omega)⟩), (by have t := hq248; unfold entF at t; omega), (by omega), (by omega), (by omega)⟩))))
    · cases hv
      have hby_ := hfk.get hby_ (by decide)
      have ppaI_0 := pNpaI_0
      have popI_0 := pNopI_0
      have pszJ_0 := pNszJ_0
      have pdnJ_0 := pNdnJ_0
      have hfr := hfr.tr hfk (by decide)
      have hq268 := hfk.1
      have hd_ := hNd_
      have hx := hNx
      have hna := hNna
      have hnl := hNnl
      change ab_W _ _ _ G244 34 [some (vR d_), some (vz pl), none, none] [] _
      refine ab_goto (tgt := 213) d_RD_open_34 (by decide) ?_
      refine ab_vret rfl d_RD_open_213 ?_
      rw [hQ]; exact (Or.inl ⟨_, _, _, _, _, _, _, rfl, hfr, hd_, hx, hna, hnl, ppaI_0, popI_0, pszJ_0, pdnJ_0, (by omega), (by omega), (by omega), (by exact hq261), (by omega), (by exact hq263.lt (by omega)), (by omega), (by omega), (by omega)⟩)
