set_option maxRecDepth 100000 in
set_option maxHeartbeats 4000000 in
theorem z_CS_addMoved {X : ab_X} {d : Nat} {o : Nat → Nat} {G : ab_G} {r : Nat} {lr : Nat} {lb : Nat} {n : Nat} {cnt : Int} {P : Int → Prop} {lo : Int} {hi : Int} {far : Int} (pcsI_r : csI o G r lr lb n cnt P) (cx : -2000000 ≤ lo ∧ lo ≤ 2000000 ∧ -2000000 ≤ hi ∧ hi ≤ 2000000) (cf : lo ≤ hi → 0 ≤ lo + far ∧ hi + far ≤ 1114111 ∧ -2000000 ≤ far ∧ far ≤ 2000000) (cn : cnt ≤ 25999) (rc : G.length + 1 ≤ ab_n0 + room_1.cells) (rs : ab_slots G + 208000 ≤ room_1.slots + 2 * n) (hd : 5 ≤ d) : ab_F X d y_CS_addMoved (.code y_CS_addMoved b_CS_addMoved 4 none) [vR r, vz lo, vz hi, vz far] G (fun oc G2 => ∃ o2 : Nat → Nat, ∃ n2 : Nat, ∃ c2 : Int, ∃ P2 : Int → Prop, oc = .returned none ∧ fx o o2 [lr, lb] G G2 ∧ csI o2 G2 r lr lb n2 c2 P2 ∧ (∀ c : Int, P2 c ↔ P c ∨ (lo + far ≤ c ∧ c ≤ hi + far)) ∧ (0 ≤ c2 ∧ c2 ≤ cnt + 1 ∧ n2 ≤ 104000) ∧ (64 * G2.length + n ≤ 64 * G.length + n2) ∧ (ab_slots G2 + 2 * n ≤ ab_slots G + 2 * n2)) := by
  refine ab_F_of (by decide +kernel) (Nat.le_of_ble_eq_true rfl) ?_
  obtain ⟨Q, hQ⟩ : ∃ z : Outcome → ab_G → Prop, z = (fun oc G2 => ∃ o2 : Nat → Nat, ∃ n2 : Nat, ∃ c2 : Int, ∃ P2 : Int → Prop, oc = .returned none ∧ fx o o2 [lr, lb] G G2 ∧ csI o2 G2 r lr lb n2 c2 P2 ∧ (∀ c : Int, P2 c ↔ P c ∨ (lo + far ≤ c ∧ c ≤ hi + far)) ∧ (0 ≤ c2 ∧ c2 ≤ cnt + 1 ∧ n2 ≤ 104000) ∧ (64 * G2.length + n ≤ 64 * G.length + n2) ∧ (ab_slots G2 + 2 * n ≤ ab_slots G + 2 * n2)) := ⟨_, rfl⟩
  rw [← hQ]
  change ab_W X (ab_pl y_CS_addMoved b_CS_addMoved 4 none) d G 0 [some (vR r), some (vz lo), some (vz hi), some (vz far)] [] Q
  have hfr : fx o o [lr, lb] G G := fx.rf
  refine ab_iload_n d_CS_addMoved_0 rfl ?_
  refine ab_iload_n d_CS_addMoved_1 rfl ?_
  refine zz_icmp_gt (tgt := 15) d_CS_addMoved_2 (by decide) (by omega) (by omega) (fun c1 => ?_) (fun c1 => ?_)
  · refine ab_vret rfl d_CS_addMoved_15 ?_
    rw [hQ]; exact ⟨_, _, _, _, rfl, hfr, pcsI_r, (by first | exact Iff.rfl | (intro c; exact ⟨Or.inl, fun z => z.elim id (fun y => absurd y (by omega))⟩)), (by have hz := pcsI_r.ok; omega), (by omega), (by omega)⟩
  · refine ab_aload_n d_CS_addMoved_5 rfl ?_
    refine ab_iload_n d_CS_addMoved_6 rfl ?_
    refine ab_iload_n d_CS_addMoved_7 rfl ?_
    refine zz_iadd d_CS_addMoved_8 ?_
    refine ab_iload_n d_CS_addMoved_9 rfl ?_
    refine ab_iload_n d_CS_addMoved_10 rfl ?_
    refine zz_iadd d_CS_addMoved_11 ?_
    obtain ⟨fsR, hR⟩ := pcsI_r.recv
    refine ab_callV (d' := d - 1) (as := [vz (lo + far), vz (hi + far)]) (st := []) (r := _) (c_CS_add (o := o) (r := r) (lr := lr) (lb := lb) (n := n) (cnt := cnt) (P := P) (lo := (lo + far)) (hi := (hi + far)) pcsI_r (by omega) (by omega) (by omega) (by omega) (by omega)) (fun oc G2 h => by rcases h with ⟨_, _, _, _, h, _⟩ <;> exact ⟨_, h⟩) (by omega) m_CS_add ml_CS_44 im_CS_add se_CS_add c_CS hR (Nat.le_of_ble_eq_true rfl) d_CS_addMoved_12 rfl ?_
    intro v G2 hq
    rcases hq with ⟨o3, n24, c25, P26, hv, hfk, pNcsI_r, hq7, hq8, hq9, hq10⟩
    cases hv
    have pcsI_r := pNcsI_r
    have hfr := hfr.tr hfk (by simp)
    have hq11 := hfk.1
    change ab_W _ _ _ G2 15 [some (vR r), some (vz lo), some (vz hi), some (vz far)] [] _
    refine ab_vret rfl d_CS_addMoved_15 ?_
    rw [hQ]; exact ⟨_, _, _, _, rfl, hfr, pcsI_r, (by first | exact hq7 | (intro c; exact ⟨Or.inl, fun z => z.elim id (fun y => absurd y (by omega))⟩)), (by have hz := pcsI_r.ok; omega), (by omega), (by omega)⟩
set_option maxRecDepth 100000 in
set_option maxHeartbeats 4000000 in
theorem y_CS_addAlike_8 {X : ab_X} {d : Nat} {Q : Outcome → ab_G → Prop} {o0 : Nat → Nat} {G0 : ab_G} {r : Nat} {lr : Nat} {lb : Nat} {lo : Int} {hi : Int} {n0 : Nat} {c0 : Int} {P0 : Int → Prop} (cx : 0 ≤ lo ∧ lo ≤ hi ∧ hi ≤ 1114111) (k0 : 0 ≤ c0 ∧ c0 ≤ 24900) (cl : 18 ≤ lr ∧ 18 ≤ lb) (rc : G0.length + 5000 ≤ ab_n0 + room_1.cells) (rs : ab_slots G0 + 208000 ≤ room_1.slots + 2 * n0) (hd : 6 ≤ d) : ∀ (mz : Nat) {G : ab_G} {o : Nat → Nat} {n : Nat} {cnt : Int} {P : Int → Prop} {i : Int} {u : Int}, (cc o G 15 15 (za 18 zAR)) → (cc o G 16 16 (za 20 zAF)) → (csI o G r lr lb n cnt P) → (i = 3 * u) → (0 ≤ u ∧ u ≤ 6) → (0 ≤ cnt ∧ cnt ≤ c0 + 1 + 2 * u) → (n ≤ 104000) → (64 * G.length + n0 ≤ 64 * G0.length + n) → (ab_slots G + 2 * n0 ≤ ab_slots G0 + 2 * n) → (∀ c : Int, P c ↔ (P0 c ∨ (lo ≤ c ∧ c ≤ hi)) ∨ ∃ r : Int, 0 ≤ r ∧ r < u ∧ al_r lo hi r c) → (fx o0 o [lr, lb] G0 G) → (Int.toNat (6 - u) < mz) → (∀ (G2 : ab_G) (o2 : Nat → Nat) (n2 : Nat) (c2 : Int) (P2 : Int → Prop), (cc o2 G2 15 15 (za 18 zAR)) → (cc o2 G2 16 16 (za 20 zAF)) → (csI o2 G2 r lr lb n2 c2 P2) → (0 ≤ c2 ∧ c2 ≤ c0 + 13) → (n2 ≤ 104000) → (64 * G2.length + n0 ≤ 64 * G0.length + n2) → (ab_slots G2 + 2 * n0 ≤ ab_slots G0 + 2 * n2) → (∀ c : Int, P2 c ↔ (P0 c ∨ (lo ≤ c ∧ c ≤ hi)) ∨ ∃ r : Int, 0 ≤ r ∧ r < 6 ∧ al_r lo hi r c) → (fx o0 o2 [lr, lb] G0 G2) → ab_W X (ab_pl y_CS_addAlike b_CS_addAlike 6 none) d G2 92 [some (vR r), some (vz lo), some (vz hi), none, none, none] [] Q) → ab_W X (ab_pl y_CS_addAlike b_CS_addAlike 6 none) d G 8 [some (vR r), some (vz lo), some (vz hi), some (vz i), none, none] [] Q := by
  intro mz
  induction mz with
  | zero => intro G o n cnt P i u h15 h16 pcsI_r ci cu cn hn hg hs hP hfr hm hk0; exact absurd hm (Nat.not_lt_zero _)
  | succ mz ih =>
    intro G o n cnt P i u h15 h16 pcsI_r ci cu cn hn hg hs hP hfr hm hk0
    subst ci
    refine ab_iload_n d_CS_addAlike_8 rfl ?_
    refine zz_iconst d_CS_addAlike_9 ?_
    refine zz_iadd d_CS_addAlike_10 ?_
    refine ab_gets (i := 15) (by decide) s_CS_48 d_CS_addAlike_11 ?_
    refine zz_alen d_CS_addAlike_14 h15 ?_
    change ab_W _ _ _ G 15 [some (vR r), some (vz lo), some (vz hi), some (vz (3 * u)), none, none] [vz 18, vz ((3 * u) + 2)] _
    refine zz_icmp_ge (tgt := 92) d_CS_addAlike_15 (by decide) (by omega) (by decide) (fun c1 => ?_) (fun c1 => ?_)
    · refine ab_less (L' := [some (vR r), some (vz lo), some (vz hi), none, none, none]) (fun i v h => by rcases i with _ | _ | _ | _ | _ | _ | i <;> first | exact h | (simp at h)) ?_
      exact hk0 _ _ _ _ _ h15 h16 pcsI_r (by omega) (by omega) (by omega) (by omega) (by exact (show u = 6 by omega) ▸ hP) hfr
    · have hok := zAR_ok u (by omega) (by omega)
      refine ab_gets (i := 15) (by decide) s_CS_48 d_CS_addAlike_18 ?_
      refine ab_iload_n d_CS_addAlike_21 rfl ?_
      refine zz_iconst d_CS_addAlike_22 ?_
      refine zz_iadd d_CS_addAlike_23 ?_
      refine zz_iald d_CS_addAlike_24 h15 (by omega) ?_
      have hq2 := zAR_in ((3 * u) + 2) (by omega) (by omega)
      refine ab_istore d_CS_addAlike_25 (Nat.le_of_ble_eq_true rfl) (Nat.le_of_ble_eq_true rfl) rfl ?_
      change ab_W _ _ _ G 27 [some (vR r), some (vz lo), some (vz hi), some (vz (3 * u)), some (vz (zAR ((3 * u) + 2))), none] [] _
      refine ab_aload_n d_CS_addAlike_27 rfl ?_
      refine ab_iload_n d_CS_addAlike_28 rfl ?_
      refine ab_gets (i := 15) (by decide) s_CS_48 d_CS_addAlike_29 ?_
      refine ab_iload_n d_CS_addAlike_32 rfl ?_
      refine zz_iald d_CS_addAlike_33 h15 (by omega) ?_
      have hq3 := zAR_in (3 * u) (by omega) (by omega)
      refine zz_mmax mj_CS_29 d_CS_addAlike_34 (by omega) (by omega) (Nat.le_of_ble_eq_true rfl) (by omega) ?_
      obtain ⟨v4, hv4⟩ : ∃ z : Int, z = (max lo (zAR (3 * u))) := ⟨_, rfl⟩
      rw [← hv4]
      have hv4 : (lo ≤ (zAR (3 * u)) ∧ v4 = (zAR (3 * u))) ∨ ((zAR (3 * u)) < lo ∧ v4 = lo) := by omega
      change ab_W _ _ _ G 37 [some (vR r), some (vz lo), some (vz hi), some (vz (3 * u)), some (vz (zAR ((3 * u) + 2))), none] [vz v4, vR r] _
      refine ab_iload_n d_CS_addAlike_37 rfl ?_
      refine ab_gets (i := 15) (by decide) s_CS_48 d_CS_addAlike_38 ?_
      refine ab_iload_n d_CS_addAlike_41 rfl ?_
      refine zz_iconst d_CS_addAlike_42 ?_
      refine zz_iadd d_CS_addAlike_43 ?_
      refine zz_iald d_CS_addAlike_44 h15 (by omega) ?_
      have hq5 := zAR_in ((3 * u) + 1) (by omega) (by omega)
      refine zz_mmin mj_CS_23 d_CS_addAlike_45 (by omega) (by omega) (Nat.le_of_ble_eq_true rfl) (by omega) ?_
      obtain ⟨v6, hv6⟩ : ∃ z : Int, z = (min hi (zAR ((3 * u) + 1))) := ⟨_, rfl⟩
      rw [← hv6]
      have hv6 : (hi ≤ (zAR ((3 * u) + 1)) ∧ v6 = hi) ∨ ((zAR ((3 * u) + 1)) < hi ∧ v6 = (zAR ((3 * u) + 1))) := by omega
      change ab_W _ _ _ G 48 [some (vR r), some (vz lo), some (vz hi), some (vz (3 * u)), some (vz (zAR ((3 * u) + 2))), none] [vz v6, vz v4, vR r] _
      refine ab_iload d_CS_addAlike_48 rfl ?_
      obtain ⟨fsR, hR⟩ := pcsI_r.recv
      refine ab_callV (d' := d - 1) (as := [vz v4, vz v6, vz (zAR ((3 * u) + 2))]) (st := []) (r := _) (z_CS_addMoved (o := o) (r := r) (lr := lr) (lb := lb) (n := n) (cnt := cnt) (P := P) (lo := v4) (hi := v6) (far := (zAR ((3 * u) + 2))) pcsI_r (by omega) (by omega) (by omega) (by omega) (by omega) (by omega)) (fun oc G2 h => by rcases h with ⟨_, _, _, _, h, _⟩ <;> exact ⟨_, h⟩) (by omega) m_CS_addMoved ml_CS_51 im_CS_addMoved se_CS_addMoved c_CS hR (Nat.le_of_ble_eq_true rfl) d_CS_addAlike_50 rfl ?_
      intro v G7 hq
      rcases hq with ⟨o8, n29, c210, P211, hv, hfk, pNcsI_r, hq12, hq13, hq14, hq15⟩
      cases hv
      have h15 := hfk.get h15 (by simp only [List.mem_cons, List.not_mem_nil, or_false]; omega)
      have h16 := hfk.get h16 (by simp only [List.mem_cons, List.not_mem_nil, or_false]; omega)
      have pcsI_r := pNcsI_r
      have hfr := hfr.tr hfk (by simp)
      have hq16 := hfk.1
      change ab_W _ _ _ G7 53 [some (vR r), some (vz lo), some (vz hi), some (vz (3 * u)), some (vz (zAR ((3 * u) + 2))), none] [] _
      refine ab_aload_n d_CS_addAlike_53 rfl ?_
      refine ab_iload_n d_CS_addAlike_54 rfl ?_
      refine ab_gets (i := 15) (by decide) s_CS_48 d_CS_addAlike_55 ?_
      refine ab_iload_n d_CS_addAlike_58 rfl ?_
      refine zz_iald d_CS_addAlike_59 h15 (by omega) ?_
      have hq17 := zAR_in (3 * u) (by omega) (by omega)
      refine ab_iload d_CS_addAlike_60 rfl ?_
      refine zz_iadd d_CS_addAlike_62 ?_
      refine zz_mmax mj_CS_29 d_CS_addAlike_63 (by omega) (by omega) (Nat.le_of_ble_eq_true rfl) (by omega) ?_
      obtain ⟨v18, hv18⟩ : ∃ z : Int, z = (max lo ((zAR (3 * u)) + (zAR ((3 * u) + 2)))) := ⟨_, rfl⟩
      rw [← hv18]
      have hv18 : (lo ≤ ((zAR (3 * u)) + (zAR ((3 * u) + 2))) ∧ v18 = ((zAR (3 * u)) + (zAR ((3 * u) + 2)))) ∨ (((zAR (3 * u)) + (zAR ((3 * u) + 2))) < lo ∧ v18 = lo) := by omega
      change ab_W _ _ _ G7 66 [some (vR r), some (vz lo), some (vz hi), some (vz (3 * u)), some (vz (zAR ((3 * u) + 2))), none] [vz v18, vR r] _
      refine ab_iload_n d_CS_addAlike_66 rfl ?_
      refine ab_gets (i := 15) (by decide) s_CS_48 d_CS_addAlike_67 ?_
      refine ab_iload_n d_CS_addAlike_70 rfl ?_
      refine zz_iconst d_CS_addAlike_71 ?_
      refine zz_iadd d_CS_addAlike_72 ?_
      refine zz_iald d_CS_addAlike_73 h15 (by omega) ?_
      have hq19 := zAR_in ((3 * u) + 1) (by omega) (by omega)
      refine ab_iload d_CS_addAlike_74 rfl ?_
      refine zz_iadd d_CS_addAlike_76 ?_
      refine zz_mmin mj_CS_23 d_CS_addAlike_77 (by omega) (by omega) (Nat.le_of_ble_eq_true rfl) (by omega) ?_
      obtain ⟨v20, hv20⟩ : ∃ z : Int, z = (min hi ((zAR ((3 * u) + 1)) + (zAR ((3 * u) + 2)))) := ⟨_, rfl⟩
      rw [← hv20]
      have hv20 : (hi ≤ ((zAR ((3 * u) + 1)) + (zAR ((3 * u) + 2))) ∧ v20 = hi) ∨ (((zAR ((3 * u) + 1)) + (zAR ((3 * u) + 2))) < hi ∧ v20 = ((zAR ((3 * u) + 1)) + (zAR ((3 * u) + 2)))) := by omega
      change ab_W _ _ _ G7 80 [some (vR r), some (vz lo), some (vz hi), some (vz (3 * u)), some (vz (zAR ((3 * u) + 2))), none] [vz v20, vz v18, vR r] _
      refine ab_iload d_CS_addAlike_80 rfl ?_
      refine zz_ineg d_CS_addAlike_82 ?_
      obtain ⟨fsR, hR⟩ := pcsI_r.recv
      refine ab_callV (d' := d - 1) (as := [vz v18, vz v20, vz (-(zAR ((3 * u) + 2)))]) (st := []) (r := _) (z_CS_addMoved (o := o8) (r := r) (lr := lr) (lb := lb) (n := n29) (cnt := c210) (P := P211) (lo := v18) (hi := v20) (far := (-(zAR ((3 * u) + 2)))) pcsI_r (by omega) (by omega) (by omega) (by omega) (by omega) (by omega)) (fun oc G2 h => by rcases h with ⟨_, _, _, _, h, _⟩ <;> exact ⟨_, h⟩) (by omega) m_CS_addMoved ml_CS_51 im_CS_addMoved se_CS_addMoved c_CS hR (Nat.le_of_ble_eq_true rfl) d_CS_addAlike_83 rfl ?_
      intro v G21 hq
      rcases hq with ⟨o22, n223, c224, P225, hv, hfk, pNcsI_r, hq26, hq27, hq28, hq29⟩
      cases hv
      have h15 := hfk.get h15 (by simp only [List.mem_cons, List.not_mem_nil, or_false]; omega)
      have h16 := hfk.get h16 (by simp only [List.mem_cons, List.not_mem_nil, or_false]; omega)
      have pcsI_r := pNcsI_r
      have hfr := hfr.tr hfk (by simp)
      have hq30 := hfk.1
      change ab_W _ _ _ G21 86 [some (vR r), some (vz lo), some (vz hi), some (vz (3 * u)), some (vz (zAR ((3 * u) + 2))), none] [] _
      refine zz_iinc d_CS_addAlike_86 rfl (Nat.le_of_ble_eq_true rfl) (Nat.le_of_ble_eq_true rfl) rfl ?_
      change ab_W _ _ _ G21 89 [some (vR r), some (vz lo), some (vz hi), some (vz ((3 * u) + 3)), some (vz (zAR ((3 * u) + 2))), none] [] _
      refine ab_goto (tgt := 8) d_CS_addAlike_89 (by decide) ?_
      refine ab_less (L' := [some (vR r), some (vz lo), some (vz hi), some (vz ((3 * u) + 3)), none, none]) (fun i v h => by rcases i with _ | _ | _ | _ | _ | _ | i <;> first | exact h | (simp at h)) ?_
      exact ih (n := n223) (cnt := c224) (P := P225) (i := ((3 * u) + 3)) (u := (u + 1)) h15 h16 pcsI_r (by omega) (by omega) (by omega) (by omega) (by omega) (by omega) (fun c => by refine Iff.trans ?_ (al_step (B := fun c => P0 c ∨ (lo ≤ c ∧ c ≤ hi)) (A := al_r lo hi) (i := u) (by omega) c); rw [hq26 c, hq12 c, hP c, or_assoc]; exact or_congr Iff.rfl (by unfold al_r; omega)) hfr (by omega) hk0
set_option maxRecDepth 100000 in
set_option maxHeartbeats 4000000 in
theorem y_CS_addAlike_110 {X : ab_X} {d : Nat} {Q : Outcome → ab_G → Prop} {o0 : Nat → Nat} {G0 : ab_G} {r : Nat} {lr : Nat} {lb : Nat} {lo : Int} {hi : Int} {n0 : Nat} {c0 : Int} {i : Int} {u : Int} {n : Nat} {cnt : Int} {P : Int → Prop} (cx : 0 ≤ lo ∧ lo ≤ hi ∧ hi ≤ 1114111) (k0 : 0 ≤ c0 ∧ c0 ≤ 24900) (cl : 18 ≤ lr ∧ 18 ≤ lb) (rc : G0.length + 5000 ≤ ab_n0 + room_1.cells) (rs : ab_slots G0 + 208000 ≤ room_1.slots + 2 * n0) (ci : i = 4 * u) (cu : 0 ≤ u ∧ u ≤ 4) (hd : 6 ≤ d) : ∀ (mz : Nat) {G : ab_G} {o : Nat → Nat} {m1 : Int} {k : Int}, (cc o G 16 16 (za 20 zAF)) → (csI o G r lr lb n cnt P) → (i ≤ k ∧ k ≤ i + 4) → ((m1 = 0 ∨ m1 = 1) ∧ (m1 = 1 ↔ al_p lo hi i k)) → (0 ≤ cnt ∧ cnt ≤ c0 + 13 + 4 * u) → (n ≤ 104000) → (64 * G.length + n0 ≤ 64 * G0.length + n) → (ab_slots G + 2 * n0 ≤ ab_slots G0 + 2 * n) → (fx o0 o [lr, lb] G0 G) → (Int.toNat (i + 4 - k) < mz) → (∀ (G2 : ab_G) (m2 : Int), (cc o G2 16 16 (za 20 zAF)) → (csI o G2 r lr lb n cnt P) → ((m2 = 0 ∨ m2 = 1) ∧ (m2 = 1 ↔ al_p lo hi i (i + 4))) → (0 ≤ cnt ∧ cnt ≤ c0 + 13 + 4 * u) → (n ≤ 104000) → (64 * G2.length + n0 ≤ 64 * G0.length + n) → (ab_slots G2 + 2 * n0 ≤ ab_slots G0 + 2 * n) → (fx o0 o [lr, lb] G0 G2) → ab_W X (ab_pl y_CS_addAlike b_CS_addAlike 6 none) d G2 154 [some (vR r), some (vz lo), some (vz hi), some (vz i), some (vz m2), none] [] Q) → ab_W X (ab_pl y_CS_addAlike b_CS_addAlike 6 none) d G 110 [some (vR r), some (vz lo), some (vz hi), some (vz i), some (vz m1), some (vz k)] [] Q := by
  intro mz
  induction mz with
  | zero => intro G o m1 k h16 pcsI_r ck hM cn hn hg hs hfr hm hk0; exact absurd hm (Nat.not_lt_zero _)
  | succ mz ih =>
    intro G o m1 k h16 pcsI_r ck hM cn hn hg hs hfr hm hk0
    refine ab_iload d_CS_addAlike_110 rfl ?_
    refine ab_iload_n d_CS_addAlike_112 rfl ?_
    refine zz_iconst d_CS_addAlike_113 ?_
    refine zz_iadd d_CS_addAlike_114 ?_
    refine zz_icmp_ge (tgt := 154) d_CS_addAlike_115 (by decide) (by omega) (by omega) (fun c1 => ?_) (fun c1 => ?_)
    · refine ab_less (L' := [some (vR r), some (vz lo), some (vz hi), some (vz i), some (vz m1), none]) (fun i v h => by rcases i with _ | _ | _ | _ | _ | _ | i <;> first | exact h | (simp at h)) ?_
      exact hk0 _ _ h16 pcsI_r (by exact (show k = i + 4 by omega) ▸ hM) (by omega) (by omega) (by omega) (by omega) hfr
    · refine ab_iload d_CS_addAlike_118 rfl ?_
      refine ab_gets (i := 16) (by decide) s_CS_55 d_CS_addAlike_120 ?_
      refine ab_iload d_CS_addAlike_123 rfl ?_
      refine zz_iald d_CS_addAlike_125 h16 (by omega) ?_
      have hq2 := zAF_in k (by omega) (by omega)
      refine ab_iload_n d_CS_addAlike_126 rfl ?_
      refine zz_icmp_lt (tgt := 144) d_CS_addAlike_127 (by decide) (by omega) (by omega) (fun c3 => ?_) (fun c3 => ?_)
      · refine zz_iconst d_CS_addAlike_144 ?_
        refine zz_ior01 d_CS_addAlike_145 (by omega) (by omega) ?_
        obtain ⟨v4, hv4⟩ : ∃ z : Int, z = (max m1 0) := ⟨_, rfl⟩
        rw [← hv4]
        have hv4b : v4 = 0 ∨ v4 = 1 := by omega
        change ab_W _ _ _ G 146 [some (vR r), some (vz lo), some (vz hi), some (vz i), some (vz m1), some (vz k)] [vz v4] _
        refine ab_istore d_CS_addAlike_146 (Nat.le_of_ble_eq_true rfl) (Nat.le_of_ble_eq_true rfl) rfl ?_
        change ab_W _ _ _ G 148 [some (vR r), some (vz lo), some (vz hi), some (vz i), some (vz v4), some (vz k)] [] _
        refine zz_iinc d_CS_addAlike_148 rfl (Nat.le_of_ble_eq_true rfl) (Nat.le_of_ble_eq_true rfl) rfl ?_
        change ab_W _ _ _ G 151 [some (vR r), some (vz lo), some (vz hi), some (vz i), some (vz v4), some (vz (k + 1))] [] _
        refine ab_goto (tgt := 110) d_CS_addAlike_151 (by decide) ?_
        exact ih (m1 := v4) (k := (k + 1)) h16 pcsI_r (by omega) ⟨by omega, by rw [al_p_s (by omega), ← hM.2]; omega⟩ (by omega) (by omega) (by omega) (by omega) hfr (by omega) hk0
      · refine ab_gets (i := 16) (by decide) s_CS_55 d_CS_addAlike_130 ?_
        refine ab_iload d_CS_addAlike_133 rfl ?_
        refine zz_iald d_CS_addAlike_135 h16 (by omega) ?_
        have hq5 := zAF_in k (by omega) (by omega)
        refine ab_iload_n d_CS_addAlike_136 rfl ?_
        refine zz_icmp_gt (tgt := 144) d_CS_addAlike_137 (by decide) (by omega) (by omega) (fun c6 => ?_) (fun c6 => ?_)
        · refine zz_iconst d_CS_addAlike_144 ?_
          refine zz_ior01 d_CS_addAlike_145 (by omega) (by omega) ?_
          obtain ⟨v7, hv7⟩ : ∃ z : Int, z = (max m1 0) := ⟨_, rfl⟩
          rw [← hv7]
          have hv7b : v7 = 0 ∨ v7 = 1 := by omega
          change ab_W _ _ _ G 146 [some (vR r), some (vz lo), some (vz hi), some (vz i), some (vz m1), some (vz k)] [vz v7] _
          refine ab_istore d_CS_addAlike_146 (Nat.le_of_ble_eq_true rfl) (Nat.le_of_ble_eq_true rfl) rfl ?_
          change ab_W _ _ _ G 148 [some (vR r), some (vz lo), some (vz hi), some (vz i), some (vz v7), some (vz k)] [] _
          refine zz_iinc d_CS_addAlike_148 rfl (Nat.le_of_ble_eq_true rfl) (Nat.le_of_ble_eq_true rfl) rfl ?_
          change ab_W _ _ _ G 151 [some (vR r), some (vz lo), some (vz hi), some (vz i), some (vz v7), some (vz (k + 1))] [] _
          refine ab_goto (tgt := 110) d_CS_addAlike_151 (by decide) ?_
          exact ih (m1 := v7) (k := (k + 1)) h16 pcsI_r (by omega) ⟨by omega, by rw [al_p_s (by omega), ← hM.2]; omega⟩ (by omega) (by omega) (by omega) (by omega) hfr (by omega) hk0
        · refine zz_iconst d_CS_addAlike_140 ?_
          refine ab_goto (tgt := 145) d_CS_addAlike_141 (by decide) ?_
          refine zz_ior01 d_CS_addAlike_145 (by omega) (by omega) ?_
          obtain ⟨v8, hv8⟩ : ∃ z : Int, z = (max m1 1) := ⟨_, rfl⟩
          rw [← hv8]
          have hv8b : v8 = 0 ∨ v8 = 1 := by omega
          change ab_W _ _ _ G 146 [some (vR r), some (vz lo), some (vz hi), some (vz i), some (vz m1), some (vz k)] [vz v8] _
          refine ab_istore d_CS_addAlike_146 (Nat.le_of_ble_eq_true rfl) (Nat.le_of_ble_eq_true rfl) rfl ?_
          change ab_W _ _ _ G 148 [some (vR r), some (vz lo), some (vz hi), some (vz i), some (vz v8), some (vz k)] [] _
          refine zz_iinc d_CS_addAlike_148 rfl (Nat.le_of_ble_eq_true rfl) (Nat.le_of_ble_eq_true rfl) rfl ?_
          change ab_W _ _ _ G 151 [some (vR r), some (vz lo), some (vz hi), some (vz i), some (vz v8), some (vz (k + 1))] [] _
          refine ab_goto (tgt := 110) d_CS_addAlike_151 (by decide) ?_
          exact ih (m1 := v8) (k := (k + 1)) h16 pcsI_r (by omega) ⟨by omega, by rw [al_p_s (by omega), ← hM.2]; omega⟩ (by omega) (by omega) (by omega) (by omega) hfr (by omega) hk0
set_option maxRecDepth 100000 in
set_option maxHeartbeats 4000000 in
theorem y_CS_addAlike_157 {X : ab_X} {d : Nat} {Q : Outcome → ab_G → Prop} {o0 : Nat → Nat} {G0 : ab_G} {r : Nat} {lr : Nat} {lb : Nat} {lo : Int} {hi : Int} {n0 : Nat} {c0 : Int} {P1 : Int → Prop} {i : Int} {u : Int} {m1 : Int} (cx : 0 ≤ lo ∧ lo ≤ hi ∧ hi ≤ 1114111) (k0 : 0 ≤ c0 ∧ c0 ≤ 24900) (cl : 18 ≤ lr ∧ 18 ≤ lb) (rc : G0.length + 5000 ≤ ab_n0 + room_1.cells) (rs : ab_slots G0 + 208000 ≤ room_1.slots + 2 * n0) (ci : i = 4 * u) (cu : 0 ≤ u ∧ u ≤ 4) (cm : m1 = 0 ∨ m1 = 1) (hd : 6 ≤ d) : ∀ (mz : Nat) {G : ab_G} {o : Nat → Nat} {n : Nat} {cnt : Int} {P : Int → Prop} {k : Int}, (cc o G 16 16 (za 20 zAF)) → (csI o G r lr lb n cnt P) → (i ≤ k ∧ k ≤ i + 4) → (m1 = 0 → k = i) → (∀ c : Int, P c ↔ P1 c ∨ al_e i k c) → (0 ≤ cnt ∧ cnt ≤ c0 + 13 + 4 * u + (k - i)) → (n ≤ 104000) → (64 * G.length + n0 ≤ 64 * G0.length + n) → (ab_slots G + 2 * n0 ≤ ab_slots G0 + 2 * n) → (fx o0 o [lr, lb] G0 G) → (Int.toNat (i + 4 - k) < mz) → (∀ (G2 : ab_G) (o2 : Nat → Nat) (n2 : Nat) (c2 : Int) (P2 : Int → Prop), (cc o2 G2 16 16 (za 20 zAF)) → (csI o2 G2 r lr lb n2 c2 P2) → (0 ≤ c2 ∧ c2 ≤ c0 + 13 + 4 * u + 4) → (n2 ≤ 104000) → (64 * G2.length + n0 ≤ 64 * G0.length + n2) → (ab_slots G2 + 2 * n0 ≤ ab_slots G0 + 2 * n2) → (∀ c : Int, P2 c ↔ P1 c ∨ (m1 = 1 ∧ al_e i (i + 4) c)) → (fx o0 o2 [lr, lb] G0 G2) → ab_W X (ab_pl y_CS_addAlike b_CS_addAlike 6 none) d G2 192 [some (vR r), some (vz lo), some (vz hi), some (vz i), none, none] [] Q) → ab_W X (ab_pl y_CS_addAlike b_CS_addAlike 6 none) d G 157 [some (vR r), some (vz lo), some (vz hi), some (vz i), some (vz m1), some (vz k)] [] Q := by
  intro mz
  induction mz with
  | zero => intro G o n cnt P k h16 pcsI_r ck cm0 hE cn hn hg hs hfr hm hk0; exact absurd hm (Nat.not_lt_zero _)
  | succ mz ih =>
    intro G o n cnt P k h16 pcsI_r ck cm0 hE cn hn hg hs hfr hm hk0
    refine ab_iload d_CS_addAlike_157 rfl ?_
    refine ab_iload_n d_CS_addAlike_159 rfl ?_
    refine zz_iconst d_CS_addAlike_160 ?_
    refine zz_iadd d_CS_addAlike_161 ?_
    refine zz_icmp_ge (tgt := 192) d_CS_addAlike_162 (by decide) (by omega) (by omega) (fun c1 => ?_) (fun c1 => ?_)
    · refine ab_less (L' := [some (vR r), some (vz lo), some (vz hi), some (vz i), none, none]) (fun i v h => by rcases i with _ | _ | _ | _ | _ | _ | i <;> first | exact h | (simp at h)) ?_
      exact hk0 _ _ _ _ _ h16 pcsI_r (by omega) (by omega) (by omega) (by omega) (by first | (have hk : k = i + 4 := (by omega); have hm1 : m1 = 1 := (by omega); intro c; rw [hE c, hk]; exact or_congr Iff.rfl ⟨fun h => ⟨hm1, h⟩, fun h => h.2⟩) | (have hm1 : ¬ m1 = 1 := (by omega); have hk := cm0 (by omega); intro c; rw [hE c, hk]; exact or_congr Iff.rfl ⟨fun h => absurd h al_e_0, fun h => absurd h.1 hm1⟩)) hfr
    · refine ab_iload d_CS_addAlike_165 rfl ?_
      refine zz_if_eq (tgt := 192) d_CS_addAlike_167 (by decide) (by omega) (fun c2 => ?_) (fun c2 => ?_)
      · refine ab_less (L' := [some (vR r), some (vz lo), some (vz hi), some (vz i), none, none]) (fun i v h => by rcases i with _ | _ | _ | _ | _ | _ | i <;> first | exact h | (simp at h)) ?_
        exact hk0 _ _ _ _ _ h16 pcsI_r (by omega) (by omega) (by omega) (by omega) (by first | (have hk : k = i + 4 := (by omega); have hm1 : m1 = 1 := (by omega); intro c; rw [hE c, hk]; exact or_congr Iff.rfl ⟨fun h => ⟨hm1, h⟩, fun h => h.2⟩) | (have hm1 : ¬ m1 = 1 := (by omega); have hk := cm0 (by omega); intro c; rw [hE c, hk]; exact or_congr Iff.rfl ⟨fun h => absurd h al_e_0, fun h => absurd h.1 hm1⟩)) hfr
      · refine ab_aload_n d_CS_addAlike_170 rfl ?_
        refine ab_gets (i := 16) (by decide) s_CS_55 d_CS_addAlike_171 ?_
        refine ab_iload d_CS_addAlike_174 rfl ?_
        refine zz_iald d_CS_addAlike_176 h16 (by omega) ?_
        have hq3 := zAF_in k (by omega) (by omega)
        refine ab_gets (i := 16) (by decide) s_CS_55 d_CS_addAlike_177 ?_
        refine ab_iload d_CS_addAlike_180 rfl ?_
        refine zz_iald d_CS_addAlike_182 h16 (by omega) ?_
        have hq4 := zAF_in k (by omega) (by omega)
        obtain ⟨fsR, hR⟩ := pcsI_r.recv
        refine ab_callV (d' := d - 1) (as := [vz (zAF k), vz (zAF k)]) (st := []) (r := _) (c_CS_add (o := o) (r := r) (lr := lr) (lb := lb) (n := n) (cnt := cnt) (P := P) (lo := (zAF k)) (hi := (zAF k)) pcsI_r (by omega) (by omega) (by omega) (by omega) (by omega)) (fun oc G2 h => by rcases h with ⟨_, _, _, _, h, _⟩ <;> exact ⟨_, h⟩) (by omega) m_CS_add ml_CS_44 im_CS_add se_CS_add c_CS hR (Nat.le_of_ble_eq_true rfl) d_CS_addAlike_183 rfl ?_
        intro v G5 hq
        rcases hq with ⟨o6, n27, c28, P29, hv, hfk, pNcsI_r, hq10, hq11, hq12, hq13⟩
        cases hv
        have h16 := hfk.get h16 (by simp only [List.mem_cons, List.not_mem_nil, or_false]; omega)
        have pcsI_r := pNcsI_r
        have hfr := hfr.tr hfk (by simp)
        have hq14 := hfk.1
        change ab_W _ _ _ G5 186 [some (vR r), some (vz lo), some (vz hi), some (vz i), some (vz m1), some (vz k)] [] _
        refine zz_iinc d_CS_addAlike_186 rfl (Nat.le_of_ble_eq_true rfl) (Nat.le_of_ble_eq_true rfl) rfl ?_
        change ab_W _ _ _ G5 189 [some (vR r), some (vz lo), some (vz hi), some (vz i), some (vz m1), some (vz (k + 1))] [] _
        refine ab_goto (tgt := 157) d_CS_addAlike_189 (by decide) ?_
        exact ih (n := n27) (cnt := c28) (P := P29) (k := (k + 1)) h16 pcsI_r (by omega) (fun h => absurd h (by omega)) (fun c => by rw [hq10 c, hE c, al_e_s (by omega), or_assoc]; exact or_congr Iff.rfl (or_congr Iff.rfl (by omega))) (by omega) (by omega) (by omega) (by omega) hfr (by omega) hk0
set_option maxRecDepth 100000 in
set_option maxHeartbeats 4000000 in
theorem y_CS_addAlike_94 {X : ab_X} {d : Nat} {Q : Outcome → ab_G → Prop} {o0 : Nat → Nat} {G0 : ab_G} {r : Nat} {lr : Nat} {lb : Nat} {lo : Int} {hi : Int} {n0 : Nat} {c0 : Int} {P1 : Int → Prop} (cx : 0 ≤ lo ∧ lo ≤ hi ∧ hi ≤ 1114111) (k0 : 0 ≤ c0 ∧ c0 ≤ 24900) (cl : 18 ≤ lr ∧ 18 ≤ lb) (rc : G0.length + 5000 ≤ ab_n0 + room_1.cells) (rs : ab_slots G0 + 208000 ≤ room_1.slots + 2 * n0) (hd : 6 ≤ d) : ∀ (mz : Nat) {G : ab_G} {o : Nat → Nat} {n : Nat} {cnt : Int} {P : Int → Prop} {i : Int} {u : Int}, (cc o G 16 16 (za 20 zAF)) → (csI o G r lr lb n cnt P) → (i = 4 * u) → (0 ≤ u ∧ u ≤ 5) → (0 ≤ cnt ∧ cnt ≤ c0 + 13 + 4 * u) → (n ≤ 104000) → (64 * G.length + n0 ≤ 64 * G0.length + n) → (ab_slots G + 2 * n0 ≤ ab_slots G0 + 2 * n) → (∀ c : Int, P c ↔ P1 c ∨ ∃ r : Int, 0 ≤ r ∧ r < u ∧ al_q lo hi r c) → (fx o0 o [lr, lb] G0 G) → (Int.toNat (5 - u) < mz) → (∀ (G2 : ab_G) (o2 : Nat → Nat) (n2 : Nat) (c2 : Int) (P2 : Int → Prop), (cc o2 G2 16 16 (za 20 zAF)) → (csI o2 G2 r lr lb n2 c2 P2) → (0 ≤ c2 ∧ c2 ≤ c0 + 33) → (n2 ≤ 104000) → (64 * G2.length + n0 ≤ 64 * G0.length + n2) → (ab_slots G2 + 2 * n0 ≤ ab_slots G0 + 2 * n2) → (∀ c : Int, P2 c ↔ P1 c ∨ ∃ r : Int, 0 ≤ r ∧ r < 5 ∧ al_q lo hi r c) → (fx o0 o2 [lr, lb] G0 G2) → ab_W X (ab_pl y_CS_addAlike b_CS_addAlike 6 none) d G2 198 [none, none, none, none, none, none] [] Q) → ab_W X (ab_pl y_CS_addAlike b_CS_addAlike 6 none) d G 94 [some (vR r), some (vz lo), some (vz hi), some (vz i), none, none] [] Q := by
  intro mz
  induction mz with
  | zero => intro G o n cnt P i u h16 pcsI_r ci cu cn hn hg hs hQ2 hfr hm hk0; exact absurd hm (Nat.not_lt_zero _)
  | succ mz ih =>
    intro G o n cnt P i u h16 pcsI_r ci cu cn hn hg hs hQ2 hfr hm hk0
    subst ci
    refine ab_iload_n d_CS_addAlike_94 rfl ?_
    refine zz_iconst d_CS_addAlike_95 ?_
    refine zz_iadd d_CS_addAlike_96 ?_
    refine ab_gets (i := 16) (by decide) s_CS_55 d_CS_addAlike_97 ?_
    refine zz_alen d_CS_addAlike_100 h16 ?_
    change ab_W _ _ _ G 101 [some (vR r), some (vz lo), some (vz hi), some (vz (4 * u)), none, none] [vz 20, vz ((4 * u) + 3)] _
    refine zz_icmp_ge (tgt := 198) d_CS_addAlike_101 (by decide) (by omega) (by decide) (fun c1 => ?_) (fun c1 => ?_)
    · refine ab_less (L' := [none, none, none, none, none, none]) (fun i v h => by rcases i with _ | _ | _ | _ | _ | _ | i <;> first | exact h | (simp at h)) ?_
      exact hk0 _ _ _ _ _ h16 pcsI_r (by omega) (by omega) (by omega) (by omega) (by exact (show u = 5 by omega) ▸ hQ2) hfr
    · refine zz_iconst d_CS_addAlike_104 ?_
      refine ab_istore d_CS_addAlike_105 (Nat.le_of_ble_eq_true rfl) (Nat.le_of_ble_eq_true rfl) rfl ?_
      change ab_W _ _ _ G 107 [some (vR r), some (vz lo), some (vz hi), some (vz (4 * u)), some (vz 0), none] [] _
      refine ab_iload_n d_CS_addAlike_107 rfl ?_
      refine ab_istore d_CS_addAlike_108 (Nat.le_of_ble_eq_true rfl) (Nat.le_of_ble_eq_true rfl) rfl ?_
      change ab_W _ _ _ G 110 [some (vR r), some (vz lo), some (vz hi), some (vz (4 * u)), some (vz 0), some (vz (4 * u))] [] _
      refine y_CS_addAlike_110 (r := r) (lr := lr) (lb := lb) (lo := lo) (hi := hi) (i := (4 * u)) (u := u) (n := n) (cnt := cnt) (P := P) (m1 := 0) (k := (4 * u)) (by omega) (by omega) (by omega) (by omega) (by omega) (by omega) (by omega) (by omega) (Int.toNat ((4 * u) + 4 - (4 * u)) + 1) h16 pcsI_r (by omega) ⟨Or.inl rfl, ⟨fun h => absurd h (by decide), fun h => absurd h al_p_0⟩⟩ (by omega) (by omega) (by omega) (by omega) hfr (by omega) (fun G2 m23 h16 pcsI_r hq4 hq5 hq6 hq7 hq8 hfr => ?_)
      · change ab_W _ _ _ G2 154 [some (vR r), some (vz lo), some (vz hi), some (vz (4 * u)), some (vz m23), none] [] _
        refine ab_iload_n d_CS_addAlike_154 rfl ?_
        refine ab_istore d_CS_addAlike_155 (Nat.le_of_ble_eq_true rfl) (Nat.le_of_ble_eq_true rfl) rfl ?_
        change ab_W _ _ _ G2 157 [some (vR r), some (vz lo), some (vz hi), some (vz (4 * u)), some (vz m23), some (vz (4 * u))] [] _
        refine y_CS_addAlike_157 (r := r) (lr := lr) (lb := lb) (lo := lo) (hi := hi) (P1 := P) (i := (4 * u)) (u := u) (m1 := m23) (n := n) (cnt := cnt) (P := P) (k := (4 * u)) (by omega) (by omega) (by omega) (by omega) (by omega) (by omega) (by omega) hq4.1 (by omega) (Int.toNat ((4 * u) + 4 - (4 * u)) + 1) h16 pcsI_r (by omega) (fun _ => rfl) (fun c => ⟨Or.inl, fun h => h.elim id (fun q => absurd q al_e_0)⟩) (by omega) (by omega) (by omega) (by omega) hfr (by omega) (fun G9 o10 n211 c212 P213 h16 pcsI_r hq14 hq15 hq16 hq17 hq18 hfr => ?_)
        · change ab_W _ _ _ G9 192 [some (vR r), some (vz lo), some (vz hi), some (vz (4 * u)), none, none] [] _
          refine zz_iinc d_CS_addAlike_192 rfl (Nat.le_of_ble_eq_true rfl) (Nat.le_of_ble_eq_true rfl) rfl ?_
          change ab_W _ _ _ G9 195 [some (vR r), some (vz lo), some (vz hi), some (vz ((4 * u) + 4)), none, none] [] _
          refine ab_goto (tgt := 94) d_CS_addAlike_195 (by decide) ?_
          exact ih (n := n211) (cnt := c212) (P := P213) (i := ((4 * u) + 4)) (u := (u + 1)) h16 pcsI_r (by omega) (by omega) (by omega) (by omega) (by omega) (by omega) (fun c => by refine Iff.trans ?_ (al_step (B := P1) (A := al_q lo hi) (i := u) (by omega) c); rw [hq18 c, hQ2 c]; exact or_congr Iff.rfl (and_congr hq4.2 Iff.rfl)) hfr (by omega) hk0
set_option maxRecDepth 100000 in
set_option maxHeartbeats 4000000 in
theorem z_CS_addAlike {X : ab_X} {d : Nat} {o : Nat → Nat} {G : ab_G} {r : Nat} {lr : Nat} {lb : Nat} {n : Nat} {cnt : Int} {P : Int → Prop} {lo : Int} {hi : Int} (h15 : cc o G 15 15 (za 18 zAR)) (h16 : cc o G 16 16 (za 20 zAF)) (pcsI_r : csI o G r lr lb n cnt P) (cx : 0 ≤ lo ∧ lo ≤ hi ∧ hi ≤ 1114111) (k0 : 0 ≤ cnt ∧ cnt ≤ 24900) (cl : 18 ≤ lr ∧ 18 ≤ lb) (rc : G.length + 5000 ≤ ab_n0 + room_1.cells) (rs : ab_slots G + 208000 ≤ room_1.slots + 2 * n) (hd : 7 ≤ d) : ab_F X d y_CS_addAlike (.code y_CS_addAlike b_CS_addAlike 6 none) [vR r, vz lo, vz hi] G (fun oc G2 => ∃ o2 : Nat → Nat, ∃ n2 : Nat, ∃ c2 : Int, ∃ P2 : Int → Prop, oc = .returned none ∧ fx o o2 [lr, lb] G G2 ∧ csI o2 G2 r lr lb n2 c2 P2 ∧ (0 ≤ c2 ∧ c2 ≤ cnt + 33 ∧ n2 ≤ 104000) ∧ (64 * G2.length + n ≤ 64 * G.length + n2) ∧ (ab_slots G2 + 2 * n ≤ ab_slots G + 2 * n2) ∧ (∀ c : Int, P2 c ↔ P c ∨ alike lo hi c)) := by
  refine ab_F_of (by decide +kernel) (Nat.le_of_ble_eq_true rfl) ?_
  obtain ⟨Q, hQ⟩ : ∃ z : Outcome → ab_G → Prop, z = (fun oc G2 => ∃ o2 : Nat → Nat, ∃ n2 : Nat, ∃ c2 : Int, ∃ P2 : Int → Prop, oc = .returned none ∧ fx o o2 [lr, lb] G G2 ∧ csI o2 G2 r lr lb n2 c2 P2 ∧ (0 ≤ c2 ∧ c2 ≤ cnt + 33 ∧ n2 ≤ 104000) ∧ (64 * G2.length + n ≤ 64 * G.length + n2) ∧ (ab_slots G2 + 2 * n ≤ ab_slots G + 2 * n2) ∧ (∀ c : Int, P2 c ↔ P c ∨ alike lo hi c)) := ⟨_, rfl⟩
  rw [← hQ]
  change ab_W X (ab_pl y_CS_addAlike b_CS_addAlike 6 none) d G 0 [some (vR r), some (vz lo), some (vz hi), none, none, none] [] Q
  have hfr : fx o o [lr, lb] G G := fx.rf
  refine ab_aload_n d_CS_addAlike_0 rfl ?_
  refine ab_iload_n d_CS_addAlike_1 rfl ?_
  refine ab_iload_n d_CS_addAlike_2 rfl ?_
  obtain ⟨fsR, hR⟩ := pcsI_r.recv
  refine ab_callV (d' := d - 1) (as := [vz lo, vz hi]) (st := []) (r := _) (c_CS_add (o := o) (r := r) (lr := lr) (lb := lb) (n := n) (cnt := cnt) (P := P) (lo := lo) (hi := hi) pcsI_r (by omega) (by omega) (by omega) (by omega) (by omega)) (fun oc G2 h => by rcases h with ⟨_, _, _, _, h, _⟩ <;> exact ⟨_, h⟩) (by omega) m_CS_add ml_CS_44 im_CS_add se_CS_add c_CS hR (Nat.le_of_ble_eq_true rfl) d_CS_addAlike_3 rfl ?_
  intro v G1 hq
  rcases hq with ⟨o2, n23, c24, P25, hv, hfk, pNcsI_r, hq6, hq7, hq8, hq9⟩
  cases hv
  have h15 := hfk.get h15 (by simp only [List.mem_cons, List.not_mem_nil, or_false]; omega)
  have h16 := hfk.get h16 (by simp only [List.mem_cons, List.not_mem_nil, or_false]; omega)
  have pcsI_r := pNcsI_r
  have hfr := hfr.tr hfk (by simp)
  have hq10 := hfk.1
  change ab_W _ _ _ G1 6 [some (vR r), some (vz lo), some (vz hi), none, none, none] [] _
  refine zz_iconst d_CS_addAlike_6 ?_
  refine ab_istore_n d_CS_addAlike_7 (Nat.le_of_ble_eq_true rfl) (Nat.le_of_ble_eq_true rfl) rfl ?_
  change ab_W _ _ _ G1 8 [some (vR r), some (vz lo), some (vz hi), some (vz 0), none, none] [] _
  refine y_CS_addAlike_8 (r := r) (lr := lr) (lb := lb) (lo := lo) (hi := hi) (n0 := n) (c0 := cnt) (P0 := P) (n := n23) (cnt := c24) (P := P25) (i := 0) (u := 0) (by omega) (by omega) (by omega) (by omega) (by omega) (by omega) (Int.toNat (6 - 0) + 1) h15 h16 pcsI_r (by omega) (by omega) (by omega) (by omega) (by omega) (by omega) (fun c => ⟨fun h => Or.inl ((hq6 c).mp h), fun h => h.elim (fun q => (hq6 c).mpr q) (fun ⟨r, h1, h2, _⟩ => absurd h2 (by omega))⟩) hfr (by omega) (fun G11 o12 n213 c214 P215 h15 h16 pcsI_r hq16 hq17 hq18 hq19 hq20 hfr => ?_)
  · change ab_W _ _ _ G11 92 [some (vR r), some (vz lo), some (vz hi), none, none, none] [] _
    refine zz_iconst d_CS_addAlike_92 ?_
    refine ab_istore_n d_CS_addAlike_93 (Nat.le_of_ble_eq_true rfl) (Nat.le_of_ble_eq_true rfl) rfl ?_
    change ab_W _ _ _ G11 94 [some (vR r), some (vz lo), some (vz hi), some (vz 0), none, none] [] _
    refine y_CS_addAlike_94 (r := r) (lr := lr) (lb := lb) (lo := lo) (hi := hi) (n0 := n) (c0 := cnt) (n := n213) (cnt := c214) (P := P215) (i := 0) (u := 0) (by omega) (by omega) (by omega) (by omega) (by omega) (by omega) (Int.toNat (5 - 0) + 1) h16 pcsI_r (by omega) (by omega) (by omega) (by omega) (by omega) (by omega) (fun c => ⟨Or.inl, fun h => h.elim id (fun ⟨r, h1, h2, _⟩ => absurd h2 (by omega))⟩) hfr (by omega) (fun G21 o22 n223 c224 P225 h16 pcsI_r hq26 hq27 hq28 hq29 hq30 hfr => ?_)
    · change ab_W _ _ _ G21 198 [none, none, none, none, none, none] [] _
      refine ab_vret rfl d_CS_addAlike_198 ?_
      rw [hQ]; exact ⟨_, _, _, _, rfl, hfr, pcsI_r, (by omega), (by omega), (by omega), (by intro c; rw [hq30 c, hq20 c]; unfold alike; simp only [or_assoc])⟩
set_option maxRecDepth 100000 in
set_option maxHeartbeats 4000000 in
theorem y0_CS_addAll_5 {X : ab_X} {d : Nat} {Q : Outcome → ab_G → Prop} {o0 : Nat → Nat} {G0 : ab_G} {r : Nat} {lr : Nat} {lb : Nat} {a : Nat} {la : Nat} {w : Nat} {q : Int → Int} {mm : Int} {n0 : Nat} {c0 : Int} {P0 : Int → Prop} (k0 : 0 ≤ c0 ∧ c0 + mm ≤ 24990) (kq : ↑w = 2 * mm ∧ 0 ≤ mm ∧ mm ≤ 25000 ∧ la ≠ lr ∧ la ≠ lb) (hq : cs_can q mm) (rc : G0.length + 5000 ≤ ab_n0 + room_1.cells) (rs : ab_slots G0 + 208000 ≤ room_1.slots + 2 * n0) (hd : 5 ≤ d) : ∀ (mz : Nat) {G : ab_G} {o : Nat → Nat} {n : Nat} {cnt : Int} {P : Int → Prop} {i : Int} {u : Int} {nx : Int}, (cc o G a la (za w q)) → (csI o G r lr lb n cnt P) → (i = 2 * u) → (0 ≤ u ∧ u ≤ mm ∧ 0 ≤ nx ∧ nx ≤ 1114112) → ((u = 0 → nx = 0) ∧ (0 < u → nx = q (2 * (u - 1) + 1) + 1)) → (∀ c : Int, cs_mem q u c → c < nx) → (0 ≤ cnt ∧ cnt ≤ c0 + u) → (n ≤ 104000) → (64 * G.length + n0 ≤ 64 * G0.length + n) → (ab_slots G + 2 * n0 ≤ ab_slots G0 + 2 * n) → (∀ c : Int, P c ↔ P0 c ∨ cs_mem q u c) → (fx o0 o [lr, lb] G0 G) → (Int.toNat (mm - u) < mz) → (∀ (G2 : ab_G) (o2 : Nat → Nat) (n2 : Nat) (c2 : Int) (P2 : Int → Prop) (nx : Int), (csI o2 G2 r lr lb n2 c2 P2) → (0 ≤ c2 ∧ c2 ≤ c0 + mm) → (n2 ≤ 104000) → (64 * G2.length + n0 ≤ 64 * G0.length + n2) → (ab_slots G2 + 2 * n0 ≤ ab_slots G0 + 2 * n2) → (0 ≤ nx ∧ nx ≤ 1114112) → (∀ c : Int, cs_mem q mm c → c < nx) → (∀ c : Int, P2 c ↔ P0 c ∨ cs_mem q mm c) → (fx o0 o2 [lr, lb] G0 G2) → ab_W X (ab_pl y_CS_addAll b_CS_addAll 5 none) d G2 69 [some (vR r), none, some (vz 0), some (vz nx), none] [] Q) → ab_W X (ab_pl y_CS_addAll b_CS_addAll 5 none) d G 5 [some (vR r), some (vR a), some (vz 0), some (vz nx), some (vz i)] [] Q := by
  intro mz
  induction mz with
  | zero => intro G o n cnt P i u nx ha pcsI_r ci cu hnx hlt cn hn hg hs hP hfr hm hk0; exact absurd hm (Nat.not_lt_zero _)
  | succ mz ih =>
    intro G o n cnt P i u nx ha pcsI_r ci cu hnx hlt cn hn hg hs hP hfr hm hk0
    subst ci
    have hqu : u < mm → 0 ≤ q (2 * u) ∧ q (2 * u) ≤ q (2 * u + 1) ∧ q (2 * u + 1) ≤ 1114111 ∧ nx ≤ q (2 * u) := fun h => ⟨(hq u (by omega) h).1, (hq u (by omega) h).2.1, (hq u (by omega) h).2.2.1, by rcases Int.lt_or_eq_of_le (show 0 ≤ u by omega) with z | z; (have := cs_lt hq (i := u - 1) (j := u) (by omega) (by omega) h; have := hnx.2 (by omega); omega); (have := hnx.1 (by omega); have := (hq u (by omega) h).1; omega)⟩
    refine ab_iload d_CS_addAll_5 rfl ?_
    refine zz_iconst d_CS_addAll_7 ?_
    refine zz_iadd d_CS_addAll_8 ?_
    refine ab_aload_n d_CS_addAll_9 rfl ?_
    refine zz_alen d_CS_addAll_10 ha ?_
    refine zz_icmp_ge (tgt := 69) d_CS_addAll_11 (by decide) (by omega) (by omega) (fun c1 => ?_) (fun c1 => ?_)
    · refine ab_less (L' := [some (vR r), none, some (vz 0), some (vz nx), none]) (fun i v h => by rcases i with _ | _ | _ | _ | _ | i <;> first | exact h | (simp at h)) ?_
      exact hk0 _ _ _ _ _ _ pcsI_r (by omega) (by omega) (by omega) (by omega) (by omega) (by exact (show u = mm by omega) ▸ hlt) (by exact (show u = mm by omega) ▸ hP) hfr
    · have hqk := hqu (by omega)
      refine ab_iload_n d_CS_addAll_14 rfl ?_
      refine zz_if_ne (tgt := 35) d_CS_addAll_15 (by decide) (by decide) (fun c2 => absurd c2 (by decide)) (fun c2 => ?_)
      refine ab_aload_n d_CS_addAll_18 rfl ?_
      refine ab_aload_n d_CS_addAll_19 rfl ?_
      refine ab_iload d_CS_addAll_20 rfl ?_
      refine zz_iald d_CS_addAll_22 ha (by omega) ?_
      refine ab_aload_n d_CS_addAll_23 rfl ?_
      refine ab_iload d_CS_addAll_24 rfl ?_
      refine zz_iconst d_CS_addAll_26 ?_
      refine zz_iadd d_CS_addAll_27 ?_
      refine zz_iald d_CS_addAll_28 ha (by omega) ?_
      obtain ⟨fsR, hR⟩ := pcsI_r.recv
      refine ab_callV (d' := d - 1) (as := [vz (q (2 * u)), vz (q ((2 * u) + 1))]) (st := []) (r := _) (c_CS_add (o := o) (r := r) (lr := lr) (lb := lb) (n := n) (cnt := cnt) (P := P) (lo := (q (2 * u))) (hi := (q ((2 * u) + 1))) pcsI_r (by omega) (by omega) (by omega) (by omega) (by omega)) (fun oc G2 h => by rcases h with ⟨_, _, _, _, h, _⟩ <;> exact ⟨_, h⟩) (by omega) m_CS_add ml_CS_44 im_CS_add se_CS_add c_CS hR (Nat.le_of_ble_eq_true rfl) d_CS_addAll_29 rfl ?_
      intro v G3 hq
      rcases hq with ⟨o4, n25, c26, P27, hv, hfk, pNcsI_r, hq8, hq9, hq10, hq11⟩
      cases hv
      have ha := hfk.get ha (by simp only [List.mem_cons, List.not_mem_nil, or_false]; omega)
      have pcsI_r := pNcsI_r
      have hfr := hfr.tr hfk (by simp)
      have hq12 := hfk.1
      change ab_W _ _ _ G3 32 [some (vR r), some (vR a), some (vz 0), some (vz nx), some (vz (2 * u))] [] _
      refine ab_goto (tgt := 54) d_CS_addAll_32 (by decide) ?_
      refine ab_aload_n d_CS_addAll_54 rfl ?_
      refine ab_iload d_CS_addAll_55 rfl ?_
      refine zz_iconst d_CS_addAll_57 ?_
      refine zz_iadd d_CS_addAll_58 ?_
      refine zz_iald d_CS_addAll_59 ha (by omega) ?_
      refine zz_iconst d_CS_addAll_60 ?_
      refine zz_iadd d_CS_addAll_61 ?_
      refine ab_istore_n d_CS_addAll_62 (Nat.le_of_ble_eq_true rfl) (Nat.le_of_ble_eq_true rfl) rfl ?_
      change ab_W _ _ _ G3 63 [some (vR r), some (vR a), some (vz 0), some (vz ((q ((2 * u) + 1)) + 1)), some (vz (2 * u))] [] _
      refine zz_iinc d_CS_addAll_63 rfl (Nat.le_of_ble_eq_true rfl) (Nat.le_of_ble_eq_true rfl) rfl ?_
      change ab_W _ _ _ G3 66 [some (vR r), some (vR a), some (vz 0), some (vz ((q ((2 * u) + 1)) + 1)), some (vz ((2 * u) + 2))] [] _
      refine ab_goto (tgt := 5) d_CS_addAll_66 (by decide) ?_
      exact ih (n := n25) (cnt := c26) (P := P27) (i := ((2 * u) + 2)) (u := (u + 1)) (nx := ((q ((2 * u) + 1)) + 1)) ha pcsI_r (by omega) (by omega) ⟨fun h => absurd h (by omega), fun _ => by rw [show u + 1 - 1 = u by omega]⟩ (cs_next hq (by omega) (by omega)) (by omega) (by omega) (by omega) (by omega) (fun c => by rw [hq8 c, hP c, cs_mem_s (by omega), or_assoc]) hfr (by omega) hk0
set_option maxRecDepth 100000 in
set_option maxHeartbeats 4000000 in
theorem z0_CS_addAll {X : ab_X} {d : Nat} {o : Nat → Nat} {G : ab_G} {r : Nat} {lr : Nat} {lb : Nat} {n : Nat} {cnt : Int} {P : Int → Prop} {a : Nat} {la : Nat} {w : Nat} {q : Int → Int} {mm : Int} (ha : cc o G a la (za w q)) (pcsI_r : csI o G r lr lb n cnt P) (k0 : 0 ≤ cnt ∧ cnt + mm ≤ 24990 ∧ n ≤ 104000) (kq : ↑w = 2 * mm ∧ 0 ≤ mm ∧ mm ≤ 25000 ∧ la ≠ lr ∧ la ≠ lb) (hq : cs_can q mm) (rc : G.length + 5000 ≤ ab_n0 + room_1.cells) (rs : ab_slots G + 208000 ≤ room_1.slots + 2 * n) (hd : 6 ≤ d) : ab_F X d y_CS_addAll (.code y_CS_addAll b_CS_addAll 5 none) [vR r, vR a, vz 0] G (fun oc G2 => ∃ o2 : Nat → Nat, ∃ n2 : Nat, ∃ c2 : Int, ∃ P2 : Int → Prop, oc = .returned none ∧ fx o o2 [lr, lb] G G2 ∧ csI o2 G2 r lr lb n2 c2 P2 ∧ (0 ≤ c2 ∧ c2 ≤ cnt + mm + 1 ∧ n2 ≤ 104000) ∧ (64 * G2.length + n ≤ 64 * G.length + n2) ∧ (ab_slots G2 + 2 * n ≤ ab_slots G + 2 * n2) ∧ (∀ c : Int, P2 c ↔ P c ∨ cs_mem q mm c)) := by
  refine ab_F_of (by decide +kernel) (Nat.le_of_ble_eq_true rfl) ?_
  obtain ⟨Q, hQ⟩ : ∃ z : Outcome → ab_G → Prop, z = (fun oc G2 => ∃ o2 : Nat → Nat, ∃ n2 : Nat, ∃ c2 : Int, ∃ P2 : Int → Prop, oc = .returned none ∧ fx o o2 [lr, lb] G G2 ∧ csI o2 G2 r lr lb n2 c2 P2 ∧ (0 ≤ c2 ∧ c2 ≤ cnt + mm + 1 ∧ n2 ≤ 104000) ∧ (64 * G2.length + n ≤ 64 * G.length + n2) ∧ (ab_slots G2 + 2 * n ≤ ab_slots G + 2 * n2) ∧ (∀ c : Int, P2 c ↔ P c ∨ cs_mem q mm c)) := ⟨_, rfl⟩
  rw [← hQ]
  change ab_W X (ab_pl y_CS_addAll b_CS_addAll 5 none) d G 0 [some (vR r), some (vR a), some (vz 0), none, none] [] Q
  have hfr : fx o o [lr, lb] G G := fx.rf
  refine zz_iconst d_CS_addAll_0 ?_
  refine ab_istore_n d_CS_addAll_1 (Nat.le_of_ble_eq_true rfl) (Nat.le_of_ble_eq_true rfl) rfl ?_
  change ab_W _ _ _ G 2 [some (vR r), some (vR a), some (vz 0), some (vz 0), none] [] _
  refine zz_iconst d_CS_addAll_2 ?_
  refine ab_istore d_CS_addAll_3 (Nat.le_of_ble_eq_true rfl) (Nat.le_of_ble_eq_true rfl) rfl ?_
  change ab_W _ _ _ G 5 [some (vR r), some (vR a), some (vz 0), some (vz 0), some (vz 0)] [] _
  refine y0_CS_addAll_5 (r := r) (lr := lr) (lb := lb) (a := a) (la := la) (w := w) (q := q) (mm := mm) (n0 := n) (c0 := cnt) (P0 := P) (n := n) (cnt := cnt) (P := P) (i := 0) (u := 0) (nx := 0) (by omega) (by omega) hq (by omega) (by omega) (by omega) (Int.toNat (mm - 0) + 1) ha pcsI_r (by omega) (by omega) ⟨fun _ => rfl, fun h => absurd h (by omega)⟩ (fun c h => absurd h cs_none) (by omega) (by omega) (by omega) (by omega) (fun c => ⟨Or.inl, fun h => h.elim id (fun z => absurd z cs_none)⟩) hfr (by omega) (fun G1 o2 n23 c24 P25 nx6 pcsI_r hq7 hq8 hq9 hq10 hq11 hq12 hq13 hfr => ?_)
  · change ab_W _ _ _ G1 69 [some (vR r), none, some (vz 0), some (vz nx6), none] [] _
    refine ab_iload_n d_CS_addAll_69 rfl ?_
    refine zz_if_eq (tgt := 86) d_CS_addAll_70 (by decide) (by decide) (fun c14 => ?_) (fun c14 => absurd c14 (by decide))
    refine ab_vret rfl d_CS_addAll_86 ?_
    rw [hQ]; exact ⟨_, _, _, _, rfl, hfr, pcsI_r, (by omega), (by omega), (by omega), (by exact hq13)⟩
set_option maxRecDepth 100000 in
set_option maxHeartbeats 4000000 in
theorem y1_CS_addAll_5 {X : ab_X} {d : Nat} {Q : Outcome → ab_G → Prop} {o0 : Nat → Nat} {G0 : ab_G} {r : Nat} {lr : Nat} {lb : Nat} {a : Nat} {la : Nat} {w : Nat} {q : Int → Int} {mm : Int} {n0 : Nat} {c0 : Int} {P0 : Int → Prop} (k0 : 0 ≤ c0 ∧ c0 + mm ≤ 24990) (kq : ↑w = 2 * mm ∧ 0 ≤ mm ∧ mm ≤ 25000 ∧ la ≠ lr ∧ la ≠ lb) (hq : cs_can q mm) (rc : G0.length + 5000 ≤ ab_n0 + room_1.cells) (rs : ab_slots G0 + 208000 ≤ room_1.slots + 2 * n0) (hd : 5 ≤ d) : ∀ (mz : Nat) {G : ab_G} {o : Nat → Nat} {n : Nat} {cnt : Int} {P : Int → Prop} {i : Int} {u : Int} {nx : Int}, (cc o G a la (za w q)) → (csI o G r lr lb n cnt P) → (i = 2 * u) → (0 ≤ u ∧ u ≤ mm ∧ 0 ≤ nx ∧ nx ≤ 1114112) → ((u = 0 → nx = 0) ∧ (0 < u → nx = q (2 * (u - 1) + 1) + 1)) → (∀ c : Int, cs_mem q u c → c < nx) → (0 ≤ cnt ∧ cnt ≤ c0 + u) → (n ≤ 104000) → (64 * G.length + n0 ≤ 64 * G0.length + n) → (ab_slots G + 2 * n0 ≤ ab_slots G0 + 2 * n) → (∀ c : Int, P c ↔ P0 c ∨ (0 ≤ c ∧ c < nx ∧ ¬ cs_mem q u c)) → (fx o0 o [lr, lb] G0 G) → (Int.toNat (mm - u) < mz) → (∀ (G2 : ab_G) (o2 : Nat → Nat) (n2 : Nat) (c2 : Int) (P2 : Int → Prop) (nx : Int), (csI o2 G2 r lr lb n2 c2 P2) → (0 ≤ c2 ∧ c2 ≤ c0 + mm) → (n2 ≤ 104000) → (64 * G2.length + n0 ≤ 64 * G0.length + n2) → (ab_slots G2 + 2 * n0 ≤ ab_slots G0 + 2 * n2) → (0 ≤ nx ∧ nx ≤ 1114112) → (∀ c : Int, cs_mem q mm c → c < nx) → (∀ c : Int, P2 c ↔ P0 c ∨ (0 ≤ c ∧ c < nx ∧ ¬ cs_mem q mm c)) → (fx o0 o2 [lr, lb] G0 G2) → ab_W X (ab_pl y_CS_addAll b_CS_addAll 5 none) d G2 69 [some (vR r), none, some (vz 1), some (vz nx), none] [] Q) → ab_W X (ab_pl y_CS_addAll b_CS_addAll 5 none) d G 5 [some (vR r), some (vR a), some (vz 1), some (vz nx), some (vz i)] [] Q := by
  intro mz
  induction mz with
  | zero => intro G o n cnt P i u nx ha pcsI_r ci cu hnx hlt cn hn hg hs hP hfr hm hk0; exact absurd hm (Nat.not_lt_zero _)
  | succ mz ih =>
    intro G o n cnt P i u nx ha pcsI_r ci cu hnx hlt cn hn hg hs hP hfr hm hk0
    subst ci
    have hqu : u < mm → 0 ≤ q (2 * u) ∧ q (2 * u) ≤ q (2 * u + 1) ∧ q (2 * u + 1) ≤ 1114111 ∧ nx ≤ q (2 * u) := fun h => ⟨(hq u (by omega) h).1, (hq u (by omega) h).2.1, (hq u (by omega) h).2.2.1, by rcases Int.lt_or_eq_of_le (show 0 ≤ u by omega) with z | z; (have := cs_lt hq (i := u - 1) (j := u) (by omega) (by omega) h; have := hnx.2 (by omega); omega); (have := hnx.1 (by omega); have := (hq u (by omega) h).1; omega)⟩
    refine ab_iload d_CS_addAll_5 rfl ?_
    refine zz_iconst d_CS_addAll_7 ?_
    refine zz_iadd d_CS_addAll_8 ?_
    refine ab_aload_n d_CS_addAll_9 rfl ?_
    refine zz_alen d_CS_addAll_10 ha ?_
    refine zz_icmp_ge (tgt := 69) d_CS_addAll_11 (by decide) (by omega) (by omega) (fun c1 => ?_) (fun c1 => ?_)
    · refine ab_less (L' := [some (vR r), none, some (vz 1), some (vz nx), none]) (fun i v h => by rcases i with _ | _ | _ | _ | _ | i <;> first | exact h | (simp at h)) ?_
      exact hk0 _ _ _ _ _ _ pcsI_r (by omega) (by omega) (by omega) (by omega) (by omega) (by exact (show u = mm by omega) ▸ hlt) (by exact (show u = mm by omega) ▸ hP) hfr
    · have hqk := hqu (by omega)
      refine ab_iload_n d_CS_addAll_14 rfl ?_
      refine zz_if_ne (tgt := 35) d_CS_addAll_15 (by decide) (by decide) (fun c2 => ?_) (fun c2 => absurd c2 (by decide))
      refine ab_aload_n d_CS_addAll_35 rfl ?_
      refine ab_iload d_CS_addAll_36 rfl ?_
      refine zz_iald d_CS_addAll_38 ha (by omega) ?_
      refine ab_iload_n d_CS_addAll_39 rfl ?_
      refine zz_icmp_le (tgt := 54) d_CS_addAll_40 (by decide) (by omega) (by omega) (fun c3 => ?_) (fun c3 => ?_)
      · refine ab_aload_n d_CS_addAll_54 rfl ?_
        refine ab_iload d_CS_addAll_55 rfl ?_
        refine zz_iconst d_CS_addAll_57 ?_
        refine zz_iadd d_CS_addAll_58 ?_
        refine zz_iald d_CS_addAll_59 ha (by omega) ?_
        refine zz_iconst d_CS_addAll_60 ?_
        refine zz_iadd d_CS_addAll_61 ?_
        refine ab_istore_n d_CS_addAll_62 (Nat.le_of_ble_eq_true rfl) (Nat.le_of_ble_eq_true rfl) rfl ?_
        change ab_W _ _ _ G 63 [some (vR r), some (vR a), some (vz 1), some (vz ((q ((2 * u) + 1)) + 1)), some (vz (2 * u))] [] _
        refine zz_iinc d_CS_addAll_63 rfl (Nat.le_of_ble_eq_true rfl) (Nat.le_of_ble_eq_true rfl) rfl ?_
        change ab_W _ _ _ G 66 [some (vR r), some (vR a), some (vz 1), some (vz ((q ((2 * u) + 1)) + 1)), some (vz ((2 * u) + 2))] [] _
        refine ab_goto (tgt := 5) d_CS_addAll_66 (by decide) ?_
        exact ih (n := n) (cnt := cnt) (P := P) (i := ((2 * u) + 2)) (u := (u + 1)) (nx := ((q ((2 * u) + 1)) + 1)) ha pcsI_r (by omega) (by omega) ⟨fun h => absurd h (by omega), fun _ => by rw [show u + 1 - 1 = u by omega]⟩ (cs_next hq (by omega) (by omega)) (by omega) (by omega) (by omega) (by omega) (fun c => by rw [hP c, cs_mem_s (by omega)]; refine Iff.trans ?_ (cs_not (hlt c) (by omega) (show nx ≤ q (2 * u) by omega) (by omega)); exact ⟨Or.inl, fun z => z.elim id (fun y => absurd y (by omega))⟩) hfr (by omega) hk0
      · refine ab_aload_n d_CS_addAll_43 rfl ?_
        refine ab_iload_n d_CS_addAll_44 rfl ?_
        refine ab_aload_n d_CS_addAll_45 rfl ?_
        refine ab_iload d_CS_addAll_46 rfl ?_
        refine zz_iald d_CS_addAll_48 ha (by omega) ?_
        refine zz_iconst d_CS_addAll_49 ?_
        refine zz_isub d_CS_addAll_50 ?_
        obtain ⟨fsR, hR⟩ := pcsI_r.recv
        refine ab_callV (d' := d - 1) (as := [vz nx, vz ((q (2 * u)) - 1)]) (st := []) (r := _) (c_CS_add (o := o) (r := r) (lr := lr) (lb := lb) (n := n) (cnt := cnt) (P := P) (lo := nx) (hi := ((q (2 * u)) - 1)) pcsI_r (by omega) (by omega) (by omega) (by omega) (by omega)) (fun oc G2 h => by rcases h with ⟨_, _, _, _, h, _⟩ <;> exact ⟨_, h⟩) (by omega) m_CS_add ml_CS_44 im_CS_add se_CS_add c_CS hR (Nat.le_of_ble_eq_true rfl) d_CS_addAll_51 rfl ?_
        intro v G4 hq
        rcases hq with ⟨o5, n26, c27, P28, hv, hfk, pNcsI_r, hq9, hq10, hq11, hq12⟩
        cases hv
        have ha := hfk.get ha (by simp only [List.mem_cons, List.not_mem_nil, or_false]; omega)
        have pcsI_r := pNcsI_r
        have hfr := hfr.tr hfk (by simp)
        have hq13 := hfk.1
        change ab_W _ _ _ G4 54 [some (vR r), some (vR a), some (vz 1), some (vz nx), some (vz (2 * u))] [] _
        refine ab_aload_n d_CS_addAll_54 rfl ?_
        refine ab_iload d_CS_addAll_55 rfl ?_
        refine zz_iconst d_CS_addAll_57 ?_
        refine zz_iadd d_CS_addAll_58 ?_
        refine zz_iald d_CS_addAll_59 ha (by omega) ?_
        refine zz_iconst d_CS_addAll_60 ?_
        refine zz_iadd d_CS_addAll_61 ?_
        refine ab_istore_n d_CS_addAll_62 (Nat.le_of_ble_eq_true rfl) (Nat.le_of_ble_eq_true rfl) rfl ?_
        change ab_W _ _ _ G4 63 [some (vR r), some (vR a), some (vz 1), some (vz ((q ((2 * u) + 1)) + 1)), some (vz (2 * u))] [] _
        refine zz_iinc d_CS_addAll_63 rfl (Nat.le_of_ble_eq_true rfl) (Nat.le_of_ble_eq_true rfl) rfl ?_
        change ab_W _ _ _ G4 66 [some (vR r), some (vR a), some (vz 1), some (vz ((q ((2 * u) + 1)) + 1)), some (vz ((2 * u) + 2))] [] _
        refine ab_goto (tgt := 5) d_CS_addAll_66 (by decide) ?_
        exact ih (n := n26) (cnt := c27) (P := P28) (i := ((2 * u) + 2)) (u := (u + 1)) (nx := ((q ((2 * u) + 1)) + 1)) ha pcsI_r (by omega) (by omega) ⟨fun h => absurd h (by omega), fun _ => by rw [show u + 1 - 1 = u by omega]⟩ (cs_next hq (by omega) (by omega)) (by omega) (by omega) (by omega) (by omega) (fun c => by rw [hq9 c, hP c, cs_mem_s (by omega)]; exact cs_not (hlt c) (by omega) (by omega) (by omega)) hfr (by omega) hk0
set_option maxRecDepth 100000 in
set_option maxHeartbeats 4000000 in
theorem z1_CS_addAll {X : ab_X} {d : Nat} {o : Nat → Nat} {G : ab_G} {r : Nat} {lr : Nat} {lb : Nat} {n : Nat} {cnt : Int} {P : Int → Prop} {a : Nat} {la : Nat} {w : Nat} {q : Int → Int} {mm : Int} (ha : cc o G a la (za w q)) (pcsI_r : csI o G r lr lb n cnt P) (k0 : 0 ≤ cnt ∧ cnt + mm ≤ 24990 ∧ n ≤ 104000) (kq : ↑w = 2 * mm ∧ 0 ≤ mm ∧ mm ≤ 25000 ∧ la ≠ lr ∧ la ≠ lb) (hq : cs_can q mm) (rc : G.length + 5000 ≤ ab_n0 + room_1.cells) (rs : ab_slots G + 208000 ≤ room_1.slots + 2 * n) (hd : 6 ≤ d) : ab_F X d y_CS_addAll (.code y_CS_addAll b_CS_addAll 5 none) [vR r, vR a, vz 1] G (fun oc G2 => ∃ o2 : Nat → Nat, ∃ n2 : Nat, ∃ c2 : Int, ∃ P2 : Int → Prop, oc = .returned none ∧ fx o o2 [lr, lb] G G2 ∧ csI o2 G2 r lr lb n2 c2 P2 ∧ (0 ≤ c2 ∧ c2 ≤ cnt + mm + 1 ∧ n2 ≤ 104000) ∧ (64 * G2.length + n ≤ 64 * G.length + n2) ∧ (ab_slots G2 + 2 * n ≤ ab_slots G + 2 * n2) ∧ (∀ c : Int, P2 c ↔ P c ∨ (0 ≤ c ∧ c ≤ 1114111 ∧ ¬ cs_mem q mm c))) := by
  refine ab_F_of (by decide +kernel) (Nat.le_of_ble_eq_true rfl) ?_
  obtain ⟨Q, hQ⟩ : ∃ z : Outcome → ab_G → Prop, z = (fun oc G2 => ∃ o2 : Nat → Nat, ∃ n2 : Nat, ∃ c2 : Int, ∃ P2 : Int → Prop, oc = .returned none ∧ fx o o2 [lr, lb] G G2 ∧ csI o2 G2 r lr lb n2 c2 P2 ∧ (0 ≤ c2 ∧ c2 ≤ cnt + mm + 1 ∧ n2 ≤ 104000) ∧ (64 * G2.length + n ≤ 64 * G.length + n2) ∧ (ab_slots G2 + 2 * n ≤ ab_slots G + 2 * n2) ∧ (∀ c : Int, P2 c ↔ P c ∨ (0 ≤ c ∧ c ≤ 1114111 ∧ ¬ cs_mem q mm c))) := ⟨_, rfl⟩
  rw [← hQ]
  change ab_W X (ab_pl y_CS_addAll b_CS_addAll 5 none) d G 0 [some (vR r), some (vR a), some (vz 1), none, none] [] Q
  have hfr : fx o o [lr, lb] G G := fx.rf
  refine zz_iconst d_CS_addAll_0 ?_
  refine ab_istore_n d_CS_addAll_1 (Nat.le_of_ble_eq_true rfl) (Nat.le_of_ble_eq_true rfl) rfl ?_
  change ab_W _ _ _ G 2 [some (vR r), some (vR a), some (vz 1), some (vz 0), none] [] _
  refine zz_iconst d_CS_addAll_2 ?_
  refine ab_istore d_CS_addAll_3 (Nat.le_of_ble_eq_true rfl) (Nat.le_of_ble_eq_true rfl) rfl ?_
  change ab_W _ _ _ G 5 [some (vR r), some (vR a), some (vz 1), some (vz 0), some (vz 0)] [] _
  refine y1_CS_addAll_5 (r := r) (lr := lr) (lb := lb) (a := a) (la := la) (w := w) (q := q) (mm := mm) (n0 := n) (c0 := cnt) (P0 := P) (n := n) (cnt := cnt) (P := P) (i := 0) (u := 0) (nx := 0) (by omega) (by omega) hq (by omega) (by omega) (by omega) (Int.toNat (mm - 0) + 1) ha pcsI_r (by omega) (by omega) ⟨fun _ => rfl, fun h => absurd h (by omega)⟩ (fun c h => absurd h cs_none) (by omega) (by omega) (by omega) (by omega) (fun c => ⟨Or.inl, fun h => h.elim id (fun z => absurd z.1 (by omega))⟩) hfr (by omega) (fun G1 o2 n23 c24 P25 nx6 pcsI_r hq7 hq8 hq9 hq10 hq11 hq12 hq13 hfr => ?_)
  · change ab_W _ _ _ G1 69 [some (vR r), none, some (vz 1), some (vz nx6), none] [] _
    refine ab_iload_n d_CS_addAll_69 rfl ?_
    refine zz_if_eq (tgt := 86) d_CS_addAll_70 (by decide) (by decide) (fun c14 => absurd c14 (by decide)) (fun c14 => ?_)
    refine ab_iload_n d_CS_addAll_73 rfl ?_
    refine zz_ldc 1114111 d_CS_addAll_74 cn_CS_58 (by decide) ?_
    refine zz_icmp_gt (tgt := 86) d_CS_addAll_76 (by decide) (by omega) (by decide) (fun c15 => ?_) (fun c15 => ?_)
    · refine ab_vret rfl d_CS_addAll_86 ?_
      rw [hQ]; exact ⟨_, _, _, _, rfl, hfr, pcsI_r, (by omega), (by omega), (by omega), (by intro c; rw [hq13 c]; exact or_congr Iff.rfl (and_congr Iff.rfl (and_congr (by omega) Iff.rfl)))⟩
    · refine ab_aload_n d_CS_addAll_79 rfl ?_
      refine ab_iload_n d_CS_addAll_80 rfl ?_
      refine zz_ldc 1114111 d_CS_addAll_81 cn_CS_58 (by decide) ?_
      obtain ⟨fsR, hR⟩ := pcsI_r.recv
      refine ab_callV (d' := d - 1) (as := [vz nx6, vz 1114111]) (st := []) (r := _) (c_CS_add (o := o2) (r := r) (lr := lr) (lb := lb) (n := n23) (cnt := c24) (P := P25) (lo := nx6) (hi := 1114111) pcsI_r (by omega) (by omega) (by omega) (by omega) (by omega)) (fun oc G2 h => by rcases h with ⟨_, _, _, _, h, _⟩ <;> exact ⟨_, h⟩) (by omega) m_CS_add ml_CS_44 im_CS_add se_CS_add c_CS hR (Nat.le_of_ble_eq_true rfl) d_CS_addAll_83 rfl ?_
      intro v G16 hq
      rcases hq with ⟨o17, n218, c219, P220, hv, hfk, pNcsI_r, hq21, hq22, hq23, hq24⟩
      cases hv
      have pcsI_r := pNcsI_r
      have hfr := hfr.tr hfk (by simp)
      have hq25 := hfk.1
      change ab_W _ _ _ G16 86 [some (vR r), none, some (vz 1), some (vz nx6), none] [] _
      refine ab_vret rfl d_CS_addAll_86 ?_
      rw [hQ]; exact ⟨_, _, _, _, rfl, hfr, pcsI_r, (by omega), (by omega), (by omega), (by intro c; rw [hq21 c, hq13 c]; exact cs_nend (hq12 c) (by omega) (by omega))⟩
