theorem cw_l : Cond.methodLink R_AR 316 ⟨"[I", "clone", "()Ljava/lang/Object;"⟩ ∈ lw_tbl := ab_t3 (List.mem_of_getElem? (i := 105) rfl)
theorem cw_s : Cond.sameMethod "[I" "java/lang/Object" "clone" "()Ljava/lang/Object;" ∈ lw_tbl := ab_t3 (List.mem_of_getElem? (i := 106) rfl)
theorem cw_n : Cond.native ⟨"java/lang/Object", "clone", "()Ljava/lang/Object;"⟩ ∈ lw_tbl := ab_t3 (List.mem_of_getElem? (i := 107) rfl)
theorem cw_i : Cond.instanceMethod ⟨"java/lang/Object", "clone", "()Ljava/lang/Object;"⟩ ∈ lw_tbl := ab_t3 (List.mem_of_getElem? (i := 108) rfl)
theorem cw_e : Cond.selects "[I" ⟨"[I", "clone", "()Ljava/lang/Object;"⟩ ⟨"java/lang/Object", "clone", "()Ljava/lang/Object;"⟩ ∈ lw_tbl := ab_t3 (List.mem_of_getElem? (i := 109) rfl)
theorem cw_c : Cond.castable "[I" "java/lang/Cloneable" ∈ lw_tbl := ab_t3 (List.mem_of_getElem? (i := 110) rfl)
set_option maxRecDepth 100000 in
set_option maxHeartbeats 4000000 in
theorem z_AR_copyOf_eq {X : ab_X} {d : Nat} {o : Nat → Nat} {G : ab_G} {a : Nat} {l : Nat} {k : Nat} {n : Nat} {m : Int} {f : Int → Int} (ha : cc o G a l (za n f)) (c1 : m = ↑n ∧ ↑n ≤ (2147483647 : Int)) (rc : G.length + 1 ≤ ab_n0 + room_1.cells) (rs : ab_slots G + n ≤ room_1.slots) (c4 : ab_n0 ≤ l ∧ ab_n0 ≤ k) (hd : 2 ≤ d) : ab_F X d y_AR_copyOf (.code y_AR_copyOf b_AR_copyOf 3 (some (.array .int))) [vR a, vz m] G (fun oc G2 => ∃ o2 : Nat → Nat, ∃ b : Nat, oc = .returned (some (vR b)) ∧ fx o o2 [] G G2 ∧ cc o2 G2 b k (za n f) ∧ (b = G.length) ∧ (G2.length = G.length + 1) ∧ (ab_slots G2 = ab_slots G + n)) := by
  refine ab_F_of (by decide +kernel) (Nat.le_of_ble_eq_true rfl) ?_
  obtain ⟨Q, hQ⟩ : ∃ z : Outcome → ab_G → Prop, z = (fun oc G2 => ∃ o2 : Nat → Nat, ∃ b : Nat, oc = .returned (some (vR b)) ∧ fx o o2 [] G G2 ∧ cc o2 G2 b k (za n f) ∧ (b = G.length) ∧ (G2.length = G.length + 1) ∧ (ab_slots G2 = ab_slots G + n)) := ⟨_, rfl⟩
  rw [← hQ]
  change ab_W X (ab_pl y_AR_copyOf b_AR_copyOf 3 (some (.array .int))) d G 0 [some (vR a), some (vz m), none] [] Q
  have hfr : fx o o [] G G := fx.rf
  refine ab_iload_n d_AR_copyOf_0 rfl ?_
  refine ab_aload_n d_AR_copyOf_1 rfl ?_
  refine zz_alen d_AR_copyOf_2 ha ?_
  refine zz_icmp_ne (tgt := 14) d_AR_copyOf_3 (by decide) (by omega) (by omega) (fun c1 => absurd c1 (by omega)) (fun c1 => ?_)
  refine ab_aload_n d_AR_copyOf_6 rfl ?_
  refine ab_clone cw_l cw_s cw_n cw_i cw_e cw_c d_AR_copyOf_7 ha.2.2 (ha.2.1 (by first | omega | exact (show 18 ≤ _ by omega))) (by omega) (by omega) (Nat.le_of_ble_eq_true rfl) (by omega) ?_
  obtain ⟨G2, eG2⟩ : ∃ z : ab_G, z = G ++ [za n f] := ⟨_, rfl⟩
  obtain ⟨o3, eo3⟩ : ∃ z : Nat → Nat, z = ol o G.length k := ⟨_, rfl⟩
  obtain ⟨a4, ea4⟩ : ∃ z : Nat, z = G.length := ⟨_, rfl⟩
  have hq5 := ha.n0 (by first | decide | omega)
  have ne_a4_a : nq a4 a := by have hlt := ha.lt; unfold nq; omega
  have ha := ha.akeep (k := k) eG2
  rw [← eo3] at ha
  have ha4 := cc.anew (o := o) k eG2 hq5
  rw [← eo3, ← ea4] at ha4
  have hfr := hfr.ap (k := k) eG2
  rw [← eo3] at hfr
  have hq6 := z_alen eG2
  have hq7 : ab_slots G2 = ab_slots G + n := z_asl eG2 hq5
  change ab_W _ _ _ (G ++ [za n f]) 10 [some (vR a), some (vz m), none] [.ref G.length] _
  rw [← eG2, ← ea4]
  change ab_W _ _ _ G2 10 [some (vR a), some (vz m), none] [vR a4] _
  refine ab_castI cl_AR_317 d_AR_copyOf_10 ha4.2.2 (ha4.2.1 (by first | omega | exact (show 18 ≤ _ by omega))) ?_
  refine ab_aret (rt := _) rfl (Or.inr ⟨_, rfl⟩) (Or.inr ⟨_, rfl⟩) d_AR_copyOf_13 ?_
  rw [hQ]; exact ⟨_, _, rfl, hfr, ha4, (by omega), (by omega), (by omega)⟩
set_option maxRecDepth 100000 in
set_option maxHeartbeats 4000000 in
theorem z_AR_copyOf {X : ab_X} {d : Nat} {o : Nat → Nat} {G : ab_G} {a : Nat} {l : Nat} {k : Nat} {n : Nat} {w : Nat} {m : Int} {f : Int → Int} (ha : cc o G a l (za n f)) (c1 : ↑w = m ∧ m ≤ 2147483647 ∧ ↑n ≤ (2147483647 : Int)) (rc : G.length + 1 ≤ ab_n0 + room_1.cells) (rs : ab_slots G + w ≤ room_1.slots) (c4 : ab_n0 ≤ l ∧ ab_n0 ≤ k) (c5 : ¬ m = ↑n) (hd : 2 ≤ d) : ab_F X d y_AR_copyOf (.code y_AR_copyOf b_AR_copyOf 3 (some (.array .int))) [vR a, vz m] G (fun oc G2 => (∃ o2 : Nat → Nat, ∃ b : Nat, oc = .returned (some (vR b)) ∧ fx o o2 [] G G2 ∧ cc o2 G2 b k (za w (zcpy f (fun _ => 0) 0 0 ↑n)) ∧ (b = G.length) ∧ (G2.length = G.length + 1) ∧ (ab_slots G2 = ab_slots G + w) ∧ (↑n ≤ m)) ∨ (∃ o2 : Nat → Nat, ∃ b : Nat, oc = .returned (some (vR b)) ∧ fx o o2 [] G G2 ∧ cc o2 G2 b k (za w (zcpy f (fun _ => 0) 0 0 m)) ∧ (b = G.length) ∧ (G2.length = G.length + 1) ∧ (ab_slots G2 = ab_slots G + w) ∧ (m < ↑n))) := by
  refine ab_F_of (by decide +kernel) (Nat.le_of_ble_eq_true rfl) ?_
  obtain ⟨Q, hQ⟩ : ∃ z : Outcome → ab_G → Prop, z = (fun oc G2 => (∃ o2 : Nat → Nat, ∃ b : Nat, oc = .returned (some (vR b)) ∧ fx o o2 [] G G2 ∧ cc o2 G2 b k (za w (zcpy f (fun _ => 0) 0 0 ↑n)) ∧ (b = G.length) ∧ (G2.length = G.length + 1) ∧ (ab_slots G2 = ab_slots G + w) ∧ (↑n ≤ m)) ∨ (∃ o2 : Nat → Nat, ∃ b : Nat, oc = .returned (some (vR b)) ∧ fx o o2 [] G G2 ∧ cc o2 G2 b k (za w (zcpy f (fun _ => 0) 0 0 m)) ∧ (b = G.length) ∧ (G2.length = G.length + 1) ∧ (ab_slots G2 = ab_slots G + w) ∧ (m < ↑n))) := ⟨_, rfl⟩
  rw [← hQ]
  change ab_W X (ab_pl y_AR_copyOf b_AR_copyOf 3 (some (.array .int))) d G 0 [some (vR a), some (vz m), none] [] Q
  have hfr : fx o o [] G G := fx.rf
  refine ab_iload_n d_AR_copyOf_0 rfl ?_
  refine ab_aload_n d_AR_copyOf_1 rfl ?_
  refine zz_alen d_AR_copyOf_2 ha ?_
  refine zz_icmp_ne (tgt := 14) d_AR_copyOf_3 (by decide) (by omega) (by omega) (fun c1 => ?_) (fun c1 => absurd c1 (by omega))
  refine ab_iload_n d_AR_copyOf_14 rfl ?_
  refine zz_newI (w := w) a_int d_AR_copyOf_15 (by omega) (by omega) (by omega) (by omega) ?_
  obtain ⟨G2, eG2⟩ : ∃ z : ab_G, z = G ++ [za w (fun _ => 0)] := ⟨_, rfl⟩
  obtain ⟨o3, eo3⟩ : ∃ z : Nat → Nat, z = ol o G.length k := ⟨_, rfl⟩
  obtain ⟨a4, ea4⟩ : ∃ z : Nat, z = G.length := ⟨_, rfl⟩
  have hq5 := ha.n0 (by first | decide | omega)
  have ne_a4_a : nq a4 a := by have hlt := ha.lt; unfold nq; omega
  have ha := ha.akeep (k := k) eG2
  rw [← eo3] at ha
  have ha4 := cc.anew (o := o) k eG2 hq5
  rw [← eo3, ← ea4] at ha4
  have hfr := hfr.ap (k := k) eG2
  rw [← eo3] at hfr
  have hq6 := z_alen eG2
  have hq7 : ab_slots G2 = ab_slots G + w := z_asl eG2 hq5
  change ab_W _ _ _ (G ++ [za w (fun _ => 0)]) 17 [some (vR a), some (vz m), none] [.ref G.length] _
  rw [← eG2, ← ea4]
  change ab_W _ _ _ G2 17 [some (vR a), some (vz m), none] [vR a4] _
  refine ab_astore_n d_AR_copyOf_17 (Nat.le_of_ble_eq_true rfl) (Nat.le_of_ble_eq_true rfl) rfl ?_
  change ab_W _ _ _ G2 18 [some (vR a), some (vz m), some (vR a4)] [] _
  refine ab_aload_n d_AR_copyOf_18 rfl ?_
  refine zz_iconst d_AR_copyOf_19 ?_
  refine ab_aload_n d_AR_copyOf_20 rfl ?_
  refine zz_iconst d_AR_copyOf_21 ?_
  refine ab_aload_n d_AR_copyOf_22 rfl ?_
  refine zz_alen d_AR_copyOf_23 ha ?_
  refine ab_iload_n d_AR_copyOf_24 rfl ?_
  refine zz_mmin2 mj_AR_304 d_AR_copyOf_25 (by omega) (by omega) (Nat.le_of_ble_eq_true rfl) (by omega) (fun c8 => ?_) (fun c8 => ?_)
  · refine zz_copy mj_AR_150 d_AR_copyOf_28 ha ha4 (ha4.2.1 (by first | omega | exact (show 18 ≤ _ by omega))) (by omega) (Nat.le_of_ble_eq_true rfl) (by omega) ?_
    obtain ⟨G9, eG9⟩ : ∃ z : ab_G, z = List.set G2 a4 (za w (zcpy f (fun _ => 0) 0 0 (↑n : Int))) := ⟨_, rfl⟩
    have ha := ha.keep' eG9 ne_a4_a
    have hq10 := z_len eG9
    have hq11 := z_sl ha4 eG9 rfl
    have hfr := hfr.wn (show G.length ≤ a4 by have := hfr.1; omega) eG9
    have ha4 := ha4.kept eG9
    change ab_W _ _ _ (List.set G2 a4 (za w (zcpy f (fun _ => 0) 0 0 (↑n : Int)))) 31 [some (vR a), some (vz m), some (vR a4)] [] _
    rw [← eG9]
    refine ab_aload_n d_AR_copyOf_31 rfl ?_
    refine ab_aret (rt := _) rfl (Or.inr ⟨_, rfl⟩) (Or.inr ⟨_, rfl⟩) d_AR_copyOf_32 ?_
    rw [hQ]; first | exact (Or.inl ⟨_, _, rfl, hfr, ha4, (by omega), (by omega), (by omega), (by omega)⟩) | exact (Or.inr ⟨_, _, rfl, hfr, ha4, (by omega), (by omega), (by omega), (by omega)⟩)
  · refine zz_copy mj_AR_150 d_AR_copyOf_28 ha ha4 (ha4.2.1 (by first | omega | exact (show 18 ≤ _ by omega))) (by omega) (Nat.le_of_ble_eq_true rfl) (by omega) ?_
    obtain ⟨G12, eG12⟩ : ∃ z : ab_G, z = List.set G2 a4 (za w (zcpy f (fun _ => 0) 0 0 m)) := ⟨_, rfl⟩
    have ha := ha.keep' eG12 ne_a4_a
    have hq13 := z_len eG12
    have hq14 := z_sl ha4 eG12 rfl
    have hfr := hfr.wn (show G.length ≤ a4 by have := hfr.1; omega) eG12
    have ha4 := ha4.kept eG12
    change ab_W _ _ _ (List.set G2 a4 (za w (zcpy f (fun _ => 0) 0 0 m))) 31 [some (vR a), some (vz m), some (vR a4)] [] _
    rw [← eG12]
    refine ab_aload_n d_AR_copyOf_31 rfl ?_
    refine ab_aret (rt := _) rfl (Or.inr ⟨_, rfl⟩) (Or.inr ⟨_, rfl⟩) d_AR_copyOf_32 ?_
    rw [hQ]; first | exact (Or.inl ⟨_, _, rfl, hfr, ha4, (by omega), (by omega), (by omega), (by omega)⟩) | exact (Or.inr ⟨_, _, rfl, hfr, ha4, (by omega), (by omega), (by omega), (by omega)⟩)
set_option maxRecDepth 100000 in
set_option maxHeartbeats 4000000 in
theorem z_RW_makeRoom {X : ab_X} {d : Nat} {o : Nat → Nat} {G : ab_G} {r : Nat} {b : Nat} {lr : Nat} {lb : Nat} {n : Nat} {lim : Int} {sz : Int} {f : Int → Int} {more : Int} (hr : cc o G r lr (ab_ob 7 [vz lim, vR b, vz sz])) (hb : cc o G b lb (za n f)) (c0 : 0 ≤ sz ∧ sz ≤ ↑n ∧ ↑n ≤ lim ∧ lim ≤ 1000000 ∧ 1 ≤ n) (cl : ab_n0 ≤ lr ∧ ab_n0 ≤ lb ∧ lr ≠ lb) (c1 : 0 ≤ more ∧ more ≤ 1000000) (rc : G.length + 1 ≤ ab_n0 + room_1.cells) (rs : ab_slots G + lim.toNat ≤ room_1.slots) (hd : 4 ≤ d) : ab_F X d y_RW_makeRoom (.code y_RW_makeRoom b_RW_makeRoom 2 (some (.boolean))) [vR r, vz more] G (fun oc G2 => (oc = .returned (some (vz 0)) ∧ G2 = G ∧ (lim < sz + more)) ∨ (oc = .returned (some (vz 1)) ∧ G2 = G ∧ (sz + more ≤ ↑n)) ∨ (∃ o2 : Nat → Nat, ∃ b2 : Nat, ∃ n2 : Nat, oc = .returned (some (vz 1)) ∧ fx o o2 [lr] G G2 ∧ cc o2 G2 r lr (ab_ob 7 [vz lim, vR b2, vz sz]) ∧ cc o2 G2 b2 lb (za n2 (zcpy f (fun _ => 0) 0 0 ↑n)) ∧ (b2 = G.length) ∧ (G2.length = G.length + 1) ∧ (ab_slots G2 = ab_slots G + n2) ∧ (↑n < sz + more ∧ sz + more ≤ ↑n2 ∧ ↑n2 ≤ lim ∧ (2 * ↑n ≤ (↑n2 : Int) ∨ ↑n2 = lim)))) := by
  refine ab_F_of (by decide +kernel) (Nat.le_of_ble_eq_true rfl) ?_
  obtain ⟨Q, hQ⟩ : ∃ z : Outcome → ab_G → Prop, z = (fun oc G2 => (oc = .returned (some (vz 0)) ∧ G2 = G ∧ (lim < sz + more)) ∨ (oc = .returned (some (vz 1)) ∧ G2 = G ∧ (sz + more ≤ ↑n)) ∨ (∃ o2 : Nat → Nat, ∃ b2 : Nat, ∃ n2 : Nat, oc = .returned (some (vz 1)) ∧ fx o o2 [lr] G G2 ∧ cc o2 G2 r lr (ab_ob 7 [vz lim, vR b2, vz sz]) ∧ cc o2 G2 b2 lb (za n2 (zcpy f (fun _ => 0) 0 0 ↑n)) ∧ (b2 = G.length) ∧ (G2.length = G.length + 1) ∧ (ab_slots G2 = ab_slots G + n2) ∧ (↑n < sz + more ∧ sz + more ≤ ↑n2 ∧ ↑n2 ≤ lim ∧ (2 * ↑n ≤ (↑n2 : Int) ∨ ↑n2 = lim)))) := ⟨_, rfl⟩
  rw [← hQ]
  change ab_W X (ab_pl y_RW_makeRoom b_RW_makeRoom 2 (some (.boolean))) d G 0 [some (vR r), some (vz more)] [] Q
  have hfr : fx o o [lr] G G := fx.rf
  refine ab_aload_n d_RW_makeRoom_0 rfl ?_
  refine ab_getf (fs := [vz lim, vR b, vz sz]) f_RW_19 d_RW_makeRoom_1 hr.2.2 rfl ?_
  refine ab_iload_n d_RW_makeRoom_4 rfl ?_
  refine zz_iadd d_RW_makeRoom_5 ?_
  refine ab_aload_n d_RW_makeRoom_6 rfl ?_
  refine ab_getf (fs := [vz lim, vR b, vz sz]) f_RW_15 d_RW_makeRoom_7 hr.2.2 rfl ?_
  refine zz_icmp_le (tgt := 15) d_RW_makeRoom_10 (by decide) (by omega) (by omega) (fun c1 => ?_) (fun c1 => ?_)
  · refine ab_aload_n d_RW_makeRoom_15 rfl ?_
    refine ab_getf (fs := [vz lim, vR b, vz sz]) f_RW_19 d_RW_makeRoom_16 hr.2.2 rfl ?_
    refine ab_iload_n d_RW_makeRoom_19 rfl ?_
    refine zz_iadd d_RW_makeRoom_20 ?_
    refine ab_aload_n d_RW_makeRoom_21 rfl ?_
    refine ab_getf (fs := [vz lim, vR b, vz sz]) f_RW_9 d_RW_makeRoom_22 hr.2.2 rfl ?_
    refine zz_alen d_RW_makeRoom_25 hb ?_
    refine zz_icmp_le (tgt := 63) d_RW_makeRoom_26 (by decide) (by omega) (by omega) (fun c2 => ?_) (fun c2 => ?_)
    · refine zz_iconst d_RW_makeRoom_63 ?_
      refine zz_bret rfl (by decide) d_RW_makeRoom_64 ?_
      rw [hQ]; first | exact (Or.inr (Or.inl ⟨rfl, rfl, (by omega)⟩)) | exact (Or.inr (Or.inr ⟨_, _, _, rfl, hfr, hr, hb, (by omega), (by omega), (by omega), (by omega)⟩))
    · refine ab_aload_n d_RW_makeRoom_29 rfl ?_
      refine ab_aload_n d_RW_makeRoom_30 rfl ?_
      refine ab_getf (fs := [vz lim, vR b, vz sz]) f_RW_9 d_RW_makeRoom_31 hr.2.2 rfl ?_
      refine ab_aload_n d_RW_makeRoom_34 rfl ?_
      refine ab_getf (fs := [vz lim, vR b, vz sz]) f_RW_15 d_RW_makeRoom_35 hr.2.2 rfl ?_
      refine ab_aload_n d_RW_makeRoom_38 rfl ?_
      refine ab_getf (fs := [vz lim, vR b, vz sz]) f_RW_19 d_RW_makeRoom_39 hr.2.2 rfl ?_
      refine ab_iload_n d_RW_makeRoom_42 rfl ?_
      refine zz_iadd d_RW_makeRoom_43 ?_
      refine zz_iconst d_RW_makeRoom_44 ?_
      refine ab_aload_n d_RW_makeRoom_45 rfl ?_
      refine ab_getf (fs := [vz lim, vR b, vz sz]) f_RW_9 d_RW_makeRoom_46 hr.2.2 rfl ?_
      refine zz_alen d_RW_makeRoom_49 hb ?_
      refine zz_imul d_RW_makeRoom_50 ?_
      refine zz_mmax mj_RW_32 d_RW_makeRoom_51 (by omega) (by omega) (Nat.le_of_ble_eq_true rfl) (by omega) ?_
      obtain ⟨v3, hv3⟩ : ∃ z : Int, z = (max (sz + more) (2 * (↑n : Int))) := ⟨_, rfl⟩
      rw [← hv3]
      have hv3 : ((sz + more) ≤ (2 * (↑n : Int)) ∧ v3 = (2 * (↑n : Int))) ∨ ((2 * (↑n : Int)) < (sz + more) ∧ v3 = (sz + more)) := by omega
      change ab_W _ _ _ G 54 [some (vR r), some (vz more)] [vz v3, vz lim, vR b, vR r] _
      refine zz_mmin mj_RW_38 d_RW_makeRoom_54 (by omega) (by omega) (Nat.le_of_ble_eq_true rfl) (by omega) ?_
      obtain ⟨v4, hv4⟩ : ∃ z : Int, z = (min lim v3) := ⟨_, rfl⟩
      rw [← hv4]
      have hv4 : (lim ≤ v3 ∧ v4 = lim) ∨ (v3 < lim ∧ v4 = v3) := by omega
      change ab_W _ _ _ G 57 [some (vR r), some (vz more)] [vz v4, vR b, vR r] _
      obtain ⟨w5, hw5⟩ : ∃ z : Nat, (z : Int) = v4 := ⟨Int.toNat v4, by omega⟩
      refine ab_callS (d' := d - 1) (as := [vR b, vz v4]) (st := [vR r]) (z_AR_copyOf (o := o) (a := b) (l := lb) (k := lb) (n := n) (w := w5) (m := v4) (f := f) hb (by omega) (by omega) (by omega) (by have h18 : ab_n0 = 18 := rfl; omega) (by omega) (by omega)) (fun oc G2 h => by rcases h with ⟨_, _, h, _⟩ | ⟨_, _, h, _⟩ <;> exact ⟨_, h⟩) (by omega) m_AR_copyOf ml_RW_41 st_AR_copyOf (Nat.le_of_ble_eq_true rfl) d_RW_makeRoom_57 rfl ?_
      intro v G6 hq
      rcases hq with ⟨o7, b8, hv, hfk, hNb8, hq9, hq10, hq11, hq12⟩ | ⟨o13, b14, hv, hfk, hNb14, hq15, hq16, hq17, hq18⟩
      · cases hv
        have ne_b8_r : nq b8 r := by have hlt := hr.lt; unfold nq; omega
        have ne_b8_b : nq b8 b := by have hlt := hb.lt; unfold nq; omega
        have hr := hfk.get hr (by simp)
        have hb := hfk.get hb (by simp)
        have hfr := hfr.tr hfk (fun _ h => absurd h List.not_mem_nil)
        have hq19 := hfk.1
        have hb8 := hNb8
        change ab_W _ _ _ G6 60 [some (vR r), some (vz more)] [vR b8, vR r] _
        refine ab_putf (fs := [vz lim, vR b, vz sz]) f_RW_9 (Or.inl rfl) d_RW_makeRoom_60 hr.2.2 (Nat.le_of_ble_eq_true rfl) (fun _ => ⟨rfl, rfl⟩) (hr.2.1 (by first | omega | exact (show 18 ≤ _ by omega))) ?_
        obtain ⟨G21, eG21⟩ : ∃ z : ab_G, z = List.set G6 r (ab_ob 7 [vz lim, vR b8, vz sz]) := ⟨_, rfl⟩
        have hb := hb.keep hr eG21 (by omega)
        have hb8 := hb8.keep' eG21 (nq.s ne_b8_r)
        have hq22 := z_len eG21
        have hq23 := z_sl hr eG21 rfl
        have hfr := hfr.wr hr eG21 (by simp)
        have hr := hr.kept eG21
        change ab_W _ _ _ (List.set G6 r (ab_ob 7 [vz lim, vR b8, vz sz])) 63 [some (vR r), some (vz more)] [] _
        rw [← eG21]
        refine zz_iconst d_RW_makeRoom_63 ?_
        refine zz_bret rfl (by decide) d_RW_makeRoom_64 ?_
        rw [hQ]; exact (Or.inr (Or.inr ⟨_, _, _, rfl, hfr, hr, hb8, (by omega), (by omega), (by omega), (by omega)⟩))
      · cases hv
        have ne_b14_r : nq b14 r := by have hlt := hr.lt; unfold nq; omega
        have ne_b14_b : nq b14 b := by have hlt := hb.lt; unfold nq; omega
        have hr := hfk.get hr (by simp)
        have hb := hfk.get hb (by simp)
        have hfr := hfr.tr hfk (fun _ h => absurd h List.not_mem_nil)
        have hq20 := hfk.1
        have hb14 := hNb14
        change ab_W _ _ _ G6 60 [some (vR r), some (vz more)] [vR b14, vR r] _
        exfalso; omega
  · refine zz_iconst d_RW_makeRoom_13 ?_
    refine zz_bret rfl (by decide) d_RW_makeRoom_14 ?_
    rw [hQ]; exact (Or.inl ⟨rfl, rfl, (by omega)⟩)
set_option maxRecDepth 100000 in
set_option maxHeartbeats 4000000 in
theorem z_RW_clear {X : ab_X} {d : Nat} {o : Nat → Nat} {G : ab_G} {r : Nat} {b : Nat} {lr : Nat} {lim : Int} {sz : Int} (hr : cc o G r lr (ab_ob 7 [vz lim, vR b, vz sz])) (cl : ab_n0 ≤ lr) : ab_F X d y_RW_clear (.code y_RW_clear b_RW_clear 1 none) [vR r] G (fun oc G2 => oc = .returned none ∧ fx o o [lr] G G2 ∧ G2.length = G.length ∧ ab_slots G2 = ab_slots G ∧ cc o G2 r lr (ab_ob 7 [vz lim, vR b, vz 0])) := by
  refine ab_F_of (by decide +kernel) (Nat.le_of_ble_eq_true rfl) ?_
  obtain ⟨Q, hQ⟩ : ∃ z : Outcome → ab_G → Prop, z = (fun oc G2 => oc = .returned none ∧ fx o o [lr] G G2 ∧ G2.length = G.length ∧ ab_slots G2 = ab_slots G ∧ cc o G2 r lr (ab_ob 7 [vz lim, vR b, vz 0])) := ⟨_, rfl⟩
  rw [← hQ]
  change ab_W X (ab_pl y_RW_clear b_RW_clear 1 none) d G 0 [some (vR r)] [] Q
  have hfr : fx o o [lr] G G := fx.rf
  have hlen : G.length = G.length := rfl
  have hsl : ab_slots G = ab_slots G := rfl
  refine ab_aload_n d_RW_clear_0 rfl ?_
  refine zz_iconst d_RW_clear_1 ?_
  refine ab_putf (fs := [vz lim, vR b, vz sz]) f_RW_19 (Or.inl rfl) d_RW_clear_2 hr.2.2 (Nat.le_of_ble_eq_true rfl) (fun _ => ⟨rfl, rfl⟩) (hr.2.1 (by first | omega | exact (show 18 ≤ _ by omega))) ?_
  obtain ⟨G1, eG1⟩ : ∃ z : ab_G, z = List.set G r (ab_ob 7 [vz lim, vR b, vz 0]) := ⟨_, rfl⟩
  have hlen := (z_len eG1).trans hlen
  have hsl := (z_sl hr eG1 rfl).trans hsl
  have hfr := hfr.wr hr eG1 (by simp)
  have hr := hr.kept eG1
  change ab_W _ _ _ (List.set G r (ab_ob 7 [vz lim, vR b, vz 0])) 5 [some (vR r)] [] _
  rw [← eG1]
  refine ab_vret rfl d_RW_clear_5 ?_
  rw [hQ]; exact ⟨rfl, hfr, hlen, hsl, hr⟩
set_option maxRecDepth 100000 in
set_option maxHeartbeats 4000000 in
theorem z_RW_at {X : ab_X} {d : Nat} {o : Nat → Nat} {G : ab_G} {r : Nat} {b : Nat} {lr : Nat} {lb : Nat} {n : Nat} {lim : Int} {sz : Int} {f : Int → Int} {i : Int} (hr : cc o G r lr (ab_ob 7 [vz lim, vR b, vz sz])) (hb : cc o G b lb (za n f)) (c0 : 0 ≤ sz ∧ sz ≤ ↑n ∧ ↑n ≤ lim ∧ lim ≤ 1000000 ∧ 1 ≤ n) (ci : -2147483648 ≤ i ∧ i ≤ 2147483647) : ab_F X d y_RW_at (.code y_RW_at b_RW_at 2 (some (.int))) [vR r, vz i] G (fun oc G2 => (oc = .returned (some (vz (f i))) ∧ G2 = G ∧ (0 ≤ i ∧ i < sz)) ∨ (oc = .returned (some (vz (-1))) ∧ G2 = G ∧ (i < 0 ∨ sz ≤ i))) := by
  refine ab_F_of (by decide +kernel) (Nat.le_of_ble_eq_true rfl) ?_
  obtain ⟨Q, hQ⟩ : ∃ z : Outcome → ab_G → Prop, z = (fun oc G2 => (oc = .returned (some (vz (f i))) ∧ G2 = G ∧ (0 ≤ i ∧ i < sz)) ∨ (oc = .returned (some (vz (-1))) ∧ G2 = G ∧ (i < 0 ∨ sz ≤ i))) := ⟨_, rfl⟩
  rw [← hQ]
  change ab_W X (ab_pl y_RW_at b_RW_at 2 (some (.int))) d G 0 [some (vR r), some (vz i)] [] Q
  have hfr : fx o o [] G G := fx.rf
  have hlen : G.length = G.length := rfl
  have hsl : ab_slots G = ab_slots G := rfl
  refine ab_iload_n d_RW_at_0 rfl ?_
  refine zz_if_lt (tgt := 21) d_RW_at_1 (by decide) (by omega) (fun c1 => ?_) (fun c1 => ?_)
  · refine zz_iconst d_RW_at_21 ?_
    refine zz_iret rfl d_RW_at_22 ?_
    rw [hQ]; first | exact (Or.inl ⟨rfl, rfl, (by omega)⟩) | exact (Or.inr ⟨rfl, rfl, (by omega)⟩)
  · refine ab_iload_n d_RW_at_4 rfl ?_
    refine ab_aload_n d_RW_at_5 rfl ?_
    refine ab_getf (fs := [vz lim, vR b, vz sz]) f_RW_19 d_RW_at_6 hr.2.2 rfl ?_
    refine zz_icmp_ge (tgt := 21) d_RW_at_9 (by decide) (by omega) (by omega) (fun c2 => ?_) (fun c2 => ?_)
    · refine zz_iconst d_RW_at_21 ?_
      refine zz_iret rfl d_RW_at_22 ?_
      rw [hQ]; first | exact (Or.inl ⟨rfl, rfl, (by omega)⟩) | exact (Or.inr ⟨rfl, rfl, (by omega)⟩)
    · refine ab_aload_n d_RW_at_12 rfl ?_
      refine ab_getf (fs := [vz lim, vR b, vz sz]) f_RW_9 d_RW_at_13 hr.2.2 rfl ?_
      refine ab_iload_n d_RW_at_16 rfl ?_
      refine zz_iald d_RW_at_17 hb (by omega) ?_
      refine ab_goto (tgt := 22) d_RW_at_18 (by decide) ?_
      refine zz_iret rfl d_RW_at_22 ?_
      rw [hQ]; first | exact (Or.inl ⟨rfl, rfl, (by omega)⟩) | exact (Or.inr ⟨rfl, rfl, (by omega)⟩)
set_option maxRecDepth 100000 in
set_option maxHeartbeats 4000000 in
theorem z_RW_add {X : ab_X} {d : Nat} {o : Nat → Nat} {G : ab_G} {r : Nat} {b : Nat} {lr : Nat} {lb : Nat} {n : Nat} {lim : Int} {sz : Int} {f : Int → Int} {x : Int} (hr : cc o G r lr (ab_ob 7 [vz lim, vR b, vz sz])) (hb : cc o G b lb (za n f)) (c0 : 0 ≤ sz ∧ sz ≤ ↑n ∧ ↑n ≤ lim ∧ lim ≤ 1000000 ∧ 1 ≤ n) (cl : ab_n0 ≤ lr ∧ ab_n0 ≤ lb ∧ lr ≠ lb) (rc : G.length + 1 ≤ ab_n0 + room_1.cells) (rs : ab_slots G + lim.toNat ≤ room_1.slots) (hd : 5 ≤ d) : ab_F X d y_RW_add (.code y_RW_add b_RW_add 2 (some (.boolean))) [vR r, vz x] G (fun oc G2 => (oc = .returned (some (vz 0)) ∧ G2 = G ∧ (sz = lim)) ∨ (∃ o2 : Nat → Nat, ∃ b2 : Nat, ∃ n2 : Nat, ∃ f2 : Int → Int, oc = .returned (some (vz 1)) ∧ fx o o2 [lr, lb] G G2 ∧ cc o2 G2 r lr (ab_ob 7 [vz lim, vR b2, vz (sz + 1)]) ∧ cc o2 G2 b2 lb (za n2 f2) ∧ (sz < lim) ∧ (G2.length + n ≤ G.length + n2) ∧ (ab_slots G2 + zT n lim ≤ ab_slots G + zT n2 lim) ∧ (↑n ≤ (↑n2 : Int) ∧ ↑n2 ≤ lim ∧ sz + 1 ≤ ↑n2) ∧ (∀ k : Int, 0 ≤ k → k < sz → f2 k = f k) ∧ (f2 sz = x))) := by
  refine ab_F_of (by decide +kernel) (Nat.le_of_ble_eq_true rfl) ?_
  obtain ⟨Q, hQ⟩ : ∃ z : Outcome → ab_G → Prop, z = (fun oc G2 => (oc = .returned (some (vz 0)) ∧ G2 = G ∧ (sz = lim)) ∨ (∃ o2 : Nat → Nat, ∃ b2 : Nat, ∃ n2 : Nat, ∃ f2 : Int → Int, oc = .returned (some (vz 1)) ∧ fx o o2 [lr, lb] G G2 ∧ cc o2 G2 r lr (ab_ob 7 [vz lim, vR b2, vz (sz + 1)]) ∧ cc o2 G2 b2 lb (za n2 f2) ∧ (sz < lim) ∧ (G2.length + n ≤ G.length + n2) ∧ (ab_slots G2 + zT n lim ≤ ab_slots G + zT n2 lim) ∧ (↑n ≤ (↑n2 : Int) ∧ ↑n2 ≤ lim ∧ sz + 1 ≤ ↑n2) ∧ (∀ k : Int, 0 ≤ k → k < sz → f2 k = f k) ∧ (f2 sz = x))) := ⟨_, rfl⟩
  rw [← hQ]
  change ab_W X (ab_pl y_RW_add b_RW_add 2 (some (.boolean))) d G 0 [some (vR r), some (vz x)] [] Q
  have hfr : fx o o [lr, lb] G G := fx.rf
  refine ab_aload_n d_RW_add_0 rfl ?_
  refine zz_iconst d_RW_add_1 ?_
  refine ab_callV (d' := d - 1) (as := [vz 1]) (st := []) (r := _) (z_RW_makeRoom (o := o) (r := r) (b := b) (lr := lr) (lb := lb) (n := n) (lim := lim) (sz := sz) (f := f) (more := 1) hr hb (by omega) (by have h18 : ab_n0 = 18 := rfl; omega) (by omega) (by omega) (by omega) (by omega)) (fun oc G2 h => by rcases h with ⟨h, _⟩ | ⟨h, _⟩ | ⟨_, _, _, h, _⟩ <;> exact ⟨_, h⟩) (by omega) m_RW_makeRoom ml_RW_22 im_RW_makeRoom se_RW_makeRoom c_RW hr.2.2 (Nat.le_of_ble_eq_true rfl) d_RW_add_2 rfl ?_
  intro v G1 hq
  rcases hq with ⟨hv, hGe, hq2⟩ | ⟨hv, hGe, hq3⟩ | ⟨o4, b25, n26, hv, hfk, hNr, hNb25, hq7, hq8, hq9, hq10⟩
  · cases hv
    rw [hGe]
    change ab_W _ _ _ G 5 [some (vR r), some (vz x)] [vz 0] _
    refine zz_if_ne (tgt := 10) d_RW_add_5 (by decide) (by decide) (fun c12 => absurd c12 (by decide)) (fun c12 => ?_)
    refine zz_iconst d_RW_add_8 ?_
    refine zz_bret rfl (by decide) d_RW_add_9 ?_
    rw [hQ]; exact (Or.inl ⟨rfl, rfl, (by omega)⟩)
  · cases hv
    rw [hGe]
    change ab_W _ _ _ G 5 [some (vR r), some (vz x)] [vz 1] _
    refine zz_if_ne (tgt := 10) d_RW_add_5 (by decide) (by decide) (fun c13 => ?_) (fun c13 => absurd c13 (by decide))
    refine ab_aload_n d_RW_add_10 rfl ?_
    refine ab_getf (fs := [vz lim, vR b, vz sz]) f_RW_9 d_RW_add_11 hr.2.2 rfl ?_
    refine ab_aload_n d_RW_add_14 rfl ?_
    refine ab_getf (fs := [vz lim, vR b, vz sz]) f_RW_19 d_RW_add_15 hr.2.2 rfl ?_
    refine ab_iload_n d_RW_add_18 rfl ?_
    refine zz_iast d_RW_add_19 hb (by omega) (hb.2.1 (by first | omega | exact (show 18 ≤ _ by omega))) ?_
    obtain ⟨G14, eG14⟩ : ∃ z : ab_G, z = List.set G b (za n (zu f sz x)) := ⟨_, rfl⟩
    have hr := hr.keep hb eG14 (by omega)
    have hq15 := z_len eG14
    have hq16 := z_sl hb eG14 rfl
    have hfr := hfr.wr hb eG14 (by simp)
    have hb := hb.kept eG14
    change ab_W _ _ _ (List.set G b (za n (zu f sz x))) 20 [some (vR r), some (vz x)] [] _
    rw [← eG14]
    refine ab_aload_n d_RW_add_20 rfl ?_
    refine ab_dup d_RW_add_21 rfl ?_
    refine ab_getf (fs := [vz lim, vR b, vz sz]) f_RW_19 d_RW_add_22 hr.2.2 rfl ?_
    refine zz_iconst d_RW_add_25 ?_
    refine zz_iadd d_RW_add_26 ?_
    refine ab_putf (fs := [vz lim, vR b, vz sz]) f_RW_19 (Or.inl rfl) d_RW_add_27 hr.2.2 (Nat.le_of_ble_eq_true rfl) (fun _ => ⟨rfl, rfl⟩) (hr.2.1 (by first | omega | exact (show 18 ≤ _ by omega))) ?_
    obtain ⟨G17, eG17⟩ : ∃ z : ab_G, z = List.set G14 r (ab_ob 7 [vz lim, vR b, vz (sz + 1)]) := ⟨_, rfl⟩
    have hb := hb.keep hr eG17 (by omega)
    have hq18 := z_len eG17
    have hq19 := z_sl hr eG17 rfl
    have hfr := hfr.wr hr eG17 (by simp)
    have hr := hr.kept eG17
    change ab_W _ _ _ (List.set G14 r (ab_ob 7 [vz lim, vR b, vz (sz + 1)])) 30 [some (vR r), some (vz x)] [] _
    rw [← eG17]
    refine zz_iconst d_RW_add_30 ?_
    refine zz_bret rfl (by decide) d_RW_add_31 ?_
    rw [hQ]; exact (Or.inr ⟨_, _, _, _, rfl, hfr, hr, hb, (by omega), (by omega), (by unfold zT; (repeat' split) <;> omega), (by omega), (by intro k h1 h2; simp only [zu, zcpy, zfill]; (repeat' split) <;> first | omega | rfl | (congr 1; omega)), (by exact zu_self _ _ _)⟩)
  · cases hv
    have ne_b25_r : nq b25 r := by have hlt := hr.lt; unfold nq; omega
    have ne_b25_b : nq b25 b := by have hlt := hb.lt; unfold nq; omega
    have hb := hfk.get hb (by simp only [List.mem_cons, List.not_mem_nil, or_false]; omega)
    have hfr := hfr.tr hfk (by simp)
    have hq11 := hfk.1
    have hr := hNr
    have hb25 := hNb25
    change ab_W _ _ _ G1 5 [some (vR r), some (vz x)] [vz 1] _
    refine zz_if_ne (tgt := 10) d_RW_add_5 (by decide) (by decide) (fun c20 => ?_) (fun c20 => absurd c20 (by decide))
    refine ab_aload_n d_RW_add_10 rfl ?_
    refine ab_getf (fs := [vz lim, vR b25, vz sz]) f_RW_9 d_RW_add_11 hr.2.2 rfl ?_
    refine ab_aload_n d_RW_add_14 rfl ?_
    refine ab_getf (fs := [vz lim, vR b25, vz sz]) f_RW_19 d_RW_add_15 hr.2.2 rfl ?_
    refine ab_iload_n d_RW_add_18 rfl ?_
    refine zz_iast d_RW_add_19 hb25 (by omega) (hb25.2.1 (by first | omega | exact (show 18 ≤ _ by omega))) ?_
    obtain ⟨G21, eG21⟩ : ∃ z : ab_G, z = List.set G1 b25 (za n26 (zu (zcpy f (fun _ => 0) 0 0 ↑n) sz x)) := ⟨_, rfl⟩
    have hr := hr.keep' eG21 ne_b25_r
    have hb := hb.keep' eG21 ne_b25_b
    have hq22 := z_len eG21
    have hq23 := z_sl hb25 eG21 rfl
    have hfr := hfr.wn (show G.length ≤ b25 by have := hfr.1; omega) eG21
    have hb25 := hb25.kept eG21
    change ab_W _ _ _ (List.set G1 b25 (za n26 (zu (zcpy f (fun _ => 0) 0 0 ↑n) sz x))) 20 [some (vR r), some (vz x)] [] _
    rw [← eG21]
    refine ab_aload_n d_RW_add_20 rfl ?_
    refine ab_dup d_RW_add_21 rfl ?_
    refine ab_getf (fs := [vz lim, vR b25, vz sz]) f_RW_19 d_RW_add_22 hr.2.2 rfl ?_
    refine zz_iconst d_RW_add_25 ?_
    refine zz_iadd d_RW_add_26 ?_
    refine ab_putf (fs := [vz lim, vR b25, vz sz]) f_RW_19 (Or.inl rfl) d_RW_add_27 hr.2.2 (Nat.le_of_ble_eq_true rfl) (fun _ => ⟨rfl, rfl⟩) (hr.2.1 (by first | omega | exact (show 18 ≤ _ by omega))) ?_
    obtain ⟨G24, eG24⟩ : ∃ z : ab_G, z = List.set G21 r (ab_ob 7 [vz lim, vR b25, vz (sz + 1)]) := ⟨_, rfl⟩
    have hb := hb.keep hr eG24 (by omega)
    have hb25 := hb25.keep' eG24 (nq.s ne_b25_r)
    have hq25 := z_len eG24
    have hq26 := z_sl hr eG24 rfl
    have hfr := hfr.wr hr eG24 (by simp)
    have hr := hr.kept eG24
    change ab_W _ _ _ (List.set G21 r (ab_ob 7 [vz lim, vR b25, vz (sz + 1)])) 30 [some (vR r), some (vz x)] [] _
    rw [← eG24]
    refine zz_iconst d_RW_add_30 ?_
    refine zz_bret rfl (by decide) d_RW_add_31 ?_
    rw [hQ]; exact (Or.inr ⟨_, _, _, _, rfl, hfr, hr, hb25, (by omega), (by omega), (by unfold zT; (repeat' split) <;> omega), (by omega), (by intro k h1 h2; simp only [zu, zcpy, zfill]; (repeat' split) <;> first | omega | rfl | (congr 1; omega)), (by exact zu_self _ _ _)⟩)
set_option maxRecDepth 100000 in
set_option maxHeartbeats 4000000 in
theorem z_RW_addAll {X : ab_X} {d : Nat} {o : Nat → Nat} {G : ab_G} {r : Nat} {b : Nat} {lr : Nat} {lb : Nat} {n : Nat} {lim : Int} {sz : Int} {f : Int → Int} {a : Nat} {la : Nat} {m : Nat} {q : Int → Int} {x : Int} {y : Int} (hr : cc o G r lr (ab_ob 7 [vz lim, vR b, vz sz])) (hb : cc o G b lb (za n f)) (ha : cc o G a la (za m q)) (c0 : 0 ≤ sz ∧ sz ≤ ↑n ∧ ↑n ≤ lim ∧ lim ≤ 1000000 ∧ 1 ≤ n) (cl : ab_n0 ≤ lr ∧ ab_n0 ≤ lb ∧ lr ≠ lb) (rc : G.length + 1 ≤ ab_n0 + room_1.cells) (rs : ab_slots G + lim.toNat ≤ room_1.slots) (cx : 0 ≤ x ∧ x ≤ 1000000 ∧ y ≤ ↑m ∧ 0 ≤ y ∧ y ≤ 1000000) (ca : la ≠ lr ∧ la ≠ lb) (hd : 5 ≤ d) : ab_F X d y_RW_addAll (.code y_RW_addAll b_RW_addAll 4 (some (.boolean))) [vR r, vR a, vz x, vz y] G (fun oc G2 => (oc = .returned (some (vz 0)) ∧ G2 = G ∧ (y < x ∨ lim < sz + (y - x))) ∨ (∃ o2 : Nat → Nat, ∃ b2 : Nat, ∃ n2 : Nat, ∃ f2 : Int → Int, oc = .returned (some (vz 1)) ∧ fx o o2 [lr, lb] G G2 ∧ cc o2 G2 r lr (ab_ob 7 [vz lim, vR b2, vz (sz + (y - x))]) ∧ cc o2 G2 b2 lb (za n2 f2) ∧ cc o2 G2 a la (za m q) ∧ (x ≤ y ∧ sz + (y - x) ≤ lim) ∧ (G2.length + n ≤ G.length + n2) ∧ (ab_slots G2 + zT n lim ≤ ab_slots G + zT n2 lim) ∧ (↑n ≤ (↑n2 : Int) ∧ ↑n2 ≤ lim ∧ sz + (y - x) ≤ ↑n2) ∧ (∀ k : Int, 0 ≤ k → k < sz → f2 k = f k) ∧ (∀ k : Int, sz ≤ k → k < sz + (y - x) → f2 k = q (x + (k - sz))))) := by
  refine ab_F_of (by decide +kernel) (Nat.le_of_ble_eq_true rfl) ?_
  obtain ⟨Q, hQ⟩ : ∃ z : Outcome → ab_G → Prop, z = (fun oc G2 => (oc = .returned (some (vz 0)) ∧ G2 = G ∧ (y < x ∨ lim < sz + (y - x))) ∨ (∃ o2 : Nat → Nat, ∃ b2 : Nat, ∃ n2 : Nat, ∃ f2 : Int → Int, oc = .returned (some (vz 1)) ∧ fx o o2 [lr, lb] G G2 ∧ cc o2 G2 r lr (ab_ob 7 [vz lim, vR b2, vz (sz + (y - x))]) ∧ cc o2 G2 b2 lb (za n2 f2) ∧ cc o2 G2 a la (za m q) ∧ (x ≤ y ∧ sz + (y - x) ≤ lim) ∧ (G2.length + n ≤ G.length + n2) ∧ (ab_slots G2 + zT n lim ≤ ab_slots G + zT n2 lim) ∧ (↑n ≤ (↑n2 : Int) ∧ ↑n2 ≤ lim ∧ sz + (y - x) ≤ ↑n2) ∧ (∀ k : Int, 0 ≤ k → k < sz → f2 k = f k) ∧ (∀ k : Int, sz ≤ k → k < sz + (y - x) → f2 k = q (x + (k - sz))))) := ⟨_, rfl⟩
  rw [← hQ]
  change ab_W X (ab_pl y_RW_addAll b_RW_addAll 4 (some (.boolean))) d G 0 [some (vR r), some (vR a), some (vz x), some (vz y)] [] Q
  have hfr : fx o o [lr, lb] G G := fx.rf
  refine ab_iload_n d_RW_addAll_0 rfl ?_
  refine ab_iload_n d_RW_addAll_1 rfl ?_
  refine zz_icmp_lt (tgt := 15) d_RW_addAll_2 (by decide) (by omega) (by omega) (fun c1 => ?_) (fun c1 => ?_)
  · refine zz_iconst d_RW_addAll_15 ?_
    refine zz_bret rfl (by decide) d_RW_addAll_16 ?_
    rw [hQ]; exact (Or.inl ⟨rfl, rfl, (by omega)⟩)
  · refine ab_aload_n d_RW_addAll_5 rfl ?_
    refine ab_iload_n d_RW_addAll_6 rfl ?_
    refine ab_iload_n d_RW_addAll_7 rfl ?_
    refine zz_isub d_RW_addAll_8 ?_
    refine ab_callV (d' := d - 1) (as := [vz (y - x)]) (st := []) (r := _) (z_RW_makeRoom (o := o) (r := r) (b := b) (lr := lr) (lb := lb) (n := n) (lim := lim) (sz := sz) (f := f) (more := (y - x)) hr hb (by omega) (by have h18 : ab_n0 = 18 := rfl; omega) (by omega) (by omega) (by omega) (by omega)) (fun oc G2 h => by rcases h with ⟨h, _⟩ | ⟨h, _⟩ | ⟨_, _, _, h, _⟩ <;> exact ⟨_, h⟩) (by omega) m_RW_makeRoom ml_RW_22 im_RW_makeRoom se_RW_makeRoom c_RW hr.2.2 (Nat.le_of_ble_eq_true rfl) d_RW_addAll_9 rfl ?_
    intro v G2 hq
    rcases hq with ⟨hv, hGe, hq3⟩ | ⟨hv, hGe, hq4⟩ | ⟨o5, b26, n27, hv, hfk, hNr, hNb26, hq8, hq9, hq10, hq11⟩
    · cases hv
      rw [hGe]
      change ab_W _ _ _ G 12 [some (vR r), some (vR a), some (vz x), some (vz y)] [vz 0] _
      refine zz_if_ne (tgt := 17) d_RW_addAll_12 (by decide) (by decide) (fun c13 => absurd c13 (by decide)) (fun c13 => ?_)
      refine zz_iconst d_RW_addAll_15 ?_
      refine zz_bret rfl (by decide) d_RW_addAll_16 ?_
      rw [hQ]; exact (Or.inl ⟨rfl, rfl, (by omega)⟩)
    · cases hv
      rw [hGe]
      change ab_W _ _ _ G 12 [some (vR r), some (vR a), some (vz x), some (vz y)] [vz 1] _
      refine zz_if_ne (tgt := 17) d_RW_addAll_12 (by decide) (by decide) (fun c14 => ?_) (fun c14 => absurd c14 (by decide))
      refine ab_aload_n d_RW_addAll_17 rfl ?_
      refine ab_iload_n d_RW_addAll_18 rfl ?_
      refine ab_aload_n d_RW_addAll_19 rfl ?_
      refine ab_getf (fs := [vz lim, vR b, vz sz]) f_RW_9 d_RW_addAll_20 hr.2.2 rfl ?_
      refine ab_aload_n d_RW_addAll_23 rfl ?_
      refine ab_getf (fs := [vz lim, vR b, vz sz]) f_RW_19 d_RW_addAll_24 hr.2.2 rfl ?_
      refine ab_iload_n d_RW_addAll_27 rfl ?_
      refine ab_iload_n d_RW_addAll_28 rfl ?_
      refine zz_isub d_RW_addAll_29 ?_
      refine zz_copy mj_RW_26 d_RW_addAll_30 ha hb (hb.2.1 (by first | omega | exact (show 18 ≤ _ by omega))) (by omega) (Nat.le_of_ble_eq_true rfl) (by omega) ?_
      obtain ⟨G15, eG15⟩ : ∃ z : ab_G, z = List.set G b (za n (zcpy q f x sz (y - x))) := ⟨_, rfl⟩
      have hr := hr.keep hb eG15 (by omega)
      have ha := ha.keep hb eG15 (by omega)
      have hq16 := z_len eG15
      have hq17 := z_sl hb eG15 rfl
      have hfr := hfr.wr hb eG15 (by simp)
      have hb := hb.kept eG15
      change ab_W _ _ _ (List.set G b (za n (zcpy q f x sz (y - x)))) 33 [some (vR r), some (vR a), some (vz x), some (vz y)] [] _
      rw [← eG15]
      refine ab_aload_n d_RW_addAll_33 rfl ?_
      refine ab_dup d_RW_addAll_34 rfl ?_
      refine ab_getf (fs := [vz lim, vR b, vz sz]) f_RW_19 d_RW_addAll_35 hr.2.2 rfl ?_
      refine ab_iload_n d_RW_addAll_38 rfl ?_
      refine ab_iload_n d_RW_addAll_39 rfl ?_
      refine zz_isub d_RW_addAll_40 ?_
      refine zz_iadd d_RW_addAll_41 ?_
      refine ab_putf (fs := [vz lim, vR b, vz sz]) f_RW_19 (Or.inl rfl) d_RW_addAll_42 hr.2.2 (Nat.le_of_ble_eq_true rfl) (fun _ => ⟨rfl, rfl⟩) (hr.2.1 (by first | omega | exact (show 18 ≤ _ by omega))) ?_
      obtain ⟨G18, eG18⟩ : ∃ z : ab_G, z = List.set G15 r (ab_ob 7 [vz lim, vR b, vz (sz + (y - x))]) := ⟨_, rfl⟩
      have hb := hb.keep hr eG18 (by omega)
      have ha := ha.keep hr eG18 (by omega)
      have hq19 := z_len eG18
      have hq20 := z_sl hr eG18 rfl
      have hfr := hfr.wr hr eG18 (by simp)
      have hr := hr.kept eG18
      change ab_W _ _ _ (List.set G15 r (ab_ob 7 [vz lim, vR b, vz (sz + (y - x))])) 45 [some (vR r), some (vR a), some (vz x), some (vz y)] [] _
      rw [← eG18]
      refine zz_iconst d_RW_addAll_45 ?_
      refine zz_bret rfl (by decide) d_RW_addAll_46 ?_
      rw [hQ]; exact (Or.inr ⟨_, _, _, _, rfl, hfr, hr, hb, ha, (by omega), (by omega), (by unfold zT; (repeat' split) <;> omega), (by omega), (by intro k h1 h2; simp only [zu, zcpy, zfill]; (repeat' split) <;> first | omega | rfl | (congr 1; omega)), (by intro k h1 h2; simp only [zu, zcpy, zfill]; (repeat' split) <;> first | omega | rfl | (congr 1; omega))⟩)
    · cases hv
      have ne_b26_r : nq b26 r := by have hlt := hr.lt; unfold nq; omega
      have ne_b26_b : nq b26 b := by have hlt := hb.lt; unfold nq; omega
      have ne_b26_a : nq b26 a := by have hlt := ha.lt; unfold nq; omega
      have hb := hfk.get hb (by simp only [List.mem_cons, List.not_mem_nil, or_false]; omega)
      have ha := hfk.get ha (by simp only [List.mem_cons, List.not_mem_nil, or_false]; omega)
      have hfr := hfr.tr hfk (by simp)
      have hq12 := hfk.1
      have hr := hNr
      have hb26 := hNb26
      change ab_W _ _ _ G2 12 [some (vR r), some (vR a), some (vz x), some (vz y)] [vz 1] _
      refine zz_if_ne (tgt := 17) d_RW_addAll_12 (by decide) (by decide) (fun c21 => ?_) (fun c21 => absurd c21 (by decide))
      refine ab_aload_n d_RW_addAll_17 rfl ?_
      refine ab_iload_n d_RW_addAll_18 rfl ?_
      refine ab_aload_n d_RW_addAll_19 rfl ?_
      refine ab_getf (fs := [vz lim, vR b26, vz sz]) f_RW_9 d_RW_addAll_20 hr.2.2 rfl ?_
      refine ab_aload_n d_RW_addAll_23 rfl ?_
      refine ab_getf (fs := [vz lim, vR b26, vz sz]) f_RW_19 d_RW_addAll_24 hr.2.2 rfl ?_
      refine ab_iload_n d_RW_addAll_27 rfl ?_
      refine ab_iload_n d_RW_addAll_28 rfl ?_
      refine zz_isub d_RW_addAll_29 ?_
      refine zz_copy mj_RW_26 d_RW_addAll_30 ha hb26 (hb26.2.1 (by first | omega | exact (show 18 ≤ _ by omega))) (by omega) (Nat.le_of_ble_eq_true rfl) (by omega) ?_
      obtain ⟨G22, eG22⟩ : ∃ z : ab_G, z = List.set G2 b26 (za n27 (zcpy q (zcpy f (fun _ => 0) 0 0 ↑n) x sz (y - x))) := ⟨_, rfl⟩
      have hr := hr.keep' eG22 ne_b26_r
      have hb := hb.keep' eG22 ne_b26_b
      have ha := ha.keep' eG22 ne_b26_a
      have hq23 := z_len eG22
      have hq24 := z_sl hb26 eG22 rfl
      have hfr := hfr.wn (show G.length ≤ b26 by have := hfr.1; omega) eG22
      have hb26 := hb26.kept eG22
      change ab_W _ _ _ (List.set G2 b26 (za n27 (zcpy q (zcpy f (fun _ => 0) 0 0 ↑n) x sz (y - x)))) 33 [some (vR r), some (vR a), some (vz x), some (vz y)] [] _
      rw [← eG22]
      refine ab_aload_n d_RW_addAll_33 rfl ?_
      refine ab_dup d_RW_addAll_34 rfl ?_
      refine ab_getf (fs := [vz lim, vR b26, vz sz]) f_RW_19 d_RW_addAll_35 hr.2.2 rfl ?_
      refine ab_iload_n d_RW_addAll_38 rfl ?_
      refine ab_iload_n d_RW_addAll_39 rfl ?_
      refine zz_isub d_RW_addAll_40 ?_
      refine zz_iadd d_RW_addAll_41 ?_
      refine ab_putf (fs := [vz lim, vR b26, vz sz]) f_RW_19 (Or.inl rfl) d_RW_addAll_42 hr.2.2 (Nat.le_of_ble_eq_true rfl) (fun _ => ⟨rfl, rfl⟩) (hr.2.1 (by first | omega | exact (show 18 ≤ _ by omega))) ?_
      obtain ⟨G25, eG25⟩ : ∃ z : ab_G, z = List.set G22 r (ab_ob 7 [vz lim, vR b26, vz (sz + (y - x))]) := ⟨_, rfl⟩
      have hb := hb.keep hr eG25 (by omega)
      have ha := ha.keep hr eG25 (by omega)
      have hb26 := hb26.keep' eG25 (nq.s ne_b26_r)
      have hq26 := z_len eG25
      have hq27 := z_sl hr eG25 rfl
      have hfr := hfr.wr hr eG25 (by simp)
      have hr := hr.kept eG25
      change ab_W _ _ _ (List.set G22 r (ab_ob 7 [vz lim, vR b26, vz (sz + (y - x))])) 45 [some (vR r), some (vR a), some (vz x), some (vz y)] [] _
      rw [← eG25]
      refine zz_iconst d_RW_addAll_45 ?_
      refine zz_bret rfl (by decide) d_RW_addAll_46 ?_
      rw [hQ]; exact (Or.inr ⟨_, _, _, _, rfl, hfr, hr, hb26, ha, (by omega), (by omega), (by unfold zT; (repeat' split) <;> omega), (by omega), (by intro k h1 h2; simp only [zu, zcpy, zfill]; (repeat' split) <;> first | omega | rfl | (congr 1; omega)), (by intro k h1 h2; simp only [zu, zcpy, zfill]; (repeat' split) <;> first | omega | rfl | (congr 1; omega))⟩)
set_option maxRecDepth 100000 in
set_option maxHeartbeats 4000000 in
theorem z_AR_rangeCheck {X : ab_X} {d : Nat} {o : Nat → Nat} {G : ab_G} {n : Int} {x : Int} {y : Int} (c0 : 0 ≤ x ∧ x ≤ y ∧ y ≤ n ∧ n ≤ 2147483647) : ab_F X d y_AR_rangeCheck (.code y_AR_rangeCheck b_AR_rangeCheck 3 none) [vz n, vz x, vz y] G (fun oc G2 => oc = .returned none ∧ G2 = G) := by
  refine ab_F_of (by decide +kernel) (Nat.le_of_ble_eq_true rfl) ?_
  obtain ⟨Q, hQ⟩ : ∃ z : Outcome → ab_G → Prop, z = (fun oc G2 => oc = .returned none ∧ G2 = G) := ⟨_, rfl⟩
  rw [← hQ]
  change ab_W X (ab_pl y_AR_rangeCheck b_AR_rangeCheck 3 none) d G 0 [some (vz n), some (vz x), some (vz y)] [] Q
  have hfr : fx o o [] G G := fx.rf
  have hlen : G.length = G.length := rfl
  have hsl : ab_slots G = ab_slots G := rfl
  refine ab_iload_n d_AR_rangeCheck_0 rfl ?_
  refine ab_iload_n d_AR_rangeCheck_1 rfl ?_
  refine zz_icmp_le (tgt := 46) d_AR_rangeCheck_2 (by decide) (by omega) (by omega) (fun c1 => ?_) (fun c1 => absurd c1 (by omega))
  refine ab_iload_n d_AR_rangeCheck_46 rfl ?_
  refine zz_if_ge (tgt := 59) d_AR_rangeCheck_47 (by decide) (by omega) (fun c2 => ?_) (fun c2 => absurd c2 (by omega))
  refine ab_iload_n d_AR_rangeCheck_59 rfl ?_
  refine ab_iload_n d_AR_rangeCheck_60 rfl ?_
  refine zz_icmp_le (tgt := 73) d_AR_rangeCheck_61 (by decide) (by omega) (by omega) (fun c3 => ?_) (fun c3 => absurd c3 (by omega))
  refine ab_vret rfl d_AR_rangeCheck_73 ?_
  rw [hQ]; exact ⟨rfl, rfl⟩
set_option maxRecDepth 100000 in
set_option maxHeartbeats 4000000 in
theorem y_AR_fillr_10 {X : ab_X} {d : Nat} {Q : Outcome → ab_G → Prop} {o : Nat → Nat} {G0 : ab_G} {a : Nat} {l : Nat} {n : Nat} {f : Int → Int} {v : Int} {x : Int} {y : Int} (c0 : 0 ≤ x ∧ y ≤ ↑n ∧ ↑n ≤ (2147483647 : Int) ∧ ab_n0 ≤ l) : ∀ (mz : Nat) {G : ab_G} {i : Int}, (cc o G a l (za n (zfill f x i v))) → (x ≤ i ∧ i ≤ y) → (fx o o [l] G0 G) → (G.length = G0.length) → (ab_slots G = ab_slots G0) → (Int.toNat (y - i) < mz) → (∀ (G2 : ab_G) (i : Int), (cc o G2 a l (za n (zfill f x i v))) → (i = y) → (fx o o [l] G0 G2) → (G2.length = G0.length) → (ab_slots G2 = ab_slots G0) → ab_W X (ab_pl y_AR_fillr b_AR_fillr 5 none) d G2 27 [none, none, none, none, none] [] Q) → ab_W X (ab_pl y_AR_fillr b_AR_fillr 5 none) d G 10 [some (vR a), some (vz x), some (vz y), some (vz v), some (vz i)] [] Q := by
  intro mz
  induction mz with
  | zero => intro G i ha c1 hfr hlen hsl hm hk0; exact absurd hm (Nat.not_lt_zero _)
  | succ mz ih =>
    intro G i ha c1 hfr hlen hsl hm hk0
    refine ab_iload d_AR_fillr_10 rfl ?_
    refine ab_iload_n d_AR_fillr_12 rfl ?_
    refine zz_icmp_ge (tgt := 27) d_AR_fillr_13 (by decide) (by omega) (by omega) (fun c1 => ?_) (fun c1 => ?_)
    · refine ab_less (L' := [none, none, none, none, none]) (fun i v h => by rcases i with _ | _ | _ | _ | _ | i <;> first | exact h | (simp at h)) ?_
      exact hk0 _ _ ha (by omega) hfr hlen hsl
    · refine ab_aload_n d_AR_fillr_16 rfl ?_
      refine ab_iload d_AR_fillr_17 rfl ?_
      refine ab_iload_n d_AR_fillr_19 rfl ?_
      refine zz_iast d_AR_fillr_20 ha (by omega) (ha.2.1 (by first | omega | exact (show 18 ≤ _ by omega))) ?_
      obtain ⟨G2, eG2⟩ : ∃ z : ab_G, z = List.set G a (za n (zu (zfill f x i v) i v)) := ⟨_, rfl⟩
      have hlen := (z_len eG2).trans hlen
      have hsl := (z_sl ha eG2 rfl).trans hsl
      have hfr := hfr.wr ha eG2 (by simp)
      have ha := ha.kept eG2
      change ab_W _ _ _ (List.set G a (za n (zu (zfill f x i v) i v))) 21 [some (vR a), some (vz x), some (vz y), some (vz v), some (vz i)] [] _
      rw [← eG2]
      have ha : cc o G2 a l (za n (zfill f x (i + 1) v)) := by rw [← zfill_s (g := f) (a := x) (i := i) (v := v) (by omega)]; exact ha
      refine zz_iinc d_AR_fillr_21 rfl (Nat.le_of_ble_eq_true rfl) (Nat.le_of_ble_eq_true rfl) rfl ?_
      change ab_W _ _ _ G2 24 [some (vR a), some (vz x), some (vz y), some (vz v), some (vz (i + 1))] [] _
      refine ab_goto (tgt := 10) d_AR_fillr_24 (by decide) ?_
      exact ih (i := (i + 1)) ha (by omega) hfr hlen hsl (by omega) hk0
set_option maxRecDepth 100000 in
set_option maxHeartbeats 4000000 in
theorem z_AR_fillr {X : ab_X} {d : Nat} {o : Nat → Nat} {G : ab_G} {a : Nat} {l : Nat} {n : Nat} {f : Int → Int} {v : Int} {x : Int} {y : Int} (ha : cc o G a l (za n f)) (c0 : 0 ≤ x ∧ x ≤ y ∧ y ≤ ↑n ∧ ↑n ≤ (2147483647 : Int) ∧ ab_n0 ≤ l) (hd : 1 ≤ d) : ab_F X d y_AR_fillr (.code y_AR_fillr b_AR_fillr 5 none) [vR a, vz x, vz y, vz v] G (fun oc G2 => oc = .returned none ∧ fx o o [l] G G2 ∧ G2.length = G.length ∧ ab_slots G2 = ab_slots G ∧ cc o G2 a l (za n (zfill f x y v))) := by
  refine ab_F_of (by decide +kernel) (Nat.le_of_ble_eq_true rfl) ?_
  obtain ⟨Q, hQ⟩ : ∃ z : Outcome → ab_G → Prop, z = (fun oc G2 => oc = .returned none ∧ fx o o [l] G G2 ∧ G2.length = G.length ∧ ab_slots G2 = ab_slots G ∧ cc o G2 a l (za n (zfill f x y v))) := ⟨_, rfl⟩
  rw [← hQ]
  change ab_W X (ab_pl y_AR_fillr b_AR_fillr 5 none) d G 0 [some (vR a), some (vz x), some (vz y), some (vz v), none] [] Q
  have hfr : fx o o [l] G G := fx.rf
  have hlen : G.length = G.length := rfl
  have hsl : ab_slots G = ab_slots G := rfl
  refine ab_aload_n d_AR_fillr_0 rfl ?_
  refine zz_alen d_AR_fillr_1 ha ?_
  refine ab_iload_n d_AR_fillr_2 rfl ?_
  refine ab_iload_n d_AR_fillr_3 rfl ?_
  refine ab_callS (d' := d - 1) (as := [vz (↑n : Int), vz x, vz y]) (st := []) (z_AR_rangeCheck (o := o) (n := (↑n : Int)) (x := x) (y := y) (by omega)) (fun oc G2 h => by rcases h with ⟨h, _⟩ <;> exact ⟨_, h⟩) (by omega) m_AR_rangeCheck ml_AR_13 st_AR_rangeCheck (Nat.le_of_ble_eq_true rfl) d_AR_fillr_4 rfl ?_
  intro v G1 hq
  rcases hq with ⟨hv, hGe⟩
  cases hv
  rw [hGe]
  change ab_W _ _ _ G 7 [some (vR a), some (vz x), some (vz y), some (vz v), none] [] _
  refine ab_iload_n d_AR_fillr_7 rfl ?_
  have ha : cc o G a l (za n (zfill f x x v)) := by rw [← (zfill_0 f x v).symm]; exact ha
  refine ab_istore d_AR_fillr_8 (Nat.le_of_ble_eq_true rfl) (Nat.le_of_ble_eq_true rfl) rfl ?_
  change ab_W _ _ _ G 10 [some (vR a), some (vz x), some (vz y), some (vz v), some (vz x)] [] _
  refine y_AR_fillr_10 (a := a) (l := l) (n := n) (v := v) (x := x) (y := y) (i := x) (by have h18 : ab_n0 = 18 := rfl; omega) (Int.toNat (y - x) + 1) ha (by omega) hfr hlen hsl (by omega) (fun G2 i3 ha hq4 hfr hlen hsl => ?_)
  · change ab_W _ _ _ G2 27 [none, none, none, none, none] [] _
    rw [hq4] at ha
    refine ab_vret rfl d_AR_fillr_27 ?_
    rw [hQ]; exact ⟨rfl, hfr, hlen, hsl, ha⟩
