set_option maxRecDepth 100000 in
set_option maxHeartbeats 4000000 in
theorem z_SU_isLineFeed {X : ab_X} {d : Nat} {o : Nat → Nat} {G : ab_G} {s : Nat} {ls : Nat} {by_ : Nat} {lby : Nat} {m : Nat} {f : Int → Int} {n : Int} {co : Nat} {re : Nat} {ho : Nat} {p : Int} (hs : cc o G s ls (ab_ob 9 [vR by_, vR co, vR re, vR ho, vz n])) (hby_ : cc o G by_ lby (za m f)) (c0 : 0 ≤ n ∧ n ≤ ↑m ∧ ↑m ≤ (100000 : Int) ∧ -100 ≤ p ∧ p ≤ 100000) (hb : bytes f n) : ab_F X d y_SU_isLineFeed (.code y_SU_isLineFeed b_SU_isLineFeed 2 (some (.boolean))) [vR s, vz p] G (fun oc G2 => (oc = .returned (some (vz 1)) ∧ G2 = G ∧ (tpk f n p = 10)) ∨ (oc = .returned (some (vz 0)) ∧ G2 = G ∧ (¬ tpk f n p = 10))) := by
  refine ab_F_of (by decide +kernel) (Nat.le_of_ble_eq_true rfl) ?_
  obtain ⟨Q, hQ⟩ : ∃ z : Outcome → ab_G → Prop, z = (fun oc G2 => (oc = .returned (some (vz 1)) ∧ G2 = G ∧ (tpk f n p = 10)) ∨ (oc = .returned (some (vz 0)) ∧ G2 = G ∧ (¬ tpk f n p = 10))) := ⟨_, rfl⟩
  rw [← hQ]
  change ab_W X (ab_pl y_SU_isLineFeed b_SU_isLineFeed 2 (some (.boolean))) d G 0 [some (vR s), some (vz p)] [] Q
  have hfr : fx o o [] G G := fx.rf
  have hlen : G.length = G.length := rfl
  have hsl : ab_slots G = ab_slots G := rfl
  refine ab_iload_n d_SU_isLineFeed_0 rfl ?_
  refine zz_if_lt (tgt := 27) d_SU_isLineFeed_1 (by decide) (by omega) (fun c1 => ?_) (fun c1 => ?_)
  · refine zz_iconst d_SU_isLineFeed_27 ?_
    refine zz_bret rfl (by decide) d_SU_isLineFeed_28 ?_
    rw [hQ]; exact (Or.inr ⟨rfl, rfl, (by unfold tpk; first | (rw [if_pos (by omega)]; omega) | (rw [if_neg (by omega)]; omega))⟩)
  · refine ab_iload_n d_SU_isLineFeed_4 rfl ?_
    refine ab_aload_n d_SU_isLineFeed_5 rfl ?_
    refine ab_getf (fs := [vR by_, vR co, vR re, vR ho, vz n]) f_SU_34 d_SU_isLineFeed_6 hs.2.2 rfl ?_
    refine zz_icmp_ge (tgt := 27) d_SU_isLineFeed_9 (by decide) (by omega) (by omega) (fun c2 => ?_) (fun c2 => ?_)
    · refine zz_iconst d_SU_isLineFeed_27 ?_
      refine zz_bret rfl (by decide) d_SU_isLineFeed_28 ?_
      rw [hQ]; exact (Or.inr ⟨rfl, rfl, (by unfold tpk; first | (rw [if_pos (by omega)]; omega) | (rw [if_neg (by omega)]; omega))⟩)
    · refine ab_aload_n d_SU_isLineFeed_12 rfl ?_
      refine ab_getf (fs := [vR by_, vR co, vR re, vR ho, vz n]) f_SU_9 d_SU_isLineFeed_13 hs.2.2 rfl ?_
      refine ab_iload_n d_SU_isLineFeed_16 rfl ?_
      refine zz_iald d_SU_isLineFeed_17 hby_ (by omega) ?_
      have hq3 := hb p (by omega) (by omega)
      refine zz_bipush d_SU_isLineFeed_18 (by decide) ?_
      refine zz_icmp_ne (tgt := 27) d_SU_isLineFeed_20 (by decide) (by omega) (by decide) (fun c4 => ?_) (fun c4 => ?_)
      · refine zz_iconst d_SU_isLineFeed_27 ?_
        refine zz_bret rfl (by decide) d_SU_isLineFeed_28 ?_
        rw [hQ]; exact (Or.inr ⟨rfl, rfl, (by unfold tpk; first | (rw [if_pos (by omega)]; omega) | (rw [if_neg (by omega)]; omega))⟩)
      · refine zz_iconst d_SU_isLineFeed_23 ?_
        refine ab_goto (tgt := 28) d_SU_isLineFeed_24 (by decide) ?_
        refine zz_bret rfl (by decide) d_SU_isLineFeed_28 ?_
        rw [hQ]; exact (Or.inl ⟨rfl, rfl, (by unfold tpk; first | (rw [if_pos (by omega)]; omega) | (rw [if_neg (by omega)]; omega))⟩)
set_option maxRecDepth 100000 in
set_option maxHeartbeats 4000000 in
theorem z_SU_isWordByte {X : ab_X} {d : Nat} {o : Nat → Nat} {G : ab_G} {s : Nat} {ls : Nat} {by_ : Nat} {lby : Nat} {m : Nat} {f : Int → Int} {n : Int} {co : Nat} {re : Nat} {ho : Nat} {p : Int} (hs : cc o G s ls (ab_ob 9 [vR by_, vR co, vR re, vR ho, vz n])) (hby_ : cc o G by_ lby (za m f)) (c0 : 0 ≤ n ∧ n ≤ ↑m ∧ ↑m ≤ (100000 : Int) ∧ -100 ≤ p ∧ p ≤ 100000) (hb : bytes f n) (hd : 1 ≤ d) : ab_F X d y_SU_isWordByte (.code y_SU_isWordByte b_SU_isWordByte 2 (some (.boolean))) [vR s, vz p] G (fun oc G2 => (oc = .returned (some (vz 1)) ∧ G2 = G ∧ (isW (tpk f n p))) ∨ (oc = .returned (some (vz 0)) ∧ G2 = G ∧ (¬ isW (tpk f n p)))) := by
  refine ab_F_of (by decide +kernel) (Nat.le_of_ble_eq_true rfl) ?_
  obtain ⟨Q, hQ⟩ : ∃ z : Outcome → ab_G → Prop, z = (fun oc G2 => (oc = .returned (some (vz 1)) ∧ G2 = G ∧ (isW (tpk f n p))) ∨ (oc = .returned (some (vz 0)) ∧ G2 = G ∧ (¬ isW (tpk f n p)))) := ⟨_, rfl⟩
  rw [← hQ]
  change ab_W X (ab_pl y_SU_isWordByte b_SU_isWordByte 2 (some (.boolean))) d G 0 [some (vR s), some (vz p)] [] Q
  have hfr : fx o o [] G G := fx.rf
  have hlen : G.length = G.length := rfl
  have hsl : ab_slots G = ab_slots G := rfl
  refine ab_iload_n d_SU_isWordByte_0 rfl ?_
  refine zz_if_lt (tgt := 28) d_SU_isWordByte_1 (by decide) (by omega) (fun c1 => ?_) (fun c1 => ?_)
  · refine zz_iconst d_SU_isWordByte_28 ?_
    refine zz_bret rfl (by decide) d_SU_isWordByte_29 ?_
    rw [hQ]; exact (Or.inr ⟨rfl, rfl, (by unfold tpk; first | (rw [if_pos (by omega)]; unfold isW; omega) | (rw [if_neg (by omega)]; unfold isW; omega))⟩)
  · refine ab_iload_n d_SU_isWordByte_4 rfl ?_
    refine ab_aload_n d_SU_isWordByte_5 rfl ?_
    refine ab_getf (fs := [vR by_, vR co, vR re, vR ho, vz n]) f_SU_34 d_SU_isWordByte_6 hs.2.2 rfl ?_
    refine zz_icmp_ge (tgt := 28) d_SU_isWordByte_9 (by decide) (by omega) (by omega) (fun c2 => ?_) (fun c2 => ?_)
    · refine zz_iconst d_SU_isWordByte_28 ?_
      refine zz_bret rfl (by decide) d_SU_isWordByte_29 ?_
      rw [hQ]; exact (Or.inr ⟨rfl, rfl, (by unfold tpk; first | (rw [if_pos (by omega)]; unfold isW; omega) | (rw [if_neg (by omega)]; unfold isW; omega))⟩)
    · refine ab_aload_n d_SU_isWordByte_12 rfl ?_
      refine ab_getf (fs := [vR by_, vR co, vR re, vR ho, vz n]) f_SU_9 d_SU_isWordByte_13 hs.2.2 rfl ?_
      refine ab_iload_n d_SU_isWordByte_16 rfl ?_
      refine zz_iald d_SU_isWordByte_17 hby_ (by omega) ?_
      have hq3 := hb p (by omega) (by omega)
      refine ab_callS (d' := d - 1) (as := [vz (f p)]) (st := []) (z_PW_isWord (o := o) (x := (f p)) (by omega)) (fun oc G2 h => by rcases h with ⟨h, _⟩ | ⟨h, _⟩ <;> exact ⟨_, h⟩) (by omega) m_PW_isWord ml_SU_62 st_PW_isWord (Nat.le_of_ble_eq_true rfl) d_SU_isWordByte_18 rfl ?_
      intro v G4 hq
      rcases hq with ⟨hv, hGe, hq5⟩ | ⟨hv, hGe, hq6⟩
      · cases hv
        rw [hGe]
        change ab_W _ _ _ G 21 [some (vR s), some (vz p)] [vz 1] _
        refine zz_if_eq (tgt := 28) d_SU_isWordByte_21 (by decide) (by decide) (fun c7 => absurd c7 (by decide)) (fun c7 => ?_)
        refine zz_iconst d_SU_isWordByte_24 ?_
        refine ab_goto (tgt := 29) d_SU_isWordByte_25 (by decide) ?_
        refine zz_bret rfl (by decide) d_SU_isWordByte_29 ?_
        rw [hQ]; exact (Or.inl ⟨rfl, rfl, (by unfold tpk; first | (rw [if_pos (by omega)]; exact hq5) | (rw [if_neg (by omega)]; exact hq5))⟩)
      · cases hv
        rw [hGe]
        change ab_W _ _ _ G 21 [some (vR s), some (vz p)] [vz 0] _
        refine zz_if_eq (tgt := 28) d_SU_isWordByte_21 (by decide) (by decide) (fun c8 => ?_) (fun c8 => absurd c8 (by decide))
        refine zz_iconst d_SU_isWordByte_28 ?_
        refine zz_bret rfl (by decide) d_SU_isWordByte_29 ?_
        rw [hQ]; exact (Or.inr ⟨rfl, rfl, (by unfold tpk; first | (rw [if_pos (by omega)]; exact hq6) | (rw [if_neg (by omega)]; exact hq6))⟩)
