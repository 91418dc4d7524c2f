set_option maxRecDepth 100000 in
set_option maxHeartbeats 4000000 in
theorem z_SU_isLineFeed {X : ab_X} {d : Nat} {o : Nat → Nat} {G : ab_G} {s : Nat} {ls : Nat} {by_ : Nat} {lby : Nat} {m : Nat} {f : Int → Int} {n : Int} {co : Nat} {re : Nat} {ho : Nat} {p : Int} (hs : cc o G s ls (ab_ob 9 [vR by_, vR co, vR re, vR ho, vz n])) (hby_ : cc o G by_ lby (za m f)) (c0 : 0 ≤ n ∧ n ≤ ↑m ∧ ↑m ≤ (100000 : Int) ∧ -100 ≤ p ∧ p ≤ 100000) (hb : bytes f n) : ab_F X d y_SU_isLineFeed (.code y_SU_isLineFeed b_SU_isLineFeed 2 (some (.boolean))) [vR s, vz p] G (fun oc G2 => (oc = .returned (some (vz 1)) ∧ G2 = G ∧ (tpk f n p = 10)) ∨ (oc = .returned (some (vz 0)) ∧ G2 = G ∧ (¬ tpk f n p = 10))) := by
  refine ab_F_of (by decide +kernel) (Nat.le_of_ble_eq_true rfl) ?_
  obtain ⟨Q, hQ⟩ : ∃ z : Outcome → ab_G → Prop, z = (fun oc G2 => (oc = .returned (some (vz 1)) ∧ G2 = G ∧ (tpk f n p = 10)) ∨ (oc = .returned (some (vz 0)) ∧ G2 = G ∧ (¬ tpk f n p = 10))) := ⟨_, rfl⟩
  rw [← hQ]
  change ab_W X (ab_pl y_SU_isLineFeed b_SU_isLineFeed 2 (some (.boolean))) d G 0 [some (vR s), some (vz p)] [] Q
  have hfr : fx o o [] G G := fx.rf
  have hlen : G.length = G.length := rfl
  have hsl : ab_slots G = ab_slots G := rfl
  refine ab_iload_n d_SU_isLineFeed_0 rfl ?_
  refine zz_if_lt (tgt := 27) d_SU_isLineFeed_1 (by decide) (by omega) (fun c1 => ?_) (fun c1 => ?_)
  · refine zz_iconst d_SU_isLineFeed_27 ?_
    refine zz_bret rfl (by decide) d_SU_isLineFeed_28 ?_
    rw [hQ]; exact (Or.inr ⟨rfl, rfl, (by unfold tpk; first | (rw [if_pos (by omega)]; omega) | (rw [if_neg (by omega)]; omega))⟩)
  · refine ab_iload_n d_SU_isLineFeed_4 rfl ?_
    refine ab_aload_n d_SU_isLineFeed_5 rfl ?_
    refine ab_getf (fs := [vR by_, vR co, vR re, vR ho, vz n]) f_SU_34 d_SU_isLineFeed_6 hs.2.2 rfl ?_
    refine zz_icmp_ge (tgt := 27) d_SU_isLineFeed_9 (by decide) (by omega) (by omega) (fun c2 => ?_) (fun c2 => ?_)
    · refine zz_iconst d_SU_isLineFeed_27 ?_
      refine zz_bret rfl (by decide) d_SU_isLineFeed_28 ?_
      rw [hQ]; exact (Or.inr ⟨rfl, rfl, (by unfold tpk; first | (rw [if_pos (by omega)]; omega) | (rw [if_neg (by omega)]; omega))⟩)
    · refine ab_aload_n d_SU_isLineFeed_12 rfl ?_
      refine ab_getf (fs := [vR by_, vR co, vR re, vR ho, vz n]) f_SU_9 d_SU_isLineFeed_13 hs.2.2 rfl ?_
      refine ab_iload_n d_SU_isLineFeed_16 rfl ?_
      refine zz_iald d_SU_isLineFeed_17 hby_ (by omega) ?_
      have hq3 := hb p (by omega) (by omega)
      refine zz_bipush d_SU_isLineFeed_18 (by decide) ?_
      refine zz_icmp_ne (tgt := 27) d_SU_isLineFeed_20 (by decide) (by omega) (by decide) (fun c4 => ?_) (fun c4 => ?_)
      · refine zz_iconst d_SU_isLineFeed_27 ?_
        refine zz_bret rfl (by decide) d_SU_isLineFeed_28 ?_
        rw [hQ]; exact (Or.inr ⟨rfl, rfl, (by unfold tpk; first | (rw [if_pos (by omega)]; omega) | (rw [if_neg (by omega)]; omega))⟩)
      · refine zz_iconst d_SU_isLineFeed_23 ?_
        refine ab_goto (tgt := 28) d_SU_isLineFeed_24 (by decide) ?_
        refine zz_bret rfl (by decide) d_SU_isLineFeed_28 ?_
        rw [hQ]; exact (Or.inl ⟨rfl, rfl, (by unfold tpk; first | (rw [if_pos (by omega)]; omega) | (rw [if_neg (by omega)]; omega))⟩)
set_option maxRecDepth 100000 in
set_option maxHeartbeats 4000000 in
theorem z_SU_isWordByte {X : ab_X} {d : Nat} {o : Nat → Nat} {G : ab_G} {s : Nat} {ls : Nat} {by_ : Nat} {lby : Nat} {m : Nat} {f : Int → Int} {n : Int} {co : Nat} {re : Nat} {ho : Nat} {p : Int} (hs : cc o G s ls (ab_ob 9 [vR by_, vR co, vR re, vR ho, vz n])) (hby_ : cc o G by_ lby (za m f)) (c0 : 0 ≤ n ∧ n ≤ ↑m ∧ ↑m ≤ (100000 : Int) ∧ -100 ≤ p ∧ p ≤ 100000) (hb : bytes f n) (hd : 1 ≤ d) : ab_F X d y_SU_isWordByte (.code y_SU_isWordByte b_SU_isWordByte 2 (some (.boolean))) [vR s, vz p] G (fun oc G2 => (oc = .returned (some (vz 1)) ∧ G2 = G ∧ (isW (tpk f n p))) ∨ (oc = .returned (some (vz 0)) ∧ G2 = G ∧ (¬ isW (tpk f n p)))) := by
  refine ab_F_of (by decide +kernel) (Nat.le_of_ble_eq_true rfl) ?_
  obtain ⟨Q, hQ⟩ : ∃ z : Outcome → ab_G → Prop, z = (fun oc G2 => (oc = .returned (some (vz 1)) ∧ G2 = G ∧ (isW (tpk f n p))) ∨ (oc = .returned (some (vz 0)) ∧ G2 = G ∧ (¬ isW (tpk f n p)))) := ⟨_, rfl⟩
  rw [← hQ]
  change ab_W X (ab_pl y_SU_isWordByte b_SU_isWordByte 2 (some (.boolean))) d G 0 [some (vR s), some (vz p)] [] Q
  have hfr : fx o o [] G G := fx.rf
  have hlen : G.length = G.length := rfl
  have hsl : ab_slots G = ab_slots G := rfl
  refine ab_iload_n d_SU_isWordByte_0 rfl ?_
  refine zz_if_lt (tgt := 28) d_SU_isWordByte_1 (by decide) (by omega) (fun c1 => ?_) (fun c1 => ?_)
  · refine zz_iconst d_SU_isWordByte_28 ?_
    refine zz_bret rfl (by decide) d_SU_isWordByte_29 ?_
    rw [hQ]; exact (Or.inr ⟨rfl, rfl, (by unfold tpk; first | (rw [if_pos (by omega)]; unfold isW; omega) | (rw [if_neg (by omega)]; unfold isW; omega))⟩)
  · refine ab_iload_n d_SU_isWordByte_4 rfl ?_
    refine ab_aload_n d_SU_isWordByte_5 rfl ?_
    refine ab_getf (fs := [vR by_, vR co, vR re, vR ho, vz n]) f_SU_34 d_SU_isWordByte_6 hs.2.2 rfl ?_
    refine zz_icmp_ge (tgt := 28) d_SU_isWordByte_9 (by decide) (by omega) (by omega) (fun c2 => ?_) (fun c2 => ?_)
    · refine zz_iconst d_SU_isWordByte_28 ?_
      refine zz_bret rfl (by decide) d_SU_isWordByte_29 ?_
      rw [hQ]; exact (Or.inr ⟨rfl, rfl, (by unfold tpk; first | (rw [if_pos (by omega)]; unfold isW; omega) | (rw [if_neg (by omega)]; unfold isW; omega))⟩)
    · refine ab_aload_n d_SU_isWordByte_12 rfl ?_
      refine ab_getf (fs := [vR by_, vR co, vR re, vR ho, vz n]) f_SU_9 d_SU_isWordByte_13 hs.2.2 rfl ?_
      refine ab_iload_n d_SU_isWordByte_16 rfl ?_
      refine zz_iald d_SU_isWordByte_17 hby_ (by omega) ?_
      have hq3 := hb p (by omega) (by omega)
      refine ab_callS (d' := d - 1) (as := [vz (f p)]) (st := []) (z_PW_isWord (o := o) (x := (f p)) (by omega)) (fun oc G2 h => by rcases h with ⟨h, _⟩ | ⟨h, _⟩ <;> exact ⟨_, h⟩) (by omega) m_PW_isWord ml_SU_62 st_PW_isWord (Nat.le_of_ble_eq_true rfl) d_SU_isWordByte_18 rfl ?_
      intro v G4 hq
      rcases hq with ⟨hv, hGe, hq5⟩ | ⟨hv, hGe, hq6⟩
      · cases hv
        rw [hGe]
        change ab_W _ _ _ G 21 [some (vR s), some (vz p)] [vz 1] _
        refine zz_if_eq (tgt := 28) d_SU_isWordByte_21 (by decide) (by decide) (fun c7 => absurd c7 (by decide)) (fun c7 => ?_)
        refine zz_iconst d_SU_isWordByte_24 ?_
        refine ab_goto (tgt := 29) d_SU_isWordByte_25 (by decide) ?_
        refine zz_bret rfl (by decide) d_SU_isWordByte_29 ?_
        rw [hQ]; exact (Or.inl ⟨rfl, rfl, (by unfold tpk; first | (rw [if_pos (by omega)]; exact hq5) | (rw [if_neg (by omega)]; exact hq5))⟩)
      · cases hv
        rw [hGe]
        change ab_W _ _ _ G 21 [some (vR s), some (vz p)] [vz 0] _
        refine zz_if_eq (tgt := 28) d_SU_isWordByte_21 (by decide) (by decide) (fun c8 => ?_) (fun c8 => absurd c8 (by decide))
        refine zz_iconst d_SU_isWordByte_28 ?_
        refine zz_bret rfl (by decide) d_SU_isWordByte_29 ?_
        rw [hQ]; exact (Or.inr ⟨rfl, rfl, (by unfold tpk; first | (rw [if_pos (by omega)]; exact hq6) | (rw [if_neg (by omega)]; exact hq6))⟩)
set_option maxRecDepth 100000 in
set_option maxHeartbeats 4000000 in
theorem z_PR_takes {X : ab_X} {d : Nat} {o : Nat → Nat} {G : ab_G} {q : Nat} {lq : Nat} {ki : Nat} {lki : Nat} {ne : Nat} {ot : Nat} {cnt : Int} {fi : Int} {la : Int} {ra : Nat} {ru : Int} {gr : Int} {wi : Int} {sz : Int} {fl : Int} {ve : Int} {mi : Int} {na : Nat} {nl : Nat} {K : Int → Int} {nk : Nat} {x : Int} (hq : cc o G q lq (ab_ob 5 [vR ki, vR ne, vR ot, vz cnt, vz fi, vz la, vR ra, vz ru, vz gr, vz wi, vz sz, vz fl, vz ve, vz mi, vR na, vR nl])) (hki : cc o G ki lki (za nk K)) (cs : 0 ≤ x ∧ x < ↑nk ∧ ↑nk ≤ (2000 : Int)) (hK : ∀ k : Int, 0 ≤ k → k < ↑nk → 0 ≤ K k ∧ K k ≤ 9) : ab_F X d y_PR_takes (.code y_PR_takes b_PR_takes 2 (some (.boolean))) [vR q, vz x] G (fun oc G2 => (oc = .returned (some (vz 1)) ∧ G2 = G ∧ (K x ≤ 2)) ∨ (oc = .returned (some (vz 0)) ∧ G2 = G ∧ (2 < K x))) := by
  refine ab_F_of (by decide +kernel) (Nat.le_of_ble_eq_true rfl) ?_
  obtain ⟨Q, hQ⟩ : ∃ z : Outcome → ab_G → Prop, z = (fun oc G2 => (oc = .returned (some (vz 1)) ∧ G2 = G ∧ (K x ≤ 2)) ∨ (oc = .returned (some (vz 0)) ∧ G2 = G ∧ (2 < K x))) := ⟨_, rfl⟩
  rw [← hQ]
  change ab_W X (ab_pl y_PR_takes b_PR_takes 2 (some (.boolean))) d G 0 [some (vR q), some (vz x)] [] Q
  have hfr : fx o o [] G G := fx.rf
  have hlen : G.length = G.length := rfl
  have hsl : ab_slots G = ab_slots G := rfl
  refine ab_aload_n d_PR_takes_0 rfl ?_
  refine ab_getf (fs := [vR ki, vR ne, vR ot, vz cnt, vz fi, vz la, vR ra, vz ru, vz gr, vz wi, vz sz, vz fl, vz ve, vz mi, vR na, vR nl]) f_PR_9 d_PR_takes_1 hq.2.2 rfl ?_
  refine ab_iload_n d_PR_takes_4 rfl ?_
  refine zz_iald d_PR_takes_5 hki (by omega) ?_
  have hq1 := hK x (by omega) (by omega)
  refine zz_iconst d_PR_takes_6 ?_
  refine zz_icmp_gt (tgt := 14) d_PR_takes_7 (by decide) (by omega) (by decide) (fun c2 => ?_) (fun c2 => ?_)
  · refine zz_iconst d_PR_takes_14 ?_
    refine zz_bret rfl (by decide) d_PR_takes_15 ?_
    rw [hQ]; exact (Or.inr ⟨rfl, rfl, (by omega)⟩)
  · refine zz_iconst d_PR_takes_10 ?_
    refine ab_goto (tgt := 15) d_PR_takes_11 (by decide) ?_
    refine zz_bret rfl (by decide) d_PR_takes_15 ?_
    rw [hQ]; exact (Or.inl ⟨rfl, rfl, (by omega)⟩)
set_option maxRecDepth 100000 in
set_option maxHeartbeats 4000000 in
theorem y_PR_has_46 {X : ab_X} {d : Nat} {Q : Outcome → ab_G → Prop} {o : Nat → Nat} {G0 : ab_G} {q : Nat} {lq : Nat} {ki : Nat} {ne : Nat} {ot : Nat} {cnt : Int} {fi : Int} {la : Int} {ra : Nat} {lra : Nat} {ru : Int} {gr : Int} {wi : Int} {sz : Int} {fl : Int} {ve : Int} {mi : Int} {na : Nat} {nl : Nat} {RR : Int → Int} {nr : Nat} {r0 : Int} {c : Int} {mm : Int} (cr : 0 ≤ r0 ∧ 0 ≤ mm ∧ r0 + 2 * mm + 1 ≤ ↑nr ∧ ↑nr ≤ (1000000 : Int) ∧ 0 ≤ c ∧ c ≤ 1114112) (hs : ∀ i j : Int, 0 ≤ i → i ≤ j → j < mm → RR (r0 + 2 * i + 2) ≤ RR (r0 + 2 * j + 2)) (hr : ∀ k : Int, 0 ≤ k → k < ↑nr → -1 ≤ RR k ∧ RR k ≤ 1114111) : ∀ (mz : Nat) {G : ab_G} {low : Int} {high : Int} {turn : Int} {j : Nat} {p : Int}, (cc o G q lq (ab_ob 5 [vR ki, vR ne, vR ot, vz cnt, vz fi, vz la, vR ra, vz ru, vz gr, vz wi, vz sz, vz fl, vz ve, vz mi, vR na, vR nl])) → (cc o G ra lra (za nr RR)) → (0 ≤ low ∧ low ≤ high ∧ high ≤ mm ∧ 0 ≤ turn ∧ turn ≤ 32) → (turn + ↑j = 32) → (p = 2 ^ j) → (high - low < p) → (∀ i : Int, 0 ≤ i → i < low → RR (r0 + 2 * i + 2) < c) → (∀ i : Int, high ≤ i → i < mm → c ≤ RR (r0 + 2 * i + 2)) → (fx o o [] G0 G) → (G.length = G0.length) → (ab_slots G = ab_slots G0) → (Int.toNat (32 - turn) < mz) → (∀ (G2 : ab_G) (w : Int), (cc o G2 q lq (ab_ob 5 [vR ki, vR ne, vR ot, vz cnt, vz fi, vz la, vR ra, vz ru, vz gr, vz wi, vz sz, vz fl, vz ve, vz mi, vR na, vR nl])) → (cc o G2 ra lra (za nr RR)) → (0 ≤ w ∧ w ≤ mm) → (∀ i : Int, 0 ≤ i → i < w → RR (r0 + 2 * i + 2) < c) → (∀ i : Int, w ≤ i → i < mm → c ≤ RR (r0 + 2 * i + 2)) → (fx o o [] G0 G2) → (G2.length = G0.length) → (ab_slots G2 = ab_slots G0) → ab_W X (ab_pl y_PR_has b_PR_has 8 (some (.boolean))) d G2 105 [some (vR q), none, some (vz c), some (vz r0), some (vz w), none, none, none] [] Q) → ab_W X (ab_pl y_PR_has b_PR_has 8 (some (.boolean))) d G 46 [some (vR q), none, some (vz c), some (vz r0), some (vz low), some (vz high), some (vz turn), none] [] Q := by
  intro mz
  induction mz with
  | zero => intro G low high turn j p hq hra c1 cj cp cw hlo hhi hfr hlen hsl hm hk0; exact absurd hm (Nat.not_lt_zero _)
  | succ mz ih =>
    intro G low high turn j p hq hra c1 cj cp cw hlo hhi hfr hlen hsl hm hk0
    have hz : j = 0 → p = 1 := by intro h; rw [cp, h]; rfl
    obtain ⟨qq, hqq⟩ : ∃ q : Int, 0 < j → p = 2 * q ∧ q = 2 ^ (j - 1) := ⟨2 ^ (j - 1), fun h => ⟨by rw [cp]; obtain ⟨i, rfl⟩ : ∃ i, j = i + 1 := ⟨j - 1, by omega⟩; rw [Int.pow_succ, Nat.add_sub_cancel, Int.mul_comm], rfl⟩⟩
    refine ab_iload d_PR_has_46 rfl ?_
    refine zz_bipush d_PR_has_48 (by decide) ?_
    refine zz_icmp_ge (tgt := 105) d_PR_has_50 (by decide) (by omega) (by decide) (fun c1 => ?_) (fun c1 => ?_)
    · refine ab_less (L' := [some (vR q), none, some (vz c), some (vz r0), some (vz low), none, none, none]) (fun i v h => by rcases i with _ | _ | _ | _ | _ | _ | _ | _ | i <;> first | exact h | (simp at h)) ?_
      exact hk0 _ _ hq hra (by omega) (by exact hlo) (by exact fun i h1 h2 => hhi i (by omega) h2) hfr hlen hsl
    · refine ab_iload d_PR_has_53 rfl ?_
      refine ab_iload d_PR_has_55 rfl ?_
      refine zz_icmp_ge (tgt := 105) d_PR_has_57 (by decide) (by omega) (by omega) (fun c2 => ?_) (fun c2 => ?_)
      · refine ab_less (L' := [some (vR q), none, some (vz c), some (vz r0), some (vz low), none, none, none]) (fun i v h => by rcases i with _ | _ | _ | _ | _ | _ | _ | _ | i <;> first | exact h | (simp at h)) ?_
        exact hk0 _ _ hq hra (by omega) (by exact hlo) (by exact fun i h1 h2 => hhi i (by omega) h2) hfr hlen hsl
      · refine ab_iload d_PR_has_60 rfl ?_
        refine ab_iload d_PR_has_62 rfl ?_
        refine zz_iadd d_PR_has_64 ?_
        refine zz_iconst d_PR_has_65 ?_
        refine zz_iushr1 d_PR_has_66 (by omega) ?_
        refine ab_istore d_PR_has_67 (Nat.le_of_ble_eq_true rfl) (Nat.le_of_ble_eq_true rfl) rfl ?_
        change ab_W _ _ _ G 69 [some (vR q), none, some (vz c), some (vz r0), some (vz low), some (vz high), some (vz turn), some (vz ((low + high) / 2))] [] _
        refine ab_aload_n d_PR_has_69 rfl ?_
        refine ab_getf (fs := [vR ki, vR ne, vR ot, vz cnt, vz fi, vz la, vR ra, vz ru, vz gr, vz wi, vz sz, vz fl, vz ve, vz mi, vR na, vR nl]) f_PR_21 d_PR_has_70 hq.2.2 rfl ?_
        refine ab_iload_n d_PR_has_73 rfl ?_
        refine zz_iconst d_PR_has_74 ?_
        refine ab_iload d_PR_has_75 rfl ?_
        refine zz_imul d_PR_has_77 ?_
        refine zz_iadd d_PR_has_78 ?_
        refine zz_iconst d_PR_has_79 ?_
        refine zz_iadd d_PR_has_80 ?_
        refine zz_iald d_PR_has_81 hra (by omega) ?_
        have hq3 := hr ((r0 + (2 * ((low + high) / 2))) + 2) (by omega) (by omega)
        refine ab_iload_n d_PR_has_82 rfl ?_
        refine zz_icmp_ge (tgt := 95) d_PR_has_83 (by decide) (by omega) (by omega) (fun c4 => ?_) (fun c4 => ?_)
        · refine ab_iload d_PR_has_95 rfl ?_
          refine ab_istore d_PR_has_97 (Nat.le_of_ble_eq_true rfl) (Nat.le_of_ble_eq_true rfl) rfl ?_
          change ab_W _ _ _ G 99 [some (vR q), none, some (vz c), some (vz r0), some (vz low), some (vz ((low + high) / 2)), some (vz turn), some (vz ((low + high) / 2))] [] _
          refine zz_iinc d_PR_has_99 rfl (Nat.le_of_ble_eq_true rfl) (Nat.le_of_ble_eq_true rfl) rfl ?_
          change ab_W _ _ _ G 102 [some (vR q), none, some (vz c), some (vz r0), some (vz low), some (vz ((low + high) / 2)), some (vz (turn + 1)), some (vz ((low + high) / 2))] [] _
          refine ab_goto (tgt := 46) d_PR_has_102 (by decide) ?_
          refine ab_less (L' := [some (vR q), none, some (vz c), some (vz r0), some (vz low), some (vz ((low + high) / 2)), some (vz (turn + 1)), none]) (fun i v h => by rcases i with _ | _ | _ | _ | _ | _ | _ | _ | i <;> first | exact h | (simp at h)) ?_
          exact ih (low := low) (high := ((low + high) / 2)) (turn := (turn + 1)) (j := (j - 1)) (p := qq) hq hra (by omega) (by omega) (hqq (by omega)).2 (by have := hqq (by omega); omega) (fun i h1 h2 => by first | exact hlo i h1 h2 | (have := hs i ((low + high) / 2) h1 (by omega) (by omega); omega)) (fun i h1 h2 => by first | exact hhi i h1 h2 | (have := hs ((low + high) / 2) i (by omega) h1 h2; omega)) hfr hlen hsl (by omega) hk0
        · refine ab_iload d_PR_has_86 rfl ?_
          refine zz_iconst d_PR_has_88 ?_
          refine zz_iadd d_PR_has_89 ?_
          refine ab_istore d_PR_has_90 (Nat.le_of_ble_eq_true rfl) (Nat.le_of_ble_eq_true rfl) rfl ?_
          change ab_W _ _ _ G 92 [some (vR q), none, some (vz c), some (vz r0), some (vz (((low + high) / 2) + 1)), some (vz high), some (vz turn), some (vz ((low + high) / 2))] [] _
          refine ab_goto (tgt := 99) d_PR_has_92 (by decide) ?_
          refine zz_iinc d_PR_has_99 rfl (Nat.le_of_ble_eq_true rfl) (Nat.le_of_ble_eq_true rfl) rfl ?_
          change ab_W _ _ _ G 102 [some (vR q), none, some (vz c), some (vz r0), some (vz (((low + high) / 2) + 1)), some (vz high), some (vz (turn + 1)), some (vz ((low + high) / 2))] [] _
          refine ab_goto (tgt := 46) d_PR_has_102 (by decide) ?_
          refine ab_less (L' := [some (vR q), none, some (vz c), some (vz r0), some (vz (((low + high) / 2) + 1)), some (vz high), some (vz (turn + 1)), none]) (fun i v h => by rcases i with _ | _ | _ | _ | _ | _ | _ | _ | i <;> first | exact h | (simp at h)) ?_
          exact ih (low := (((low + high) / 2) + 1)) (high := high) (turn := (turn + 1)) (j := (j - 1)) (p := qq) hq hra (by omega) (by omega) (hqq (by omega)).2 (by have := hqq (by omega); omega) (fun i h1 h2 => by first | exact hlo i h1 h2 | (have := hs i ((low + high) / 2) h1 (by omega) (by omega); omega)) (fun i h1 h2 => by first | exact hhi i h1 h2 | (have := hs ((low + high) / 2) i (by omega) h1 h2; omega)) hfr hlen hsl (by omega) hk0
