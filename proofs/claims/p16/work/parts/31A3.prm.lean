set_option maxRecDepth 100000 in
set_option maxHeartbeats 4000000 in
theorem z_PR_pair {X : ab_X} {d : Nat} {o : Nat → Nat} {G : ab_G} {f0 : Int} {u0 : Int} (c0 : 0 ≤ f0 ∧ f0 ≤ 100000 ∧ 0 ≤ u0 ∧ u0 ≤ 100000) : ab_F X d y_PR_pair (.code y_PR_pair b_PR_pair 2 (some (.long))) [vz f0, vz u0] G (fun oc G2 => oc = .returned (some (vj (f0 * 4294967296 + u0))) ∧ G2 = G) := by
  refine ab_F_of (by decide +kernel) (Nat.le_of_ble_eq_true rfl) ?_
  obtain ⟨Q, hQ⟩ : ∃ z : Outcome → ab_G → Prop, z = (fun oc G2 => oc = .returned (some (vj (f0 * 4294967296 + u0))) ∧ G2 = G) := ⟨_, rfl⟩
  rw [← hQ]
  change ab_W X (ab_pl y_PR_pair b_PR_pair 2 (some (.long))) d G 0 [some (vz f0), some (vz u0)] [] Q
  have hfr : fx o o [] G G := fx.rf
  have hlen : G.length = G.length := rfl
  have hsl : ab_slots G = ab_slots G := rfl
  refine ab_iload_n d_PR_pair_0 rfl ?_
  refine zz_i2l d_PR_pair_1 (by omega) ?_
  refine zz_bipush d_PR_pair_2 (by decide) ?_
  refine zz_lshl d_PR_pair_4 ?_
  refine ab_iload_n d_PR_pair_5 rfl ?_
  refine zz_i2l d_PR_pair_6 (by omega) ?_
  refine zz_lor d_PR_pair_7 (by omega) ?_
  refine ab_lret rfl d_PR_pair_8 ?_
  rw [hQ]; exact ⟨rfl, rfl⟩
set_option maxRecDepth 100000 in
set_option maxHeartbeats 4000000 in
theorem z_PR_fresh {X : ab_X} {d : Nat} {o : Nat → Nat} {G : ab_G} {w : Int} (c0 : 0 ≤ w ∧ w ≤ 900000000000000) : ab_F X d y_PR_fresh (.code y_PR_fresh b_PR_fresh 2 (some (.int))) [vj w] G (fun oc G2 => oc = .returned (some (vz (w / 4294967296))) ∧ G2 = G) := by
  refine ab_F_of (by decide +kernel) (Nat.le_of_ble_eq_true rfl) ?_
  obtain ⟨Q, hQ⟩ : ∃ z : Outcome → ab_G → Prop, z = (fun oc G2 => oc = .returned (some (vz (w / 4294967296))) ∧ G2 = G) := ⟨_, rfl⟩
  rw [← hQ]
  change ab_W X (ab_pl y_PR_fresh b_PR_fresh 2 (some (.int))) d G 0 [some (vj w), none] [] Q
  have hfr : fx o o [] G G := fx.rf
  have hlen : G.length = G.length := rfl
  have hsl : ab_slots G = ab_slots G := rfl
  refine ab_lload_n d_PR_fresh_0 rfl ?_
  refine zz_bipush d_PR_fresh_1 (by decide) ?_
  refine zz_lshr d_PR_fresh_3 (by omega) ?_
  refine zz_l2i d_PR_fresh_4 ?_
  refine zz_iret rfl d_PR_fresh_5 ?_
  rw [hQ]; exact ⟨rfl, rfl⟩
set_option maxRecDepth 100000 in
set_option maxHeartbeats 4000000 in
theorem z_PR_used {X : ab_X} {d : Nat} {o : Nat → Nat} {G : ab_G} {w : Int} (c0 : 0 ≤ w ∧ w ≤ 900000000000000 ∧ w % 4294967296 ≤ 100000) : ab_F X d y_PR_used (.code y_PR_used b_PR_used 2 (some (.int))) [vj w] G (fun oc G2 => oc = .returned (some (vz (w % 4294967296))) ∧ G2 = G) := by
  refine ab_F_of (by decide +kernel) (Nat.le_of_ble_eq_true rfl) ?_
  obtain ⟨Q, hQ⟩ : ∃ z : Outcome → ab_G → Prop, z = (fun oc G2 => oc = .returned (some (vz (w % 4294967296))) ∧ G2 = G) := ⟨_, rfl⟩
  rw [← hQ]
  change ab_W X (ab_pl y_PR_used b_PR_used 2 (some (.int))) d G 0 [some (vj w), none] [] Q
  have hfr : fx o o [] G G := fx.rf
  have hlen : G.length = G.length := rfl
  have hsl : ab_slots G = ab_slots G := rfl
  refine ab_lload_n d_PR_used_0 rfl ?_
  refine zz_l2iu d_PR_used_1 (by omega) ?_
  refine zz_iret rfl d_PR_used_2 ?_
  rw [hQ]; exact ⟨rfl, rfl⟩
set_option maxRecDepth 100000 in
set_option maxHeartbeats 4000000 in
theorem z_PR_isOn {X : ab_X} {d : Nat} {o : Nat → Nat} {G : ab_G} {q : Nat} {lq : Nat} {ki : Nat} {ne : Nat} {ot : Nat} {cnt : Int} {fi : Int} {la : Int} {ra : Nat} {ru : Int} {gr : Int} {wi : Int} {sz : Int} {fl : Int} {ve : Int} {mi : Int} {na : Nat} {nl : Nat} (hq : cc o G q lq (ab_ob 5 [vR ki, vR ne, vR ot, vz cnt, vz fi, vz la, vR ra, vz ru, vz gr, vz wi, vz sz, vz fl, vz ve, vz mi, vR na, vR nl])) (cf : 0 ≤ fl ∧ fl ≤ 31) : ab_F X d y_PR_isOn (.code y_PR_isOn b_PR_isOn 2 (some (.boolean))) [vR q, vz 16] G (fun oc G2 => (oc = .returned (some (vz 1)) ∧ G2 = G ∧ (16 ≤ fl)) ∨ (oc = .returned (some (vz 0)) ∧ G2 = G ∧ (fl < 16))) := by
  refine ab_F_of (by decide +kernel) (Nat.le_of_ble_eq_true rfl) ?_
  obtain ⟨Q, hQ⟩ : ∃ z : Outcome → ab_G → Prop, z = (fun oc G2 => (oc = .returned (some (vz 1)) ∧ G2 = G ∧ (16 ≤ fl)) ∨ (oc = .returned (some (vz 0)) ∧ G2 = G ∧ (fl < 16))) := ⟨_, rfl⟩
  rw [← hQ]
  change ab_W X (ab_pl y_PR_isOn b_PR_isOn 2 (some (.boolean))) d G 0 [some (vR q), some (vz 16)] [] Q
  have hfr : fx o o [] G G := fx.rf
  have hlen : G.length = G.length := rfl
  have hsl : ab_slots G = ab_slots G := rfl
  refine ab_aload_n d_PR_isOn_0 rfl ?_
  refine ab_getf (fs := [vR ki, vR ne, vR ot, vz cnt, vz fi, vz la, vR ra, vz ru, vz gr, vz wi, vz sz, vz fl, vz ve, vz mi, vR na, vR nl]) f_PR_30 d_PR_isOn_1 hq.2.2 rfl ?_
  refine ab_iload_n d_PR_isOn_4 rfl ?_
  refine zz_iand5 (c := 16) 4 d_PR_isOn_5 (by decide) (by decide) (by decide) (by omega) ?_
  refine zz_if_eq (tgt := 13) d_PR_isOn_6 (by decide) (by omega) (fun c1 => ?_) (fun c1 => ?_)
  · refine zz_iconst d_PR_isOn_13 ?_
    refine zz_bret rfl (by decide) d_PR_isOn_14 ?_
    rw [hQ]; exact (Or.inr ⟨rfl, rfl, (by omega)⟩)
  · refine zz_iconst d_PR_isOn_9 ?_
    refine ab_goto (tgt := 14) d_PR_isOn_10 (by decide) ?_
    refine zz_bret rfl (by decide) d_PR_isOn_14 ?_
    rw [hQ]; exact (Or.inl ⟨rfl, rfl, (by omega)⟩)
set_option maxRecDepth 100000 in
set_option maxHeartbeats 4000000 in
theorem z_PR_has {X : ab_X} {d : Nat} {o : Nat → Nat} {G : ab_G} {q : Nat} {lq : Nat} {ki : Nat} {ne : Nat} {ot : Nat} {cnt : Int} {fi : Int} {la : Int} {ra : Nat} {ru : Int} {gr : Int} {wi : Int} {sz : Int} {fl : Int} {ve : Int} {mi : Int} {na : Nat} {nl : Nat} {K : Int → Int} {N : Int → Int} {O : Int → Int} {RR : Int → Int} {nr : Nat} {x : Int} {c : Int} (hq : cc o G q lq (ab_ob 5 [vR ki, vR ne, vR ot, vz cnt, vz fi, vz la, vR ra, vz ru, vz gr, vz wi, vz sz, vz fl, vz ve, vz mi, vR na, vR nl])) (hki : cc o G ki (lq + 1) (za 808 K)) (hot : cc o G ot (lq + 3) (za 808 O)) (hra : cc o G ra (lq + 4) (za nr RR)) (cq : 100 ≤ lq ∧ 0 ≤ cnt ∧ cnt ≤ 808 ∧ ↑nr ≤ (100000 : Int)) (cx : 0 ≤ x ∧ x < cnt ∧ K x ≤ 1 ∧ 0 ≤ c ∧ c ≤ 1114112) (hp : prok K N O RR cnt ↑nr wi) (hr : ∀ k : Int, 0 ≤ k → k < ↑nr → 0 ≤ RR k ∧ RR k ≤ 1114111) : ab_F X d y_PR_has (.code y_PR_has b_PR_has 8 (some (.boolean))) [vR q, vz x, vz c] G (fun oc G2 => (oc = .returned (some (vz 1)) ∧ fx o o [] G G2 ∧ G2.length = G.length ∧ ab_slots G2 = ab_slots G ∧ (phas K O RR x c)) ∨ (oc = .returned (some (vz 0)) ∧ fx o o [] G G2 ∧ G2.length = G.length ∧ ab_slots G2 = ab_slots G ∧ (¬ phas K O RR x c))) := by
  refine ab_F_of (by decide +kernel) (Nat.le_of_ble_eq_true rfl) ?_
  obtain ⟨Q, hQ⟩ : ∃ z : Outcome → ab_G → Prop, z = (fun oc G2 => (oc = .returned (some (vz 1)) ∧ fx o o [] G G2 ∧ G2.length = G.length ∧ ab_slots G2 = ab_slots G ∧ (phas K O RR x c)) ∨ (oc = .returned (some (vz 0)) ∧ fx o o [] G G2 ∧ G2.length = G.length ∧ ab_slots G2 = ab_slots G ∧ (¬ phas K O RR x c))) := ⟨_, rfl⟩
  rw [← hQ]
  change ab_W X (ab_pl y_PR_has b_PR_has 8 (some (.boolean))) d G 0 [some (vR q), some (vz x), some (vz c), none, none, none, none, none] [] Q
  have hfr : fx o o [] G G := fx.rf
  have hlen : G.length = G.length := rfl
  have hsl : ab_slots G = ab_slots G := rfl
  refine ab_aload_n d_PR_has_0 rfl ?_
  refine ab_getf (fs := [vR ki, vR ne, vR ot, vz cnt, vz fi, vz la, vR ra, vz ru, vz gr, vz wi, vz sz, vz fl, vz ve, vz mi, vR na, vR nl]) f_PR_9 d_PR_has_1 hq.2.2 rfl ?_
  refine ab_iload_n d_PR_has_4 rfl ?_
  refine zz_iald d_PR_has_5 hki (by omega) ?_
  have hq1 := hp.k x (by omega) (by omega)
  refine zz_if_ne (tgt := 25) d_PR_has_6 (by decide) (by omega) (fun c2 => ?_) (fun c2 => ?_)
  · have hx1 : K x = 1 := by omega
    have hrec := hp.o1 x (by omega) (by omega) hx1
    obtain ⟨hr0, hr1, hr2, _⟩ := id hrec
    refine ab_aload_n d_PR_has_25 rfl ?_
    refine ab_getf (fs := [vR ki, vR ne, vR ot, vz cnt, vz fi, vz la, vR ra, vz ru, vz gr, vz wi, vz sz, vz fl, vz ve, vz mi, vR na, vR nl]) f_PR_18 d_PR_has_26 hq.2.2 rfl ?_
    refine ab_iload_n d_PR_has_29 rfl ?_
    refine zz_iald d_PR_has_30 hot (by omega) ?_
    refine ab_istore_n d_PR_has_31 (Nat.le_of_ble_eq_true rfl) (Nat.le_of_ble_eq_true rfl) rfl ?_
    change ab_W _ _ _ G 32 [some (vR q), some (vz x), some (vz c), some (vz (O x)), none, none, none, none] [] _
    refine zz_iconst d_PR_has_32 ?_
    refine ab_istore d_PR_has_33 (Nat.le_of_ble_eq_true rfl) (Nat.le_of_ble_eq_true rfl) rfl ?_
    change ab_W _ _ _ G 35 [some (vR q), some (vz x), some (vz c), some (vz (O x)), some (vz 0), none, none, none] [] _
    refine ab_aload_n d_PR_has_35 rfl ?_
    refine ab_getf (fs := [vR ki, vR ne, vR ot, vz cnt, vz fi, vz la, vR ra, vz ru, vz gr, vz wi, vz sz, vz fl, vz ve, vz mi, vR na, vR nl]) f_PR_21 d_PR_has_36 hq.2.2 rfl ?_
    refine ab_iload_n d_PR_has_39 rfl ?_
    refine zz_iald d_PR_has_40 hra (by omega) ?_
    have hq3 := hr (O x) (by omega) (by omega)
    refine ab_istore d_PR_has_41 (Nat.le_of_ble_eq_true rfl) (Nat.le_of_ble_eq_true rfl) rfl ?_
    change ab_W _ _ _ G 43 [some (vR q), some (vz x), some (vz c), some (vz (O x)), some (vz 0), some (vz (RR (O x))), none, none] [] _
    refine zz_iconst d_PR_has_43 ?_
    refine ab_istore d_PR_has_44 (Nat.le_of_ble_eq_true rfl) (Nat.le_of_ble_eq_true rfl) rfl ?_
    change ab_W _ _ _ G 46 [some (vR q), some (vz x), some (vz c), some (vz (O x)), some (vz 0), some (vz (RR (O x))), some (vz 0), none] [] _
    refine ab_less (L' := [some (vR q), none, some (vz c), some (vz (O x)), some (vz 0), some (vz (RR (O x))), some (vz 0), none]) (fun i v h => by rcases i with _ | _ | _ | _ | _ | _ | _ | _ | i <;> first | exact h | (simp at h)) ?_
    refine y_PR_has_46 (q := q) (lq := lq) (ki := ki) (ne := ne) (ot := ot) (cnt := cnt) (fi := fi) (la := la) (ra := ra) (lra := (lq + 4)) (ru := ru) (gr := gr) (wi := wi) (sz := sz) (fl := fl) (ve := ve) (mi := mi) (na := na) (nl := nl) (RR := RR) (nr := nr) (r0 := (O x)) (c := c) (mm := (RR (O x))) (G0 := G) (low := 0) (high := (RR (O x))) (turn := 0) (j := 32) (p := 4294967296) (by omega) (rec_hs hrec) (fun k h1 h2 => by have := hr k h1 h2; omega) (Int.toNat (32 - 0) + 1) hq hra (by omega) (by omega) (by decide) (by omega) (fun i h1 h2 => absurd h2 (by omega)) (fun i h1 h2 => absurd h2 (by omega)) fx.rf rfl rfl (by omega) (fun G4 w5 hNq hNra hq6 hq7 hq8 hfk hlk hsk => ?_)
    · have hki := hfk.get hki (by simp)
      have hot := hfk.get hot (by simp)
      have hfr := hfr.tr hfk (by decide)
      have hlen := hlk.trans hlen
      have hsl := hsk.trans hsl
      have hq := hNq
      have hra := hNra
      change ab_W _ _ _ G4 105 [some (vR q), none, some (vz c), some (vz (O x)), some (vz w5), none, none, none] [] _
      refine ab_iload d_PR_has_105 rfl ?_
      refine ab_aload_n d_PR_has_107 rfl ?_
      refine ab_getf (fs := [vR ki, vR ne, vR ot, vz cnt, vz fi, vz la, vR ra, vz ru, vz gr, vz wi, vz sz, vz fl, vz ve, vz mi, vR na, vR nl]) f_PR_21 d_PR_has_108 hq.2.2 rfl ?_
      refine ab_iload_n d_PR_has_111 rfl ?_
      refine zz_iald d_PR_has_112 hra (by omega) ?_
      have hq9 := hr (O x) (by omega) (by omega)
      refine zz_icmp_ge (tgt := 137) d_PR_has_113 (by decide) (by omega) (by omega) (fun c10 => ?_) (fun c10 => ?_)
      · refine zz_iconst d_PR_has_137 ?_
        refine zz_bret rfl (by decide) d_PR_has_138 ?_
        rw [hQ]; exact (Or.inr ⟨rfl, hfr, hlen, hsl, (by exact phas_0 hrec hx1 (w := w5) (by omega) (by omega) hq7)⟩)
      · refine ab_aload_n d_PR_has_116 rfl ?_
        refine ab_getf (fs := [vR ki, vR ne, vR ot, vz cnt, vz fi, vz la, vR ra, vz ru, vz gr, vz wi, vz sz, vz fl, vz ve, vz mi, vR na, vR nl]) f_PR_21 d_PR_has_117 hq.2.2 rfl ?_
        refine ab_iload_n d_PR_has_120 rfl ?_
        refine zz_iconst d_PR_has_121 ?_
        refine ab_iload d_PR_has_122 rfl ?_
        refine zz_imul d_PR_has_124 ?_
        refine zz_iadd d_PR_has_125 ?_
        refine zz_iconst d_PR_has_126 ?_
        refine zz_iadd d_PR_has_127 ?_
        refine zz_iald d_PR_has_128 hra (by omega) ?_
        have hq11 := hr (((O x) + (2 * w5)) + 1) (by omega) (by omega)
        refine ab_iload_n d_PR_has_129 rfl ?_
        refine zz_icmp_gt (tgt := 137) d_PR_has_130 (by decide) (by omega) (by omega) (fun c12 => ?_) (fun c12 => ?_)
        · refine zz_iconst d_PR_has_137 ?_
          refine zz_bret rfl (by decide) d_PR_has_138 ?_
          rw [hQ]; exact (Or.inr ⟨rfl, hfr, hlen, hsl, (by exact phas_0 hrec hx1 (w := w5) (by omega) (by omega) hq7)⟩)
        · refine zz_iconst d_PR_has_133 ?_
          refine ab_goto (tgt := 138) d_PR_has_134 (by decide) ?_
          refine zz_bret rfl (by decide) d_PR_has_138 ?_
          rw [hQ]; exact (Or.inl ⟨rfl, hfr, hlen, hsl, (by first | exact phas_1 hx1 hq6 (by omega) (by omega) hq8)⟩)
  · have hq0 := hp.o0 x (by omega) (by omega) (by omega)
    refine ab_aload_n d_PR_has_9 rfl ?_
    refine ab_getf (fs := [vR ki, vR ne, vR ot, vz cnt, vz fi, vz la, vR ra, vz ru, vz gr, vz wi, vz sz, vz fl, vz ve, vz mi, vR na, vR nl]) f_PR_18 d_PR_has_10 hq.2.2 rfl ?_
    refine ab_iload_n d_PR_has_13 rfl ?_
    refine zz_iald d_PR_has_14 hot (by omega) ?_
    refine ab_iload_n d_PR_has_15 rfl ?_
    refine zz_icmp_ne (tgt := 23) d_PR_has_16 (by decide) (by omega) (by omega) (fun c13 => ?_) (fun c13 => ?_)
    · refine zz_iconst d_PR_has_23 ?_
      refine zz_bret rfl (by decide) d_PR_has_24 ?_
      rw [hQ]; exact (Or.inr ⟨rfl, hfr, hlen, hsl, (by exact fun h => absurd ((phas_c (by omega)).mp h) (by omega))⟩)
    · refine zz_iconst d_PR_has_19 ?_
      refine ab_goto (tgt := 24) d_PR_has_20 (by decide) ?_
      refine zz_bret rfl (by decide) d_PR_has_24 ?_
      rw [hQ]; exact (Or.inl ⟨rfl, hfr, hlen, hsl, (by exact (phas_c (by omega)).mpr (by omega))⟩)
set_option maxRecDepth 100000 in
set_option maxHeartbeats 4000000 in
theorem z_PR_bytesTaken {X : ab_X} {d : Nat} {o : Nat → Nat} {G : ab_G} {q : Nat} {lq : Nat} {ki : Nat} {ne : Nat} {ot : Nat} {cnt : Int} {fi : Int} {la : Int} {ra : Nat} {ru : Int} {gr : Int} {wi : Int} {sz : Int} {fl : Int} {ve : Int} {mi : Int} {na : Nat} {nl : Nat} {K : Int → Int} {N : Int → Int} {O : Int → Int} {RR : Int → Int} {nr : Nat} {s : Nat} {by_ : Nat} {co : Nat} {re : Nat} {ho : Nat} {n : Int} {f : Int → Int} {C : Int → Int} {Rs : Int → Int} {H : Int → Int} {m : Nat} {mc : Nat} {x : Int} {p : Int} (hq : cc o G q lq (ab_ob 5 [vR ki, vR ne, vR ot, vz cnt, vz fi, vz la, vR ra, vz ru, vz gr, vz wi, vz sz, vz fl, vz ve, vz mi, vR na, vR nl])) (hki : cc o G ki (lq + 1) (za 808 K)) (hot : cc o G ot (lq + 3) (za 808 O)) (hra : cc o G ra (lq + 4) (za nr RR)) (hs : cc o G s 26 (ab_ob 9 [vR by_, vR co, vR re, vR ho, vz n])) (hco : cc o G co 28 (za mc C)) (hre : cc o G re 29 (za mc Rs)) (cq : 100 ≤ lq ∧ 0 ≤ cnt ∧ cnt ≤ 808 ∧ ↑nr ≤ (100000 : Int)) (cx : 0 ≤ x ∧ x < cnt ∧ K x ≤ 2 ∧ 0 ≤ p ∧ p ≤ n) (hp : prok K N O RR cnt ↑nr wi) (hr : ∀ k : Int, 0 ≤ k → k < ↑nr → 0 ≤ RR k ∧ RR k ≤ 1114111) (csu : 0 ≤ n ∧ n ≤ ↑m ∧ 32 ≤ m ∧ m ≤ 2000 ∧ mc = m + 1) (hsu : suok f C Rs H n) (hd : 1 ≤ d) : ab_F X d y_PR_bytesTaken (.code y_PR_bytesTaken b_PR_bytesTaken 5 (some (.int))) [vR q, vz x, vR s, vz p] G (fun oc G2 => ∃ v : Int, oc = .returned (some (vz v)) ∧ fx o o [] G G2 ∧ G2.length = G.length ∧ ab_slots G2 = ab_slots G ∧ (btk K O RR C Rs n x p v) ∧ (0 ≤ v ∧ v ≤ 4 ∧ p + v ≤ n)) := by
  refine ab_F_of (by decide +kernel) (Nat.le_of_ble_eq_true rfl) ?_
  obtain ⟨Q, hQ⟩ : ∃ z : Outcome → ab_G → Prop, z = (fun oc G2 => ∃ v : Int, oc = .returned (some (vz v)) ∧ fx o o [] G G2 ∧ G2.length = G.length ∧ ab_slots G2 = ab_slots G ∧ (btk K O RR C Rs n x p v) ∧ (0 ≤ v ∧ v ≤ 4 ∧ p + v ≤ n)) := ⟨_, rfl⟩
  rw [← hQ]
  change ab_W X (ab_pl y_PR_bytesTaken b_PR_bytesTaken 5 (some (.int))) d G 0 [some (vR q), some (vz x), some (vR s), some (vz p), none] [] Q
  have hfr : fx o o [] G G := fx.rf
  have hlen : G.length = G.length := rfl
  have hsl : ab_slots G = ab_slots G := rfl
  refine ab_aload_n d_PR_bytesTaken_0 rfl ?_
  refine ab_getf (fs := [vR ki, vR ne, vR ot, vz cnt, vz fi, vz la, vR ra, vz ru, vz gr, vz wi, vz sz, vz fl, vz ve, vz mi, vR na, vR nl]) f_PR_9 d_PR_bytesTaken_1 hq.2.2 rfl ?_
  refine ab_iload_n d_PR_bytesTaken_4 rfl ?_
  refine zz_iald d_PR_bytesTaken_5 hki (by omega) ?_
  have hq1 := hp.k x (by omega) (by omega)
  refine zz_iconst d_PR_bytesTaken_6 ?_
  refine zz_icmp_ne (tgt := 24) d_PR_bytesTaken_7 (by decide) (by omega) (by decide) (fun c2 => ?_) (fun c2 => ?_)
  · refine ab_aload_n d_PR_bytesTaken_24 rfl ?_
    refine ab_getf (fs := [vR by_, vR co, vR re, vR ho, vz n]) f_PR_114 d_PR_bytesTaken_25 hs.2.2 rfl ?_
    refine ab_iload_n d_PR_bytesTaken_28 rfl ?_
    refine zz_iald d_PR_bytesTaken_29 hco (by omega) ?_
    have hq3 := hsu.c p (by omega) (by omega)
    refine ab_istore d_PR_bytesTaken_30 (Nat.le_of_ble_eq_true rfl) (Nat.le_of_ble_eq_true rfl) rfl ?_
    change ab_W _ _ _ G 32 [some (vR q), some (vz x), some (vR s), some (vz p), some (vz (C p))] [] _
    refine ab_iload d_PR_bytesTaken_32 rfl ?_
    refine zz_iconst d_PR_bytesTaken_34 ?_
    refine zz_icmp_eq (tgt := 57) d_PR_bytesTaken_35 (by decide) (by omega) (by decide) (fun c4 => ?_) (fun c4 => ?_)
    · refine zz_iconst d_PR_bytesTaken_57 ?_
      refine zz_iret rfl d_PR_bytesTaken_58 ?_
      rw [hQ]; exact ⟨_, rfl, hfr, hlen, hsl, (by first | exact Or.inl ⟨by omega, by omega, rfl⟩ | exact Or.inr (Or.inl ⟨by omega, by omega, rfl⟩) | exact Or.inr (Or.inr (Or.inr ⟨by omega, Or.inl (by omega), rfl⟩))), (by omega)⟩
    · refine ab_aload_n d_PR_bytesTaken_38 rfl ?_
      refine ab_iload_n d_PR_bytesTaken_39 rfl ?_
      refine ab_iload d_PR_bytesTaken_40 rfl ?_
      refine ab_callV (d' := d - 1) (as := [vz x, vz (C p)]) (st := []) (r := _) (z_PR_has (o := o) (q := q) (lq := lq) (ki := ki) (ne := ne) (ot := ot) (cnt := cnt) (fi := fi) (la := la) (ra := ra) (ru := ru) (gr := gr) (wi := wi) (sz := sz) (fl := fl) (ve := ve) (mi := mi) (na := na) (nl := nl) (K := K) (O := O) (RR := RR) (nr := nr) (x := x) (c := (C p)) hq hki hot hra (by omega) (by omega) hp hr) (fun oc G2 h => by rcases h with ⟨h, _⟩ | ⟨h, _⟩ <;> exact ⟨_, h⟩) (by omega) m_PR_has ml_PR_117 im_PR_has se_PR_has c_PR hq.2.2 (Nat.le_of_ble_eq_true rfl) d_PR_bytesTaken_42 rfl ?_
      intro v G5 hq
      rcases hq with ⟨hv, hfk, hlk, hsk, hq6⟩ | ⟨hv, hfk, hlk, hsk, hq7⟩
      · cases hv
        have hq := hfk.get hq (by simp)
        have hki := hfk.get hki (by simp)
        have hot := hfk.get hot (by simp)
        have hra := hfk.get hra (by simp)
        have hs := hfk.get hs (by decide)
        have hco := hfk.get hco (by decide)
        have hre := hfk.get hre (by decide)
        have hfr := hfr.tr hfk (by decide)
        have hlen := hlk.trans hlen
        have hsl := hsk.trans hsl
        change ab_W _ _ _ G5 45 [some (vR q), some (vz x), some (vR s), some (vz p), some (vz (C p))] [vz 1] _
        refine zz_if_eq (tgt := 57) d_PR_bytesTaken_45 (by decide) (by decide) (fun c8 => absurd c8 (by decide)) (fun c8 => ?_)
        refine ab_aload_n d_PR_bytesTaken_48 rfl ?_
        refine ab_getf (fs := [vR by_, vR co, vR re, vR ho, vz n]) f_PR_121 d_PR_bytesTaken_49 hs.2.2 rfl ?_
        refine ab_iload_n d_PR_bytesTaken_52 rfl ?_
        refine zz_iald d_PR_bytesTaken_53 hre (by omega) ?_
        have hq9 := hsu.r p (by omega) (by omega)
        refine ab_goto (tgt := 58) d_PR_bytesTaken_54 (by decide) ?_
        refine zz_iret rfl d_PR_bytesTaken_58 ?_
        rw [hQ]; exact ⟨_, rfl, hfr, hlen, hsl, (by exact Or.inr (Or.inr (Or.inl ⟨by omega, by omega, hq6, rfl⟩))), (by omega)⟩
      · cases hv
        have hq := hfk.get hq (by simp)
        have hki := hfk.get hki (by simp)
        have hot := hfk.get hot (by simp)
        have hra := hfk.get hra (by simp)
        have hs := hfk.get hs (by decide)
        have hco := hfk.get hco (by decide)
        have hre := hfk.get hre (by decide)
        have hfr := hfr.tr hfk (by decide)
        have hlen := hlk.trans hlen
        have hsl := hsk.trans hsl
        change ab_W _ _ _ G5 45 [some (vR q), some (vz x), some (vR s), some (vz p), some (vz (C p))] [vz 0] _
        refine zz_if_eq (tgt := 57) d_PR_bytesTaken_45 (by decide) (by decide) (fun c10 => ?_) (fun c10 => absurd c10 (by decide))
        refine zz_iconst d_PR_bytesTaken_57 ?_
        refine zz_iret rfl d_PR_bytesTaken_58 ?_
        rw [hQ]; exact ⟨_, rfl, hfr, hlen, hsl, (by exact Or.inr (Or.inr (Or.inr ⟨by omega, Or.inr hq7, rfl⟩))), (by omega)⟩
  · refine ab_iload_n d_PR_bytesTaken_10 rfl ?_
    refine ab_aload_n d_PR_bytesTaken_11 rfl ?_
    refine ab_getf (fs := [vR by_, vR co, vR re, vR ho, vz n]) f_PR_109 d_PR_bytesTaken_12 hs.2.2 rfl ?_
    refine zz_icmp_ge (tgt := 22) d_PR_bytesTaken_15 (by decide) (by omega) (by omega) (fun c11 => ?_) (fun c11 => ?_)
    · refine zz_iconst d_PR_bytesTaken_22 ?_
      refine zz_iret rfl d_PR_bytesTaken_23 ?_
      rw [hQ]; exact ⟨_, rfl, hfr, hlen, hsl, (by first | exact Or.inl ⟨by omega, by omega, rfl⟩ | exact Or.inr (Or.inl ⟨by omega, by omega, rfl⟩) | exact Or.inr (Or.inr (Or.inr ⟨by omega, Or.inl (by omega), rfl⟩))), (by omega)⟩
    · refine zz_iconst d_PR_bytesTaken_18 ?_
      refine ab_goto (tgt := 23) d_PR_bytesTaken_19 (by decide) ?_
      refine zz_iret rfl d_PR_bytesTaken_23 ?_
      rw [hQ]; exact ⟨_, rfl, hfr, hlen, hsl, (by first | exact Or.inl ⟨by omega, by omega, rfl⟩ | exact Or.inr (Or.inl ⟨by omega, by omega, rfl⟩) | exact Or.inr (Or.inr (Or.inr ⟨by omega, Or.inl (by omega), rfl⟩))), (by omega)⟩
set_option maxRecDepth 100000 in
set_option maxHeartbeats 4000000 in
theorem z_PR_add {X : ab_X} {d : Nat} {o : Nat → Nat} {G : ab_G} {q : Nat} {lq : Nat} {ki : Nat} {ne : Nat} {ot : Nat} {cnt : Int} {fi : Int} {la : Int} {ra : Nat} {ru : Int} {gr : Int} {wi : Int} {sz : Int} {fl : Int} {ve : Int} {mi : Int} {na : Nat} {nl : Nat} {K : Int → Int} {N : Int → Int} {O : Int → Int} {k0 : Int} {x0 : Int} {v0 : Int} (hq : cc o G q lq (ab_ob 5 [vR ki, vR ne, vR ot, vz cnt, vz fi, vz la, vR ra, vz ru, vz gr, vz wi, vz sz, vz fl, vz ve, vz mi, vR na, vR nl])) (hki : cc o G ki (lq + 1) (za 808 K)) (hne : cc o G ne (lq + 2) (za 808 N)) (hot : cc o G ot (lq + 3) (za 808 O)) (cq : 100 ≤ lq ∧ 0 ≤ cnt ∧ cnt ≤ 808) (cl : la = 0 ∨ la = 1) (ck : 0 ≤ k0 ∧ k0 ≤ 9) : ab_F X d y_PR_add (.code y_PR_add b_PR_add 4 (some (.int))) [vR q, vz k0, vz x0, vz v0] G (fun oc G2 => (oc = .returned (some (vz 0)) ∧ G2 = G ∧ (cnt = 808)) ∨ (∃ la2 : Int, oc = .returned (some (vz cnt)) ∧ fx o o [lq, (lq + 1), (lq + 2), (lq + 3)] G G2 ∧ G2.length = G.length ∧ ab_slots G2 = ab_slots G ∧ cc o G2 q lq (ab_ob 5 [vR ki, vR ne, vR ot, vz (cnt + 1), vz fi, vz la2, vR ra, vz ru, vz gr, vz wi, vz sz, vz fl, vz ve, vz mi, vR na, vR nl]) ∧ cc o G2 ki (lq + 1) (za 808 (zu K cnt k0)) ∧ cc o G2 ne (lq + 2) (za 808 (zu N cnt x0)) ∧ cc o G2 ot (lq + 3) (za 808 (zu O cnt v0)) ∧ (la2 = 0 ∨ la2 = 1) ∧ (cnt < 808) ∧ (lks la k0 la2))) := by
  refine ab_F_of (by decide +kernel) (Nat.le_of_ble_eq_true rfl) ?_
  obtain ⟨Q, hQ⟩ : ∃ z : Outcome → ab_G → Prop, z = (fun oc G2 => (oc = .returned (some (vz 0)) ∧ G2 = G ∧ (cnt = 808)) ∨ (∃ la2 : Int, oc = .returned (some (vz cnt)) ∧ fx o o [lq, (lq + 1), (lq + 2), (lq + 3)] G G2 ∧ G2.length = G.length ∧ ab_slots G2 = ab_slots G ∧ cc o G2 q lq (ab_ob 5 [vR ki, vR ne, vR ot, vz (cnt + 1), vz fi, vz la2, vR ra, vz ru, vz gr, vz wi, vz sz, vz fl, vz ve, vz mi, vR na, vR nl]) ∧ cc o G2 ki (lq + 1) (za 808 (zu K cnt k0)) ∧ cc o G2 ne (lq + 2) (za 808 (zu N cnt x0)) ∧ cc o G2 ot (lq + 3) (za 808 (zu O cnt v0)) ∧ (la2 = 0 ∨ la2 = 1) ∧ (cnt < 808) ∧ (lks la k0 la2))) := ⟨_, rfl⟩
  rw [← hQ]
  change ab_W X (ab_pl y_PR_add b_PR_add 4 (some (.int))) d G 0 [some (vR q), some (vz k0), some (vz x0), some (vz v0)] [] Q
  have hfr : fx o o [lq, (lq + 1), (lq + 2), (lq + 3)] G G := fx.rf
  have hlen : G.length = G.length := rfl
  have hsl : ab_slots G = ab_slots G := rfl
  refine ab_aload_n d_PR_add_0 rfl ?_
  refine ab_getf (fs := [vR ki, vR ne, vR ot, vz cnt, vz fi, vz la, vR ra, vz ru, vz gr, vz wi, vz sz, vz fl, vz ve, vz mi, vR na, vR nl]) f_PR_74 d_PR_add_1 hq.2.2 rfl ?_
  refine zz_sipush d_PR_add_4 (by decide) ?_
  refine zz_icmp_lt (tgt := 12) d_PR_add_7 (by decide) (by omega) (by decide) (fun c1 => ?_) (fun c1 => ?_)
  · refine ab_aload_n d_PR_add_12 rfl ?_
    refine ab_getf (fs := [vR ki, vR ne, vR ot, vz cnt, vz fi, vz la, vR ra, vz ru, vz gr, vz wi, vz sz, vz fl, vz ve, vz mi, vR na, vR nl]) f_PR_9 d_PR_add_13 hq.2.2 rfl ?_
    refine ab_aload_n d_PR_add_16 rfl ?_
    refine ab_getf (fs := [vR ki, vR ne, vR ot, vz cnt, vz fi, vz la, vR ra, vz ru, vz gr, vz wi, vz sz, vz fl, vz ve, vz mi, vR na, vR nl]) f_PR_74 d_PR_add_17 hq.2.2 rfl ?_
    refine ab_iload_n d_PR_add_20 rfl ?_
    refine zz_iast d_PR_add_21 hki (by omega) (hki.2.1 (by first | omega | exact (show 18 ≤ _ by omega))) ?_
    obtain ⟨G2, eG2⟩ : ∃ z : ab_G, z = List.set G ki (za 808 (zu K cnt k0)) := ⟨_, rfl⟩
    have hq := hq.keep hki eG2 (by omega)
    have hne := hne.keep hki eG2 (by omega)
    have hot := hot.keep hki eG2 (by omega)
    have hlen := (z_len eG2).trans hlen
    have hsl := (z_sl hki eG2 rfl).trans hsl
    have hfr := hfr.wr hki eG2 (by simp)
    have hki := hki.kept eG2
    change ab_W _ _ _ (List.set G ki (za 808 (zu K cnt k0))) 22 [some (vR q), some (vz k0), some (vz x0), some (vz v0)] [] _
    rw [← eG2]
    refine ab_aload_n d_PR_add_22 rfl ?_
    refine ab_getf (fs := [vR ki, vR ne, vR ot, vz cnt, vz fi, vz la, vR ra, vz ru, vz gr, vz wi, vz sz, vz fl, vz ve, vz mi, vR na, vR nl]) f_PR_15 d_PR_add_23 hq.2.2 rfl ?_
    refine ab_aload_n d_PR_add_26 rfl ?_
    refine ab_getf (fs := [vR ki, vR ne, vR ot, vz cnt, vz fi, vz la, vR ra, vz ru, vz gr, vz wi, vz sz, vz fl, vz ve, vz mi, vR na, vR nl]) f_PR_74 d_PR_add_27 hq.2.2 rfl ?_
    refine ab_iload_n d_PR_add_30 rfl ?_
    refine zz_iast d_PR_add_31 hne (by omega) (hne.2.1 (by first | omega | exact (show 18 ≤ _ by omega))) ?_
    obtain ⟨G3, eG3⟩ : ∃ z : ab_G, z = List.set G2 ne (za 808 (zu N cnt x0)) := ⟨_, rfl⟩
    have hq := hq.keep hne eG3 (by omega)
    have hki := hki.keep hne eG3 (by omega)
    have hot := hot.keep hne eG3 (by omega)
    have hlen := (z_len eG3).trans hlen
    have hsl := (z_sl hne eG3 rfl).trans hsl
    have hfr := hfr.wr hne eG3 (by simp)
    have hne := hne.kept eG3
    change ab_W _ _ _ (List.set G2 ne (za 808 (zu N cnt x0))) 32 [some (vR q), some (vz k0), some (vz x0), some (vz v0)] [] _
    rw [← eG3]
    refine ab_aload_n d_PR_add_32 rfl ?_
    refine ab_getf (fs := [vR ki, vR ne, vR ot, vz cnt, vz fi, vz la, vR ra, vz ru, vz gr, vz wi, vz sz, vz fl, vz ve, vz mi, vR na, vR nl]) f_PR_18 d_PR_add_33 hq.2.2 rfl ?_
    refine ab_aload_n d_PR_add_36 rfl ?_
    refine ab_getf (fs := [vR ki, vR ne, vR ot, vz cnt, vz fi, vz la, vR ra, vz ru, vz gr, vz wi, vz sz, vz fl, vz ve, vz mi, vR na, vR nl]) f_PR_74 d_PR_add_37 hq.2.2 rfl ?_
    refine ab_iload_n d_PR_add_40 rfl ?_
    refine zz_iast d_PR_add_41 hot (by omega) (hot.2.1 (by first | omega | exact (show 18 ≤ _ by omega))) ?_
    obtain ⟨G4, eG4⟩ : ∃ z : ab_G, z = List.set G3 ot (za 808 (zu O cnt v0)) := ⟨_, rfl⟩
    have hq := hq.keep hot eG4 (by omega)
    have hki := hki.keep hot eG4 (by omega)
    have hne := hne.keep hot eG4 (by omega)
    have hlen := (z_len eG4).trans hlen
    have hsl := (z_sl hot eG4 rfl).trans hsl
    have hfr := hfr.wr hot eG4 (by simp)
    have hot := hot.kept eG4
    change ab_W _ _ _ (List.set G3 ot (za 808 (zu O cnt v0))) 42 [some (vR q), some (vz k0), some (vz x0), some (vz v0)] [] _
    rw [← eG4]
    refine ab_aload_n d_PR_add_42 rfl ?_
    refine ab_dup d_PR_add_43 rfl ?_
    refine ab_getf (fs := [vR ki, vR ne, vR ot, vz cnt, vz fi, vz la, vR ra, vz ru, vz gr, vz wi, vz sz, vz fl, vz ve, vz mi, vR na, vR nl]) f_PR_80 d_PR_add_44 hq.2.2 rfl ?_
    refine ab_iload_n d_PR_add_47 rfl ?_
    refine zz_iconst d_PR_add_48 ?_
    refine zz_icmp_ne (tgt := 56) d_PR_add_49 (by decide) (by omega) (by decide) (fun c5 => ?_) (fun c5 => ?_)
    · refine zz_iconst d_PR_add_56 ?_
      refine zz_ior01 d_PR_add_57 (by omega) (by omega) ?_
      obtain ⟨v6, hv6⟩ : ∃ z : Int, z = (max la 0) := ⟨_, rfl⟩
      rw [← hv6]
      have hv6b : v6 = 0 ∨ v6 = 1 := by omega
      change ab_W _ _ _ G4 58 [some (vR q), some (vz k0), some (vz x0), some (vz v0)] [vz v6, vR q] _
      refine ab_putf (fs := [vR ki, vR ne, vR ot, vz cnt, vz fi, vz la, vR ra, vz ru, vz gr, vz wi, vz sz, vz fl, vz ve, vz mi, vR na, vR nl]) f_PR_80 (Or.inl rfl) d_PR_add_58 hq.2.2 (Nat.le_of_ble_eq_true rfl) (ab_fbz (by omega)) (hq.2.1 (by first | omega | exact (show 18 ≤ _ by omega))) ?_
      obtain ⟨G7, eG7⟩ : ∃ z : ab_G, z = List.set G4 q (ab_ob 5 [vR ki, vR ne, vR ot, vz cnt, vz fi, vz v6, vR ra, vz ru, vz gr, vz wi, vz sz, vz fl, vz ve, vz mi, vR na, vR nl]) := ⟨_, rfl⟩
      have hki := hki.keep hq eG7 (by omega)
      have hne := hne.keep hq eG7 (by omega)
      have hot := hot.keep hq eG7 (by omega)
      have hlen := (z_len eG7).trans hlen
      have hsl := (z_sl hq eG7 rfl).trans hsl
      have hfr := hfr.wr hq eG7 (by simp)
      have hq := hq.kept eG7
      change ab_W _ _ _ (List.set G4 q (ab_ob 5 [vR ki, vR ne, vR ot, vz cnt, vz fi, vz v6, vR ra, vz ru, vz gr, vz wi, vz sz, vz fl, vz ve, vz mi, vR na, vR nl])) 61 [some (vR q), some (vz k0), some (vz x0), some (vz v0)] [] _
      rw [← eG7]
      refine ab_aload_n d_PR_add_61 rfl ?_
      refine ab_dup d_PR_add_62 rfl ?_
      refine ab_getf (fs := [vR ki, vR ne, vR ot, vz cnt, vz fi, vz v6, vR ra, vz ru, vz gr, vz wi, vz sz, vz fl, vz ve, vz mi, vR na, vR nl]) f_PR_74 d_PR_add_63 hq.2.2 rfl ?_
      refine zz_iconst d_PR_add_66 ?_
      refine zz_iadd d_PR_add_67 ?_
      refine ab_putf (fs := [vR ki, vR ne, vR ot, vz cnt, vz fi, vz v6, vR ra, vz ru, vz gr, vz wi, vz sz, vz fl, vz ve, vz mi, vR na, vR nl]) f_PR_74 (Or.inl rfl) d_PR_add_68 hq.2.2 (Nat.le_of_ble_eq_true rfl) (fun _ => ⟨rfl, rfl⟩) (hq.2.1 (by first | omega | exact (show 18 ≤ _ by omega))) ?_
      obtain ⟨G8, eG8⟩ : ∃ z : ab_G, z = List.set G7 q (ab_ob 5 [vR ki, vR ne, vR ot, vz (cnt + 1), vz fi, vz v6, vR ra, vz ru, vz gr, vz wi, vz sz, vz fl, vz ve, vz mi, vR na, vR nl]) := ⟨_, rfl⟩
      have hki := hki.keep hq eG8 (by omega)
      have hne := hne.keep hq eG8 (by omega)
      have hot := hot.keep hq eG8 (by omega)
      have hlen := (z_len eG8).trans hlen
      have hsl := (z_sl hq eG8 rfl).trans hsl
      have hfr := hfr.wr hq eG8 (by simp)
      have hq := hq.kept eG8
      change ab_W _ _ _ (List.set G7 q (ab_ob 5 [vR ki, vR ne, vR ot, vz (cnt + 1), vz fi, vz v6, vR ra, vz ru, vz gr, vz wi, vz sz, vz fl, vz ve, vz mi, vR na, vR nl])) 71 [some (vR q), some (vz k0), some (vz x0), some (vz v0)] [] _
      rw [← eG8]
      refine ab_aload_n d_PR_add_71 rfl ?_
      refine ab_getf (fs := [vR ki, vR ne, vR ot, vz (cnt + 1), vz fi, vz v6, vR ra, vz ru, vz gr, vz wi, vz sz, vz fl, vz ve, vz mi, vR na, vR nl]) f_PR_74 d_PR_add_72 hq.2.2 rfl ?_
      refine zz_iconst d_PR_add_75 ?_
      refine zz_isub d_PR_add_76 ?_
      refine zz_top (y := cnt) (by omega) ?_
      refine zz_iret rfl d_PR_add_77 ?_
      rw [hQ]; exact (Or.inr ⟨_, rfl, hfr, hlen, hsl, hq, hki, hne, hot, (by omega), (by omega), (by unfold lks; omega)⟩)
    · refine zz_iconst d_PR_add_52 ?_
      refine ab_goto (tgt := 57) d_PR_add_53 (by decide) ?_
      refine zz_ior01 d_PR_add_57 (by omega) (by omega) ?_
      obtain ⟨v9, hv9⟩ : ∃ z : Int, z = (max la 1) := ⟨_, rfl⟩
      rw [← hv9]
      have hv9b : v9 = 0 ∨ v9 = 1 := by omega
      change ab_W _ _ _ G4 58 [some (vR q), some (vz k0), some (vz x0), some (vz v0)] [vz v9, vR q] _
      refine ab_putf (fs := [vR ki, vR ne, vR ot, vz cnt, vz fi, vz la, vR ra, vz ru, vz gr, vz wi, vz sz, vz fl, vz ve, vz mi, vR na, vR nl]) f_PR_80 (Or.inl rfl) d_PR_add_58 hq.2.2 (Nat.le_of_ble_eq_true rfl) (ab_fbz (by omega)) (hq.2.1 (by first | omega | exact (show 18 ≤ _ by omega))) ?_
      obtain ⟨G10, eG10⟩ : ∃ z : ab_G, z = List.set G4 q (ab_ob 5 [vR ki, vR ne, vR ot, vz cnt, vz fi, vz v9, vR ra, vz ru, vz gr, vz wi, vz sz, vz fl, vz ve, vz mi, vR na, vR nl]) := ⟨_, rfl⟩
      have hki := hki.keep hq eG10 (by omega)
      have hne := hne.keep hq eG10 (by omega)
      have hot := hot.keep hq eG10 (by omega)
      have hlen := (z_len eG10).trans hlen
      have hsl := (z_sl hq eG10 rfl).trans hsl
      have hfr := hfr.wr hq eG10 (by simp)
      have hq := hq.kept eG10
      change ab_W _ _ _ (List.set G4 q (ab_ob 5 [vR ki, vR ne, vR ot, vz cnt, vz fi, vz v9, vR ra, vz ru, vz gr, vz wi, vz sz, vz fl, vz ve, vz mi, vR na, vR nl])) 61 [some (vR q), some (vz k0), some (vz x0), some (vz v0)] [] _
      rw [← eG10]
      refine ab_aload_n d_PR_add_61 rfl ?_
      refine ab_dup d_PR_add_62 rfl ?_
      refine ab_getf (fs := [vR ki, vR ne, vR ot, vz cnt, vz fi, vz v9, vR ra, vz ru, vz gr, vz wi, vz sz, vz fl, vz ve, vz mi, vR na, vR nl]) f_PR_74 d_PR_add_63 hq.2.2 rfl ?_
      refine zz_iconst d_PR_add_66 ?_
      refine zz_iadd d_PR_add_67 ?_
      refine ab_putf (fs := [vR ki, vR ne, vR ot, vz cnt, vz fi, vz v9, vR ra, vz ru, vz gr, vz wi, vz sz, vz fl, vz ve, vz mi, vR na, vR nl]) f_PR_74 (Or.inl rfl) d_PR_add_68 hq.2.2 (Nat.le_of_ble_eq_true rfl) (fun _ => ⟨rfl, rfl⟩) (hq.2.1 (by first | omega | exact (show 18 ≤ _ by omega))) ?_
      obtain ⟨G11, eG11⟩ : ∃ z : ab_G, z = List.set G10 q (ab_ob 5 [vR ki, vR ne, vR ot, vz (cnt + 1), vz fi, vz v9, vR ra, vz ru, vz gr, vz wi, vz sz, vz fl, vz ve, vz mi, vR na, vR nl]) := ⟨_, rfl⟩
      have hki := hki.keep hq eG11 (by omega)
      have hne := hne.keep hq eG11 (by omega)
      have hot := hot.keep hq eG11 (by omega)
      have hlen := (z_len eG11).trans hlen
      have hsl := (z_sl hq eG11 rfl).trans hsl
      have hfr := hfr.wr hq eG11 (by simp)
      have hq := hq.kept eG11
      change ab_W _ _ _ (List.set G10 q (ab_ob 5 [vR ki, vR ne, vR ot, vz (cnt + 1), vz fi, vz v9, vR ra, vz ru, vz gr, vz wi, vz sz, vz fl, vz ve, vz mi, vR na, vR nl])) 71 [some (vR q), some (vz k0), some (vz x0), some (vz v0)] [] _
      rw [← eG11]
      refine ab_aload_n d_PR_add_71 rfl ?_
      refine ab_getf (fs := [vR ki, vR ne, vR ot, vz (cnt + 1), vz fi, vz v9, vR ra, vz ru, vz gr, vz wi, vz sz, vz fl, vz ve, vz mi, vR na, vR nl]) f_PR_74 d_PR_add_72 hq.2.2 rfl ?_
      refine zz_iconst d_PR_add_75 ?_
      refine zz_isub d_PR_add_76 ?_
      refine zz_top (y := cnt) (by omega) ?_
      refine zz_iret rfl d_PR_add_77 ?_
      rw [hQ]; exact (Or.inr ⟨_, rfl, hfr, hlen, hsl, hq, hki, hne, hot, (by omega), (by omega), (by unfold lks; omega)⟩)
  · refine zz_iconst d_PR_add_10 ?_
    refine zz_iret rfl d_PR_add_11 ?_
    rw [hQ]; exact (Or.inl ⟨rfl, rfl, (by omega)⟩)
set_option maxRecDepth 100000 in
set_option maxHeartbeats 4000000 in
theorem z_PR_nameByte {X : ab_X} {d : Nat} {o : Nat → Nat} {G : ab_G} {q : Nat} {lq : Nat} {ki : Nat} {ne : Nat} {ot : Nat} {cnt : Int} {fi : Int} {la : Int} {ra : Nat} {ru : Int} {gr : Int} {wi : Int} {sz : Int} {fl : Int} {ve : Int} {mi : Int} {na : Nat} {nl : Nat} {NA : Int → Int} {NL : Int → Int} {k : Int} {i : Int} (hq : cc o G q lq (ab_ob 5 [vR ki, vR ne, vR ot, vz cnt, vz fi, vz la, vR ra, vz ru, vz gr, vz wi, vz sz, vz fl, vz ve, vz mi, vR na, vR nl])) (hna : cc o G na (lq + 5) (za 120 NA)) (hnl : cc o G nl (lq + 6) (za 10 NL)) (cg : 0 ≤ gr ∧ gr ≤ 9) (cr : -2147483648 ≤ k ∧ k ≤ 2147483647 ∧ -2147483648 ≤ i ∧ i ≤ 2147483647) (hl : ∀ k : Int, 0 ≤ k → k ≤ 9 → 0 ≤ NL k ∧ NL k ≤ 12) : ab_F X d y_PR_nameByte (.code y_PR_nameByte b_PR_nameByte 4 (some (.int))) [vR q, vz k, vz i] G (fun oc G2 => (oc = .returned (some (vz (NA (k * 12 + i)))) ∧ G2 = G ∧ (1 ≤ k ∧ k ≤ gr ∧ 0 ≤ i ∧ i < NL k)) ∨ (oc = .returned (some (vz (-1))) ∧ G2 = G ∧ (¬ (1 ≤ k ∧ k ≤ gr ∧ 0 ≤ i ∧ i < NL k)))) := by
  refine ab_F_of (by decide +kernel) (Nat.le_of_ble_eq_true rfl) ?_
  obtain ⟨Q, hQ⟩ : ∃ z : Outcome → ab_G → Prop, z = (fun oc G2 => (oc = .returned (some (vz (NA (k * 12 + i)))) ∧ G2 = G ∧ (1 ≤ k ∧ k ≤ gr ∧ 0 ≤ i ∧ i < NL k)) ∨ (oc = .returned (some (vz (-1))) ∧ G2 = G ∧ (¬ (1 ≤ k ∧ k ≤ gr ∧ 0 ≤ i ∧ i < NL k)))) := ⟨_, rfl⟩
  rw [← hQ]
  change ab_W X (ab_pl y_PR_nameByte b_PR_nameByte 4 (some (.int))) d G 0 [some (vR q), some (vz k), some (vz i), none] [] Q
  have hfr : fx o o [] G G := fx.rf
  have hlen : G.length = G.length := rfl
  have hsl : ab_slots G = ab_slots G := rfl
  refine ab_iload_n d_PR_nameByte_0 rfl ?_
  refine zz_iconst d_PR_nameByte_1 ?_
  refine zz_icmp_lt (tgt := 31) d_PR_nameByte_2 (by decide) (by omega) (by decide) (fun c1 => ?_) (fun c1 => ?_)
  · refine zz_iconst d_PR_nameByte_31 ?_
    refine ab_istore_n d_PR_nameByte_32 (Nat.le_of_ble_eq_true rfl) (Nat.le_of_ble_eq_true rfl) rfl ?_
    change ab_W _ _ _ G 33 [some (vR q), some (vz k), some (vz i), some (vz 0)] [] _
    refine ab_iload_n d_PR_nameByte_33 rfl ?_
    refine zz_if_eq (tgt := 51) d_PR_nameByte_34 (by decide) (by decide) (fun c2 => ?_) (fun c2 => absurd c2 (by decide))
    refine zz_iconst d_PR_nameByte_51 ?_
    refine zz_iret rfl d_PR_nameByte_52 ?_
    rw [hQ]; exact (Or.inr ⟨rfl, rfl, (by omega)⟩)
  · refine ab_iload_n d_PR_nameByte_5 rfl ?_
    refine ab_aload_n d_PR_nameByte_6 rfl ?_
    refine ab_getf (fs := [vR ki, vR ne, vR ot, vz cnt, vz fi, vz la, vR ra, vz ru, vz gr, vz wi, vz sz, vz fl, vz ve, vz mi, vR na, vR nl]) f_PR_42 d_PR_nameByte_7 hq.2.2 rfl ?_
    refine zz_icmp_gt (tgt := 31) d_PR_nameByte_10 (by decide) (by omega) (by omega) (fun c3 => ?_) (fun c3 => ?_)
    · refine zz_iconst d_PR_nameByte_31 ?_
      refine ab_istore_n d_PR_nameByte_32 (Nat.le_of_ble_eq_true rfl) (Nat.le_of_ble_eq_true rfl) rfl ?_
      change ab_W _ _ _ G 33 [some (vR q), some (vz k), some (vz i), some (vz 0)] [] _
      refine ab_iload_n d_PR_nameByte_33 rfl ?_
      refine zz_if_eq (tgt := 51) d_PR_nameByte_34 (by decide) (by decide) (fun c4 => ?_) (fun c4 => absurd c4 (by decide))
      refine zz_iconst d_PR_nameByte_51 ?_
      refine zz_iret rfl d_PR_nameByte_52 ?_
      rw [hQ]; exact (Or.inr ⟨rfl, rfl, (by omega)⟩)
    · refine ab_iload_n d_PR_nameByte_13 rfl ?_
      refine zz_if_lt (tgt := 31) d_PR_nameByte_14 (by decide) (by omega) (fun c5 => ?_) (fun c5 => ?_)
      · refine zz_iconst d_PR_nameByte_31 ?_
        refine ab_istore_n d_PR_nameByte_32 (Nat.le_of_ble_eq_true rfl) (Nat.le_of_ble_eq_true rfl) rfl ?_
        change ab_W _ _ _ G 33 [some (vR q), some (vz k), some (vz i), some (vz 0)] [] _
        refine ab_iload_n d_PR_nameByte_33 rfl ?_
        refine zz_if_eq (tgt := 51) d_PR_nameByte_34 (by decide) (by decide) (fun c6 => ?_) (fun c6 => absurd c6 (by decide))
        refine zz_iconst d_PR_nameByte_51 ?_
        refine zz_iret rfl d_PR_nameByte_52 ?_
        rw [hQ]; exact (Or.inr ⟨rfl, rfl, (by omega)⟩)
      · refine ab_iload_n d_PR_nameByte_17 rfl ?_
        refine ab_aload_n d_PR_nameByte_18 rfl ?_
        refine ab_getf (fs := [vR ki, vR ne, vR ot, vz cnt, vz fi, vz la, vR ra, vz ru, vz gr, vz wi, vz sz, vz fl, vz ve, vz mi, vR na, vR nl]) f_PR_27 d_PR_nameByte_19 hq.2.2 rfl ?_
        refine ab_iload_n d_PR_nameByte_22 rfl ?_
        refine zz_iald d_PR_nameByte_23 hnl (by omega) ?_
        have hq7 := hl k (by omega) (by omega)
        refine zz_icmp_ge (tgt := 31) d_PR_nameByte_24 (by decide) (by omega) (by omega) (fun c8 => ?_) (fun c8 => ?_)
        · refine zz_iconst d_PR_nameByte_31 ?_
          refine ab_istore_n d_PR_nameByte_32 (Nat.le_of_ble_eq_true rfl) (Nat.le_of_ble_eq_true rfl) rfl ?_
          change ab_W _ _ _ G 33 [some (vR q), some (vz k), some (vz i), some (vz 0)] [] _
          refine ab_iload_n d_PR_nameByte_33 rfl ?_
          refine zz_if_eq (tgt := 51) d_PR_nameByte_34 (by decide) (by decide) (fun c9 => ?_) (fun c9 => absurd c9 (by decide))
          refine zz_iconst d_PR_nameByte_51 ?_
          refine zz_iret rfl d_PR_nameByte_52 ?_
          rw [hQ]; exact (Or.inr ⟨rfl, rfl, (by omega)⟩)
        · refine zz_iconst d_PR_nameByte_27 ?_
          refine ab_goto (tgt := 32) d_PR_nameByte_28 (by decide) ?_
          refine ab_istore_n d_PR_nameByte_32 (Nat.le_of_ble_eq_true rfl) (Nat.le_of_ble_eq_true rfl) rfl ?_
          change ab_W _ _ _ G 33 [some (vR q), some (vz k), some (vz i), some (vz 1)] [] _
          refine ab_iload_n d_PR_nameByte_33 rfl ?_
          refine zz_if_eq (tgt := 51) d_PR_nameByte_34 (by decide) (by decide) (fun c10 => absurd c10 (by decide)) (fun c10 => ?_)
          refine ab_aload_n d_PR_nameByte_37 rfl ?_
          refine ab_getf (fs := [vR ki, vR ne, vR ot, vz cnt, vz fi, vz la, vR ra, vz ru, vz gr, vz wi, vz sz, vz fl, vz ve, vz mi, vR na, vR nl]) f_PR_24 d_PR_nameByte_38 hq.2.2 rfl ?_
          refine ab_iload_n d_PR_nameByte_41 rfl ?_
          refine zz_bipush d_PR_nameByte_42 (by decide) ?_
          refine zz_imul d_PR_nameByte_44 ?_
          refine ab_iload_n d_PR_nameByte_45 rfl ?_
          refine zz_iadd d_PR_nameByte_46 ?_
          refine zz_iald d_PR_nameByte_47 hna (by omega) ?_
          refine ab_goto (tgt := 52) d_PR_nameByte_48 (by decide) ?_
          refine zz_iret rfl d_PR_nameByte_52 ?_
          rw [hQ]; exact (Or.inl ⟨rfl, rfl, (by omega)⟩)
set_option maxRecDepth 100000 in
set_option maxHeartbeats 4000000 in
theorem z_SU_holdingAt {X : ab_X} {d : Nat} {o : Nat → Nat} {G : ab_G} {s : Nat} {by_ : Nat} {co : Nat} {re : Nat} {ho : Nat} {n : Int} {f : Int → Int} {m : Nat} {mc : Nat} {p : Int} (hs : cc o G s 26 (ab_ob 9 [vR by_, vR co, vR re, vR ho, vz n])) (hby_ : cc o G by_ 27 (za m f)) (csu : 0 ≤ n ∧ n ≤ ↑m ∧ 32 ≤ m ∧ m ≤ 2000 ∧ mc = m + 1) (cp : 0 ≤ p ∧ p ≤ n) (hb : bytes f n) (hd : 2 ≤ d) : ab_F X d y_SU_holdingAt (.code y_SU_holdingAt b_SU_holdingAt 3 (some (.int))) [vR s, vz p] G (fun oc G2 => ∃ h : Int, oc = .returned (some (vz h)) ∧ G2 = G ∧ (hok f n p h)) := by
  refine ab_F_of (by decide +kernel) (Nat.le_of_ble_eq_true rfl) ?_
  obtain ⟨Q, hQ⟩ : ∃ z : Outcome → ab_G → Prop, z = (fun oc G2 => ∃ h : Int, oc = .returned (some (vz h)) ∧ G2 = G ∧ (hok f n p h)) := ⟨_, rfl⟩
  rw [← hQ]
  change ab_W X (ab_pl y_SU_holdingAt b_SU_holdingAt 3 (some (.int))) d G 0 [some (vR s), some (vz p), none] [] Q
  have hfr : fx o o [] G G := fx.rf
  have hlen : G.length = G.length := rfl
  have hsl : ab_slots G = ab_slots G := rfl
  refine ab_aload_n d_SU_holdingAt_0 rfl ?_
  refine ab_iload_n d_SU_holdingAt_1 rfl ?_
  refine zz_iconst d_SU_holdingAt_2 ?_
  refine zz_isub d_SU_holdingAt_3 ?_
  refine ab_callV (d' := d - 1) (as := [vz (p - 1)]) (st := []) (r := _) (z_SU_isWordByte (o := o) (s := s) (ls := 26) (by_ := by_) (lby := 27) (m := m) (f := f) (n := n) (co := co) (re := re) (ho := ho) (p := (p - 1)) hs hby_ (by omega) hb (by omega)) (fun oc G2 h => by rcases h with ⟨h, _⟩ | ⟨h, _⟩ <;> exact ⟨_, h⟩) (by omega) m_SU_isWordByte ml_SU_66 im_SU_isWordByte se_SU_isWordByte c_SU hs.2.2 (Nat.le_of_ble_eq_true rfl) d_SU_holdingAt_4 rfl ?_
  intro v G1 hq
  rcases hq with ⟨hv, hGe, hq2⟩ | ⟨hv, hGe, hq3⟩
  · cases hv
    rw [hGe]
    change ab_W _ _ _ G 7 [some (vR s), some (vz p), none] [vz 1] _
    refine ab_aload_n d_SU_holdingAt_7 rfl ?_
    refine ab_iload_n d_SU_holdingAt_8 rfl ?_
    refine ab_callV (d' := d - 1) (as := [vz p]) (st := [vz 1]) (r := _) (z_SU_isWordByte (o := o) (s := s) (ls := 26) (by_ := by_) (lby := 27) (m := m) (f := f) (n := n) (co := co) (re := re) (ho := ho) (p := p) hs hby_ (by omega) hb (by omega)) (fun oc G2 h => by rcases h with ⟨h, _⟩ | ⟨h, _⟩ <;> exact ⟨_, h⟩) (by omega) m_SU_isWordByte ml_SU_66 im_SU_isWordByte se_SU_isWordByte c_SU hs.2.2 (Nat.le_of_ble_eq_true rfl) d_SU_holdingAt_9 rfl ?_
    intro v G4 hq
    rcases hq with ⟨hv, hGe, hq5⟩ | ⟨hv, hGe, hq6⟩
    · cases hv
      rw [hGe]
      change ab_W _ _ _ G 12 [some (vR s), some (vz p), none] [vz 1, vz 1] _
      refine zz_icmp_eq (tgt := 20) d_SU_holdingAt_12 (by decide) (by decide) (by decide) (fun c7 => ?_) (fun c7 => absurd c7 (by decide))
      refine zz_bipush d_SU_holdingAt_20 (by decide) ?_
      refine ab_istore_n d_SU_holdingAt_22 (Nat.le_of_ble_eq_true rfl) (Nat.le_of_ble_eq_true rfl) rfl ?_
      change ab_W _ _ _ G 23 [some (vR s), some (vz p), some (vz 32)] [] _
      refine ab_iload_n d_SU_holdingAt_23 rfl ?_
      refine ab_iload_n d_SU_holdingAt_24 rfl ?_
      refine zz_if_ne (tgt := 32) d_SU_holdingAt_25 (by decide) (by omega) (fun c8 => ?_) (fun c8 => ?_)
      · refine zz_iconst d_SU_holdingAt_32 ?_
        refine zz_iorL (r := 32) d_SU_holdingAt_33 (by decide) ?_
        refine ab_istore_n d_SU_holdingAt_34 (Nat.le_of_ble_eq_true rfl) (Nat.le_of_ble_eq_true rfl) rfl ?_
        change ab_W _ _ _ G 35 [some (vR s), some (vz p), some (vz 32)] [] _
        refine ab_iload_n d_SU_holdingAt_35 rfl ?_
        refine ab_iload_n d_SU_holdingAt_36 rfl ?_
        refine ab_aload_n d_SU_holdingAt_37 rfl ?_
        refine ab_getf (fs := [vR by_, vR co, vR re, vR ho, vz n]) f_SU_34 d_SU_holdingAt_38 hs.2.2 rfl ?_
        refine zz_icmp_ne (tgt := 48) d_SU_holdingAt_41 (by decide) (by omega) (by omega) (fun c9 => ?_) (fun c9 => ?_)
        · refine zz_iconst d_SU_holdingAt_48 ?_
          refine zz_iorL (r := 32) d_SU_holdingAt_49 (by decide) ?_
          refine ab_istore_n d_SU_holdingAt_50 (Nat.le_of_ble_eq_true rfl) (Nat.le_of_ble_eq_true rfl) rfl ?_
          change ab_W _ _ _ G 51 [some (vR s), some (vz p), some (vz 32)] [] _
          refine ab_iload_n d_SU_holdingAt_51 rfl ?_
          refine ab_iload_n d_SU_holdingAt_52 rfl ?_
          refine zz_if_eq (tgt := 66) d_SU_holdingAt_53 (by decide) (by omega) (fun c10 => absurd c10 (by omega)) (fun c10 => ?_)
          refine ab_aload_n d_SU_holdingAt_56 rfl ?_
          refine ab_iload_n d_SU_holdingAt_57 rfl ?_
          refine zz_iconst d_SU_holdingAt_58 ?_
          refine zz_isub d_SU_holdingAt_59 ?_
          refine ab_callV (d' := d - 1) (as := [vz (p - 1)]) (st := [vz 32]) (r := _) (z_SU_isLineFeed (o := o) (s := s) (ls := 26) (by_ := by_) (lby := 27) (m := m) (f := f) (n := n) (co := co) (re := re) (ho := ho) (p := (p - 1)) hs hby_ (by omega) hb) (fun oc G2 h => by rcases h with ⟨h, _⟩ | ⟨h, _⟩ <;> exact ⟨_, h⟩) (by omega) m_SU_isLineFeed ml_SU_69 im_SU_isLineFeed se_SU_isLineFeed c_SU hs.2.2 (Nat.le_of_ble_eq_true rfl) d_SU_holdingAt_60 rfl ?_
          intro v G11 hq
          rcases hq with ⟨hv, hGe, hq12⟩ | ⟨hv, hGe, hq13⟩
          · cases hv
            rw [hGe]
            change ab_W _ _ _ G 63 [some (vR s), some (vz p), some (vz 32)] [vz 1, vz 32] _
            refine zz_if_eq (tgt := 70) d_SU_holdingAt_63 (by decide) (by decide) (fun c14 => absurd c14 (by decide)) (fun c14 => ?_)
            refine zz_iconst d_SU_holdingAt_66 ?_
            refine ab_goto (tgt := 71) d_SU_holdingAt_67 (by decide) ?_
            refine zz_iorL (r := 36) d_SU_holdingAt_71 (by decide) ?_
            refine ab_istore_n d_SU_holdingAt_72 (Nat.le_of_ble_eq_true rfl) (Nat.le_of_ble_eq_true rfl) rfl ?_
            change ab_W _ _ _ G 73 [some (vR s), some (vz p), some (vz 36)] [] _
            refine ab_iload_n d_SU_holdingAt_73 rfl ?_
            refine ab_iload_n d_SU_holdingAt_74 rfl ?_
            refine ab_aload_n d_SU_holdingAt_75 rfl ?_
            refine ab_getf (fs := [vR by_, vR co, vR re, vR ho, vz n]) f_SU_34 d_SU_holdingAt_76 hs.2.2 rfl ?_
            refine zz_icmp_eq (tgt := 90) d_SU_holdingAt_79 (by decide) (by omega) (by omega) (fun c15 => absurd c15 (by omega)) (fun c15 => ?_)
            refine ab_aload_n d_SU_holdingAt_82 rfl ?_
            refine ab_iload_n d_SU_holdingAt_83 rfl ?_
            refine ab_callV (d' := d - 1) (as := [vz p]) (st := [vz 36]) (r := _) (z_SU_isLineFeed (o := o) (s := s) (ls := 26) (by_ := by_) (lby := 27) (m := m) (f := f) (n := n) (co := co) (re := re) (ho := ho) (p := p) hs hby_ (by omega) hb) (fun oc G2 h => by rcases h with ⟨h, _⟩ | ⟨h, _⟩ <;> exact ⟨_, h⟩) (by omega) m_SU_isLineFeed ml_SU_69 im_SU_isLineFeed se_SU_isLineFeed c_SU hs.2.2 (Nat.le_of_ble_eq_true rfl) d_SU_holdingAt_84 rfl ?_
            intro v G16 hq
            rcases hq with ⟨hv, hGe, hq17⟩ | ⟨hv, hGe, hq18⟩
            · cases hv
              rw [hGe]
              change ab_W _ _ _ G 87 [some (vR s), some (vz p), some (vz 36)] [vz 1, vz 36] _
              refine zz_if_eq (tgt := 95) d_SU_holdingAt_87 (by decide) (by decide) (fun c19 => absurd c19 (by decide)) (fun c19 => ?_)
              refine zz_bipush d_SU_holdingAt_90 (by decide) ?_
              refine ab_goto (tgt := 96) d_SU_holdingAt_92 (by decide) ?_
              refine zz_iorL (r := 44) d_SU_holdingAt_96 (by decide) ?_
              refine ab_istore_n d_SU_holdingAt_97 (Nat.le_of_ble_eq_true rfl) (Nat.le_of_ble_eq_true rfl) rfl ?_
              change ab_W _ _ _ G 98 [some (vR s), some (vz p), some (vz 44)] [] _
              refine ab_iload_n d_SU_holdingAt_98 rfl ?_
              refine zz_iret rfl d_SU_holdingAt_99 ?_
              rw [hQ]; exact ⟨_, rfl, rfl, (by exact hok_mk (a := True) ⟨fun _ => hq2, fun _ => trivial⟩ (b := True) ⟨fun _ => hq5, fun _ => trivial⟩ (by decide) (by omega) (by omega) (by omega) (by omega) (by decide) (by decide))⟩
            · cases hv
              rw [hGe]
              change ab_W _ _ _ G 87 [some (vR s), some (vz p), some (vz 36)] [vz 0, vz 36] _
              refine zz_if_eq (tgt := 95) d_SU_holdingAt_87 (by decide) (by decide) (fun c20 => ?_) (fun c20 => absurd c20 (by decide))
              refine zz_iconst d_SU_holdingAt_95 ?_
              refine zz_iorL (r := 36) d_SU_holdingAt_96 (by decide) ?_
              refine ab_istore_n d_SU_holdingAt_97 (Nat.le_of_ble_eq_true rfl) (Nat.le_of_ble_eq_true rfl) rfl ?_
              change ab_W _ _ _ G 98 [some (vR s), some (vz p), some (vz 36)] [] _
              refine ab_iload_n d_SU_holdingAt_98 rfl ?_
              refine zz_iret rfl d_SU_holdingAt_99 ?_
              rw [hQ]; exact ⟨_, rfl, rfl, (by exact hok_mk (a := True) ⟨fun _ => hq2, fun _ => trivial⟩ (b := True) ⟨fun _ => hq5, fun _ => trivial⟩ (by decide) (by omega) (by omega) (by omega) (by omega) (by decide) (by decide))⟩
          · cases hv
            rw [hGe]
            change ab_W _ _ _ G 63 [some (vR s), some (vz p), some (vz 32)] [vz 0, vz 32] _
            refine zz_if_eq (tgt := 70) d_SU_holdingAt_63 (by decide) (by decide) (fun c21 => ?_) (fun c21 => absurd c21 (by decide))
            refine zz_iconst d_SU_holdingAt_70 ?_
            refine zz_iorL (r := 32) d_SU_holdingAt_71 (by decide) ?_
            refine ab_istore_n d_SU_holdingAt_72 (Nat.le_of_ble_eq_true rfl) (Nat.le_of_ble_eq_true rfl) rfl ?_
            change ab_W _ _ _ G 73 [some (vR s), some (vz p), some (vz 32)] [] _
            refine ab_iload_n d_SU_holdingAt_73 rfl ?_
            refine ab_iload_n d_SU_holdingAt_74 rfl ?_
            refine ab_aload_n d_SU_holdingAt_75 rfl ?_
            refine ab_getf (fs := [vR by_, vR co, vR re, vR ho, vz n]) f_SU_34 d_SU_holdingAt_76 hs.2.2 rfl ?_
            refine zz_icmp_eq (tgt := 90) d_SU_holdingAt_79 (by decide) (by omega) (by omega) (fun c22 => absurd c22 (by omega)) (fun c22 => ?_)
            refine ab_aload_n d_SU_holdingAt_82 rfl ?_
            refine ab_iload_n d_SU_holdingAt_83 rfl ?_
            refine ab_callV (d' := d - 1) (as := [vz p]) (st := [vz 32]) (r := _) (z_SU_isLineFeed (o := o) (s := s) (ls := 26) (by_ := by_) (lby := 27) (m := m) (f := f) (n := n) (co := co) (re := re) (ho := ho) (p := p) hs hby_ (by omega) hb) (fun oc G2 h => by rcases h with ⟨h, _⟩ | ⟨h, _⟩ <;> exact ⟨_, h⟩) (by omega) m_SU_isLineFeed ml_SU_69 im_SU_isLineFeed se_SU_isLineFeed c_SU hs.2.2 (Nat.le_of_ble_eq_true rfl) d_SU_holdingAt_84 rfl ?_
            intro v G23 hq
            rcases hq with ⟨hv, hGe, hq24⟩ | ⟨hv, hGe, hq25⟩
            · cases hv
              rw [hGe]
              change ab_W _ _ _ G 87 [some (vR s), some (vz p), some (vz 32)] [vz 1, vz 32] _
              refine zz_if_eq (tgt := 95) d_SU_holdingAt_87 (by decide) (by decide) (fun c26 => absurd c26 (by decide)) (fun c26 => ?_)
              refine zz_bipush d_SU_holdingAt_90 (by decide) ?_
              refine ab_goto (tgt := 96) d_SU_holdingAt_92 (by decide) ?_
              refine zz_iorL (r := 40) d_SU_holdingAt_96 (by decide) ?_
              refine ab_istore_n d_SU_holdingAt_97 (Nat.le_of_ble_eq_true rfl) (Nat.le_of_ble_eq_true rfl) rfl ?_
              change ab_W _ _ _ G 98 [some (vR s), some (vz p), some (vz 40)] [] _
              refine ab_iload_n d_SU_holdingAt_98 rfl ?_
              refine zz_iret rfl d_SU_holdingAt_99 ?_
              rw [hQ]; exact ⟨_, rfl, rfl, (by exact hok_mk (a := True) ⟨fun _ => hq2, fun _ => trivial⟩ (b := True) ⟨fun _ => hq5, fun _ => trivial⟩ (by decide) (by omega) (by omega) (by omega) (by omega) (by decide) (by decide))⟩
            · cases hv
              rw [hGe]
              change ab_W _ _ _ G 87 [some (vR s), some (vz p), some (vz 32)] [vz 0, vz 32] _
              refine zz_if_eq (tgt := 95) d_SU_holdingAt_87 (by decide) (by decide) (fun c27 => ?_) (fun c27 => absurd c27 (by decide))
              refine zz_iconst d_SU_holdingAt_95 ?_
              refine zz_iorL (r := 32) d_SU_holdingAt_96 (by decide) ?_
              refine ab_istore_n d_SU_holdingAt_97 (Nat.le_of_ble_eq_true rfl) (Nat.le_of_ble_eq_true rfl) rfl ?_
              change ab_W _ _ _ G 98 [some (vR s), some (vz p), some (vz 32)] [] _
              refine ab_iload_n d_SU_holdingAt_98 rfl ?_
              refine zz_iret rfl d_SU_holdingAt_99 ?_
              rw [hQ]; exact ⟨_, rfl, rfl, (by exact hok_mk (a := True) ⟨fun _ => hq2, fun _ => trivial⟩ (b := True) ⟨fun _ => hq5, fun _ => trivial⟩ (by decide) (by omega) (by omega) (by omega) (by omega) (by decide) (by decide))⟩
        · refine zz_iconst d_SU_holdingAt_44 ?_
          refine ab_goto (tgt := 49) d_SU_holdingAt_45 (by decide) ?_
          refine zz_iorL (r := 34) d_SU_holdingAt_49 (by decide) ?_
          refine ab_istore_n d_SU_holdingAt_50 (Nat.le_of_ble_eq_true rfl) (Nat.le_of_ble_eq_true rfl) rfl ?_
          change ab_W _ _ _ G 51 [some (vR s), some (vz p), some (vz 34)] [] _
          refine ab_iload_n d_SU_holdingAt_51 rfl ?_
          refine ab_iload_n d_SU_holdingAt_52 rfl ?_
          refine zz_if_eq (tgt := 66) d_SU_holdingAt_53 (by decide) (by omega) (fun c28 => absurd c28 (by omega)) (fun c28 => ?_)
          refine ab_aload_n d_SU_holdingAt_56 rfl ?_
          refine ab_iload_n d_SU_holdingAt_57 rfl ?_
          refine zz_iconst d_SU_holdingAt_58 ?_
          refine zz_isub d_SU_holdingAt_59 ?_
          refine ab_callV (d' := d - 1) (as := [vz (p - 1)]) (st := [vz 34]) (r := _) (z_SU_isLineFeed (o := o) (s := s) (ls := 26) (by_ := by_) (lby := 27) (m := m) (f := f) (n := n) (co := co) (re := re) (ho := ho) (p := (p - 1)) hs hby_ (by omega) hb) (fun oc G2 h => by rcases h with ⟨h, _⟩ | ⟨h, _⟩ <;> exact ⟨_, h⟩) (by omega) m_SU_isLineFeed ml_SU_69 im_SU_isLineFeed se_SU_isLineFeed c_SU hs.2.2 (Nat.le_of_ble_eq_true rfl) d_SU_holdingAt_60 rfl ?_
          intro v G29 hq
          rcases hq with ⟨hv, hGe, hq30⟩ | ⟨hv, hGe, hq31⟩
          · cases hv
            rw [hGe]
            change ab_W _ _ _ G 63 [some (vR s), some (vz p), some (vz 34)] [vz 1, vz 34] _
            refine zz_if_eq (tgt := 70) d_SU_holdingAt_63 (by decide) (by decide) (fun c32 => absurd c32 (by decide)) (fun c32 => ?_)
            refine zz_iconst d_SU_holdingAt_66 ?_
            refine ab_goto (tgt := 71) d_SU_holdingAt_67 (by decide) ?_
            refine zz_iorL (r := 38) d_SU_holdingAt_71 (by decide) ?_
            refine ab_istore_n d_SU_holdingAt_72 (Nat.le_of_ble_eq_true rfl) (Nat.le_of_ble_eq_true rfl) rfl ?_
            change ab_W _ _ _ G 73 [some (vR s), some (vz p), some (vz 38)] [] _
            refine ab_iload_n d_SU_holdingAt_73 rfl ?_
            refine ab_iload_n d_SU_holdingAt_74 rfl ?_
            refine ab_aload_n d_SU_holdingAt_75 rfl ?_
            refine ab_getf (fs := [vR by_, vR co, vR re, vR ho, vz n]) f_SU_34 d_SU_holdingAt_76 hs.2.2 rfl ?_
            refine zz_icmp_eq (tgt := 90) d_SU_holdingAt_79 (by decide) (by omega) (by omega) (fun c33 => ?_) (fun c33 => absurd c33 (by omega))
            refine zz_bipush d_SU_holdingAt_90 (by decide) ?_
            refine ab_goto (tgt := 96) d_SU_holdingAt_92 (by decide) ?_
            refine zz_iorL (r := 46) d_SU_holdingAt_96 (by decide) ?_
            refine ab_istore_n d_SU_holdingAt_97 (Nat.le_of_ble_eq_true rfl) (Nat.le_of_ble_eq_true rfl) rfl ?_
            change ab_W _ _ _ G 98 [some (vR s), some (vz p), some (vz 46)] [] _
            refine ab_iload_n d_SU_holdingAt_98 rfl ?_
            refine zz_iret rfl d_SU_holdingAt_99 ?_
            rw [hQ]; exact ⟨_, rfl, rfl, (by exact hok_mk (a := True) ⟨fun _ => hq2, fun _ => trivial⟩ (b := True) ⟨fun _ => hq5, fun _ => trivial⟩ (by decide) (by omega) (by omega) (by omega) (by omega) (by decide) (by decide))⟩
          · cases hv
            rw [hGe]
            change ab_W _ _ _ G 63 [some (vR s), some (vz p), some (vz 34)] [vz 0, vz 34] _
            refine zz_if_eq (tgt := 70) d_SU_holdingAt_63 (by decide) (by decide) (fun c34 => ?_) (fun c34 => absurd c34 (by decide))
            refine zz_iconst d_SU_holdingAt_70 ?_
            refine zz_iorL (r := 34) d_SU_holdingAt_71 (by decide) ?_
            refine ab_istore_n d_SU_holdingAt_72 (Nat.le_of_ble_eq_true rfl) (Nat.le_of_ble_eq_true rfl) rfl ?_
            change ab_W _ _ _ G 73 [some (vR s), some (vz p), some (vz 34)] [] _
            refine ab_iload_n d_SU_holdingAt_73 rfl ?_
            refine ab_iload_n d_SU_holdingAt_74 rfl ?_
            refine ab_aload_n d_SU_holdingAt_75 rfl ?_
            refine ab_getf (fs := [vR by_, vR co, vR re, vR ho, vz n]) f_SU_34 d_SU_holdingAt_76 hs.2.2 rfl ?_
            refine zz_icmp_eq (tgt := 90) d_SU_holdingAt_79 (by decide) (by omega) (by omega) (fun c35 => ?_) (fun c35 => absurd c35 (by omega))
            refine zz_bipush d_SU_holdingAt_90 (by decide) ?_
            refine ab_goto (tgt := 96) d_SU_holdingAt_92 (by decide) ?_
            refine zz_iorL (r := 42) d_SU_holdingAt_96 (by decide) ?_
            refine ab_istore_n d_SU_holdingAt_97 (Nat.le_of_ble_eq_true rfl) (Nat.le_of_ble_eq_true rfl) rfl ?_
            change ab_W _ _ _ G 98 [some (vR s), some (vz p), some (vz 42)] [] _
            refine ab_iload_n d_SU_holdingAt_98 rfl ?_
            refine zz_iret rfl d_SU_holdingAt_99 ?_
            rw [hQ]; exact ⟨_, rfl, rfl, (by exact hok_mk (a := True) ⟨fun _ => hq2, fun _ => trivial⟩ (b := True) ⟨fun _ => hq5, fun _ => trivial⟩ (by decide) (by omega) (by omega) (by omega) (by omega) (by decide) (by decide))⟩
      · refine zz_iconst d_SU_holdingAt_28 ?_
        refine ab_goto (tgt := 33) d_SU_holdingAt_29 (by decide) ?_
        refine zz_iorL (r := 33) d_SU_holdingAt_33 (by decide) ?_
        refine ab_istore_n d_SU_holdingAt_34 (Nat.le_of_ble_eq_true rfl) (Nat.le_of_ble_eq_true rfl) rfl ?_
        change ab_W _ _ _ G 35 [some (vR s), some (vz p), some (vz 33)] [] _
        refine ab_iload_n d_SU_holdingAt_35 rfl ?_
        refine ab_iload_n d_SU_holdingAt_36 rfl ?_
        refine ab_aload_n d_SU_holdingAt_37 rfl ?_
        refine ab_getf (fs := [vR by_, vR co, vR re, vR ho, vz n]) f_SU_34 d_SU_holdingAt_38 hs.2.2 rfl ?_
        refine zz_icmp_ne (tgt := 48) d_SU_holdingAt_41 (by decide) (by omega) (by omega) (fun c36 => ?_) (fun c36 => ?_)
        · refine zz_iconst d_SU_holdingAt_48 ?_
          refine zz_iorL (r := 33) d_SU_holdingAt_49 (by decide) ?_
          refine ab_istore_n d_SU_holdingAt_50 (Nat.le_of_ble_eq_true rfl) (Nat.le_of_ble_eq_true rfl) rfl ?_
          change ab_W _ _ _ G 51 [some (vR s), some (vz p), some (vz 33)] [] _
          refine ab_iload_n d_SU_holdingAt_51 rfl ?_
          refine ab_iload_n d_SU_holdingAt_52 rfl ?_
          refine zz_if_eq (tgt := 66) d_SU_holdingAt_53 (by decide) (by omega) (fun c37 => ?_) (fun c37 => absurd c37 (by omega))
          refine zz_iconst d_SU_holdingAt_66 ?_
          refine ab_goto (tgt := 71) d_SU_holdingAt_67 (by decide) ?_
          refine zz_iorL (r := 37) d_SU_holdingAt_71 (by decide) ?_
          refine ab_istore_n d_SU_holdingAt_72 (Nat.le_of_ble_eq_true rfl) (Nat.le_of_ble_eq_true rfl) rfl ?_
          change ab_W _ _ _ G 73 [some (vR s), some (vz p), some (vz 37)] [] _
          refine ab_iload_n d_SU_holdingAt_73 rfl ?_
          refine ab_iload_n d_SU_holdingAt_74 rfl ?_
          refine ab_aload_n d_SU_holdingAt_75 rfl ?_
          refine ab_getf (fs := [vR by_, vR co, vR re, vR ho, vz n]) f_SU_34 d_SU_holdingAt_76 hs.2.2 rfl ?_
          refine zz_icmp_eq (tgt := 90) d_SU_holdingAt_79 (by decide) (by omega) (by omega) (fun c38 => absurd c38 (by omega)) (fun c38 => ?_)
          refine ab_aload_n d_SU_holdingAt_82 rfl ?_
          refine ab_iload_n d_SU_holdingAt_83 rfl ?_
          refine ab_callV (d' := d - 1) (as := [vz p]) (st := [vz 37]) (r := _) (z_SU_isLineFeed (o := o) (s := s) (ls := 26) (by_ := by_) (lby := 27) (m := m) (f := f) (n := n) (co := co) (re := re) (ho := ho) (p := p) hs hby_ (by omega) hb) (fun oc G2 h => by rcases h with ⟨h, _⟩ | ⟨h, _⟩ <;> exact ⟨_, h⟩) (by omega) m_SU_isLineFeed ml_SU_69 im_SU_isLineFeed se_SU_isLineFeed c_SU hs.2.2 (Nat.le_of_ble_eq_true rfl) d_SU_holdingAt_84 rfl ?_
          intro v G39 hq
          rcases hq with ⟨hv, hGe, hq40⟩ | ⟨hv, hGe, hq41⟩
          · cases hv
            rw [hGe]
            change ab_W _ _ _ G 87 [some (vR s), some (vz p), some (vz 37)] [vz 1, vz 37] _
            refine zz_if_eq (tgt := 95) d_SU_holdingAt_87 (by decide) (by decide) (fun c42 => absurd c42 (by decide)) (fun c42 => ?_)
            refine zz_bipush d_SU_holdingAt_90 (by decide) ?_
            refine ab_goto (tgt := 96) d_SU_holdingAt_92 (by decide) ?_
            refine zz_iorL (r := 45) d_SU_holdingAt_96 (by decide) ?_
            refine ab_istore_n d_SU_holdingAt_97 (Nat.le_of_ble_eq_true rfl) (Nat.le_of_ble_eq_true rfl) rfl ?_
            change ab_W _ _ _ G 98 [some (vR s), some (vz p), some (vz 45)] [] _
            refine ab_iload_n d_SU_holdingAt_98 rfl ?_
            refine zz_iret rfl d_SU_holdingAt_99 ?_
            rw [hQ]; exact ⟨_, rfl, rfl, (by exact hok_mk (a := True) ⟨fun _ => hq2, fun _ => trivial⟩ (b := True) ⟨fun _ => hq5, fun _ => trivial⟩ (by decide) (by omega) (by omega) (by omega) (by omega) (by decide) (by decide))⟩
          · cases hv
            rw [hGe]
            change ab_W _ _ _ G 87 [some (vR s), some (vz p), some (vz 37)] [vz 0, vz 37] _
            refine zz_if_eq (tgt := 95) d_SU_holdingAt_87 (by decide) (by decide) (fun c43 => ?_) (fun c43 => absurd c43 (by decide))
            refine zz_iconst d_SU_holdingAt_95 ?_
            refine zz_iorL (r := 37) d_SU_holdingAt_96 (by decide) ?_
            refine ab_istore_n d_SU_holdingAt_97 (Nat.le_of_ble_eq_true rfl) (Nat.le_of_ble_eq_true rfl) rfl ?_
            change ab_W _ _ _ G 98 [some (vR s), some (vz p), some (vz 37)] [] _
            refine ab_iload_n d_SU_holdingAt_98 rfl ?_
            refine zz_iret rfl d_SU_holdingAt_99 ?_
            rw [hQ]; exact ⟨_, rfl, rfl, (by exact hok_mk (a := True) ⟨fun _ => hq2, fun _ => trivial⟩ (b := True) ⟨fun _ => hq5, fun _ => trivial⟩ (by decide) (by omega) (by omega) (by omega) (by omega) (by decide) (by decide))⟩
        · refine zz_iconst d_SU_holdingAt_44 ?_
          refine ab_goto (tgt := 49) d_SU_holdingAt_45 (by decide) ?_
          refine zz_iorL (r := 35) d_SU_holdingAt_49 (by decide) ?_
          refine ab_istore_n d_SU_holdingAt_50 (Nat.le_of_ble_eq_true rfl) (Nat.le_of_ble_eq_true rfl) rfl ?_
          change ab_W _ _ _ G 51 [some (vR s), some (vz p), some (vz 35)] [] _
          refine ab_iload_n d_SU_holdingAt_51 rfl ?_
          refine ab_iload_n d_SU_holdingAt_52 rfl ?_
          refine zz_if_eq (tgt := 66) d_SU_holdingAt_53 (by decide) (by omega) (fun c44 => ?_) (fun c44 => absurd c44 (by omega))
          refine zz_iconst d_SU_holdingAt_66 ?_
          refine ab_goto (tgt := 71) d_SU_holdingAt_67 (by decide) ?_
          refine zz_iorL (r := 39) d_SU_holdingAt_71 (by decide) ?_
          refine ab_istore_n d_SU_holdingAt_72 (Nat.le_of_ble_eq_true rfl) (Nat.le_of_ble_eq_true rfl) rfl ?_
          change ab_W _ _ _ G 73 [some (vR s), some (vz p), some (vz 39)] [] _
          refine ab_iload_n d_SU_holdingAt_73 rfl ?_
          refine ab_iload_n d_SU_holdingAt_74 rfl ?_
          refine ab_aload_n d_SU_holdingAt_75 rfl ?_
          refine ab_getf (fs := [vR by_, vR co, vR re, vR ho, vz n]) f_SU_34 d_SU_holdingAt_76 hs.2.2 rfl ?_
          refine zz_icmp_eq (tgt := 90) d_SU_holdingAt_79 (by decide) (by omega) (by omega) (fun c45 => ?_) (fun c45 => absurd c45 (by omega))
          refine zz_bipush d_SU_holdingAt_90 (by decide) ?_
          refine ab_goto (tgt := 96) d_SU_holdingAt_92 (by decide) ?_
          refine zz_iorL (r := 47) d_SU_holdingAt_96 (by decide) ?_
          refine ab_istore_n d_SU_holdingAt_97 (Nat.le_of_ble_eq_true rfl) (Nat.le_of_ble_eq_true rfl) rfl ?_
          change ab_W _ _ _ G 98 [some (vR s), some (vz p), some (vz 47)] [] _
          refine ab_iload_n d_SU_holdingAt_98 rfl ?_
          refine zz_iret rfl d_SU_holdingAt_99 ?_
          rw [hQ]; exact ⟨_, rfl, rfl, (by exact hok_mk (a := True) ⟨fun _ => hq2, fun _ => trivial⟩ (b := True) ⟨fun _ => hq5, fun _ => trivial⟩ (by decide) (by omega) (by omega) (by omega) (by omega) (by decide) (by decide))⟩
    · cases hv
      rw [hGe]
      change ab_W _ _ _ G 12 [some (vR s), some (vz p), none] [vz 0, vz 1] _
      refine zz_icmp_eq (tgt := 20) d_SU_holdingAt_12 (by decide) (by decide) (by decide) (fun c46 => absurd c46 (by decide)) (fun c46 => ?_)
      refine zz_bipush d_SU_holdingAt_15 (by decide) ?_
      refine ab_goto (tgt := 22) d_SU_holdingAt_17 (by decide) ?_
      refine ab_istore_n d_SU_holdingAt_22 (Nat.le_of_ble_eq_true rfl) (Nat.le_of_ble_eq_true rfl) rfl ?_
      change ab_W _ _ _ G 23 [some (vR s), some (vz p), some (vz 16)] [] _
      refine ab_iload_n d_SU_holdingAt_23 rfl ?_
      refine ab_iload_n d_SU_holdingAt_24 rfl ?_
      refine zz_if_ne (tgt := 32) d_SU_holdingAt_25 (by decide) (by omega) (fun c47 => ?_) (fun c47 => ?_)
      · refine zz_iconst d_SU_holdingAt_32 ?_
        refine zz_iorL (r := 16) d_SU_holdingAt_33 (by decide) ?_
        refine ab_istore_n d_SU_holdingAt_34 (Nat.le_of_ble_eq_true rfl) (Nat.le_of_ble_eq_true rfl) rfl ?_
        change ab_W _ _ _ G 35 [some (vR s), some (vz p), some (vz 16)] [] _
        refine ab_iload_n d_SU_holdingAt_35 rfl ?_
        refine ab_iload_n d_SU_holdingAt_36 rfl ?_
        refine ab_aload_n d_SU_holdingAt_37 rfl ?_
        refine ab_getf (fs := [vR by_, vR co, vR re, vR ho, vz n]) f_SU_34 d_SU_holdingAt_38 hs.2.2 rfl ?_
        refine zz_icmp_ne (tgt := 48) d_SU_holdingAt_41 (by decide) (by omega) (by omega) (fun c48 => ?_) (fun c48 => ?_)
        · refine zz_iconst d_SU_holdingAt_48 ?_
          refine zz_iorL (r := 16) d_SU_holdingAt_49 (by decide) ?_
          refine ab_istore_n d_SU_holdingAt_50 (Nat.le_of_ble_eq_true rfl) (Nat.le_of_ble_eq_true rfl) rfl ?_
          change ab_W _ _ _ G 51 [some (vR s), some (vz p), some (vz 16)] [] _
          refine ab_iload_n d_SU_holdingAt_51 rfl ?_
          refine ab_iload_n d_SU_holdingAt_52 rfl ?_
          refine zz_if_eq (tgt := 66) d_SU_holdingAt_53 (by decide) (by omega) (fun c49 => absurd c49 (by omega)) (fun c49 => ?_)
          refine ab_aload_n d_SU_holdingAt_56 rfl ?_
          refine ab_iload_n d_SU_holdingAt_57 rfl ?_
          refine zz_iconst d_SU_holdingAt_58 ?_
          refine zz_isub d_SU_holdingAt_59 ?_
          refine ab_callV (d' := d - 1) (as := [vz (p - 1)]) (st := [vz 16]) (r := _) (z_SU_isLineFeed (o := o) (s := s) (ls := 26) (by_ := by_) (lby := 27) (m := m) (f := f) (n := n) (co := co) (re := re) (ho := ho) (p := (p - 1)) hs hby_ (by omega) hb) (fun oc G2 h => by rcases h with ⟨h, _⟩ | ⟨h, _⟩ <;> exact ⟨_, h⟩) (by omega) m_SU_isLineFeed ml_SU_69 im_SU_isLineFeed se_SU_isLineFeed c_SU hs.2.2 (Nat.le_of_ble_eq_true rfl) d_SU_holdingAt_60 rfl ?_
          intro v G50 hq
          rcases hq with ⟨hv, hGe, hq51⟩ | ⟨hv, hGe, hq52⟩
          · cases hv
            rw [hGe]
            change ab_W _ _ _ G 63 [some (vR s), some (vz p), some (vz 16)] [vz 1, vz 16] _
            refine zz_if_eq (tgt := 70) d_SU_holdingAt_63 (by decide) (by decide) (fun c53 => absurd c53 (by decide)) (fun c53 => ?_)
            refine zz_iconst d_SU_holdingAt_66 ?_
            refine ab_goto (tgt := 71) d_SU_holdingAt_67 (by decide) ?_
            refine zz_iorL (r := 20) d_SU_holdingAt_71 (by decide) ?_
            refine ab_istore_n d_SU_holdingAt_72 (Nat.le_of_ble_eq_true rfl) (Nat.le_of_ble_eq_true rfl) rfl ?_
            change ab_W _ _ _ G 73 [some (vR s), some (vz p), some (vz 20)] [] _
            refine ab_iload_n d_SU_holdingAt_73 rfl ?_
            refine ab_iload_n d_SU_holdingAt_74 rfl ?_
            refine ab_aload_n d_SU_holdingAt_75 rfl ?_
            refine ab_getf (fs := [vR by_, vR co, vR re, vR ho, vz n]) f_SU_34 d_SU_holdingAt_76 hs.2.2 rfl ?_
            refine zz_icmp_eq (tgt := 90) d_SU_holdingAt_79 (by decide) (by omega) (by omega) (fun c54 => absurd c54 (by omega)) (fun c54 => ?_)
            refine ab_aload_n d_SU_holdingAt_82 rfl ?_
            refine ab_iload_n d_SU_holdingAt_83 rfl ?_
            refine ab_callV (d' := d - 1) (as := [vz p]) (st := [vz 20]) (r := _) (z_SU_isLineFeed (o := o) (s := s) (ls := 26) (by_ := by_) (lby := 27) (m := m) (f := f) (n := n) (co := co) (re := re) (ho := ho) (p := p) hs hby_ (by omega) hb) (fun oc G2 h => by rcases h with ⟨h, _⟩ | ⟨h, _⟩ <;> exact ⟨_, h⟩) (by omega) m_SU_isLineFeed ml_SU_69 im_SU_isLineFeed se_SU_isLineFeed c_SU hs.2.2 (Nat.le_of_ble_eq_true rfl) d_SU_holdingAt_84 rfl ?_
            intro v G55 hq
            rcases hq with ⟨hv, hGe, hq56⟩ | ⟨hv, hGe, hq57⟩
            · cases hv
              rw [hGe]
              change ab_W _ _ _ G 87 [some (vR s), some (vz p), some (vz 20)] [vz 1, vz 20] _
              refine zz_if_eq (tgt := 95) d_SU_holdingAt_87 (by decide) (by decide) (fun c58 => absurd c58 (by decide)) (fun c58 => ?_)
              refine zz_bipush d_SU_holdingAt_90 (by decide) ?_
              refine ab_goto (tgt := 96) d_SU_holdingAt_92 (by decide) ?_
              refine zz_iorL (r := 28) d_SU_holdingAt_96 (by decide) ?_
              refine ab_istore_n d_SU_holdingAt_97 (Nat.le_of_ble_eq_true rfl) (Nat.le_of_ble_eq_true rfl) rfl ?_
              change ab_W _ _ _ G 98 [some (vR s), some (vz p), some (vz 28)] [] _
              refine ab_iload_n d_SU_holdingAt_98 rfl ?_
              refine zz_iret rfl d_SU_holdingAt_99 ?_
              rw [hQ]; exact ⟨_, rfl, rfl, (by exact hok_mk (a := True) ⟨fun _ => hq2, fun _ => trivial⟩ (b := False) ⟨False.elim, fun h => hq6 h⟩ (by decide) (by omega) (by omega) (by omega) (by omega) (by decide) (by decide))⟩
            · cases hv
              rw [hGe]
              change ab_W _ _ _ G 87 [some (vR s), some (vz p), some (vz 20)] [vz 0, vz 20] _
              refine zz_if_eq (tgt := 95) d_SU_holdingAt_87 (by decide) (by decide) (fun c59 => ?_) (fun c59 => absurd c59 (by decide))
              refine zz_iconst d_SU_holdingAt_95 ?_
              refine zz_iorL (r := 20) d_SU_holdingAt_96 (by decide) ?_
              refine ab_istore_n d_SU_holdingAt_97 (Nat.le_of_ble_eq_true rfl) (Nat.le_of_ble_eq_true rfl) rfl ?_
              change ab_W _ _ _ G 98 [some (vR s), some (vz p), some (vz 20)] [] _
              refine ab_iload_n d_SU_holdingAt_98 rfl ?_
              refine zz_iret rfl d_SU_holdingAt_99 ?_
              rw [hQ]; exact ⟨_, rfl, rfl, (by exact hok_mk (a := True) ⟨fun _ => hq2, fun _ => trivial⟩ (b := False) ⟨False.elim, fun h => hq6 h⟩ (by decide) (by omega) (by omega) (by omega) (by omega) (by decide) (by decide))⟩
          · cases hv
            rw [hGe]
            change ab_W _ _ _ G 63 [some (vR s), some (vz p), some (vz 16)] [vz 0, vz 16] _
            refine zz_if_eq (tgt := 70) d_SU_holdingAt_63 (by decide) (by decide) (fun c60 => ?_) (fun c60 => absurd c60 (by decide))
            refine zz_iconst d_SU_holdingAt_70 ?_
            refine zz_iorL (r := 16) d_SU_holdingAt_71 (by decide) ?_
            refine ab_istore_n d_SU_holdingAt_72 (Nat.le_of_ble_eq_true rfl) (Nat.le_of_ble_eq_true rfl) rfl ?_
            change ab_W _ _ _ G 73 [some (vR s), some (vz p), some (vz 16)] [] _
            refine ab_iload_n d_SU_holdingAt_73 rfl ?_
            refine ab_iload_n d_SU_holdingAt_74 rfl ?_
            refine ab_aload_n d_SU_holdingAt_75 rfl ?_
            refine ab_getf (fs := [vR by_, vR co, vR re, vR ho, vz n]) f_SU_34 d_SU_holdingAt_76 hs.2.2 rfl ?_
            refine zz_icmp_eq (tgt := 90) d_SU_holdingAt_79 (by decide) (by omega) (by omega) (fun c61 => absurd c61 (by omega)) (fun c61 => ?_)
            refine ab_aload_n d_SU_holdingAt_82 rfl ?_
            refine ab_iload_n d_SU_holdingAt_83 rfl ?_
            refine ab_callV (d' := d - 1) (as := [vz p]) (st := [vz 16]) (r := _) (z_SU_isLineFeed (o := o) (s := s) (ls := 26) (by_ := by_) (lby := 27) (m := m) (f := f) (n := n) (co := co) (re := re) (ho := ho) (p := p) hs hby_ (by omega) hb) (fun oc G2 h => by rcases h with ⟨h, _⟩ | ⟨h, _⟩ <;> exact ⟨_, h⟩) (by omega) m_SU_isLineFeed ml_SU_69 im_SU_isLineFeed se_SU_isLineFeed c_SU hs.2.2 (Nat.le_of_ble_eq_true rfl) d_SU_holdingAt_84 rfl ?_
            intro v G62 hq
            rcases hq with ⟨hv, hGe, hq63⟩ | ⟨hv, hGe, hq64⟩
            · cases hv
              rw [hGe]
              change ab_W _ _ _ G 87 [some (vR s), some (vz p), some (vz 16)] [vz 1, vz 16] _
              refine zz_if_eq (tgt := 95) d_SU_holdingAt_87 (by decide) (by decide) (fun c65 => absurd c65 (by decide)) (fun c65 => ?_)
              refine zz_bipush d_SU_holdingAt_90 (by decide) ?_
              refine ab_goto (tgt := 96) d_SU_holdingAt_92 (by decide) ?_
              refine zz_iorL (r := 24) d_SU_holdingAt_96 (by decide) ?_
              refine ab_istore_n d_SU_holdingAt_97 (Nat.le_of_ble_eq_true rfl) (Nat.le_of_ble_eq_true rfl) rfl ?_
              change ab_W _ _ _ G 98 [some (vR s), some (vz p), some (vz 24)] [] _
              refine ab_iload_n d_SU_holdingAt_98 rfl ?_
              refine zz_iret rfl d_SU_holdingAt_99 ?_
              rw [hQ]; exact ⟨_, rfl, rfl, (by exact hok_mk (a := True) ⟨fun _ => hq2, fun _ => trivial⟩ (b := False) ⟨False.elim, fun h => hq6 h⟩ (by decide) (by omega) (by omega) (by omega) (by omega) (by decide) (by decide))⟩
            · cases hv
              rw [hGe]
              change ab_W _ _ _ G 87 [some (vR s), some (vz p), some (vz 16)] [vz 0, vz 16] _
              refine zz_if_eq (tgt := 95) d_SU_holdingAt_87 (by decide) (by decide) (fun c66 => ?_) (fun c66 => absurd c66 (by decide))
              refine zz_iconst d_SU_holdingAt_95 ?_
              refine zz_iorL (r := 16) d_SU_holdingAt_96 (by decide) ?_
              refine ab_istore_n d_SU_holdingAt_97 (Nat.le_of_ble_eq_true rfl) (Nat.le_of_ble_eq_true rfl) rfl ?_
              change ab_W _ _ _ G 98 [some (vR s), some (vz p), some (vz 16)] [] _
              refine ab_iload_n d_SU_holdingAt_98 rfl ?_
              refine zz_iret rfl d_SU_holdingAt_99 ?_
              rw [hQ]; exact ⟨_, rfl, rfl, (by exact hok_mk (a := True) ⟨fun _ => hq2, fun _ => trivial⟩ (b := False) ⟨False.elim, fun h => hq6 h⟩ (by decide) (by omega) (by omega) (by omega) (by omega) (by decide) (by decide))⟩
        · refine zz_iconst d_SU_holdingAt_44 ?_
          refine ab_goto (tgt := 49) d_SU_holdingAt_45 (by decide) ?_
          refine zz_iorL (r := 18) d_SU_holdingAt_49 (by decide) ?_
          refine ab_istore_n d_SU_holdingAt_50 (Nat.le_of_ble_eq_true rfl) (Nat.le_of_ble_eq_true rfl) rfl ?_
          change ab_W _ _ _ G 51 [some (vR s), some (vz p), some (vz 18)] [] _
          refine ab_iload_n d_SU_holdingAt_51 rfl ?_
          refine ab_iload_n d_SU_holdingAt_52 rfl ?_
          refine zz_if_eq (tgt := 66) d_SU_holdingAt_53 (by decide) (by omega) (fun c67 => absurd c67 (by omega)) (fun c67 => ?_)
          refine ab_aload_n d_SU_holdingAt_56 rfl ?_
          refine ab_iload_n d_SU_holdingAt_57 rfl ?_
          refine zz_iconst d_SU_holdingAt_58 ?_
          refine zz_isub d_SU_holdingAt_59 ?_
          refine ab_callV (d' := d - 1) (as := [vz (p - 1)]) (st := [vz 18]) (r := _) (z_SU_isLineFeed (o := o) (s := s) (ls := 26) (by_ := by_) (lby := 27) (m := m) (f := f) (n := n) (co := co) (re := re) (ho := ho) (p := (p - 1)) hs hby_ (by omega) hb) (fun oc G2 h => by rcases h with ⟨h, _⟩ | ⟨h, _⟩ <;> exact ⟨_, h⟩) (by omega) m_SU_isLineFeed ml_SU_69 im_SU_isLineFeed se_SU_isLineFeed c_SU hs.2.2 (Nat.le_of_ble_eq_true rfl) d_SU_holdingAt_60 rfl ?_
          intro v G68 hq
          rcases hq with ⟨hv, hGe, hq69⟩ | ⟨hv, hGe, hq70⟩
          · cases hv
            rw [hGe]
            change ab_W _ _ _ G 63 [some (vR s), some (vz p), some (vz 18)] [vz 1, vz 18] _
            refine zz_if_eq (tgt := 70) d_SU_holdingAt_63 (by decide) (by decide) (fun c71 => absurd c71 (by decide)) (fun c71 => ?_)
            refine zz_iconst d_SU_holdingAt_66 ?_
            refine ab_goto (tgt := 71) d_SU_holdingAt_67 (by decide) ?_
            refine zz_iorL (r := 22) d_SU_holdingAt_71 (by decide) ?_
            refine ab_istore_n d_SU_holdingAt_72 (Nat.le_of_ble_eq_true rfl) (Nat.le_of_ble_eq_true rfl) rfl ?_
            change ab_W _ _ _ G 73 [some (vR s), some (vz p), some (vz 22)] [] _
            refine ab_iload_n d_SU_holdingAt_73 rfl ?_
            refine ab_iload_n d_SU_holdingAt_74 rfl ?_
            refine ab_aload_n d_SU_holdingAt_75 rfl ?_
            refine ab_getf (fs := [vR by_, vR co, vR re, vR ho, vz n]) f_SU_34 d_SU_holdingAt_76 hs.2.2 rfl ?_
            refine zz_icmp_eq (tgt := 90) d_SU_holdingAt_79 (by decide) (by omega) (by omega) (fun c72 => ?_) (fun c72 => absurd c72 (by omega))
            refine zz_bipush d_SU_holdingAt_90 (by decide) ?_
            refine ab_goto (tgt := 96) d_SU_holdingAt_92 (by decide) ?_
            refine zz_iorL (r := 30) d_SU_holdingAt_96 (by decide) ?_
            refine ab_istore_n d_SU_holdingAt_97 (Nat.le_of_ble_eq_true rfl) (Nat.le_of_ble_eq_true rfl) rfl ?_
            change ab_W _ _ _ G 98 [some (vR s), some (vz p), some (vz 30)] [] _
            refine ab_iload_n d_SU_holdingAt_98 rfl ?_
            refine zz_iret rfl d_SU_holdingAt_99 ?_
            rw [hQ]; exact ⟨_, rfl, rfl, (by exact hok_mk (a := True) ⟨fun _ => hq2, fun _ => trivial⟩ (b := False) ⟨False.elim, fun h => hq6 h⟩ (by decide) (by omega) (by omega) (by omega) (by omega) (by decide) (by decide))⟩
          · cases hv
            rw [hGe]
            change ab_W _ _ _ G 63 [some (vR s), some (vz p), some (vz 18)] [vz 0, vz 18] _
            refine zz_if_eq (tgt := 70) d_SU_holdingAt_63 (by decide) (by decide) (fun c73 => ?_) (fun c73 => absurd c73 (by decide))
            refine zz_iconst d_SU_holdingAt_70 ?_
            refine zz_iorL (r := 18) d_SU_holdingAt_71 (by decide) ?_
            refine ab_istore_n d_SU_holdingAt_72 (Nat.le_of_ble_eq_true rfl) (Nat.le_of_ble_eq_true rfl) rfl ?_
            change ab_W _ _ _ G 73 [some (vR s), some (vz p), some (vz 18)] [] _
            refine ab_iload_n d_SU_holdingAt_73 rfl ?_
            refine ab_iload_n d_SU_holdingAt_74 rfl ?_
            refine ab_aload_n d_SU_holdingAt_75 rfl ?_
            refine ab_getf (fs := [vR by_, vR co, vR re, vR ho, vz n]) f_SU_34 d_SU_holdingAt_76 hs.2.2 rfl ?_
            refine zz_icmp_eq (tgt := 90) d_SU_holdingAt_79 (by decide) (by omega) (by omega) (fun c74 => ?_) (fun c74 => absurd c74 (by omega))
            refine zz_bipush d_SU_holdingAt_90 (by decide) ?_
            refine ab_goto (tgt := 96) d_SU_holdingAt_92 (by decide) ?_
            refine zz_iorL (r := 26) d_SU_holdingAt_96 (by decide) ?_
            refine ab_istore_n d_SU_holdingAt_97 (Nat.le_of_ble_eq_true rfl) (Nat.le_of_ble_eq_true rfl) rfl ?_
            change ab_W _ _ _ G 98 [some (vR s), some (vz p), some (vz 26)] [] _
            refine ab_iload_n d_SU_holdingAt_98 rfl ?_
            refine zz_iret rfl d_SU_holdingAt_99 ?_
            rw [hQ]; exact ⟨_, rfl, rfl, (by exact hok_mk (a := True) ⟨fun _ => hq2, fun _ => trivial⟩ (b := False) ⟨False.elim, fun h => hq6 h⟩ (by decide) (by omega) (by omega) (by omega) (by omega) (by decide) (by decide))⟩
      · refine zz_iconst d_SU_holdingAt_28 ?_
        refine ab_goto (tgt := 33) d_SU_holdingAt_29 (by decide) ?_
        refine zz_iorL (r := 17) d_SU_holdingAt_33 (by decide) ?_
        refine ab_istore_n d_SU_holdingAt_34 (Nat.le_of_ble_eq_true rfl) (Nat.le_of_ble_eq_true rfl) rfl ?_
        change ab_W _ _ _ G 35 [some (vR s), some (vz p), some (vz 17)] [] _
        refine ab_iload_n d_SU_holdingAt_35 rfl ?_
        refine ab_iload_n d_SU_holdingAt_36 rfl ?_
        refine ab_aload_n d_SU_holdingAt_37 rfl ?_
        refine ab_getf (fs := [vR by_, vR co, vR re, vR ho, vz n]) f_SU_34 d_SU_holdingAt_38 hs.2.2 rfl ?_
        refine zz_icmp_ne (tgt := 48) d_SU_holdingAt_41 (by decide) (by omega) (by omega) (fun c75 => ?_) (fun c75 => ?_)
        · refine zz_iconst d_SU_holdingAt_48 ?_
          refine zz_iorL (r := 17) d_SU_holdingAt_49 (by decide) ?_
          refine ab_istore_n d_SU_holdingAt_50 (Nat.le_of_ble_eq_true rfl) (Nat.le_of_ble_eq_true rfl) rfl ?_
          change ab_W _ _ _ G 51 [some (vR s), some (vz p), some (vz 17)] [] _
          refine ab_iload_n d_SU_holdingAt_51 rfl ?_
          refine ab_iload_n d_SU_holdingAt_52 rfl ?_
          refine zz_if_eq (tgt := 66) d_SU_holdingAt_53 (by decide) (by omega) (fun c76 => ?_) (fun c76 => absurd c76 (by omega))
          refine zz_iconst d_SU_holdingAt_66 ?_
          refine ab_goto (tgt := 71) d_SU_holdingAt_67 (by decide) ?_
          refine zz_iorL (r := 21) d_SU_holdingAt_71 (by decide) ?_
          refine ab_istore_n d_SU_holdingAt_72 (Nat.le_of_ble_eq_true rfl) (Nat.le_of_ble_eq_true rfl) rfl ?_
          change ab_W _ _ _ G 73 [some (vR s), some (vz p), some (vz 21)] [] _
          refine ab_iload_n d_SU_holdingAt_73 rfl ?_
          refine ab_iload_n d_SU_holdingAt_74 rfl ?_
          refine ab_aload_n d_SU_holdingAt_75 rfl ?_
          refine ab_getf (fs := [vR by_, vR co, vR re, vR ho, vz n]) f_SU_34 d_SU_holdingAt_76 hs.2.2 rfl ?_
          refine zz_icmp_eq (tgt := 90) d_SU_holdingAt_79 (by decide) (by omega) (by omega) (fun c77 => absurd c77 (by omega)) (fun c77 => ?_)
          refine ab_aload_n d_SU_holdingAt_82 rfl ?_
          refine ab_iload_n d_SU_holdingAt_83 rfl ?_
          refine ab_callV (d' := d - 1) (as := [vz p]) (st := [vz 21]) (r := _) (z_SU_isLineFeed (o := o) (s := s) (ls := 26) (by_ := by_) (lby := 27) (m := m) (f := f) (n := n) (co := co) (re := re) (ho := ho) (p := p) hs hby_ (by omega) hb) (fun oc G2 h => by rcases h with ⟨h, _⟩ | ⟨h, _⟩ <;> exact ⟨_, h⟩) (by omega) m_SU_isLineFeed ml_SU_69 im_SU_isLineFeed se_SU_isLineFeed c_SU hs.2.2 (Nat.le_of_ble_eq_true rfl) d_SU_holdingAt_84 rfl ?_
          intro v G78 hq
          rcases hq with ⟨hv, hGe, hq79⟩ | ⟨hv, hGe, hq80⟩
          · cases hv
            rw [hGe]
            change ab_W _ _ _ G 87 [some (vR s), some (vz p), some (vz 21)] [vz 1, vz 21] _
            refine zz_if_eq (tgt := 95) d_SU_holdingAt_87 (by decide) (by decide) (fun c81 => absurd c81 (by decide)) (fun c81 => ?_)
            refine zz_bipush d_SU_holdingAt_90 (by decide) ?_
            refine ab_goto (tgt := 96) d_SU_holdingAt_92 (by decide) ?_
            refine zz_iorL (r := 29) d_SU_holdingAt_96 (by decide) ?_
            refine ab_istore_n d_SU_holdingAt_97 (Nat.le_of_ble_eq_true rfl) (Nat.le_of_ble_eq_true rfl) rfl ?_
            change ab_W _ _ _ G 98 [some (vR s), some (vz p), some (vz 29)] [] _
            refine ab_iload_n d_SU_holdingAt_98 rfl ?_
            refine zz_iret rfl d_SU_holdingAt_99 ?_
            rw [hQ]; exact ⟨_, rfl, rfl, (by exact hok_mk (a := True) ⟨fun _ => hq2, fun _ => trivial⟩ (b := False) ⟨False.elim, fun h => hq6 h⟩ (by decide) (by omega) (by omega) (by omega) (by omega) (by decide) (by decide))⟩
          · cases hv
            rw [hGe]
            change ab_W _ _ _ G 87 [some (vR s), some (vz p), some (vz 21)] [vz 0, vz 21] _
            refine zz_if_eq (tgt := 95) d_SU_holdingAt_87 (by decide) (by decide) (fun c82 => ?_) (fun c82 => absurd c82 (by decide))
            refine zz_iconst d_SU_holdingAt_95 ?_
            refine zz_iorL (r := 21) d_SU_holdingAt_96 (by decide) ?_
            refine ab_istore_n d_SU_holdingAt_97 (Nat.le_of_ble_eq_true rfl) (Nat.le_of_ble_eq_true rfl) rfl ?_
            change ab_W _ _ _ G 98 [some (vR s), some (vz p), some (vz 21)] [] _
            refine ab_iload_n d_SU_holdingAt_98 rfl ?_
            refine zz_iret rfl d_SU_holdingAt_99 ?_
            rw [hQ]; exact ⟨_, rfl, rfl, (by exact hok_mk (a := True) ⟨fun _ => hq2, fun _ => trivial⟩ (b := False) ⟨False.elim, fun h => hq6 h⟩ (by decide) (by omega) (by omega) (by omega) (by omega) (by decide) (by decide))⟩
        · refine zz_iconst d_SU_holdingAt_44 ?_
          refine ab_goto (tgt := 49) d_SU_holdingAt_45 (by decide) ?_
          refine zz_iorL (r := 19) d_SU_holdingAt_49 (by decide) ?_
          refine ab_istore_n d_SU_holdingAt_50 (Nat.le_of_ble_eq_true rfl) (Nat.le_of_ble_eq_true rfl) rfl ?_
          change ab_W _ _ _ G 51 [some (vR s), some (vz p), some (vz 19)] [] _
          refine ab_iload_n d_SU_holdingAt_51 rfl ?_
          refine ab_iload_n d_SU_holdingAt_52 rfl ?_
          refine zz_if_eq (tgt := 66) d_SU_holdingAt_53 (by decide) (by omega) (fun c83 => ?_) (fun c83 => absurd c83 (by omega))
          refine zz_iconst d_SU_holdingAt_66 ?_
          refine ab_goto (tgt := 71) d_SU_holdingAt_67 (by decide) ?_
          refine zz_iorL (r := 23) d_SU_holdingAt_71 (by decide) ?_
          refine ab_istore_n d_SU_holdingAt_72 (Nat.le_of_ble_eq_true rfl) (Nat.le_of_ble_eq_true rfl) rfl ?_
          change ab_W _ _ _ G 73 [some (vR s), some (vz p), some (vz 23)] [] _
          refine ab_iload_n d_SU_holdingAt_73 rfl ?_
          refine ab_iload_n d_SU_holdingAt_74 rfl ?_
          refine ab_aload_n d_SU_holdingAt_75 rfl ?_
          refine ab_getf (fs := [vR by_, vR co, vR re, vR ho, vz n]) f_SU_34 d_SU_holdingAt_76 hs.2.2 rfl ?_
          refine zz_icmp_eq (tgt := 90) d_SU_holdingAt_79 (by decide) (by omega) (by omega) (fun c84 => ?_) (fun c84 => absurd c84 (by omega))
          refine zz_bipush d_SU_holdingAt_90 (by decide) ?_
          refine ab_goto (tgt := 96) d_SU_holdingAt_92 (by decide) ?_
          refine zz_iorL (r := 31) d_SU_holdingAt_96 (by decide) ?_
          refine ab_istore_n d_SU_holdingAt_97 (Nat.le_of_ble_eq_true rfl) (Nat.le_of_ble_eq_true rfl) rfl ?_
          change ab_W _ _ _ G 98 [some (vR s), some (vz p), some (vz 31)] [] _
          refine ab_iload_n d_SU_holdingAt_98 rfl ?_
          refine zz_iret rfl d_SU_holdingAt_99 ?_
          rw [hQ]; exact ⟨_, rfl, rfl, (by exact hok_mk (a := True) ⟨fun _ => hq2, fun _ => trivial⟩ (b := False) ⟨False.elim, fun h => hq6 h⟩ (by decide) (by omega) (by omega) (by omega) (by omega) (by decide) (by decide))⟩
  · cases hv
    rw [hGe]
    change ab_W _ _ _ G 7 [some (vR s), some (vz p), none] [vz 0] _
    refine ab_aload_n d_SU_holdingAt_7 rfl ?_
    refine ab_iload_n d_SU_holdingAt_8 rfl ?_
    refine ab_callV (d' := d - 1) (as := [vz p]) (st := [vz 0]) (r := _) (z_SU_isWordByte (o := o) (s := s) (ls := 26) (by_ := by_) (lby := 27) (m := m) (f := f) (n := n) (co := co) (re := re) (ho := ho) (p := p) hs hby_ (by omega) hb (by omega)) (fun oc G2 h => by rcases h with ⟨h, _⟩ | ⟨h, _⟩ <;> exact ⟨_, h⟩) (by omega) m_SU_isWordByte ml_SU_66 im_SU_isWordByte se_SU_isWordByte c_SU hs.2.2 (Nat.le_of_ble_eq_true rfl) d_SU_holdingAt_9 rfl ?_
    intro v G85 hq
    rcases hq with ⟨hv, hGe, hq86⟩ | ⟨hv, hGe, hq87⟩
    · cases hv
      rw [hGe]
      change ab_W _ _ _ G 12 [some (vR s), some (vz p), none] [vz 1, vz 0] _
      refine zz_icmp_eq (tgt := 20) d_SU_holdingAt_12 (by decide) (by decide) (by decide) (fun c88 => absurd c88 (by decide)) (fun c88 => ?_)
      refine zz_bipush d_SU_holdingAt_15 (by decide) ?_
      refine ab_goto (tgt := 22) d_SU_holdingAt_17 (by decide) ?_
      refine ab_istore_n d_SU_holdingAt_22 (Nat.le_of_ble_eq_true rfl) (Nat.le_of_ble_eq_true rfl) rfl ?_
      change ab_W _ _ _ G 23 [some (vR s), some (vz p), some (vz 16)] [] _
      refine ab_iload_n d_SU_holdingAt_23 rfl ?_
      refine ab_iload_n d_SU_holdingAt_24 rfl ?_
      refine zz_if_ne (tgt := 32) d_SU_holdingAt_25 (by decide) (by omega) (fun c89 => ?_) (fun c89 => ?_)
      · refine zz_iconst d_SU_holdingAt_32 ?_
        refine zz_iorL (r := 16) d_SU_holdingAt_33 (by decide) ?_
        refine ab_istore_n d_SU_holdingAt_34 (Nat.le_of_ble_eq_true rfl) (Nat.le_of_ble_eq_true rfl) rfl ?_
        change ab_W _ _ _ G 35 [some (vR s), some (vz p), some (vz 16)] [] _
        refine ab_iload_n d_SU_holdingAt_35 rfl ?_
        refine ab_iload_n d_SU_holdingAt_36 rfl ?_
        refine ab_aload_n d_SU_holdingAt_37 rfl ?_
        refine ab_getf (fs := [vR by_, vR co, vR re, vR ho, vz n]) f_SU_34 d_SU_holdingAt_38 hs.2.2 rfl ?_
        refine zz_icmp_ne (tgt := 48) d_SU_holdingAt_41 (by decide) (by omega) (by omega) (fun c90 => ?_) (fun c90 => ?_)
        · refine zz_iconst d_SU_holdingAt_48 ?_
          refine zz_iorL (r := 16) d_SU_holdingAt_49 (by decide) ?_
          refine ab_istore_n d_SU_holdingAt_50 (Nat.le_of_ble_eq_true rfl) (Nat.le_of_ble_eq_true rfl) rfl ?_
          change ab_W _ _ _ G 51 [some (vR s), some (vz p), some (vz 16)] [] _
          refine ab_iload_n d_SU_holdingAt_51 rfl ?_
          refine ab_iload_n d_SU_holdingAt_52 rfl ?_
          refine zz_if_eq (tgt := 66) d_SU_holdingAt_53 (by decide) (by omega) (fun c91 => absurd c91 (by omega)) (fun c91 => ?_)
          refine ab_aload_n d_SU_holdingAt_56 rfl ?_
          refine ab_iload_n d_SU_holdingAt_57 rfl ?_
          refine zz_iconst d_SU_holdingAt_58 ?_
          refine zz_isub d_SU_holdingAt_59 ?_
          refine ab_callV (d' := d - 1) (as := [vz (p - 1)]) (st := [vz 16]) (r := _) (z_SU_isLineFeed (o := o) (s := s) (ls := 26) (by_ := by_) (lby := 27) (m := m) (f := f) (n := n) (co := co) (re := re) (ho := ho) (p := (p - 1)) hs hby_ (by omega) hb) (fun oc G2 h => by rcases h with ⟨h, _⟩ | ⟨h, _⟩ <;> exact ⟨_, h⟩) (by omega) m_SU_isLineFeed ml_SU_69 im_SU_isLineFeed se_SU_isLineFeed c_SU hs.2.2 (Nat.le_of_ble_eq_true rfl) d_SU_holdingAt_60 rfl ?_
          intro v G92 hq
          rcases hq with ⟨hv, hGe, hq93⟩ | ⟨hv, hGe, hq94⟩
          · cases hv
            rw [hGe]
            change ab_W _ _ _ G 63 [some (vR s), some (vz p), some (vz 16)] [vz 1, vz 16] _
            refine zz_if_eq (tgt := 70) d_SU_holdingAt_63 (by decide) (by decide) (fun c95 => absurd c95 (by decide)) (fun c95 => ?_)
            refine zz_iconst d_SU_holdingAt_66 ?_
            refine ab_goto (tgt := 71) d_SU_holdingAt_67 (by decide) ?_
            refine zz_iorL (r := 20) d_SU_holdingAt_71 (by decide) ?_
            refine ab_istore_n d_SU_holdingAt_72 (Nat.le_of_ble_eq_true rfl) (Nat.le_of_ble_eq_true rfl) rfl ?_
            change ab_W _ _ _ G 73 [some (vR s), some (vz p), some (vz 20)] [] _
            refine ab_iload_n d_SU_holdingAt_73 rfl ?_
            refine ab_iload_n d_SU_holdingAt_74 rfl ?_
            refine ab_aload_n d_SU_holdingAt_75 rfl ?_
            refine ab_getf (fs := [vR by_, vR co, vR re, vR ho, vz n]) f_SU_34 d_SU_holdingAt_76 hs.2.2 rfl ?_
            refine zz_icmp_eq (tgt := 90) d_SU_holdingAt_79 (by decide) (by omega) (by omega) (fun c96 => absurd c96 (by omega)) (fun c96 => ?_)
            refine ab_aload_n d_SU_holdingAt_82 rfl ?_
            refine ab_iload_n d_SU_holdingAt_83 rfl ?_
            refine ab_callV (d' := d - 1) (as := [vz p]) (st := [vz 20]) (r := _) (z_SU_isLineFeed (o := o) (s := s) (ls := 26) (by_ := by_) (lby := 27) (m := m) (f := f) (n := n) (co := co) (re := re) (ho := ho) (p := p) hs hby_ (by omega) hb) (fun oc G2 h => by rcases h with ⟨h, _⟩ | ⟨h, _⟩ <;> exact ⟨_, h⟩) (by omega) m_SU_isLineFeed ml_SU_69 im_SU_isLineFeed se_SU_isLineFeed c_SU hs.2.2 (Nat.le_of_ble_eq_true rfl) d_SU_holdingAt_84 rfl ?_
            intro v G97 hq
            rcases hq with ⟨hv, hGe, hq98⟩ | ⟨hv, hGe, hq99⟩
            · cases hv
              rw [hGe]
              change ab_W _ _ _ G 87 [some (vR s), some (vz p), some (vz 20)] [vz 1, vz 20] _
              refine zz_if_eq (tgt := 95) d_SU_holdingAt_87 (by decide) (by decide) (fun c100 => absurd c100 (by decide)) (fun c100 => ?_)
              refine zz_bipush d_SU_holdingAt_90 (by decide) ?_
              refine ab_goto (tgt := 96) d_SU_holdingAt_92 (by decide) ?_
              refine zz_iorL (r := 28) d_SU_holdingAt_96 (by decide) ?_
              refine ab_istore_n d_SU_holdingAt_97 (Nat.le_of_ble_eq_true rfl) (Nat.le_of_ble_eq_true rfl) rfl ?_
              change ab_W _ _ _ G 98 [some (vR s), some (vz p), some (vz 28)] [] _
              refine ab_iload_n d_SU_holdingAt_98 rfl ?_
              refine zz_iret rfl d_SU_holdingAt_99 ?_
              rw [hQ]; exact ⟨_, rfl, rfl, (by exact hok_mk (a := False) ⟨False.elim, fun h => hq3 h⟩ (b := True) ⟨fun _ => hq86, fun _ => trivial⟩ (by decide) (by omega) (by omega) (by omega) (by omega) (by decide) (by decide))⟩
            · cases hv
              rw [hGe]
              change ab_W _ _ _ G 87 [some (vR s), some (vz p), some (vz 20)] [vz 0, vz 20] _
              refine zz_if_eq (tgt := 95) d_SU_holdingAt_87 (by decide) (by decide) (fun c101 => ?_) (fun c101 => absurd c101 (by decide))
              refine zz_iconst d_SU_holdingAt_95 ?_
              refine zz_iorL (r := 20) d_SU_holdingAt_96 (by decide) ?_
              refine ab_istore_n d_SU_holdingAt_97 (Nat.le_of_ble_eq_true rfl) (Nat.le_of_ble_eq_true rfl) rfl ?_
              change ab_W _ _ _ G 98 [some (vR s), some (vz p), some (vz 20)] [] _
              refine ab_iload_n d_SU_holdingAt_98 rfl ?_
              refine zz_iret rfl d_SU_holdingAt_99 ?_
              rw [hQ]; exact ⟨_, rfl, rfl, (by exact hok_mk (a := False) ⟨False.elim, fun h => hq3 h⟩ (b := True) ⟨fun _ => hq86, fun _ => trivial⟩ (by decide) (by omega) (by omega) (by omega) (by omega) (by decide) (by decide))⟩
          · cases hv
            rw [hGe]
            change ab_W _ _ _ G 63 [some (vR s), some (vz p), some (vz 16)] [vz 0, vz 16] _
            refine zz_if_eq (tgt := 70) d_SU_holdingAt_63 (by decide) (by decide) (fun c102 => ?_) (fun c102 => absurd c102 (by decide))
            refine zz_iconst d_SU_holdingAt_70 ?_
            refine zz_iorL (r := 16) d_SU_holdingAt_71 (by decide) ?_
            refine ab_istore_n d_SU_holdingAt_72 (Nat.le_of_ble_eq_true rfl) (Nat.le_of_ble_eq_true rfl) rfl ?_
            change ab_W _ _ _ G 73 [some (vR s), some (vz p), some (vz 16)] [] _
            refine ab_iload_n d_SU_holdingAt_73 rfl ?_
            refine ab_iload_n d_SU_holdingAt_74 rfl ?_
            refine ab_aload_n d_SU_holdingAt_75 rfl ?_
            refine ab_getf (fs := [vR by_, vR co, vR re, vR ho, vz n]) f_SU_34 d_SU_holdingAt_76 hs.2.2 rfl ?_
            refine zz_icmp_eq (tgt := 90) d_SU_holdingAt_79 (by decide) (by omega) (by omega) (fun c103 => absurd c103 (by omega)) (fun c103 => ?_)
            refine ab_aload_n d_SU_holdingAt_82 rfl ?_
            refine ab_iload_n d_SU_holdingAt_83 rfl ?_
            refine ab_callV (d' := d - 1) (as := [vz p]) (st := [vz 16]) (r := _) (z_SU_isLineFeed (o := o) (s := s) (ls := 26) (by_ := by_) (lby := 27) (m := m) (f := f) (n := n) (co := co) (re := re) (ho := ho) (p := p) hs hby_ (by omega) hb) (fun oc G2 h => by rcases h with ⟨h, _⟩ | ⟨h, _⟩ <;> exact ⟨_, h⟩) (by omega) m_SU_isLineFeed ml_SU_69 im_SU_isLineFeed se_SU_isLineFeed c_SU hs.2.2 (Nat.le_of_ble_eq_true rfl) d_SU_holdingAt_84 rfl ?_
            intro v G104 hq
            rcases hq with ⟨hv, hGe, hq105⟩ | ⟨hv, hGe, hq106⟩
            · cases hv
              rw [hGe]
              change ab_W _ _ _ G 87 [some (vR s), some (vz p), some (vz 16)] [vz 1, vz 16] _
              refine zz_if_eq (tgt := 95) d_SU_holdingAt_87 (by decide) (by decide) (fun c107 => absurd c107 (by decide)) (fun c107 => ?_)
              refine zz_bipush d_SU_holdingAt_90 (by decide) ?_
              refine ab_goto (tgt := 96) d_SU_holdingAt_92 (by decide) ?_
              refine zz_iorL (r := 24) d_SU_holdingAt_96 (by decide) ?_
              refine ab_istore_n d_SU_holdingAt_97 (Nat.le_of_ble_eq_true rfl) (Nat.le_of_ble_eq_true rfl) rfl ?_
              change ab_W _ _ _ G 98 [some (vR s), some (vz p), some (vz 24)] [] _
              refine ab_iload_n d_SU_holdingAt_98 rfl ?_
              refine zz_iret rfl d_SU_holdingAt_99 ?_
              rw [hQ]; exact ⟨_, rfl, rfl, (by exact hok_mk (a := False) ⟨False.elim, fun h => hq3 h⟩ (b := True) ⟨fun _ => hq86, fun _ => trivial⟩ (by decide) (by omega) (by omega) (by omega) (by omega) (by decide) (by decide))⟩
            · cases hv
              rw [hGe]
              change ab_W _ _ _ G 87 [some (vR s), some (vz p), some (vz 16)] [vz 0, vz 16] _
              refine zz_if_eq (tgt := 95) d_SU_holdingAt_87 (by decide) (by decide) (fun c108 => ?_) (fun c108 => absurd c108 (by decide))
              refine zz_iconst d_SU_holdingAt_95 ?_
              refine zz_iorL (r := 16) d_SU_holdingAt_96 (by decide) ?_
              refine ab_istore_n d_SU_holdingAt_97 (Nat.le_of_ble_eq_true rfl) (Nat.le_of_ble_eq_true rfl) rfl ?_
              change ab_W _ _ _ G 98 [some (vR s), some (vz p), some (vz 16)] [] _
              refine ab_iload_n d_SU_holdingAt_98 rfl ?_
              refine zz_iret rfl d_SU_holdingAt_99 ?_
              rw [hQ]; exact ⟨_, rfl, rfl, (by exact hok_mk (a := False) ⟨False.elim, fun h => hq3 h⟩ (b := True) ⟨fun _ => hq86, fun _ => trivial⟩ (by decide) (by omega) (by omega) (by omega) (by omega) (by decide) (by decide))⟩
        · refine zz_iconst d_SU_holdingAt_44 ?_
          refine ab_goto (tgt := 49) d_SU_holdingAt_45 (by decide) ?_
          refine zz_iorL (r := 18) d_SU_holdingAt_49 (by decide) ?_
          refine ab_istore_n d_SU_holdingAt_50 (Nat.le_of_ble_eq_true rfl) (Nat.le_of_ble_eq_true rfl) rfl ?_
          change ab_W _ _ _ G 51 [some (vR s), some (vz p), some (vz 18)] [] _
          refine ab_iload_n d_SU_holdingAt_51 rfl ?_
          refine ab_iload_n d_SU_holdingAt_52 rfl ?_
          refine zz_if_eq (tgt := 66) d_SU_holdingAt_53 (by decide) (by omega) (fun c109 => absurd c109 (by omega)) (fun c109 => ?_)
          refine ab_aload_n d_SU_holdingAt_56 rfl ?_
          refine ab_iload_n d_SU_holdingAt_57 rfl ?_
          refine zz_iconst d_SU_holdingAt_58 ?_
          refine zz_isub d_SU_holdingAt_59 ?_
          refine ab_callV (d' := d - 1) (as := [vz (p - 1)]) (st := [vz 18]) (r := _) (z_SU_isLineFeed (o := o) (s := s) (ls := 26) (by_ := by_) (lby := 27) (m := m) (f := f) (n := n) (co := co) (re := re) (ho := ho) (p := (p - 1)) hs hby_ (by omega) hb) (fun oc G2 h => by rcases h with ⟨h, _⟩ | ⟨h, _⟩ <;> exact ⟨_, h⟩) (by omega) m_SU_isLineFeed ml_SU_69 im_SU_isLineFeed se_SU_isLineFeed c_SU hs.2.2 (Nat.le_of_ble_eq_true rfl) d_SU_holdingAt_60 rfl ?_
          intro v G110 hq
          rcases hq with ⟨hv, hGe, hq111⟩ | ⟨hv, hGe, hq112⟩
          · cases hv
            rw [hGe]
            change ab_W _ _ _ G 63 [some (vR s), some (vz p), some (vz 18)] [vz 1, vz 18] _
            refine zz_if_eq (tgt := 70) d_SU_holdingAt_63 (by decide) (by decide) (fun c113 => absurd c113 (by decide)) (fun c113 => ?_)
            refine zz_iconst d_SU_holdingAt_66 ?_
            refine ab_goto (tgt := 71) d_SU_holdingAt_67 (by decide) ?_
            refine zz_iorL (r := 22) d_SU_holdingAt_71 (by decide) ?_
            refine ab_istore_n d_SU_holdingAt_72 (Nat.le_of_ble_eq_true rfl) (Nat.le_of_ble_eq_true rfl) rfl ?_
            change ab_W _ _ _ G 73 [some (vR s), some (vz p), some (vz 22)] [] _
            refine ab_iload_n d_SU_holdingAt_73 rfl ?_
            refine ab_iload_n d_SU_holdingAt_74 rfl ?_
            refine ab_aload_n d_SU_holdingAt_75 rfl ?_
            refine ab_getf (fs := [vR by_, vR co, vR re, vR ho, vz n]) f_SU_34 d_SU_holdingAt_76 hs.2.2 rfl ?_
            refine zz_icmp_eq (tgt := 90) d_SU_holdingAt_79 (by decide) (by omega) (by omega) (fun c114 => ?_) (fun c114 => absurd c114 (by omega))
            refine zz_bipush d_SU_holdingAt_90 (by decide) ?_
            refine ab_goto (tgt := 96) d_SU_holdingAt_92 (by decide) ?_
            refine zz_iorL (r := 30) d_SU_holdingAt_96 (by decide) ?_
            refine ab_istore_n d_SU_holdingAt_97 (Nat.le_of_ble_eq_true rfl) (Nat.le_of_ble_eq_true rfl) rfl ?_
            change ab_W _ _ _ G 98 [some (vR s), some (vz p), some (vz 30)] [] _
            refine ab_iload_n d_SU_holdingAt_98 rfl ?_
            refine zz_iret rfl d_SU_holdingAt_99 ?_
            rw [hQ]; exact ⟨_, rfl, rfl, (by exact hok_mk (a := False) ⟨False.elim, fun h => hq3 h⟩ (b := True) ⟨fun _ => hq86, fun _ => trivial⟩ (by decide) (by omega) (by omega) (by omega) (by omega) (by decide) (by decide))⟩
          · cases hv
            rw [hGe]
            change ab_W _ _ _ G 63 [some (vR s), some (vz p), some (vz 18)] [vz 0, vz 18] _
            refine zz_if_eq (tgt := 70) d_SU_holdingAt_63 (by decide) (by decide) (fun c115 => ?_) (fun c115 => absurd c115 (by decide))
            refine zz_iconst d_SU_holdingAt_70 ?_
            refine zz_iorL (r := 18) d_SU_holdingAt_71 (by decide) ?_
            refine ab_istore_n d_SU_holdingAt_72 (Nat.le_of_ble_eq_true rfl) (Nat.le_of_ble_eq_true rfl) rfl ?_
            change ab_W _ _ _ G 73 [some (vR s), some (vz p), some (vz 18)] [] _
            refine ab_iload_n d_SU_holdingAt_73 rfl ?_
            refine ab_iload_n d_SU_holdingAt_74 rfl ?_
            refine ab_aload_n d_SU_holdingAt_75 rfl ?_
            refine ab_getf (fs := [vR by_, vR co, vR re, vR ho, vz n]) f_SU_34 d_SU_holdingAt_76 hs.2.2 rfl ?_
            refine zz_icmp_eq (tgt := 90) d_SU_holdingAt_79 (by decide) (by omega) (by omega) (fun c116 => ?_) (fun c116 => absurd c116 (by omega))
            refine zz_bipush d_SU_holdingAt_90 (by decide) ?_
            refine ab_goto (tgt := 96) d_SU_holdingAt_92 (by decide) ?_
            refine zz_iorL (r := 26) d_SU_holdingAt_96 (by decide) ?_
            refine ab_istore_n d_SU_holdingAt_97 (Nat.le_of_ble_eq_true rfl) (Nat.le_of_ble_eq_true rfl) rfl ?_
            change ab_W _ _ _ G 98 [some (vR s), some (vz p), some (vz 26)] [] _
            refine ab_iload_n d_SU_holdingAt_98 rfl ?_
            refine zz_iret rfl d_SU_holdingAt_99 ?_
            rw [hQ]; exact ⟨_, rfl, rfl, (by exact hok_mk (a := False) ⟨False.elim, fun h => hq3 h⟩ (b := True) ⟨fun _ => hq86, fun _ => trivial⟩ (by decide) (by omega) (by omega) (by omega) (by omega) (by decide) (by decide))⟩
      · refine zz_iconst d_SU_holdingAt_28 ?_
        refine ab_goto (tgt := 33) d_SU_holdingAt_29 (by decide) ?_
        refine zz_iorL (r := 17) d_SU_holdingAt_33 (by decide) ?_
        refine ab_istore_n d_SU_holdingAt_34 (Nat.le_of_ble_eq_true rfl) (Nat.le_of_ble_eq_true rfl) rfl ?_
        change ab_W _ _ _ G 35 [some (vR s), some (vz p), some (vz 17)] [] _
        refine ab_iload_n d_SU_holdingAt_35 rfl ?_
        refine ab_iload_n d_SU_holdingAt_36 rfl ?_
        refine ab_aload_n d_SU_holdingAt_37 rfl ?_
        refine ab_getf (fs := [vR by_, vR co, vR re, vR ho, vz n]) f_SU_34 d_SU_holdingAt_38 hs.2.2 rfl ?_
        refine zz_icmp_ne (tgt := 48) d_SU_holdingAt_41 (by decide) (by omega) (by omega) (fun c117 => ?_) (fun c117 => ?_)
        · refine zz_iconst d_SU_holdingAt_48 ?_
          refine zz_iorL (r := 17) d_SU_holdingAt_49 (by decide) ?_
          refine ab_istore_n d_SU_holdingAt_50 (Nat.le_of_ble_eq_true rfl) (Nat.le_of_ble_eq_true rfl) rfl ?_
          change ab_W _ _ _ G 51 [some (vR s), some (vz p), some (vz 17)] [] _
          refine ab_iload_n d_SU_holdingAt_51 rfl ?_
          refine ab_iload_n d_SU_holdingAt_52 rfl ?_
          refine zz_if_eq (tgt := 66) d_SU_holdingAt_53 (by decide) (by omega) (fun c118 => ?_) (fun c118 => absurd c118 (by omega))
          refine zz_iconst d_SU_holdingAt_66 ?_
          refine ab_goto (tgt := 71) d_SU_holdingAt_67 (by decide) ?_
          refine zz_iorL (r := 21) d_SU_holdingAt_71 (by decide) ?_
          refine ab_istore_n d_SU_holdingAt_72 (Nat.le_of_ble_eq_true rfl) (Nat.le_of_ble_eq_true rfl) rfl ?_
          change ab_W _ _ _ G 73 [some (vR s), some (vz p), some (vz 21)] [] _
          refine ab_iload_n d_SU_holdingAt_73 rfl ?_
          refine ab_iload_n d_SU_holdingAt_74 rfl ?_
          refine ab_aload_n d_SU_holdingAt_75 rfl ?_
          refine ab_getf (fs := [vR by_, vR co, vR re, vR ho, vz n]) f_SU_34 d_SU_holdingAt_76 hs.2.2 rfl ?_
          refine zz_icmp_eq (tgt := 90) d_SU_holdingAt_79 (by decide) (by omega) (by omega) (fun c119 => absurd c119 (by omega)) (fun c119 => ?_)
          refine ab_aload_n d_SU_holdingAt_82 rfl ?_
          refine ab_iload_n d_SU_holdingAt_83 rfl ?_
          refine ab_callV (d' := d - 1) (as := [vz p]) (st := [vz 21]) (r := _) (z_SU_isLineFeed (o := o) (s := s) (ls := 26) (by_ := by_) (lby := 27) (m := m) (f := f) (n := n) (co := co) (re := re) (ho := ho) (p := p) hs hby_ (by omega) hb) (fun oc G2 h => by rcases h with ⟨h, _⟩ | ⟨h, _⟩ <;> exact ⟨_, h⟩) (by omega) m_SU_isLineFeed ml_SU_69 im_SU_isLineFeed se_SU_isLineFeed c_SU hs.2.2 (Nat.le_of_ble_eq_true rfl) d_SU_holdingAt_84 rfl ?_
          intro v G120 hq
          rcases hq with ⟨hv, hGe, hq121⟩ | ⟨hv, hGe, hq122⟩
          · cases hv
            rw [hGe]
            change ab_W _ _ _ G 87 [some (vR s), some (vz p), some (vz 21)] [vz 1, vz 21] _
            refine zz_if_eq (tgt := 95) d_SU_holdingAt_87 (by decide) (by decide) (fun c123 => absurd c123 (by decide)) (fun c123 => ?_)
            refine zz_bipush d_SU_holdingAt_90 (by decide) ?_
            refine ab_goto (tgt := 96) d_SU_holdingAt_92 (by decide) ?_
            refine zz_iorL (r := 29) d_SU_holdingAt_96 (by decide) ?_
            refine ab_istore_n d_SU_holdingAt_97 (Nat.le_of_ble_eq_true rfl) (Nat.le_of_ble_eq_true rfl) rfl ?_
            change ab_W _ _ _ G 98 [some (vR s), some (vz p), some (vz 29)] [] _
            refine ab_iload_n d_SU_holdingAt_98 rfl ?_
            refine zz_iret rfl d_SU_holdingAt_99 ?_
            rw [hQ]; exact ⟨_, rfl, rfl, (by exact hok_mk (a := False) ⟨False.elim, fun h => hq3 h⟩ (b := True) ⟨fun _ => hq86, fun _ => trivial⟩ (by decide) (by omega) (by omega) (by omega) (by omega) (by decide) (by decide))⟩
          · cases hv
            rw [hGe]
            change ab_W _ _ _ G 87 [some (vR s), some (vz p), some (vz 21)] [vz 0, vz 21] _
            refine zz_if_eq (tgt := 95) d_SU_holdingAt_87 (by decide) (by decide) (fun c124 => ?_) (fun c124 => absurd c124 (by decide))
            refine zz_iconst d_SU_holdingAt_95 ?_
            refine zz_iorL (r := 21) d_SU_holdingAt_96 (by decide) ?_
            refine ab_istore_n d_SU_holdingAt_97 (Nat.le_of_ble_eq_true rfl) (Nat.le_of_ble_eq_true rfl) rfl ?_
            change ab_W _ _ _ G 98 [some (vR s), some (vz p), some (vz 21)] [] _
            refine ab_iload_n d_SU_holdingAt_98 rfl ?_
            refine zz_iret rfl d_SU_holdingAt_99 ?_
            rw [hQ]; exact ⟨_, rfl, rfl, (by exact hok_mk (a := False) ⟨False.elim, fun h => hq3 h⟩ (b := True) ⟨fun _ => hq86, fun _ => trivial⟩ (by decide) (by omega) (by omega) (by omega) (by omega) (by decide) (by decide))⟩
        · refine zz_iconst d_SU_holdingAt_44 ?_
          refine ab_goto (tgt := 49) d_SU_holdingAt_45 (by decide) ?_
          refine zz_iorL (r := 19) d_SU_holdingAt_49 (by decide) ?_
          refine ab_istore_n d_SU_holdingAt_50 (Nat.le_of_ble_eq_true rfl) (Nat.le_of_ble_eq_true rfl) rfl ?_
          change ab_W _ _ _ G 51 [some (vR s), some (vz p), some (vz 19)] [] _
          refine ab_iload_n d_SU_holdingAt_51 rfl ?_
          refine ab_iload_n d_SU_holdingAt_52 rfl ?_
          refine zz_if_eq (tgt := 66) d_SU_holdingAt_53 (by decide) (by omega) (fun c125 => ?_) (fun c125 => absurd c125 (by omega))
          refine zz_iconst d_SU_holdingAt_66 ?_
          refine ab_goto (tgt := 71) d_SU_holdingAt_67 (by decide) ?_
          refine zz_iorL (r := 23) d_SU_holdingAt_71 (by decide) ?_
          refine ab_istore_n d_SU_holdingAt_72 (Nat.le_of_ble_eq_true rfl) (Nat.le_of_ble_eq_true rfl) rfl ?_
          change ab_W _ _ _ G 73 [some (vR s), some (vz p), some (vz 23)] [] _
          refine ab_iload_n d_SU_holdingAt_73 rfl ?_
          refine ab_iload_n d_SU_holdingAt_74 rfl ?_
          refine ab_aload_n d_SU_holdingAt_75 rfl ?_
          refine ab_getf (fs := [vR by_, vR co, vR re, vR ho, vz n]) f_SU_34 d_SU_holdingAt_76 hs.2.2 rfl ?_
          refine zz_icmp_eq (tgt := 90) d_SU_holdingAt_79 (by decide) (by omega) (by omega) (fun c126 => ?_) (fun c126 => absurd c126 (by omega))
          refine zz_bipush d_SU_holdingAt_90 (by decide) ?_
          refine ab_goto (tgt := 96) d_SU_holdingAt_92 (by decide) ?_
          refine zz_iorL (r := 31) d_SU_holdingAt_96 (by decide) ?_
          refine ab_istore_n d_SU_holdingAt_97 (Nat.le_of_ble_eq_true rfl) (Nat.le_of_ble_eq_true rfl) rfl ?_
          change ab_W _ _ _ G 98 [some (vR s), some (vz p), some (vz 31)] [] _
          refine ab_iload_n d_SU_holdingAt_98 rfl ?_
          refine zz_iret rfl d_SU_holdingAt_99 ?_
          rw [hQ]; exact ⟨_, rfl, rfl, (by exact hok_mk (a := False) ⟨False.elim, fun h => hq3 h⟩ (b := True) ⟨fun _ => hq86, fun _ => trivial⟩ (by decide) (by omega) (by omega) (by omega) (by omega) (by decide) (by decide))⟩
    · cases hv
      rw [hGe]
      change ab_W _ _ _ G 12 [some (vR s), some (vz p), none] [vz 0, vz 0] _
      refine zz_icmp_eq (tgt := 20) d_SU_holdingAt_12 (by decide) (by decide) (by decide) (fun c127 => ?_) (fun c127 => absurd c127 (by decide))
      refine zz_bipush d_SU_holdingAt_20 (by decide) ?_
      refine ab_istore_n d_SU_holdingAt_22 (Nat.le_of_ble_eq_true rfl) (Nat.le_of_ble_eq_true rfl) rfl ?_
      change ab_W _ _ _ G 23 [some (vR s), some (vz p), some (vz 32)] [] _
      refine ab_iload_n d_SU_holdingAt_23 rfl ?_
      refine ab_iload_n d_SU_holdingAt_24 rfl ?_
      refine zz_if_ne (tgt := 32) d_SU_holdingAt_25 (by decide) (by omega) (fun c128 => ?_) (fun c128 => ?_)
      · refine zz_iconst d_SU_holdingAt_32 ?_
        refine zz_iorL (r := 32) d_SU_holdingAt_33 (by decide) ?_
        refine ab_istore_n d_SU_holdingAt_34 (Nat.le_of_ble_eq_true rfl) (Nat.le_of_ble_eq_true rfl) rfl ?_
        change ab_W _ _ _ G 35 [some (vR s), some (vz p), some (vz 32)] [] _
        refine ab_iload_n d_SU_holdingAt_35 rfl ?_
        refine ab_iload_n d_SU_holdingAt_36 rfl ?_
        refine ab_aload_n d_SU_holdingAt_37 rfl ?_
        refine ab_getf (fs := [vR by_, vR co, vR re, vR ho, vz n]) f_SU_34 d_SU_holdingAt_38 hs.2.2 rfl ?_
        refine zz_icmp_ne (tgt := 48) d_SU_holdingAt_41 (by decide) (by omega) (by omega) (fun c129 => ?_) (fun c129 => ?_)
        · refine zz_iconst d_SU_holdingAt_48 ?_
          refine zz_iorL (r := 32) d_SU_holdingAt_49 (by decide) ?_
          refine ab_istore_n d_SU_holdingAt_50 (Nat.le_of_ble_eq_true rfl) (Nat.le_of_ble_eq_true rfl) rfl ?_
          change ab_W _ _ _ G 51 [some (vR s), some (vz p), some (vz 32)] [] _
          refine ab_iload_n d_SU_holdingAt_51 rfl ?_
          refine ab_iload_n d_SU_holdingAt_52 rfl ?_
          refine zz_if_eq (tgt := 66) d_SU_holdingAt_53 (by decide) (by omega) (fun c130 => absurd c130 (by omega)) (fun c130 => ?_)
          refine ab_aload_n d_SU_holdingAt_56 rfl ?_
          refine ab_iload_n d_SU_holdingAt_57 rfl ?_
          refine zz_iconst d_SU_holdingAt_58 ?_
          refine zz_isub d_SU_holdingAt_59 ?_
          refine ab_callV (d' := d - 1) (as := [vz (p - 1)]) (st := [vz 32]) (r := _) (z_SU_isLineFeed (o := o) (s := s) (ls := 26) (by_ := by_) (lby := 27) (m := m) (f := f) (n := n) (co := co) (re := re) (ho := ho) (p := (p - 1)) hs hby_ (by omega) hb) (fun oc G2 h => by rcases h with ⟨h, _⟩ | ⟨h, _⟩ <;> exact ⟨_, h⟩) (by omega) m_SU_isLineFeed ml_SU_69 im_SU_isLineFeed se_SU_isLineFeed c_SU hs.2.2 (Nat.le_of_ble_eq_true rfl) d_SU_holdingAt_60 rfl ?_
          intro v G131 hq
          rcases hq with ⟨hv, hGe, hq132⟩ | ⟨hv, hGe, hq133⟩
          · cases hv
            rw [hGe]
            change ab_W _ _ _ G 63 [some (vR s), some (vz p), some (vz 32)] [vz 1, vz 32] _
            refine zz_if_eq (tgt := 70) d_SU_holdingAt_63 (by decide) (by decide) (fun c134 => absurd c134 (by decide)) (fun c134 => ?_)
            refine zz_iconst d_SU_holdingAt_66 ?_
            refine ab_goto (tgt := 71) d_SU_holdingAt_67 (by decide) ?_
            refine zz_iorL (r := 36) d_SU_holdingAt_71 (by decide) ?_
            refine ab_istore_n d_SU_holdingAt_72 (Nat.le_of_ble_eq_true rfl) (Nat.le_of_ble_eq_true rfl) rfl ?_
            change ab_W _ _ _ G 73 [some (vR s), some (vz p), some (vz 36)] [] _
            refine ab_iload_n d_SU_holdingAt_73 rfl ?_
            refine ab_iload_n d_SU_holdingAt_74 rfl ?_
            refine ab_aload_n d_SU_holdingAt_75 rfl ?_
            refine ab_getf (fs := [vR by_, vR co, vR re, vR ho, vz n]) f_SU_34 d_SU_holdingAt_76 hs.2.2 rfl ?_
            refine zz_icmp_eq (tgt := 90) d_SU_holdingAt_79 (by decide) (by omega) (by omega) (fun c135 => absurd c135 (by omega)) (fun c135 => ?_)
            refine ab_aload_n d_SU_holdingAt_82 rfl ?_
            refine ab_iload_n d_SU_holdingAt_83 rfl ?_
            refine ab_callV (d' := d - 1) (as := [vz p]) (st := [vz 36]) (r := _) (z_SU_isLineFeed (o := o) (s := s) (ls := 26) (by_ := by_) (lby := 27) (m := m) (f := f) (n := n) (co := co) (re := re) (ho := ho) (p := p) hs hby_ (by omega) hb) (fun oc G2 h => by rcases h with ⟨h, _⟩ | ⟨h, _⟩ <;> exact ⟨_, h⟩) (by omega) m_SU_isLineFeed ml_SU_69 im_SU_isLineFeed se_SU_isLineFeed c_SU hs.2.2 (Nat.le_of_ble_eq_true rfl) d_SU_holdingAt_84 rfl ?_
            intro v G136 hq
            rcases hq with ⟨hv, hGe, hq137⟩ | ⟨hv, hGe, hq138⟩
            · cases hv
              rw [hGe]
              change ab_W _ _ _ G 87 [some (vR s), some (vz p), some (vz 36)] [vz 1, vz 36] _
              refine zz_if_eq (tgt := 95) d_SU_holdingAt_87 (by decide) (by decide) (fun c139 => absurd c139 (by decide)) (fun c139 => ?_)
              refine zz_bipush d_SU_holdingAt_90 (by decide) ?_
              refine ab_goto (tgt := 96) d_SU_holdingAt_92 (by decide) ?_
              refine zz_iorL (r := 44) d_SU_holdingAt_96 (by decide) ?_
              refine ab_istore_n d_SU_holdingAt_97 (Nat.le_of_ble_eq_true rfl) (Nat.le_of_ble_eq_true rfl) rfl ?_
              change ab_W _ _ _ G 98 [some (vR s), some (vz p), some (vz 44)] [] _
              refine ab_iload_n d_SU_holdingAt_98 rfl ?_
              refine zz_iret rfl d_SU_holdingAt_99 ?_
              rw [hQ]; exact ⟨_, rfl, rfl, (by exact hok_mk (a := False) ⟨False.elim, fun h => hq3 h⟩ (b := False) ⟨False.elim, fun h => hq87 h⟩ (by decide) (by omega) (by omega) (by omega) (by omega) (by decide) (by decide))⟩
            · cases hv
              rw [hGe]
              change ab_W _ _ _ G 87 [some (vR s), some (vz p), some (vz 36)] [vz 0, vz 36] _
              refine zz_if_eq (tgt := 95) d_SU_holdingAt_87 (by decide) (by decide) (fun c140 => ?_) (fun c140 => absurd c140 (by decide))
              refine zz_iconst d_SU_holdingAt_95 ?_
              refine zz_iorL (r := 36) d_SU_holdingAt_96 (by decide) ?_
              refine ab_istore_n d_SU_holdingAt_97 (Nat.le_of_ble_eq_true rfl) (Nat.le_of_ble_eq_true rfl) rfl ?_
              change ab_W _ _ _ G 98 [some (vR s), some (vz p), some (vz 36)] [] _
              refine ab_iload_n d_SU_holdingAt_98 rfl ?_
              refine zz_iret rfl d_SU_holdingAt_99 ?_
              rw [hQ]; exact ⟨_, rfl, rfl, (by exact hok_mk (a := False) ⟨False.elim, fun h => hq3 h⟩ (b := False) ⟨False.elim, fun h => hq87 h⟩ (by decide) (by omega) (by omega) (by omega) (by omega) (by decide) (by decide))⟩
          · cases hv
            rw [hGe]
            change ab_W _ _ _ G 63 [some (vR s), some (vz p), some (vz 32)] [vz 0, vz 32] _
            refine zz_if_eq (tgt := 70) d_SU_holdingAt_63 (by decide) (by decide) (fun c141 => ?_) (fun c141 => absurd c141 (by decide))
            refine zz_iconst d_SU_holdingAt_70 ?_
            refine zz_iorL (r := 32) d_SU_holdingAt_71 (by decide) ?_
            refine ab_istore_n d_SU_holdingAt_72 (Nat.le_of_ble_eq_true rfl) (Nat.le_of_ble_eq_true rfl) rfl ?_
            change ab_W _ _ _ G 73 [some (vR s), some (vz p), some (vz 32)] [] _
            refine ab_iload_n d_SU_holdingAt_73 rfl ?_
            refine ab_iload_n d_SU_holdingAt_74 rfl ?_
            refine ab_aload_n d_SU_holdingAt_75 rfl ?_
            refine ab_getf (fs := [vR by_, vR co, vR re, vR ho, vz n]) f_SU_34 d_SU_holdingAt_76 hs.2.2 rfl ?_
            refine zz_icmp_eq (tgt := 90) d_SU_holdingAt_79 (by decide) (by omega) (by omega) (fun c142 => absurd c142 (by omega)) (fun c142 => ?_)
            refine ab_aload_n d_SU_holdingAt_82 rfl ?_
            refine ab_iload_n d_SU_holdingAt_83 rfl ?_
            refine ab_callV (d' := d - 1) (as := [vz p]) (st := [vz 32]) (r := _) (z_SU_isLineFeed (o := o) (s := s) (ls := 26) (by_ := by_) (lby := 27) (m := m) (f := f) (n := n) (co := co) (re := re) (ho := ho) (p := p) hs hby_ (by omega) hb) (fun oc G2 h => by rcases h with ⟨h, _⟩ | ⟨h, _⟩ <;> exact ⟨_, h⟩) (by omega) m_SU_isLineFeed ml_SU_69 im_SU_isLineFeed se_SU_isLineFeed c_SU hs.2.2 (Nat.le_of_ble_eq_true rfl) d_SU_holdingAt_84 rfl ?_
            intro v G143 hq
            rcases hq with ⟨hv, hGe, hq144⟩ | ⟨hv, hGe, hq145⟩
            · cases hv
              rw [hGe]
              change ab_W _ _ _ G 87 [some (vR s), some (vz p), some (vz 32)] [vz 1, vz 32] _
              refine zz_if_eq (tgt := 95) d_SU_holdingAt_87 (by decide) (by decide) (fun c146 => absurd c146 (by decide)) (fun c146 => ?_)
              refine zz_bipush d_SU_holdingAt_90 (by decide) ?_
              refine ab_goto (tgt := 96) d_SU_holdingAt_92 (by decide) ?_
              refine zz_iorL (r := 40) d_SU_holdingAt_96 (by decide) ?_
              refine ab_istore_n d_SU_holdingAt_97 (Nat.le_of_ble_eq_true rfl) (Nat.le_of_ble_eq_true rfl) rfl ?_
              change ab_W _ _ _ G 98 [some (vR s), some (vz p), some (vz 40)] [] _
              refine ab_iload_n d_SU_holdingAt_98 rfl ?_
              refine zz_iret rfl d_SU_holdingAt_99 ?_
              rw [hQ]; exact ⟨_, rfl, rfl, (by exact hok_mk (a := False) ⟨False.elim, fun h => hq3 h⟩ (b := False) ⟨False.elim, fun h => hq87 h⟩ (by decide) (by omega) (by omega) (by omega) (by omega) (by decide) (by decide))⟩
            · cases hv
              rw [hGe]
              change ab_W _ _ _ G 87 [some (vR s), some (vz p), some (vz 32)] [vz 0, vz 32] _
              refine zz_if_eq (tgt := 95) d_SU_holdingAt_87 (by decide) (by decide) (fun c147 => ?_) (fun c147 => absurd c147 (by decide))
              refine zz_iconst d_SU_holdingAt_95 ?_
              refine zz_iorL (r := 32) d_SU_holdingAt_96 (by decide) ?_
              refine ab_istore_n d_SU_holdingAt_97 (Nat.le_of_ble_eq_true rfl) (Nat.le_of_ble_eq_true rfl) rfl ?_
              change ab_W _ _ _ G 98 [some (vR s), some (vz p), some (vz 32)] [] _
              refine ab_iload_n d_SU_holdingAt_98 rfl ?_
              refine zz_iret rfl d_SU_holdingAt_99 ?_
              rw [hQ]; exact ⟨_, rfl, rfl, (by exact hok_mk (a := False) ⟨False.elim, fun h => hq3 h⟩ (b := False) ⟨False.elim, fun h => hq87 h⟩ (by decide) (by omega) (by omega) (by omega) (by omega) (by decide) (by decide))⟩
        · refine zz_iconst d_SU_holdingAt_44 ?_
          refine ab_goto (tgt := 49) d_SU_holdingAt_45 (by decide) ?_
          refine zz_iorL (r := 34) d_SU_holdingAt_49 (by decide) ?_
          refine ab_istore_n d_SU_holdingAt_50 (Nat.le_of_ble_eq_true rfl) (Nat.le_of_ble_eq_true rfl) rfl ?_
          change ab_W _ _ _ G 51 [some (vR s), some (vz p), some (vz 34)] [] _
          refine ab_iload_n d_SU_holdingAt_51 rfl ?_
          refine ab_iload_n d_SU_holdingAt_52 rfl ?_
          refine zz_if_eq (tgt := 66) d_SU_holdingAt_53 (by decide) (by omega) (fun c148 => absurd c148 (by omega)) (fun c148 => ?_)
          refine ab_aload_n d_SU_holdingAt_56 rfl ?_
          refine ab_iload_n d_SU_holdingAt_57 rfl ?_
          refine zz_iconst d_SU_holdingAt_58 ?_
          refine zz_isub d_SU_holdingAt_59 ?_
          refine ab_callV (d' := d - 1) (as := [vz (p - 1)]) (st := [vz 34]) (r := _) (z_SU_isLineFeed (o := o) (s := s) (ls := 26) (by_ := by_) (lby := 27) (m := m) (f := f) (n := n) (co := co) (re := re) (ho := ho) (p := (p - 1)) hs hby_ (by omega) hb) (fun oc G2 h => by rcases h with ⟨h, _⟩ | ⟨h, _⟩ <;> exact ⟨_, h⟩) (by omega) m_SU_isLineFeed ml_SU_69 im_SU_isLineFeed se_SU_isLineFeed c_SU hs.2.2 (Nat.le_of_ble_eq_true rfl) d_SU_holdingAt_60 rfl ?_
          intro v G149 hq
          rcases hq with ⟨hv, hGe, hq150⟩ | ⟨hv, hGe, hq151⟩
          · cases hv
            rw [hGe]
            change ab_W _ _ _ G 63 [some (vR s), some (vz p), some (vz 34)] [vz 1, vz 34] _
            refine zz_if_eq (tgt := 70) d_SU_holdingAt_63 (by decide) (by decide) (fun c152 => absurd c152 (by decide)) (fun c152 => ?_)
            refine zz_iconst d_SU_holdingAt_66 ?_
            refine ab_goto (tgt := 71) d_SU_holdingAt_67 (by decide) ?_
            refine zz_iorL (r := 38) d_SU_holdingAt_71 (by decide) ?_
            refine ab_istore_n d_SU_holdingAt_72 (Nat.le_of_ble_eq_true rfl) (Nat.le_of_ble_eq_true rfl) rfl ?_
            change ab_W _ _ _ G 73 [some (vR s), some (vz p), some (vz 38)] [] _
            refine ab_iload_n d_SU_holdingAt_73 rfl ?_
            refine ab_iload_n d_SU_holdingAt_74 rfl ?_
            refine ab_aload_n d_SU_holdingAt_75 rfl ?_
            refine ab_getf (fs := [vR by_, vR co, vR re, vR ho, vz n]) f_SU_34 d_SU_holdingAt_76 hs.2.2 rfl ?_
            refine zz_icmp_eq (tgt := 90) d_SU_holdingAt_79 (by decide) (by omega) (by omega) (fun c153 => ?_) (fun c153 => absurd c153 (by omega))
            refine zz_bipush d_SU_holdingAt_90 (by decide) ?_
            refine ab_goto (tgt := 96) d_SU_holdingAt_92 (by decide) ?_
            refine zz_iorL (r := 46) d_SU_holdingAt_96 (by decide) ?_
            refine ab_istore_n d_SU_holdingAt_97 (Nat.le_of_ble_eq_true rfl) (Nat.le_of_ble_eq_true rfl) rfl ?_
            change ab_W _ _ _ G 98 [some (vR s), some (vz p), some (vz 46)] [] _
            refine ab_iload_n d_SU_holdingAt_98 rfl ?_
            refine zz_iret rfl d_SU_holdingAt_99 ?_
            rw [hQ]; exact ⟨_, rfl, rfl, (by exact hok_mk (a := False) ⟨False.elim, fun h => hq3 h⟩ (b := False) ⟨False.elim, fun h => hq87 h⟩ (by decide) (by omega) (by omega) (by omega) (by omega) (by decide) (by decide))⟩
          · cases hv
            rw [hGe]
            change ab_W _ _ _ G 63 [some (vR s), some (vz p), some (vz 34)] [vz 0, vz 34] _
            refine zz_if_eq (tgt := 70) d_SU_holdingAt_63 (by decide) (by decide) (fun c154 => ?_) (fun c154 => absurd c154 (by decide))
            refine zz_iconst d_SU_holdingAt_70 ?_
            refine zz_iorL (r := 34) d_SU_holdingAt_71 (by decide) ?_
            refine ab_istore_n d_SU_holdingAt_72 (Nat.le_of_ble_eq_true rfl) (Nat.le_of_ble_eq_true rfl) rfl ?_
            change ab_W _ _ _ G 73 [some (vR s), some (vz p), some (vz 34)] [] _
            refine ab_iload_n d_SU_holdingAt_73 rfl ?_
            refine ab_iload_n d_SU_holdingAt_74 rfl ?_
            refine ab_aload_n d_SU_holdingAt_75 rfl ?_
            refine ab_getf (fs := [vR by_, vR co, vR re, vR ho, vz n]) f_SU_34 d_SU_holdingAt_76 hs.2.2 rfl ?_
            refine zz_icmp_eq (tgt := 90) d_SU_holdingAt_79 (by decide) (by omega) (by omega) (fun c155 => ?_) (fun c155 => absurd c155 (by omega))
            refine zz_bipush d_SU_holdingAt_90 (by decide) ?_
            refine ab_goto (tgt := 96) d_SU_holdingAt_92 (by decide) ?_
            refine zz_iorL (r := 42) d_SU_holdingAt_96 (by decide) ?_
            refine ab_istore_n d_SU_holdingAt_97 (Nat.le_of_ble_eq_true rfl) (Nat.le_of_ble_eq_true rfl) rfl ?_
            change ab_W _ _ _ G 98 [some (vR s), some (vz p), some (vz 42)] [] _
            refine ab_iload_n d_SU_holdingAt_98 rfl ?_
            refine zz_iret rfl d_SU_holdingAt_99 ?_
            rw [hQ]; exact ⟨_, rfl, rfl, (by exact hok_mk (a := False) ⟨False.elim, fun h => hq3 h⟩ (b := False) ⟨False.elim, fun h => hq87 h⟩ (by decide) (by omega) (by omega) (by omega) (by omega) (by decide) (by decide))⟩
      · refine zz_iconst d_SU_holdingAt_28 ?_
        refine ab_goto (tgt := 33) d_SU_holdingAt_29 (by decide) ?_
        refine zz_iorL (r := 33) d_SU_holdingAt_33 (by decide) ?_
        refine ab_istore_n d_SU_holdingAt_34 (Nat.le_of_ble_eq_true rfl) (Nat.le_of_ble_eq_true rfl) rfl ?_
        change ab_W _ _ _ G 35 [some (vR s), some (vz p), some (vz 33)] [] _
        refine ab_iload_n d_SU_holdingAt_35 rfl ?_
        refine ab_iload_n d_SU_holdingAt_36 rfl ?_
        refine ab_aload_n d_SU_holdingAt_37 rfl ?_
        refine ab_getf (fs := [vR by_, vR co, vR re, vR ho, vz n]) f_SU_34 d_SU_holdingAt_38 hs.2.2 rfl ?_
        refine zz_icmp_ne (tgt := 48) d_SU_holdingAt_41 (by decide) (by omega) (by omega) (fun c156 => ?_) (fun c156 => ?_)
        · refine zz_iconst d_SU_holdingAt_48 ?_
          refine zz_iorL (r := 33) d_SU_holdingAt_49 (by decide) ?_
          refine ab_istore_n d_SU_holdingAt_50 (Nat.le_of_ble_eq_true rfl) (Nat.le_of_ble_eq_true rfl) rfl ?_
          change ab_W _ _ _ G 51 [some (vR s), some (vz p), some (vz 33)] [] _
          refine ab_iload_n d_SU_holdingAt_51 rfl ?_
          refine ab_iload_n d_SU_holdingAt_52 rfl ?_
          refine zz_if_eq (tgt := 66) d_SU_holdingAt_53 (by decide) (by omega) (fun c157 => ?_) (fun c157 => absurd c157 (by omega))
          refine zz_iconst d_SU_holdingAt_66 ?_
          refine ab_goto (tgt := 71) d_SU_holdingAt_67 (by decide) ?_
          refine zz_iorL (r := 37) d_SU_holdingAt_71 (by decide) ?_
          refine ab_istore_n d_SU_holdingAt_72 (Nat.le_of_ble_eq_true rfl) (Nat.le_of_ble_eq_true rfl) rfl ?_
          change ab_W _ _ _ G 73 [some (vR s), some (vz p), some (vz 37)] [] _
          refine ab_iload_n d_SU_holdingAt_73 rfl ?_
          refine ab_iload_n d_SU_holdingAt_74 rfl ?_
          refine ab_aload_n d_SU_holdingAt_75 rfl ?_
          refine ab_getf (fs := [vR by_, vR co, vR re, vR ho, vz n]) f_SU_34 d_SU_holdingAt_76 hs.2.2 rfl ?_
          refine zz_icmp_eq (tgt := 90) d_SU_holdingAt_79 (by decide) (by omega) (by omega) (fun c158 => absurd c158 (by omega)) (fun c158 => ?_)
          refine ab_aload_n d_SU_holdingAt_82 rfl ?_
          refine ab_iload_n d_SU_holdingAt_83 rfl ?_
          refine ab_callV (d' := d - 1) (as := [vz p]) (st := [vz 37]) (r := _) (z_SU_isLineFeed (o := o) (s := s) (ls := 26) (by_ := by_) (lby := 27) (m := m) (f := f) (n := n) (co := co) (re := re) (ho := ho) (p := p) hs hby_ (by omega) hb) (fun oc G2 h => by rcases h with ⟨h, _⟩ | ⟨h, _⟩ <;> exact ⟨_, h⟩) (by omega) m_SU_isLineFeed ml_SU_69 im_SU_isLineFeed se_SU_isLineFeed c_SU hs.2.2 (Nat.le_of_ble_eq_true rfl) d_SU_holdingAt_84 rfl ?_
          intro v G159 hq
          rcases hq with ⟨hv, hGe, hq160⟩ | ⟨hv, hGe, hq161⟩
          · cases hv
            rw [hGe]
            change ab_W _ _ _ G 87 [some (vR s), some (vz p), some (vz 37)] [vz 1, vz 37] _
            refine zz_if_eq (tgt := 95) d_SU_holdingAt_87 (by decide) (by decide) (fun c162 => absurd c162 (by decide)) (fun c162 => ?_)
            refine zz_bipush d_SU_holdingAt_90 (by decide) ?_
            refine ab_goto (tgt := 96) d_SU_holdingAt_92 (by decide) ?_
            refine zz_iorL (r := 45) d_SU_holdingAt_96 (by decide) ?_
            refine ab_istore_n d_SU_holdingAt_97 (Nat.le_of_ble_eq_true rfl) (Nat.le_of_ble_eq_true rfl) rfl ?_
            change ab_W _ _ _ G 98 [some (vR s), some (vz p), some (vz 45)] [] _
            refine ab_iload_n d_SU_holdingAt_98 rfl ?_
            refine zz_iret rfl d_SU_holdingAt_99 ?_
            rw [hQ]; exact ⟨_, rfl, rfl, (by exact hok_mk (a := False) ⟨False.elim, fun h => hq3 h⟩ (b := False) ⟨False.elim, fun h => hq87 h⟩ (by decide) (by omega) (by omega) (by omega) (by omega) (by decide) (by decide))⟩
          · cases hv
            rw [hGe]
            change ab_W _ _ _ G 87 [some (vR s), some (vz p), some (vz 37)] [vz 0, vz 37] _
            refine zz_if_eq (tgt := 95) d_SU_holdingAt_87 (by decide) (by decide) (fun c163 => ?_) (fun c163 => absurd c163 (by decide))
            refine zz_iconst d_SU_holdingAt_95 ?_
            refine zz_iorL (r := 37) d_SU_holdingAt_96 (by decide) ?_
            refine ab_istore_n d_SU_holdingAt_97 (Nat.le_of_ble_eq_true rfl) (Nat.le_of_ble_eq_true rfl) rfl ?_
            change ab_W _ _ _ G 98 [some (vR s), some (vz p), some (vz 37)] [] _
            refine ab_iload_n d_SU_holdingAt_98 rfl ?_
            refine zz_iret rfl d_SU_holdingAt_99 ?_
            rw [hQ]; exact ⟨_, rfl, rfl, (by exact hok_mk (a := False) ⟨False.elim, fun h => hq3 h⟩ (b := False) ⟨False.elim, fun h => hq87 h⟩ (by decide) (by omega) (by omega) (by omega) (by omega) (by decide) (by decide))⟩
        · refine zz_iconst d_SU_holdingAt_44 ?_
          refine ab_goto (tgt := 49) d_SU_holdingAt_45 (by decide) ?_
          refine zz_iorL (r := 35) d_SU_holdingAt_49 (by decide) ?_
          refine ab_istore_n d_SU_holdingAt_50 (Nat.le_of_ble_eq_true rfl) (Nat.le_of_ble_eq_true rfl) rfl ?_
          change ab_W _ _ _ G 51 [some (vR s), some (vz p), some (vz 35)] [] _
          refine ab_iload_n d_SU_holdingAt_51 rfl ?_
          refine ab_iload_n d_SU_holdingAt_52 rfl ?_
          refine zz_if_eq (tgt := 66) d_SU_holdingAt_53 (by decide) (by omega) (fun c164 => ?_) (fun c164 => absurd c164 (by omega))
          refine zz_iconst d_SU_holdingAt_66 ?_
          refine ab_goto (tgt := 71) d_SU_holdingAt_67 (by decide) ?_
          refine zz_iorL (r := 39) d_SU_holdingAt_71 (by decide) ?_
          refine ab_istore_n d_SU_holdingAt_72 (Nat.le_of_ble_eq_true rfl) (Nat.le_of_ble_eq_true rfl) rfl ?_
          change ab_W _ _ _ G 73 [some (vR s), some (vz p), some (vz 39)] [] _
          refine ab_iload_n d_SU_holdingAt_73 rfl ?_
          refine ab_iload_n d_SU_holdingAt_74 rfl ?_
          refine ab_aload_n d_SU_holdingAt_75 rfl ?_
          refine ab_getf (fs := [vR by_, vR co, vR re, vR ho, vz n]) f_SU_34 d_SU_holdingAt_76 hs.2.2 rfl ?_
          refine zz_icmp_eq (tgt := 90) d_SU_holdingAt_79 (by decide) (by omega) (by omega) (fun c165 => ?_) (fun c165 => absurd c165 (by omega))
          refine zz_bipush d_SU_holdingAt_90 (by decide) ?_
          refine ab_goto (tgt := 96) d_SU_holdingAt_92 (by decide) ?_
          refine zz_iorL (r := 47) d_SU_holdingAt_96 (by decide) ?_
          refine ab_istore_n d_SU_holdingAt_97 (Nat.le_of_ble_eq_true rfl) (Nat.le_of_ble_eq_true rfl) rfl ?_
          change ab_W _ _ _ G 98 [some (vR s), some (vz p), some (vz 47)] [] _
          refine ab_iload_n d_SU_holdingAt_98 rfl ?_
          refine zz_iret rfl d_SU_holdingAt_99 ?_
          rw [hQ]; exact ⟨_, rfl, rfl, (by exact hok_mk (a := False) ⟨False.elim, fun h => hq3 h⟩ (b := False) ⟨False.elim, fun h => hq87 h⟩ (by decide) (by omega) (by omega) (by omega) (by omega) (by decide) (by decide))⟩
set_option maxRecDepth 100000 in
set_option maxHeartbeats 4000000 in
theorem z_SU_holds {X : ab_X} {d : Nat} {o : Nat → Nat} {G : ab_G} {s : Nat} {by_ : Nat} {co : Nat} {re : Nat} {ho : Nat} {n : Int} {f : Int → Int} {C : Int → Int} {Rs : Int → Int} {H : Int → Int} {m : Nat} {mc : Nat} {p : Int} {a : Int} (hs : cc o G s 26 (ab_ob 9 [vR by_, vR co, vR re, vR ho, vz n])) (hho : cc o G ho 30 (za mc H)) (csu : 0 ≤ n ∧ n ≤ ↑m ∧ 32 ≤ m ∧ m ≤ 2000 ∧ mc = m + 1) (cp : 0 ≤ p ∧ p ≤ n) (ca : 0 ≤ a ∧ a ≤ 5) (hsu : suok f C Rs H n) : ab_F X d y_SU_holds (.code y_SU_holds b_SU_holds 3 (some (.boolean))) [vR s, vz a, vz p] G (fun oc G2 => (oc = .returned (some (vz 1)) ∧ G2 = G ∧ (hld f n p a)) ∨ (oc = .returned (some (vz 0)) ∧ G2 = G ∧ (¬ hld f n p a))) := by
  refine ab_F_of (by decide +kernel) (Nat.le_of_ble_eq_true rfl) ?_
  obtain ⟨Q, hQ⟩ : ∃ z : Outcome → ab_G → Prop, z = (fun oc G2 => (oc = .returned (some (vz 1)) ∧ G2 = G ∧ (hld f n p a)) ∨ (oc = .returned (some (vz 0)) ∧ G2 = G ∧ (¬ hld f n p a))) := ⟨_, rfl⟩
  rw [← hQ]
  change ab_W X (ab_pl y_SU_holds b_SU_holds 3 (some (.boolean))) d G 0 [some (vR s), some (vz a), some (vz p)] [] Q
  have hfr : fx o o [] G G := fx.rf
  have hlen : G.length = G.length := rfl
  have hsl : ab_slots G = ab_slots G := rfl
  rcases (show a = 0 ∨ a = 1 ∨ a = 2 ∨ a = 3 ∨ a = 4 ∨ a = 5 by omega) with ha | ha | ha | ha | ha | ha
  · subst ha
    have hk := (hsu.hk p (by omega) (by omega)).2.1
    refine ab_aload_n d_SU_holds_0 rfl ?_
    refine ab_getf (fs := [vR by_, vR co, vR re, vR ho, vz n]) f_SU_21 d_SU_holds_1 hs.2.2 rfl ?_
    refine ab_iload_n d_SU_holds_4 rfl ?_
    refine zz_iald d_SU_holds_5 hho (by omega) ?_
    have hq1 := hsu.h p (by omega) (by omega)
    refine ab_iload_n d_SU_holds_6 rfl ?_
    refine zz_ishr 0 1 d_SU_holds_7 (by decide) (by decide) (by decide) (by decide) (by omega) ?_
    refine zz_iconst d_SU_holds_8 ?_
    refine zz_iand 1 2 d_SU_holds_9 (by decide) (by decide) (by decide) (by decide) ?_
    refine zz_if_eq (tgt := 17) d_SU_holds_10 (by decide) (by omega) (fun c2 => ?_) (fun c2 => ?_)
    · refine zz_iconst d_SU_holds_17 ?_
      refine zz_bret rfl (by decide) d_SU_holds_18 ?_
      rw [hQ]; exact (Or.inr ⟨rfl, rfl, (by exact fun h => absurd (hk.mpr h) (by omega))⟩)
    · refine zz_iconst d_SU_holds_13 ?_
      refine ab_goto (tgt := 18) d_SU_holds_14 (by decide) ?_
      refine zz_bret rfl (by decide) d_SU_holds_18 ?_
      rw [hQ]; exact (Or.inl ⟨rfl, rfl, (by exact hk.mp (by omega))⟩)
  · subst ha
    have hk := (hsu.hk p (by omega) (by omega)).2.2.1
    refine ab_aload_n d_SU_holds_0 rfl ?_
    refine ab_getf (fs := [vR by_, vR co, vR re, vR ho, vz n]) f_SU_21 d_SU_holds_1 hs.2.2 rfl ?_
    refine ab_iload_n d_SU_holds_4 rfl ?_
    refine zz_iald d_SU_holds_5 hho (by omega) ?_
    have hq3 := hsu.h p (by omega) (by omega)
    refine ab_iload_n d_SU_holds_6 rfl ?_
    refine zz_ishr 1 2 d_SU_holds_7 (by decide) (by decide) (by decide) (by decide) (by omega) ?_
    refine zz_iconst d_SU_holds_8 ?_
    refine zz_iand 1 2 d_SU_holds_9 (by decide) (by decide) (by decide) (by decide) ?_
    refine zz_if_eq (tgt := 17) d_SU_holds_10 (by decide) (by omega) (fun c4 => ?_) (fun c4 => ?_)
    · refine zz_iconst d_SU_holds_17 ?_
      refine zz_bret rfl (by decide) d_SU_holds_18 ?_
      rw [hQ]; exact (Or.inr ⟨rfl, rfl, (by exact fun h => absurd (hk.mpr h) (by omega))⟩)
    · refine zz_iconst d_SU_holds_13 ?_
      refine ab_goto (tgt := 18) d_SU_holds_14 (by decide) ?_
      refine zz_bret rfl (by decide) d_SU_holds_18 ?_
      rw [hQ]; exact (Or.inl ⟨rfl, rfl, (by exact hk.mp (by omega))⟩)
  · subst ha
    have hk := (hsu.hk p (by omega) (by omega)).2.2.2.1
    refine ab_aload_n d_SU_holds_0 rfl ?_
    refine ab_getf (fs := [vR by_, vR co, vR re, vR ho, vz n]) f_SU_21 d_SU_holds_1 hs.2.2 rfl ?_
    refine ab_iload_n d_SU_holds_4 rfl ?_
    refine zz_iald d_SU_holds_5 hho (by omega) ?_
    have hq5 := hsu.h p (by omega) (by omega)
    refine ab_iload_n d_SU_holds_6 rfl ?_
    refine zz_ishr 2 4 d_SU_holds_7 (by decide) (by decide) (by decide) (by decide) (by omega) ?_
    refine zz_iconst d_SU_holds_8 ?_
    refine zz_iand 1 2 d_SU_holds_9 (by decide) (by decide) (by decide) (by decide) ?_
    refine zz_if_eq (tgt := 17) d_SU_holds_10 (by decide) (by omega) (fun c6 => ?_) (fun c6 => ?_)
    · refine zz_iconst d_SU_holds_17 ?_
      refine zz_bret rfl (by decide) d_SU_holds_18 ?_
      rw [hQ]; exact (Or.inr ⟨rfl, rfl, (by exact fun h => absurd (hk.mpr h) (by omega))⟩)
    · refine zz_iconst d_SU_holds_13 ?_
      refine ab_goto (tgt := 18) d_SU_holds_14 (by decide) ?_
      refine zz_bret rfl (by decide) d_SU_holds_18 ?_
      rw [hQ]; exact (Or.inl ⟨rfl, rfl, (by exact hk.mp (by omega))⟩)
  · subst ha
    have hk := (hsu.hk p (by omega) (by omega)).2.2.2.2.1
    refine ab_aload_n d_SU_holds_0 rfl ?_
    refine ab_getf (fs := [vR by_, vR co, vR re, vR ho, vz n]) f_SU_21 d_SU_holds_1 hs.2.2 rfl ?_
    refine ab_iload_n d_SU_holds_4 rfl ?_
    refine zz_iald d_SU_holds_5 hho (by omega) ?_
    have hq7 := hsu.h p (by omega) (by omega)
    refine ab_iload_n d_SU_holds_6 rfl ?_
    refine zz_ishr 3 8 d_SU_holds_7 (by decide) (by decide) (by decide) (by decide) (by omega) ?_
    refine zz_iconst d_SU_holds_8 ?_
    refine zz_iand 1 2 d_SU_holds_9 (by decide) (by decide) (by decide) (by decide) ?_
    refine zz_if_eq (tgt := 17) d_SU_holds_10 (by decide) (by omega) (fun c8 => ?_) (fun c8 => ?_)
    · refine zz_iconst d_SU_holds_17 ?_
      refine zz_bret rfl (by decide) d_SU_holds_18 ?_
      rw [hQ]; exact (Or.inr ⟨rfl, rfl, (by exact fun h => absurd (hk.mpr h) (by omega))⟩)
    · refine zz_iconst d_SU_holds_13 ?_
      refine ab_goto (tgt := 18) d_SU_holds_14 (by decide) ?_
      refine zz_bret rfl (by decide) d_SU_holds_18 ?_
      rw [hQ]; exact (Or.inl ⟨rfl, rfl, (by exact hk.mp (by omega))⟩)
  · subst ha
    have hk := (hsu.hk p (by omega) (by omega)).2.2.2.2.2.1
    refine ab_aload_n d_SU_holds_0 rfl ?_
    refine ab_getf (fs := [vR by_, vR co, vR re, vR ho, vz n]) f_SU_21 d_SU_holds_1 hs.2.2 rfl ?_
    refine ab_iload_n d_SU_holds_4 rfl ?_
    refine zz_iald d_SU_holds_5 hho (by omega) ?_
    have hq9 := hsu.h p (by omega) (by omega)
    refine ab_iload_n d_SU_holds_6 rfl ?_
    refine zz_ishr 4 16 d_SU_holds_7 (by decide) (by decide) (by decide) (by decide) (by omega) ?_
    refine zz_iconst d_SU_holds_8 ?_
    refine zz_iand 1 2 d_SU_holds_9 (by decide) (by decide) (by decide) (by decide) ?_
    refine zz_if_eq (tgt := 17) d_SU_holds_10 (by decide) (by omega) (fun c10 => ?_) (fun c10 => ?_)
    · refine zz_iconst d_SU_holds_17 ?_
      refine zz_bret rfl (by decide) d_SU_holds_18 ?_
      rw [hQ]; exact (Or.inr ⟨rfl, rfl, (by exact fun h => absurd (hk.mpr h) (by omega))⟩)
    · refine zz_iconst d_SU_holds_13 ?_
      refine ab_goto (tgt := 18) d_SU_holds_14 (by decide) ?_
      refine zz_bret rfl (by decide) d_SU_holds_18 ?_
      rw [hQ]; exact (Or.inl ⟨rfl, rfl, (by exact hk.mp (by omega))⟩)
  · subst ha
    have hk := (hsu.hk p (by omega) (by omega)).2.2.2.2.2.2
    refine ab_aload_n d_SU_holds_0 rfl ?_
    refine ab_getf (fs := [vR by_, vR co, vR re, vR ho, vz n]) f_SU_21 d_SU_holds_1 hs.2.2 rfl ?_
    refine ab_iload_n d_SU_holds_4 rfl ?_
    refine zz_iald d_SU_holds_5 hho (by omega) ?_
    have hq11 := hsu.h p (by omega) (by omega)
    refine ab_iload_n d_SU_holds_6 rfl ?_
    refine zz_ishr 5 32 d_SU_holds_7 (by decide) (by decide) (by decide) (by decide) (by omega) ?_
    refine zz_iconst d_SU_holds_8 ?_
    refine zz_iand 1 2 d_SU_holds_9 (by decide) (by decide) (by decide) (by decide) ?_
    refine zz_if_eq (tgt := 17) d_SU_holds_10 (by decide) (by omega) (fun c12 => ?_) (fun c12 => ?_)
    · refine zz_iconst d_SU_holds_17 ?_
      refine zz_bret rfl (by decide) d_SU_holds_18 ?_
      rw [hQ]; exact (Or.inr ⟨rfl, rfl, (by exact fun h => absurd (hk.mpr h) (by omega))⟩)
    · refine zz_iconst d_SU_holds_13 ?_
      refine ab_goto (tgt := 18) d_SU_holds_14 (by decide) ?_
      refine zz_bret rfl (by decide) d_SU_holds_18 ?_
      rw [hQ]; exact (Or.inl ⟨rfl, rfl, (by exact hk.mp (by omega))⟩)
set_option maxRecDepth 100000 in
set_option maxHeartbeats 4000000 in
theorem y_SU_take_96 {X : ab_X} {d : Nat} {Q : Outcome → ab_G → Prop} {o : Nat → Nat} {G0 : ab_G} {s : Nat} {by_ : Nat} {co : Nat} {re : Nat} {ho : Nat} {n : Int} {f : Int → Int} {m : Nat} {mc : Nat} (csu : 0 ≤ n ∧ n ≤ ↑m ∧ 32 ≤ m ∧ m ≤ 2000 ∧ mc = m + 1) (hb : bytes f n) (hd : 3 ≤ d) : ∀ (mz : Nat) {G : ab_G} {rest : Int} {a : Int} {C : Int → Int} {Rs : Int → Int} {H : Int → Int}, (cc o G s 26 (ab_ob 9 [vR by_, vR co, vR re, vR ho, vz n])) → (cc o G by_ 27 (za m f)) → (cc o G co 28 (za mc C)) → (cc o G re 29 (za mc Rs)) → (cc o G ho 30 (za mc H)) → (0 ≤ a ∧ a ≤ n + 1) → (0 ≤ rest ∧ rest ≤ 4) → (srs Rs a rest) → (sup f C Rs H n a) → (fx o o [28, 29, 30] G0 G) → (G.length = G0.length) → (ab_slots G = ab_slots G0) → (Int.toNat (n + 1 - a) < mz) → (∀ (G2 : ab_G) (C2 : Int → Int) (R2 : Int → Int) (H2 : Int → Int), (cc o G2 s 26 (ab_ob 9 [vR by_, vR co, vR re, vR ho, vz n])) → (cc o G2 by_ 27 (za m f)) → (cc o G2 co 28 (za mc C2)) → (cc o G2 re 29 (za mc R2)) → (cc o G2 ho 30 (za mc H2)) → (suok f C2 R2 H2 n) → (fx o o [28, 29, 30] G0 G2) → (G2.length = G0.length) → (ab_slots G2 = ab_slots G0) → Q (.returned none) G2) → ab_W X (ab_pl y_SU_take b_SU_take 4 none) d G 96 [some (vR s), none, some (vz rest), some (vz a)] [] Q := by
  intro mz
  induction mz with
  | zero => intro G rest a C Rs H hs hby_ hco hre hho ca cr hsr hp hfr hlen hsl hm hk0; exact absurd hm (Nat.not_lt_zero _)
  | succ mz ih =>
    intro G rest a C Rs H hs hby_ hco hre hho ca cr hsr hp hfr hlen hsl hm hk0
    refine ab_iload_n d_SU_take_96 rfl ?_
    refine ab_aload_n d_SU_take_97 rfl ?_
    refine ab_getf (fs := [vR by_, vR co, vR re, vR ho, vz n]) f_SU_34 d_SU_take_98 hs.2.2 rfl ?_
    refine zz_icmp_gt (tgt := 176) d_SU_take_101 (by decide) (by omega) (by omega) (fun c1 => ?_) (fun c1 => ?_)
    · refine ab_vret rfl d_SU_take_176 ?_
      exact hk0 _ _ _ _ hs hby_ hco hre hho (by exact ⟨hb, by rw [show n + 1 = a by omega]; exact hp⟩) hfr hlen hsl
    · refine ab_aload_n d_SU_take_104 rfl ?_
      refine ab_getf (fs := [vR by_, vR co, vR re, vR ho, vz n]) f_SU_15 d_SU_take_105 hs.2.2 rfl ?_
      refine ab_iload_n d_SU_take_108 rfl ?_
      refine ab_aload_n d_SU_take_109 rfl ?_
      refine ab_getf (fs := [vR by_, vR co, vR re, vR ho, vz n]) f_SU_9 d_SU_take_110 hs.2.2 rfl ?_
      refine ab_iload_n d_SU_take_113 rfl ?_
      refine ab_aload_n d_SU_take_114 rfl ?_
      refine ab_getf (fs := [vR by_, vR co, vR re, vR ho, vz n]) f_SU_34 d_SU_take_115 hs.2.2 rfl ?_
      refine ab_callS (d' := d - 1) (as := [vR by_, vz a, vz n]) (st := [vz a, vR co]) (z_PW_codeAt (o := o) (a := by_) (l := 27) (m := m) (f := f) (p := a) (n := n) hby_ (by omega) hb (by omega)) (fun oc G2 h => by rcases h with ⟨_, h, _⟩ <;> exact ⟨_, h⟩) (by omega) m_PW_codeAt ml_SU_55 st_PW_codeAt (Nat.le_of_ble_eq_true rfl) d_SU_take_118 rfl ?_
      intro v G2 hq
      rcases hq with ⟨v3, hv, hGe, hq4⟩
      cases hv
      rw [hGe]
      change ab_W _ _ _ G 121 [some (vR s), none, some (vz rest), some (vz a)] [vz v3, vz a, vR co] _
      subst hq4
      have hu8 := u8_in hb a
      change ab_W _ _ _ G 121 [some (vR s), none, some (vz rest), some (vz a)] [vz (u8 f n a), vz a, vR co] _
      refine zz_iast d_SU_take_121 hco (by omega) (hco.2.1 (by decide)) ?_
      obtain ⟨G5, eG5⟩ : ∃ z : ab_G, z = List.set G co (za mc (zu C a (u8 f n a))) := ⟨_, rfl⟩
      have hs := hs.keep hco eG5 (by decide)
      have hby_ := hby_.keep hco eG5 (by decide)
      have hre := hre.keep hco eG5 (by decide)
      have hho := hho.keep hco eG5 (by decide)
      have hlen := (z_len eG5).trans hlen
      have hsl := (z_sl hco eG5 rfl).trans hsl
      have hfr := hfr.wr hco eG5 (by decide)
      have hco := hco.kept eG5
      change ab_W _ _ _ (List.set G co (za mc (zu C a (u8 f n a)))) 122 [some (vR s), none, some (vz rest), some (vz a)] [] _
      rw [← eG5]
      refine ab_aload_n d_SU_take_122 rfl ?_
      refine ab_getf (fs := [vR by_, vR co, vR re, vR ho, vz n]) f_SU_15 d_SU_take_123 hs.2.2 rfl ?_
      refine ab_iload_n d_SU_take_126 rfl ?_
      refine zz_iald d_SU_take_127 hco (by omega) ?_
      refine zz_top (zu_self _ _ _) ?_
      refine zz_iconst d_SU_take_128 ?_
      refine zz_icmp_ne (tgt := 142) d_SU_take_129 (by decide) (by omega) (by decide) (fun c6 => ?_) (fun c6 => ?_)
      · refine ab_aload_n d_SU_take_142 rfl ?_
        refine ab_getf (fs := [vR by_, vR co, vR re, vR ho, vz n]) f_SU_15 d_SU_take_143 hs.2.2 rfl ?_
        refine ab_iload_n d_SU_take_146 rfl ?_
        refine zz_iald d_SU_take_147 hco (by omega) ?_
        refine zz_top (zu_self _ _ _) ?_
        refine ab_callS (d' := d - 1) (as := [vz (u8 f n a)]) (st := []) (z_PW_widthOf (o := o) (x := (u8 f n a)) (by omega)) (fun oc G2 h => by rcases h with ⟨h, _⟩ | ⟨h, _⟩ | ⟨h, _⟩ | ⟨h, _⟩ <;> exact ⟨_, h⟩) (by omega) m_PW_widthOf ml_SU_59 st_PW_widthOf (Nat.le_of_ble_eq_true rfl) d_SU_take_148 rfl ?_
        intro v G7 hq
        rcases hq with ⟨hv, hGe, hq8⟩ | ⟨hv, hGe, hq9⟩ | ⟨hv, hGe, hq10⟩ | ⟨hv, hGe, hq11⟩
        · cases hv
          rw [hGe]
          change ab_W _ _ _ G5 151 [some (vR s), none, some (vz rest), some (vz a)] [vz 1] _
          refine ab_istore_n d_SU_take_151 (Nat.le_of_ble_eq_true rfl) (Nat.le_of_ble_eq_true rfl) rfl ?_
          change ab_W _ _ _ G5 152 [some (vR s), none, some (vz 1), some (vz a)] [] _
          refine ab_aload_n d_SU_take_152 rfl ?_
          refine ab_getf (fs := [vR by_, vR co, vR re, vR ho, vz n]) f_SU_18 d_SU_take_153 hs.2.2 rfl ?_
          refine ab_iload_n d_SU_take_156 rfl ?_
          refine ab_iload_n d_SU_take_157 rfl ?_
          refine zz_iast d_SU_take_158 hre (by omega) (hre.2.1 (by decide)) ?_
          obtain ⟨G12, eG12⟩ : ∃ z : ab_G, z = List.set G5 re (za mc (zu Rs a 1)) := ⟨_, rfl⟩
          have hs := hs.keep hre eG12 (by decide)
          have hby_ := hby_.keep hre eG12 (by decide)
          have hco := hco.keep hre eG12 (by decide)
          have hho := hho.keep hre eG12 (by decide)
          have hlen := (z_len eG12).trans hlen
          have hsl := (z_sl hre eG12 rfl).trans hsl
          have hfr := hfr.wr hre eG12 (by decide)
          have hre := hre.kept eG12
          change ab_W _ _ _ (List.set G5 re (za mc (zu Rs a 1))) 159 [some (vR s), none, some (vz 1), some (vz a)] [] _
          rw [← eG12]
          refine ab_aload_n d_SU_take_159 rfl ?_
          refine ab_getf (fs := [vR by_, vR co, vR re, vR ho, vz n]) f_SU_21 d_SU_take_160 hs.2.2 rfl ?_
          refine ab_iload_n d_SU_take_163 rfl ?_
          refine ab_aload_n d_SU_take_164 rfl ?_
          refine ab_iload_n d_SU_take_165 rfl ?_
          refine ab_callV (d' := d - 1) (as := [vz a]) (st := [vz a, vR ho]) (r := _) (z_SU_holdingAt (o := o) (s := s) (by_ := by_) (co := co) (re := re) (ho := ho) (n := n) (f := f) (m := m) (p := a) hs hby_ (by omega) (by omega) hb (by omega)) (fun oc G2 h => by rcases h with ⟨_, h, _⟩ <;> exact ⟨_, h⟩) (by omega) m_SU_holdingAt ml_SU_24 im_SU_holdingAt se_SU_holdingAt c_SU hs.2.2 (Nat.le_of_ble_eq_true rfl) d_SU_take_166 rfl ?_
          intro v G13 hq
          rcases hq with ⟨h14, hv, hGe, hq15⟩
          cases hv
          rw [hGe]
          change ab_W _ _ _ G12 169 [some (vR s), none, some (vz 1), some (vz a)] [vz h14, vz a, vR ho] _
          refine zz_iast d_SU_take_169 hho (by omega) (hho.2.1 (by decide)) ?_
          obtain ⟨G16, eG16⟩ : ∃ z : ab_G, z = List.set G12 ho (za mc (zu H a h14)) := ⟨_, rfl⟩
          have hs := hs.keep hho eG16 (by decide)
          have hby_ := hby_.keep hho eG16 (by decide)
          have hco := hco.keep hho eG16 (by decide)
          have hre := hre.keep hho eG16 (by decide)
          have hlen := (z_len eG16).trans hlen
          have hsl := (z_sl hho eG16 rfl).trans hsl
          have hfr := hfr.wr hho eG16 (by decide)
          have hho := hho.kept eG16
          change ab_W _ _ _ (List.set G12 ho (za mc (zu H a h14))) 170 [some (vR s), none, some (vz 1), some (vz a)] [] _
          rw [← eG16]
          refine zz_iinc d_SU_take_170 rfl (Nat.le_of_ble_eq_true rfl) (Nat.le_of_ble_eq_true rfl) rfl ?_
          change ab_W _ _ _ G16 173 [some (vR s), none, some (vz 1), some (vz (a + 1))] [] _
          refine ab_goto (tgt := 96) d_SU_take_173 (by decide) ?_
          exact ih (rest := 1) (a := (a + 1)) (C := (zu C a (u8 f n a))) (Rs := (zu Rs a 1)) (H := (zu H a h14)) hs hby_ hco hre hho (by omega) (by omega) (srs_s (by omega)) (sup_s (by omega) hp (fun h => by first | (exfalso; omega) | (unfold wd; (repeat' split) <;> omega)) (fun h => by have h1 := hsr.1; have h2 := hsr.2; first | (exfalso; omega) | (constructor <;> (intro e; omega))) hq15) hfr hlen hsl (by omega) hk0
        · cases hv
          rw [hGe]
          change ab_W _ _ _ G5 151 [some (vR s), none, some (vz rest), some (vz a)] [vz 2] _
          refine ab_istore_n d_SU_take_151 (Nat.le_of_ble_eq_true rfl) (Nat.le_of_ble_eq_true rfl) rfl ?_
          change ab_W _ _ _ G5 152 [some (vR s), none, some (vz 2), some (vz a)] [] _
          refine ab_aload_n d_SU_take_152 rfl ?_
          refine ab_getf (fs := [vR by_, vR co, vR re, vR ho, vz n]) f_SU_18 d_SU_take_153 hs.2.2 rfl ?_
          refine ab_iload_n d_SU_take_156 rfl ?_
          refine ab_iload_n d_SU_take_157 rfl ?_
          refine zz_iast d_SU_take_158 hre (by omega) (hre.2.1 (by decide)) ?_
          obtain ⟨G17, eG17⟩ : ∃ z : ab_G, z = List.set G5 re (za mc (zu Rs a 2)) := ⟨_, rfl⟩
          have hs := hs.keep hre eG17 (by decide)
          have hby_ := hby_.keep hre eG17 (by decide)
          have hco := hco.keep hre eG17 (by decide)
          have hho := hho.keep hre eG17 (by decide)
          have hlen := (z_len eG17).trans hlen
          have hsl := (z_sl hre eG17 rfl).trans hsl
          have hfr := hfr.wr hre eG17 (by decide)
          have hre := hre.kept eG17
          change ab_W _ _ _ (List.set G5 re (za mc (zu Rs a 2))) 159 [some (vR s), none, some (vz 2), some (vz a)] [] _
          rw [← eG17]
          refine ab_aload_n d_SU_take_159 rfl ?_
          refine ab_getf (fs := [vR by_, vR co, vR re, vR ho, vz n]) f_SU_21 d_SU_take_160 hs.2.2 rfl ?_
          refine ab_iload_n d_SU_take_163 rfl ?_
          refine ab_aload_n d_SU_take_164 rfl ?_
          refine ab_iload_n d_SU_take_165 rfl ?_
          refine ab_callV (d' := d - 1) (as := [vz a]) (st := [vz a, vR ho]) (r := _) (z_SU_holdingAt (o := o) (s := s) (by_ := by_) (co := co) (re := re) (ho := ho) (n := n) (f := f) (m := m) (p := a) hs hby_ (by omega) (by omega) hb (by omega)) (fun oc G2 h => by rcases h with ⟨_, h, _⟩ <;> exact ⟨_, h⟩) (by omega) m_SU_holdingAt ml_SU_24 im_SU_holdingAt se_SU_holdingAt c_SU hs.2.2 (Nat.le_of_ble_eq_true rfl) d_SU_take_166 rfl ?_
          intro v G18 hq
          rcases hq with ⟨h19, hv, hGe, hq20⟩
          cases hv
          rw [hGe]
          change ab_W _ _ _ G17 169 [some (vR s), none, some (vz 2), some (vz a)] [vz h19, vz a, vR ho] _
          refine zz_iast d_SU_take_169 hho (by omega) (hho.2.1 (by decide)) ?_
          obtain ⟨G21, eG21⟩ : ∃ z : ab_G, z = List.set G17 ho (za mc (zu H a h19)) := ⟨_, rfl⟩
          have hs := hs.keep hho eG21 (by decide)
          have hby_ := hby_.keep hho eG21 (by decide)
          have hco := hco.keep hho eG21 (by decide)
          have hre := hre.keep hho eG21 (by decide)
          have hlen := (z_len eG21).trans hlen
          have hsl := (z_sl hho eG21 rfl).trans hsl
          have hfr := hfr.wr hho eG21 (by decide)
          have hho := hho.kept eG21
          change ab_W _ _ _ (List.set G17 ho (za mc (zu H a h19))) 170 [some (vR s), none, some (vz 2), some (vz a)] [] _
          rw [← eG21]
          refine zz_iinc d_SU_take_170 rfl (Nat.le_of_ble_eq_true rfl) (Nat.le_of_ble_eq_true rfl) rfl ?_
          change ab_W _ _ _ G21 173 [some (vR s), none, some (vz 2), some (vz (a + 1))] [] _
          refine ab_goto (tgt := 96) d_SU_take_173 (by decide) ?_
          exact ih (rest := 2) (a := (a + 1)) (C := (zu C a (u8 f n a))) (Rs := (zu Rs a 2)) (H := (zu H a h19)) hs hby_ hco hre hho (by omega) (by omega) (srs_s (by omega)) (sup_s (by omega) hp (fun h => by first | (exfalso; omega) | (unfold wd; (repeat' split) <;> omega)) (fun h => by have h1 := hsr.1; have h2 := hsr.2; first | (exfalso; omega) | (constructor <;> (intro e; omega))) hq20) hfr hlen hsl (by omega) hk0
        · cases hv
          rw [hGe]
          change ab_W _ _ _ G5 151 [some (vR s), none, some (vz rest), some (vz a)] [vz 3] _
          refine ab_istore_n d_SU_take_151 (Nat.le_of_ble_eq_true rfl) (Nat.le_of_ble_eq_true rfl) rfl ?_
          change ab_W _ _ _ G5 152 [some (vR s), none, some (vz 3), some (vz a)] [] _
          refine ab_aload_n d_SU_take_152 rfl ?_
          refine ab_getf (fs := [vR by_, vR co, vR re, vR ho, vz n]) f_SU_18 d_SU_take_153 hs.2.2 rfl ?_
          refine ab_iload_n d_SU_take_156 rfl ?_
          refine ab_iload_n d_SU_take_157 rfl ?_
          refine zz_iast d_SU_take_158 hre (by omega) (hre.2.1 (by decide)) ?_
          obtain ⟨G22, eG22⟩ : ∃ z : ab_G, z = List.set G5 re (za mc (zu Rs a 3)) := ⟨_, rfl⟩
          have hs := hs.keep hre eG22 (by decide)
          have hby_ := hby_.keep hre eG22 (by decide)
          have hco := hco.keep hre eG22 (by decide)
          have hho := hho.keep hre eG22 (by decide)
          have hlen := (z_len eG22).trans hlen
          have hsl := (z_sl hre eG22 rfl).trans hsl
          have hfr := hfr.wr hre eG22 (by decide)
          have hre := hre.kept eG22
          change ab_W _ _ _ (List.set G5 re (za mc (zu Rs a 3))) 159 [some (vR s), none, some (vz 3), some (vz a)] [] _
          rw [← eG22]
          refine ab_aload_n d_SU_take_159 rfl ?_
          refine ab_getf (fs := [vR by_, vR co, vR re, vR ho, vz n]) f_SU_21 d_SU_take_160 hs.2.2 rfl ?_
          refine ab_iload_n d_SU_take_163 rfl ?_
          refine ab_aload_n d_SU_take_164 rfl ?_
          refine ab_iload_n d_SU_take_165 rfl ?_
          refine ab_callV (d' := d - 1) (as := [vz a]) (st := [vz a, vR ho]) (r := _) (z_SU_holdingAt (o := o) (s := s) (by_ := by_) (co := co) (re := re) (ho := ho) (n := n) (f := f) (m := m) (p := a) hs hby_ (by omega) (by omega) hb (by omega)) (fun oc G2 h => by rcases h with ⟨_, h, _⟩ <;> exact ⟨_, h⟩) (by omega) m_SU_holdingAt ml_SU_24 im_SU_holdingAt se_SU_holdingAt c_SU hs.2.2 (Nat.le_of_ble_eq_true rfl) d_SU_take_166 rfl ?_
          intro v G23 hq
          rcases hq with ⟨h24, hv, hGe, hq25⟩
          cases hv
          rw [hGe]
          change ab_W _ _ _ G22 169 [some (vR s), none, some (vz 3), some (vz a)] [vz h24, vz a, vR ho] _
          refine zz_iast d_SU_take_169 hho (by omega) (hho.2.1 (by decide)) ?_
          obtain ⟨G26, eG26⟩ : ∃ z : ab_G, z = List.set G22 ho (za mc (zu H a h24)) := ⟨_, rfl⟩
          have hs := hs.keep hho eG26 (by decide)
          have hby_ := hby_.keep hho eG26 (by decide)
          have hco := hco.keep hho eG26 (by decide)
          have hre := hre.keep hho eG26 (by decide)
          have hlen := (z_len eG26).trans hlen
          have hsl := (z_sl hho eG26 rfl).trans hsl
          have hfr := hfr.wr hho eG26 (by decide)
          have hho := hho.kept eG26
          change ab_W _ _ _ (List.set G22 ho (za mc (zu H a h24))) 170 [some (vR s), none, some (vz 3), some (vz a)] [] _
          rw [← eG26]
          refine zz_iinc d_SU_take_170 rfl (Nat.le_of_ble_eq_true rfl) (Nat.le_of_ble_eq_true rfl) rfl ?_
          change ab_W _ _ _ G26 173 [some (vR s), none, some (vz 3), some (vz (a + 1))] [] _
          refine ab_goto (tgt := 96) d_SU_take_173 (by decide) ?_
          exact ih (rest := 3) (a := (a + 1)) (C := (zu C a (u8 f n a))) (Rs := (zu Rs a 3)) (H := (zu H a h24)) hs hby_ hco hre hho (by omega) (by omega) (srs_s (by omega)) (sup_s (by omega) hp (fun h => by first | (exfalso; omega) | (unfold wd; (repeat' split) <;> omega)) (fun h => by have h1 := hsr.1; have h2 := hsr.2; first | (exfalso; omega) | (constructor <;> (intro e; omega))) hq25) hfr hlen hsl (by omega) hk0
        · cases hv
          rw [hGe]
          change ab_W _ _ _ G5 151 [some (vR s), none, some (vz rest), some (vz a)] [vz 4] _
          refine ab_istore_n d_SU_take_151 (Nat.le_of_ble_eq_true rfl) (Nat.le_of_ble_eq_true rfl) rfl ?_
          change ab_W _ _ _ G5 152 [some (vR s), none, some (vz 4), some (vz a)] [] _
          refine ab_aload_n d_SU_take_152 rfl ?_
          refine ab_getf (fs := [vR by_, vR co, vR re, vR ho, vz n]) f_SU_18 d_SU_take_153 hs.2.2 rfl ?_
          refine ab_iload_n d_SU_take_156 rfl ?_
          refine ab_iload_n d_SU_take_157 rfl ?_
          refine zz_iast d_SU_take_158 hre (by omega) (hre.2.1 (by decide)) ?_
          obtain ⟨G27, eG27⟩ : ∃ z : ab_G, z = List.set G5 re (za mc (zu Rs a 4)) := ⟨_, rfl⟩
          have hs := hs.keep hre eG27 (by decide)
          have hby_ := hby_.keep hre eG27 (by decide)
          have hco := hco.keep hre eG27 (by decide)
          have hho := hho.keep hre eG27 (by decide)
          have hlen := (z_len eG27).trans hlen
          have hsl := (z_sl hre eG27 rfl).trans hsl
          have hfr := hfr.wr hre eG27 (by decide)
          have hre := hre.kept eG27
          change ab_W _ _ _ (List.set G5 re (za mc (zu Rs a 4))) 159 [some (vR s), none, some (vz 4), some (vz a)] [] _
          rw [← eG27]
          refine ab_aload_n d_SU_take_159 rfl ?_
          refine ab_getf (fs := [vR by_, vR co, vR re, vR ho, vz n]) f_SU_21 d_SU_take_160 hs.2.2 rfl ?_
          refine ab_iload_n d_SU_take_163 rfl ?_
          refine ab_aload_n d_SU_take_164 rfl ?_
          refine ab_iload_n d_SU_take_165 rfl ?_
          refine ab_callV (d' := d - 1) (as := [vz a]) (st := [vz a, vR ho]) (r := _) (z_SU_holdingAt (o := o) (s := s) (by_ := by_) (co := co) (re := re) (ho := ho) (n := n) (f := f) (m := m) (p := a) hs hby_ (by omega) (by omega) hb (by omega)) (fun oc G2 h => by rcases h with ⟨_, h, _⟩ <;> exact ⟨_, h⟩) (by omega) m_SU_holdingAt ml_SU_24 im_SU_holdingAt se_SU_holdingAt c_SU hs.2.2 (Nat.le_of_ble_eq_true rfl) d_SU_take_166 rfl ?_
          intro v G28 hq
          rcases hq with ⟨h29, hv, hGe, hq30⟩
          cases hv
          rw [hGe]
          change ab_W _ _ _ G27 169 [some (vR s), none, some (vz 4), some (vz a)] [vz h29, vz a, vR ho] _
          refine zz_iast d_SU_take_169 hho (by omega) (hho.2.1 (by decide)) ?_
          obtain ⟨G31, eG31⟩ : ∃ z : ab_G, z = List.set G27 ho (za mc (zu H a h29)) := ⟨_, rfl⟩
          have hs := hs.keep hho eG31 (by decide)
          have hby_ := hby_.keep hho eG31 (by decide)
          have hco := hco.keep hho eG31 (by decide)
          have hre := hre.keep hho eG31 (by decide)
          have hlen := (z_len eG31).trans hlen
          have hsl := (z_sl hho eG31 rfl).trans hsl
          have hfr := hfr.wr hho eG31 (by decide)
          have hho := hho.kept eG31
          change ab_W _ _ _ (List.set G27 ho (za mc (zu H a h29))) 170 [some (vR s), none, some (vz 4), some (vz a)] [] _
          rw [← eG31]
          refine zz_iinc d_SU_take_170 rfl (Nat.le_of_ble_eq_true rfl) (Nat.le_of_ble_eq_true rfl) rfl ?_
          change ab_W _ _ _ G31 173 [some (vR s), none, some (vz 4), some (vz (a + 1))] [] _
          refine ab_goto (tgt := 96) d_SU_take_173 (by decide) ?_
          exact ih (rest := 4) (a := (a + 1)) (C := (zu C a (u8 f n a))) (Rs := (zu Rs a 4)) (H := (zu H a h29)) hs hby_ hco hre hho (by omega) (by omega) (srs_s (by omega)) (sup_s (by omega) hp (fun h => by first | (exfalso; omega) | (unfold wd; (repeat' split) <;> omega)) (fun h => by have h1 := hsr.1; have h2 := hsr.2; first | (exfalso; omega) | (constructor <;> (intro e; omega))) hq30) hfr hlen hsl (by omega) hk0
      · refine ab_iload_n d_SU_take_132 rfl ?_
        refine zz_iconst d_SU_take_133 ?_
        refine zz_isub d_SU_take_134 ?_
        refine zz_iconst d_SU_take_135 ?_
        refine zz_mmax2 mj_SU_43 d_SU_take_136 (by omega) (by decide) (Nat.le_of_ble_eq_true rfl) (by omega) (fun c32 => ?_) (fun c32 => ?_)
        · refine ab_goto (tgt := 151) d_SU_take_139 (by decide) ?_
          refine ab_istore_n d_SU_take_151 (Nat.le_of_ble_eq_true rfl) (Nat.le_of_ble_eq_true rfl) rfl ?_
          change ab_W _ _ _ G5 152 [some (vR s), none, some (vz 0), some (vz a)] [] _
          refine ab_aload_n d_SU_take_152 rfl ?_
          refine ab_getf (fs := [vR by_, vR co, vR re, vR ho, vz n]) f_SU_18 d_SU_take_153 hs.2.2 rfl ?_
          refine ab_iload_n d_SU_take_156 rfl ?_
          refine ab_iload_n d_SU_take_157 rfl ?_
          refine zz_iast d_SU_take_158 hre (by omega) (hre.2.1 (by decide)) ?_
          obtain ⟨G33, eG33⟩ : ∃ z : ab_G, z = List.set G5 re (za mc (zu Rs a 0)) := ⟨_, rfl⟩
          have hs := hs.keep hre eG33 (by decide)
          have hby_ := hby_.keep hre eG33 (by decide)
          have hco := hco.keep hre eG33 (by decide)
          have hho := hho.keep hre eG33 (by decide)
          have hlen := (z_len eG33).trans hlen
          have hsl := (z_sl hre eG33 rfl).trans hsl
          have hfr := hfr.wr hre eG33 (by decide)
          have hre := hre.kept eG33
          change ab_W _ _ _ (List.set G5 re (za mc (zu Rs a 0))) 159 [some (vR s), none, some (vz 0), some (vz a)] [] _
          rw [← eG33]
          refine ab_aload_n d_SU_take_159 rfl ?_
          refine ab_getf (fs := [vR by_, vR co, vR re, vR ho, vz n]) f_SU_21 d_SU_take_160 hs.2.2 rfl ?_
          refine ab_iload_n d_SU_take_163 rfl ?_
          refine ab_aload_n d_SU_take_164 rfl ?_
          refine ab_iload_n d_SU_take_165 rfl ?_
          refine ab_callV (d' := d - 1) (as := [vz a]) (st := [vz a, vR ho]) (r := _) (z_SU_holdingAt (o := o) (s := s) (by_ := by_) (co := co) (re := re) (ho := ho) (n := n) (f := f) (m := m) (p := a) hs hby_ (by omega) (by omega) hb (by omega)) (fun oc G2 h => by rcases h with ⟨_, h, _⟩ <;> exact ⟨_, h⟩) (by omega) m_SU_holdingAt ml_SU_24 im_SU_holdingAt se_SU_holdingAt c_SU hs.2.2 (Nat.le_of_ble_eq_true rfl) d_SU_take_166 rfl ?_
          intro v G34 hq
          rcases hq with ⟨h35, hv, hGe, hq36⟩
          cases hv
          rw [hGe]
          change ab_W _ _ _ G33 169 [some (vR s), none, some (vz 0), some (vz a)] [vz h35, vz a, vR ho] _
          refine zz_iast d_SU_take_169 hho (by omega) (hho.2.1 (by decide)) ?_
          obtain ⟨G37, eG37⟩ : ∃ z : ab_G, z = List.set G33 ho (za mc (zu H a h35)) := ⟨_, rfl⟩
          have hs := hs.keep hho eG37 (by decide)
          have hby_ := hby_.keep hho eG37 (by decide)
          have hco := hco.keep hho eG37 (by decide)
          have hre := hre.keep hho eG37 (by decide)
          have hlen := (z_len eG37).trans hlen
          have hsl := (z_sl hho eG37 rfl).trans hsl
          have hfr := hfr.wr hho eG37 (by decide)
          have hho := hho.kept eG37
          change ab_W _ _ _ (List.set G33 ho (za mc (zu H a h35))) 170 [some (vR s), none, some (vz 0), some (vz a)] [] _
          rw [← eG37]
          refine zz_iinc d_SU_take_170 rfl (Nat.le_of_ble_eq_true rfl) (Nat.le_of_ble_eq_true rfl) rfl ?_
          change ab_W _ _ _ G37 173 [some (vR s), none, some (vz 0), some (vz (a + 1))] [] _
          refine ab_goto (tgt := 96) d_SU_take_173 (by decide) ?_
          exact ih (rest := 0) (a := (a + 1)) (C := (zu C a (u8 f n a))) (Rs := (zu Rs a 0)) (H := (zu H a h35)) hs hby_ hco hre hho (by omega) (by omega) (srs_s (by omega)) (sup_s (by omega) hp (fun h => by first | (exfalso; omega) | (unfold wd; (repeat' split) <;> omega)) (fun h => by have h1 := hsr.1; have h2 := hsr.2; first | (exfalso; omega) | (constructor <;> (intro e; omega))) hq36) hfr hlen hsl (by omega) hk0
        · refine ab_goto (tgt := 151) d_SU_take_139 (by decide) ?_
          refine ab_istore_n d_SU_take_151 (Nat.le_of_ble_eq_true rfl) (Nat.le_of_ble_eq_true rfl) rfl ?_
          change ab_W _ _ _ G5 152 [some (vR s), none, some (vz (rest - 1)), some (vz a)] [] _
          refine ab_aload_n d_SU_take_152 rfl ?_
          refine ab_getf (fs := [vR by_, vR co, vR re, vR ho, vz n]) f_SU_18 d_SU_take_153 hs.2.2 rfl ?_
          refine ab_iload_n d_SU_take_156 rfl ?_
          refine ab_iload_n d_SU_take_157 rfl ?_
          refine zz_iast d_SU_take_158 hre (by omega) (hre.2.1 (by decide)) ?_
          obtain ⟨G38, eG38⟩ : ∃ z : ab_G, z = List.set G5 re (za mc (zu Rs a (rest - 1))) := ⟨_, rfl⟩
          have hs := hs.keep hre eG38 (by decide)
          have hby_ := hby_.keep hre eG38 (by decide)
          have hco := hco.keep hre eG38 (by decide)
          have hho := hho.keep hre eG38 (by decide)
          have hlen := (z_len eG38).trans hlen
          have hsl := (z_sl hre eG38 rfl).trans hsl
          have hfr := hfr.wr hre eG38 (by decide)
          have hre := hre.kept eG38
          change ab_W _ _ _ (List.set G5 re (za mc (zu Rs a (rest - 1)))) 159 [some (vR s), none, some (vz (rest - 1)), some (vz a)] [] _
          rw [← eG38]
          refine ab_aload_n d_SU_take_159 rfl ?_
          refine ab_getf (fs := [vR by_, vR co, vR re, vR ho, vz n]) f_SU_21 d_SU_take_160 hs.2.2 rfl ?_
          refine ab_iload_n d_SU_take_163 rfl ?_
          refine ab_aload_n d_SU_take_164 rfl ?_
          refine ab_iload_n d_SU_take_165 rfl ?_
          refine ab_callV (d' := d - 1) (as := [vz a]) (st := [vz a, vR ho]) (r := _) (z_SU_holdingAt (o := o) (s := s) (by_ := by_) (co := co) (re := re) (ho := ho) (n := n) (f := f) (m := m) (p := a) hs hby_ (by omega) (by omega) hb (by omega)) (fun oc G2 h => by rcases h with ⟨_, h, _⟩ <;> exact ⟨_, h⟩) (by omega) m_SU_holdingAt ml_SU_24 im_SU_holdingAt se_SU_holdingAt c_SU hs.2.2 (Nat.le_of_ble_eq_true rfl) d_SU_take_166 rfl ?_
          intro v G39 hq
          rcases hq with ⟨h40, hv, hGe, hq41⟩
          cases hv
          rw [hGe]
          change ab_W _ _ _ G38 169 [some (vR s), none, some (vz (rest - 1)), some (vz a)] [vz h40, vz a, vR ho] _
          refine zz_iast d_SU_take_169 hho (by omega) (hho.2.1 (by decide)) ?_
          obtain ⟨G42, eG42⟩ : ∃ z : ab_G, z = List.set G38 ho (za mc (zu H a h40)) := ⟨_, rfl⟩
          have hs := hs.keep hho eG42 (by decide)
          have hby_ := hby_.keep hho eG42 (by decide)
          have hco := hco.keep hho eG42 (by decide)
          have hre := hre.keep hho eG42 (by decide)
          have hlen := (z_len eG42).trans hlen
          have hsl := (z_sl hho eG42 rfl).trans hsl
          have hfr := hfr.wr hho eG42 (by decide)
          have hho := hho.kept eG42
          change ab_W _ _ _ (List.set G38 ho (za mc (zu H a h40))) 170 [some (vR s), none, some (vz (rest - 1)), some (vz a)] [] _
          rw [← eG42]
          refine zz_iinc d_SU_take_170 rfl (Nat.le_of_ble_eq_true rfl) (Nat.le_of_ble_eq_true rfl) rfl ?_
          change ab_W _ _ _ G42 173 [some (vR s), none, some (vz (rest - 1)), some (vz (a + 1))] [] _
          refine ab_goto (tgt := 96) d_SU_take_173 (by decide) ?_
          exact ih (rest := (rest - 1)) (a := (a + 1)) (C := (zu C a (u8 f n a))) (Rs := (zu Rs a (rest - 1))) (H := (zu H a h40)) hs hby_ hco hre hho (by omega) (by omega) (srs_s (by omega)) (sup_s (by omega) hp (fun h => by first | (exfalso; omega) | (unfold wd; (repeat' split) <;> omega)) (fun h => by have h1 := hsr.1; have h2 := hsr.2; first | (exfalso; omega) | (constructor <;> (intro e; omega))) hq41) hfr hlen hsl (by omega) hk0
set_option maxRecDepth 100000 in
set_option maxHeartbeats 4000000 in
theorem z_SU_take {X : ab_X} {d : Nat} {o : Nat → Nat} {G : ab_G} {s : Nat} {by_ : Nat} {co : Nat} {re : Nat} {ho : Nat} {n : Int} {f : Int → Int} {C : Int → Int} {Rs : Int → Int} {H : Int → Int} {m : Nat} {mc : Nat} {t : Nat} {it : Nat} {mt : Nat} {ft : Int → Int} {n1 : Int} {lim : Int} (hs : cc o G s 26 (ab_ob 9 [vR by_, vR co, vR re, vR ho, vz n])) (hby_ : cc o G by_ 27 (za m f)) (hco : cc o G co 28 (za mc C)) (hre : cc o G re 29 (za mc Rs)) (hho : cc o G ho 30 (za mc H)) (ht : cc o G t 22 (ab_ob 7 [vz lim, vR it, vz n1])) (hit : cc o G it 23 (za mt ft)) (csu : 0 ≤ n ∧ n ≤ ↑m ∧ 32 ≤ m ∧ m ≤ 2000 ∧ mc = m + 1) (ct : 0 ≤ n1 ∧ n1 ≤ ↑mt ∧ n1 ≤ 2000 ∧ mt ≤ 2000) (hbt : bytes ft n1) (rc : G.length + 4 ≤ ab_n0 + room_1.cells) (rs : ab_slots G + 8003 ≤ room_1.slots) (hd : 4 ≤ d) : ab_F X d y_SU_take (.code y_SU_take b_SU_take 4 none) [vR s, vR t] G (fun oc G2 => ∃ o2 : Nat → Nat, ∃ by2 : Nat, ∃ co2 : Nat, ∃ re2 : Nat, ∃ ho2 : Nat, ∃ f2 : Int → Int, ∃ C2 : Int → Int, ∃ R2 : Int → Int, ∃ H2 : Int → Int, ∃ m2 : Nat, ∃ mc2 : Nat, oc = .returned none ∧ fx o o2 [26, 27, 28, 29, 30] G G2 ∧ cc o2 G2 s 26 (ab_ob 9 [vR by2, vR co2, vR re2, vR ho2, vz n1]) ∧ cc o2 G2 by2 27 (za m2 f2) ∧ cc o2 G2 co2 28 (za mc2 C2) ∧ cc o2 G2 re2 29 (za mc2 R2) ∧ cc o2 G2 ho2 30 (za mc2 H2) ∧ (suok f2 C2 R2 H2 n1) ∧ (∀ k : Int, 0 ≤ k → k < n1 → f2 k = ft k) ∧ (n1 ≤ ↑m2 ∧ 32 ≤ m2 ∧ m2 ≤ 2000 ∧ mc2 = m2 + 1) ∧ (G2.length + 4 * m ≤ G.length + 4 * m2) ∧ (ab_slots G2 + 4 * zT m 2000 + 3 * m ≤ ab_slots G + 4 * zT m2 2000 + 3 * m2)) := by
  refine ab_F_of (by decide +kernel) (Nat.le_of_ble_eq_true rfl) ?_
  obtain ⟨Q, hQ⟩ : ∃ z : Outcome → ab_G → Prop, z = (fun oc G2 => ∃ o2 : Nat → Nat, ∃ by2 : Nat, ∃ co2 : Nat, ∃ re2 : Nat, ∃ ho2 : Nat, ∃ f2 : Int → Int, ∃ C2 : Int → Int, ∃ R2 : Int → Int, ∃ H2 : Int → Int, ∃ m2 : Nat, ∃ mc2 : Nat, oc = .returned none ∧ fx o o2 [26, 27, 28, 29, 30] G G2 ∧ cc o2 G2 s 26 (ab_ob 9 [vR by2, vR co2, vR re2, vR ho2, vz n1]) ∧ cc o2 G2 by2 27 (za m2 f2) ∧ cc o2 G2 co2 28 (za mc2 C2) ∧ cc o2 G2 re2 29 (za mc2 R2) ∧ cc o2 G2 ho2 30 (za mc2 H2) ∧ (suok f2 C2 R2 H2 n1) ∧ (∀ k : Int, 0 ≤ k → k < n1 → f2 k = ft k) ∧ (n1 ≤ ↑m2 ∧ 32 ≤ m2 ∧ m2 ≤ 2000 ∧ mc2 = m2 + 1) ∧ (G2.length + 4 * m ≤ G.length + 4 * m2) ∧ (ab_slots G2 + 4 * zT m 2000 + 3 * m ≤ ab_slots G + 4 * zT m2 2000 + 3 * m2)) := ⟨_, rfl⟩
  rw [← hQ]
  change ab_W X (ab_pl y_SU_take b_SU_take 4 none) d G 0 [some (vR s), some (vR t), none, none] [] Q
  have hfr : fx o o [26, 27, 28, 29, 30] G G := fx.rf
  refine ab_aload_n d_SU_take_0 rfl ?_
  refine ab_aload_n d_SU_take_1 rfl ?_
  refine ab_getf (fs := [vz lim, vR it, vz n1]) f_SU_28 d_SU_take_2 ht.2.2 rfl ?_
  refine ab_putf (fs := [vR by_, vR co, vR re, vR ho, vz n]) f_SU_34 (Or.inl rfl) d_SU_take_5 hs.2.2 (Nat.le_of_ble_eq_true rfl) (fun _ => ⟨rfl, rfl⟩) (hs.2.1 (by decide)) ?_
  obtain ⟨G1, eG1⟩ : ∃ z : ab_G, z = List.set G s (ab_ob 9 [vR by_, vR co, vR re, vR ho, vz n1]) := ⟨_, rfl⟩
  have hby_ := hby_.keep hs eG1 (by decide)
  have hco := hco.keep hs eG1 (by decide)
  have hre := hre.keep hs eG1 (by decide)
  have hho := hho.keep hs eG1 (by decide)
  have ht := ht.keep hs eG1 (by decide)
  have hit := hit.keep hs eG1 (by decide)
  have hq2 := z_len eG1
  have hq3 := z_sl hs eG1 rfl
  have hfr := hfr.wr hs eG1 (by decide)
  have hs := hs.kept eG1
  change ab_W _ _ _ (List.set G s (ab_ob 9 [vR by_, vR co, vR re, vR ho, vz n1])) 8 [some (vR s), some (vR t), none, none] [] _
  rw [← eG1]
  refine ab_aload_n d_SU_take_8 rfl ?_
  refine ab_getf (fs := [vR by_, vR co, vR re, vR ho, vz n1]) f_SU_34 d_SU_take_9 hs.2.2 rfl ?_
  refine ab_aload_n d_SU_take_12 rfl ?_
  refine ab_getf (fs := [vR by_, vR co, vR re, vR ho, vz n1]) f_SU_9 d_SU_take_13 hs.2.2 rfl ?_
  refine zz_alen d_SU_take_16 hby_ ?_
  refine zz_icmp_le (tgt := 75) d_SU_take_17 (by decide) (by omega) (by omega) (fun c4 => ?_) (fun c4 => ?_)
  · refine ab_aload_n d_SU_take_75 rfl ?_
    refine ab_getf (fs := [vz lim, vR it, vz n1]) f_SU_46 d_SU_take_76 ht.2.2 rfl ?_
    refine zz_iconst d_SU_take_79 ?_
    refine ab_aload_n d_SU_take_80 rfl ?_
    refine ab_getf (fs := [vR by_, vR co, vR re, vR ho, vz n1]) f_SU_9 d_SU_take_81 hs.2.2 rfl ?_
    refine zz_iconst d_SU_take_84 ?_
    refine ab_aload_n d_SU_take_85 rfl ?_
    refine ab_getf (fs := [vR by_, vR co, vR re, vR ho, vz n1]) f_SU_34 d_SU_take_86 hs.2.2 rfl ?_
    refine zz_copy mj_SU_49 d_SU_take_89 hit hby_ (hby_.2.1 (by decide)) (by omega) (Nat.le_of_ble_eq_true rfl) (by omega) ?_
    obtain ⟨G5, eG5⟩ : ∃ z : ab_G, z = List.set G1 by_ (za m (zcpy ft f 0 0 n1)) := ⟨_, rfl⟩
    have hs := hs.keep hby_ eG5 (by decide)
    have hco := hco.keep hby_ eG5 (by decide)
    have hre := hre.keep hby_ eG5 (by decide)
    have hho := hho.keep hby_ eG5 (by decide)
    have ht := ht.keep hby_ eG5 (by decide)
    have hit := hit.keep hby_ eG5 (by decide)
    have hq6 := z_len eG5
    have hq7 := z_sl hby_ eG5 rfl
    have hfr := hfr.wr hby_ eG5 (by decide)
    have hby_ := hby_.kept eG5
    change ab_W _ _ _ (List.set G1 by_ (za m (zcpy ft f 0 0 n1))) 92 [some (vR s), some (vR t), none, none] [] _
    rw [← eG5]
    refine zz_iconst d_SU_take_92 ?_
    refine ab_istore_n d_SU_take_93 (Nat.le_of_ble_eq_true rfl) (Nat.le_of_ble_eq_true rfl) rfl ?_
    change ab_W _ _ _ G5 94 [some (vR s), some (vR t), some (vz 0), none] [] _
    refine zz_iconst d_SU_take_94 ?_
    refine ab_istore_n d_SU_take_95 (Nat.le_of_ble_eq_true rfl) (Nat.le_of_ble_eq_true rfl) rfl ?_
    change ab_W _ _ _ G5 96 [some (vR s), some (vR t), some (vz 0), some (vz 0)] [] _
    refine ab_less (L' := [some (vR s), none, some (vz 0), some (vz 0)]) (fun i v h => by rcases i with _ | _ | _ | _ | i <;> first | exact h | (simp at h)) ?_
    refine y_SU_take_96 (s := s) (by_ := by_) (co := co) (re := re) (ho := ho) (n := n1) (f := (zcpy ft f 0 0 n1)) (m := m) (mc := mc) (G0 := G5) (rest := 0) (a := 0) (C := C) (Rs := Rs) (H := H) (by omega) (by_cpy hbt) (by omega) (Int.toNat (n1 + 1 - 0) + 1) hs hby_ hco hre hho (by omega) (by omega) ⟨fun _ => rfl, fun h => absurd h (by omega)⟩ sup_0 fx.rf rfl rfl (by omega) (fun G8 C29 R210 H211 hNs hNby_ hNco hNre hNho hq12 hfk hlk hsk => ?_)
    · have ht := hfk.get ht (by decide)
      have hit := hfk.get hit (by decide)
      have hfr := hfr.tr hfk (by decide)
      have hq13 := hfk.1
      have hq14 := hlk
      have hq15 := hsk
      have hs := hNs
      have hby_ := hNby_
      have hco := hNco
      have hre := hNre
      have hho := hNho
      rw [hQ]; exact ⟨_, _, _, _, _, _, _, _, _, _, _, rfl, hfr, hs, hby_, hco, hre, hho, (by exact hq12), (by exact eq_cpy), (by omega), (by omega), (by unfold zT; (repeat' split) <;> omega)⟩
  · refine ab_aload_n d_SU_take_20 rfl ?_
    refine ab_getf (fs := [vR by_, vR co, vR re, vR ho, vz n1]) f_SU_34 d_SU_take_21 hs.2.2 rfl ?_
    refine zz_sipush d_SU_take_24 (by decide) ?_
    refine zz_iconst d_SU_take_27 ?_
    refine ab_aload_n d_SU_take_28 rfl ?_
    refine ab_getf (fs := [vR by_, vR co, vR re, vR ho, vz n1]) f_SU_9 d_SU_take_29 hs.2.2 rfl ?_
    refine zz_alen d_SU_take_32 hby_ ?_
    refine zz_imul d_SU_take_33 ?_
    refine zz_mmin2 mj_SU_37 d_SU_take_34 (by decide) (by omega) (Nat.le_of_ble_eq_true rfl) (by omega) (fun c16 => ?_) (fun c16 => ?_)
    · refine zz_mmax2 mj_SU_43 d_SU_take_37 (by omega) (by decide) (Nat.le_of_ble_eq_true rfl) (by omega) (fun c17 => ?_) (fun c17 => absurd c17 (by omega))
      refine ab_istore_n d_SU_take_40 (Nat.le_of_ble_eq_true rfl) (Nat.le_of_ble_eq_true rfl) rfl ?_
      change ab_W _ _ _ G1 41 [some (vR s), some (vR t), some (vz 2000), none] [] _
      refine ab_aload_n d_SU_take_41 rfl ?_
      refine ab_iload_n d_SU_take_42 rfl ?_
      refine zz_newI (w := 2000) a_int d_SU_take_43 (by decide) (by omega) (by omega) (by omega) ?_
      obtain ⟨G18, eG18⟩ : ∃ z : ab_G, z = G1 ++ [za 2000 (fun _ => 0)] := ⟨_, rfl⟩
      obtain ⟨o19, eo19⟩ : ∃ z : Nat → Nat, z = ol o G1.length 27 := ⟨_, rfl⟩
      obtain ⟨a20, ea20⟩ : ∃ z : Nat, z = G1.length := ⟨_, rfl⟩
      have hq21 := hit.n0 (by first | decide | omega)
      have ne_a20_s : nq a20 s := by have hlt := hs.lt; unfold nq; omega
      have ne_a20_by_ : nq a20 by_ := by have hlt := hby_.lt; unfold nq; omega
      have ne_a20_co : nq a20 co := by have hlt := hco.lt; unfold nq; omega
      have ne_a20_re : nq a20 re := by have hlt := hre.lt; unfold nq; omega
      have ne_a20_ho : nq a20 ho := by have hlt := hho.lt; unfold nq; omega
      have ne_a20_t : nq a20 t := by have hlt := ht.lt; unfold nq; omega
      have ne_a20_it : nq a20 it := by have hlt := hit.lt; unfold nq; omega
      have hs := hs.akeep (k := 27) eG18
      rw [← eo19] at hs
      have hby_ := hby_.akeep (k := 27) eG18
      rw [← eo19] at hby_
      have hco := hco.akeep (k := 27) eG18
      rw [← eo19] at hco
      have hre := hre.akeep (k := 27) eG18
      rw [← eo19] at hre
      have hho := hho.akeep (k := 27) eG18
      rw [← eo19] at hho
      have ht := ht.akeep (k := 27) eG18
      rw [← eo19] at ht
      have hit := hit.akeep (k := 27) eG18
      rw [← eo19] at hit
      have ha20 := cc.anew (o := o) 27 eG18 hq21
      rw [← eo19, ← ea20] at ha20
      have hfr := hfr.ap (k := 27) eG18
      rw [← eo19] at hfr
      have hq22 := z_alen eG18
      have hq23 : ab_slots G18 = ab_slots G1 + 2000 := z_asl eG18 hq21
      change ab_W _ _ _ (G1 ++ [za 2000 (fun _ => 0)]) 45 [some (vR s), some (vR t), some (vz 2000), none] [.ref G1.length, vR s] _
      rw [← eG18, ← ea20]
      change ab_W _ _ _ G18 45 [some (vR s), some (vR t), some (vz 2000), none] [vR a20, vR s] _
      refine ab_putf (fs := [vR by_, vR co, vR re, vR ho, vz n1]) f_SU_9 (Or.inl rfl) d_SU_take_45 hs.2.2 (Nat.le_of_ble_eq_true rfl) (fun _ => ⟨rfl, rfl⟩) (hs.2.1 (by decide)) ?_
      obtain ⟨G24, eG24⟩ : ∃ z : ab_G, z = List.set G18 s (ab_ob 9 [vR a20, vR co, vR re, vR ho, vz n1]) := ⟨_, rfl⟩
      have hby_ := hby_.keep hs eG24 (by decide)
      have hco := hco.keep hs eG24 (by decide)
      have hre := hre.keep hs eG24 (by decide)
      have hho := hho.keep hs eG24 (by decide)
      have ht := ht.keep hs eG24 (by decide)
      have hit := hit.keep hs eG24 (by decide)
      have ha20 := ha20.keep hs eG24 (by decide)
      have hq25 := z_len eG24
      have hq26 := z_sl hs eG24 rfl
      have hfr := hfr.wr hs eG24 (by decide)
      have hs := hs.kept eG24
      change ab_W _ _ _ (List.set G18 s (ab_ob 9 [vR a20, vR co, vR re, vR ho, vz n1])) 48 [some (vR s), some (vR t), some (vz 2000), none] [] _
      rw [← eG24]
      refine ab_aload_n d_SU_take_48 rfl ?_
      refine ab_iload_n d_SU_take_49 rfl ?_
      refine zz_iconst d_SU_take_50 ?_
      refine zz_iadd d_SU_take_51 ?_
      refine zz_top (y := 2001) (by decide) ?_
      refine zz_newI (w := 2001) a_int d_SU_take_52 (by decide) (by omega) (by omega) (by omega) ?_
      obtain ⟨G27, eG27⟩ : ∃ z : ab_G, z = G24 ++ [za 2001 (fun _ => 0)] := ⟨_, rfl⟩
      obtain ⟨o28, eo28⟩ : ∃ z : Nat → Nat, z = ol o19 G24.length 28 := ⟨_, rfl⟩
      obtain ⟨a29, ea29⟩ : ∃ z : Nat, z = G24.length := ⟨_, rfl⟩
      have hq30 := ha20.n0 (by first | decide | omega)
      have ne_a29_s : nq a29 s := by have hlt := hs.lt; unfold nq; omega
      have ne_a29_by_ : nq a29 by_ := by have hlt := hby_.lt; unfold nq; omega
      have ne_a29_co : nq a29 co := by have hlt := hco.lt; unfold nq; omega
      have ne_a29_re : nq a29 re := by have hlt := hre.lt; unfold nq; omega
      have ne_a29_ho : nq a29 ho := by have hlt := hho.lt; unfold nq; omega
      have ne_a29_t : nq a29 t := by have hlt := ht.lt; unfold nq; omega
      have ne_a29_it : nq a29 it := by have hlt := hit.lt; unfold nq; omega
      have ne_a29_a20 : nq a29 a20 := by have hlt := ha20.lt; unfold nq; omega
      have hs := hs.akeep (k := 28) eG27
      rw [← eo28] at hs
      have hby_ := hby_.akeep (k := 28) eG27
      rw [← eo28] at hby_
      have hco := hco.akeep (k := 28) eG27
      rw [← eo28] at hco
      have hre := hre.akeep (k := 28) eG27
      rw [← eo28] at hre
      have hho := hho.akeep (k := 28) eG27
      rw [← eo28] at hho
      have ht := ht.akeep (k := 28) eG27
      rw [← eo28] at ht
      have hit := hit.akeep (k := 28) eG27
      rw [← eo28] at hit
      have ha20 := ha20.akeep (k := 28) eG27
      rw [← eo28] at ha20
      have ha29 := cc.anew (o := o19) 28 eG27 hq30
      rw [← eo28, ← ea29] at ha29
      have hfr := hfr.ap (k := 28) eG27
      rw [← eo28] at hfr
      have hq31 := z_alen eG27
      have hq32 : ab_slots G27 = ab_slots G24 + 2001 := z_asl eG27 hq30
      change ab_W _ _ _ (G24 ++ [za 2001 (fun _ => 0)]) 54 [some (vR s), some (vR t), some (vz 2000), none] [.ref G24.length, vR s] _
      rw [← eG27, ← ea29]
      change ab_W _ _ _ G27 54 [some (vR s), some (vR t), some (vz 2000), none] [vR a29, vR s] _
      refine ab_putf (fs := [vR a20, vR co, vR re, vR ho, vz n1]) f_SU_15 (Or.inl rfl) d_SU_take_54 hs.2.2 (Nat.le_of_ble_eq_true rfl) (fun _ => ⟨rfl, rfl⟩) (hs.2.1 (by decide)) ?_
      obtain ⟨G33, eG33⟩ : ∃ z : ab_G, z = List.set G27 s (ab_ob 9 [vR a20, vR a29, vR re, vR ho, vz n1]) := ⟨_, rfl⟩
      have hby_ := hby_.keep hs eG33 (by decide)
      have hco := hco.keep hs eG33 (by decide)
      have hre := hre.keep hs eG33 (by decide)
      have hho := hho.keep hs eG33 (by decide)
      have ht := ht.keep hs eG33 (by decide)
      have hit := hit.keep hs eG33 (by decide)
      have ha20 := ha20.keep hs eG33 (by decide)
      have ha29 := ha29.keep hs eG33 (by decide)
      have hq34 := z_len eG33
      have hq35 := z_sl hs eG33 rfl
      have hfr := hfr.wr hs eG33 (by decide)
      have hs := hs.kept eG33
      change ab_W _ _ _ (List.set G27 s (ab_ob 9 [vR a20, vR a29, vR re, vR ho, vz n1])) 57 [some (vR s), some (vR t), some (vz 2000), none] [] _
      rw [← eG33]
      refine ab_aload_n d_SU_take_57 rfl ?_
      refine ab_iload_n d_SU_take_58 rfl ?_
      refine zz_iconst d_SU_take_59 ?_
      refine zz_iadd d_SU_take_60 ?_
      refine zz_top (y := 2001) (by decide) ?_
      refine zz_newI (w := 2001) a_int d_SU_take_61 (by decide) (by omega) (by omega) (by omega) ?_
      obtain ⟨G36, eG36⟩ : ∃ z : ab_G, z = G33 ++ [za 2001 (fun _ => 0)] := ⟨_, rfl⟩
      obtain ⟨o37, eo37⟩ : ∃ z : Nat → Nat, z = ol o28 G33.length 29 := ⟨_, rfl⟩
      obtain ⟨a38, ea38⟩ : ∃ z : Nat, z = G33.length := ⟨_, rfl⟩
      have hq39 := ha29.n0 (by first | decide | omega)
      have ne_a38_s : nq a38 s := by have hlt := hs.lt; unfold nq; omega
      have ne_a38_by_ : nq a38 by_ := by have hlt := hby_.lt; unfold nq; omega
      have ne_a38_co : nq a38 co := by have hlt := hco.lt; unfold nq; omega
      have ne_a38_re : nq a38 re := by have hlt := hre.lt; unfold nq; omega
      have ne_a38_ho : nq a38 ho := by have hlt := hho.lt; unfold nq; omega
      have ne_a38_t : nq a38 t := by have hlt := ht.lt; unfold nq; omega
      have ne_a38_it : nq a38 it := by have hlt := hit.lt; unfold nq; omega
      have ne_a38_a20 : nq a38 a20 := by have hlt := ha20.lt; unfold nq; omega
      have ne_a38_a29 : nq a38 a29 := by have hlt := ha29.lt; unfold nq; omega
      have hs := hs.akeep (k := 29) eG36
      rw [← eo37] at hs
      have hby_ := hby_.akeep (k := 29) eG36
      rw [← eo37] at hby_
      have hco := hco.akeep (k := 29) eG36
      rw [← eo37] at hco
      have hre := hre.akeep (k := 29) eG36
      rw [← eo37] at hre
      have hho := hho.akeep (k := 29) eG36
      rw [← eo37] at hho
      have ht := ht.akeep (k := 29) eG36
      rw [← eo37] at ht
      have hit := hit.akeep (k := 29) eG36
      rw [← eo37] at hit
      have ha20 := ha20.akeep (k := 29) eG36
      rw [← eo37] at ha20
      have ha29 := ha29.akeep (k := 29) eG36
      rw [← eo37] at ha29
      have ha38 := cc.anew (o := o28) 29 eG36 hq39
      rw [← eo37, ← ea38] at ha38
      have hfr := hfr.ap (k := 29) eG36
      rw [← eo37] at hfr
      have hq40 := z_alen eG36
      have hq41 : ab_slots G36 = ab_slots G33 + 2001 := z_asl eG36 hq39
      change ab_W _ _ _ (G33 ++ [za 2001 (fun _ => 0)]) 63 [some (vR s), some (vR t), some (vz 2000), none] [.ref G33.length, vR s] _
      rw [← eG36, ← ea38]
      change ab_W _ _ _ G36 63 [some (vR s), some (vR t), some (vz 2000), none] [vR a38, vR s] _
      refine ab_putf (fs := [vR a20, vR a29, vR re, vR ho, vz n1]) f_SU_18 (Or.inl rfl) d_SU_take_63 hs.2.2 (Nat.le_of_ble_eq_true rfl) (fun _ => ⟨rfl, rfl⟩) (hs.2.1 (by decide)) ?_
      obtain ⟨G42, eG42⟩ : ∃ z : ab_G, z = List.set G36 s (ab_ob 9 [vR a20, vR a29, vR a38, vR ho, vz n1]) := ⟨_, rfl⟩
      have hby_ := hby_.keep hs eG42 (by decide)
      have hco := hco.keep hs eG42 (by decide)
      have hre := hre.keep hs eG42 (by decide)
      have hho := hho.keep hs eG42 (by decide)
      have ht := ht.keep hs eG42 (by decide)
      have hit := hit.keep hs eG42 (by decide)
      have ha20 := ha20.keep hs eG42 (by decide)
      have ha29 := ha29.keep hs eG42 (by decide)
      have ha38 := ha38.keep hs eG42 (by decide)
      have hq43 := z_len eG42
      have hq44 := z_sl hs eG42 rfl
      have hfr := hfr.wr hs eG42 (by decide)
      have hs := hs.kept eG42
      change ab_W _ _ _ (List.set G36 s (ab_ob 9 [vR a20, vR a29, vR a38, vR ho, vz n1])) 66 [some (vR s), some (vR t), some (vz 2000), none] [] _
      rw [← eG42]
      refine ab_aload_n d_SU_take_66 rfl ?_
      refine ab_iload_n d_SU_take_67 rfl ?_
      refine zz_iconst d_SU_take_68 ?_
      refine zz_iadd d_SU_take_69 ?_
      refine zz_top (y := 2001) (by decide) ?_
      refine zz_newI (w := 2001) a_int d_SU_take_70 (by decide) (by omega) (by omega) (by omega) ?_
      obtain ⟨G45, eG45⟩ : ∃ z : ab_G, z = G42 ++ [za 2001 (fun _ => 0)] := ⟨_, rfl⟩
      obtain ⟨o46, eo46⟩ : ∃ z : Nat → Nat, z = ol o37 G42.length 30 := ⟨_, rfl⟩
      obtain ⟨a47, ea47⟩ : ∃ z : Nat, z = G42.length := ⟨_, rfl⟩
      have hq48 := ha38.n0 (by first | decide | omega)
      have ne_a47_s : nq a47 s := by have hlt := hs.lt; unfold nq; omega
      have ne_a47_by_ : nq a47 by_ := by have hlt := hby_.lt; unfold nq; omega
      have ne_a47_co : nq a47 co := by have hlt := hco.lt; unfold nq; omega
      have ne_a47_re : nq a47 re := by have hlt := hre.lt; unfold nq; omega
      have ne_a47_ho : nq a47 ho := by have hlt := hho.lt; unfold nq; omega
      have ne_a47_t : nq a47 t := by have hlt := ht.lt; unfold nq; omega
      have ne_a47_it : nq a47 it := by have hlt := hit.lt; unfold nq; omega
      have ne_a47_a20 : nq a47 a20 := by have hlt := ha20.lt; unfold nq; omega
      have ne_a47_a29 : nq a47 a29 := by have hlt := ha29.lt; unfold nq; omega
      have ne_a47_a38 : nq a47 a38 := by have hlt := ha38.lt; unfold nq; omega
      have hs := hs.akeep (k := 30) eG45
      rw [← eo46] at hs
      have hby_ := hby_.akeep (k := 30) eG45
      rw [← eo46] at hby_
      have hco := hco.akeep (k := 30) eG45
      rw [← eo46] at hco
      have hre := hre.akeep (k := 30) eG45
      rw [← eo46] at hre
      have hho := hho.akeep (k := 30) eG45
      rw [← eo46] at hho
      have ht := ht.akeep (k := 30) eG45
      rw [← eo46] at ht
      have hit := hit.akeep (k := 30) eG45
      rw [← eo46] at hit
      have ha20 := ha20.akeep (k := 30) eG45
      rw [← eo46] at ha20
      have ha29 := ha29.akeep (k := 30) eG45
      rw [← eo46] at ha29
      have ha38 := ha38.akeep (k := 30) eG45
      rw [← eo46] at ha38
      have ha47 := cc.anew (o := o37) 30 eG45 hq48
      rw [← eo46, ← ea47] at ha47
      have hfr := hfr.ap (k := 30) eG45
      rw [← eo46] at hfr
      have hq49 := z_alen eG45
      have hq50 : ab_slots G45 = ab_slots G42 + 2001 := z_asl eG45 hq48
      change ab_W _ _ _ (G42 ++ [za 2001 (fun _ => 0)]) 72 [some (vR s), some (vR t), some (vz 2000), none] [.ref G42.length, vR s] _
      rw [← eG45, ← ea47]
      change ab_W _ _ _ G45 72 [some (vR s), some (vR t), some (vz 2000), none] [vR a47, vR s] _
      refine ab_putf (fs := [vR a20, vR a29, vR a38, vR ho, vz n1]) f_SU_21 (Or.inl rfl) d_SU_take_72 hs.2.2 (Nat.le_of_ble_eq_true rfl) (fun _ => ⟨rfl, rfl⟩) (hs.2.1 (by decide)) ?_
      obtain ⟨G51, eG51⟩ : ∃ z : ab_G, z = List.set G45 s (ab_ob 9 [vR a20, vR a29, vR a38, vR a47, vz n1]) := ⟨_, rfl⟩
      have hby_ := hby_.keep hs eG51 (by decide)
      have hco := hco.keep hs eG51 (by decide)
      have hre := hre.keep hs eG51 (by decide)
      have hho := hho.keep hs eG51 (by decide)
      have ht := ht.keep hs eG51 (by decide)
      have hit := hit.keep hs eG51 (by decide)
      have ha20 := ha20.keep hs eG51 (by decide)
      have ha29 := ha29.keep hs eG51 (by decide)
      have ha38 := ha38.keep hs eG51 (by decide)
      have ha47 := ha47.keep hs eG51 (by decide)
      have hq52 := z_len eG51
      have hq53 := z_sl hs eG51 rfl
      have hfr := hfr.wr hs eG51 (by decide)
      have hs := hs.kept eG51
      change ab_W _ _ _ (List.set G45 s (ab_ob 9 [vR a20, vR a29, vR a38, vR a47, vz n1])) 75 [some (vR s), some (vR t), some (vz 2000), none] [] _
      rw [← eG51]
      refine ab_aload_n d_SU_take_75 rfl ?_
      refine ab_getf (fs := [vz lim, vR it, vz n1]) f_SU_46 d_SU_take_76 ht.2.2 rfl ?_
      refine zz_iconst d_SU_take_79 ?_
      refine ab_aload_n d_SU_take_80 rfl ?_
      refine ab_getf (fs := [vR a20, vR a29, vR a38, vR a47, vz n1]) f_SU_9 d_SU_take_81 hs.2.2 rfl ?_
      refine zz_iconst d_SU_take_84 ?_
      refine ab_aload_n d_SU_take_85 rfl ?_
      refine ab_getf (fs := [vR a20, vR a29, vR a38, vR a47, vz n1]) f_SU_34 d_SU_take_86 hs.2.2 rfl ?_
      refine zz_copy mj_SU_49 d_SU_take_89 hit ha20 (ha20.2.1 (by decide)) (by omega) (Nat.le_of_ble_eq_true rfl) (by omega) ?_
      obtain ⟨G54, eG54⟩ : ∃ z : ab_G, z = List.set G51 a20 (za 2000 (zcpy ft (fun _ => 0) 0 0 n1)) := ⟨_, rfl⟩
      have hs := hs.keep ha20 eG54 (by decide)
      have hby_ := hby_.keep' eG54 ne_a20_by_
      have hco := hco.keep ha20 eG54 (by decide)
      have hre := hre.keep ha20 eG54 (by decide)
      have hho := hho.keep ha20 eG54 (by decide)
      have ht := ht.keep ha20 eG54 (by decide)
      have hit := hit.keep ha20 eG54 (by decide)
      have ha29 := ha29.keep ha20 eG54 (by decide)
      have ha38 := ha38.keep ha20 eG54 (by decide)
      have ha47 := ha47.keep ha20 eG54 (by decide)
      have hq55 := z_len eG54
      have hq56 := z_sl ha20 eG54 rfl
      have hfr := hfr.wn (show G.length ≤ a20 by have := hfr.1; omega) eG54
      have ha20 := ha20.kept eG54
      change ab_W _ _ _ (List.set G51 a20 (za 2000 (zcpy ft (fun _ => 0) 0 0 n1))) 92 [some (vR s), some (vR t), some (vz 2000), none] [] _
      rw [← eG54]
      refine zz_iconst d_SU_take_92 ?_
      refine ab_istore_n d_SU_take_93 (Nat.le_of_ble_eq_true rfl) (Nat.le_of_ble_eq_true rfl) rfl ?_
      change ab_W _ _ _ G54 94 [some (vR s), some (vR t), some (vz 0), none] [] _
      refine zz_iconst d_SU_take_94 ?_
      refine ab_istore_n d_SU_take_95 (Nat.le_of_ble_eq_true rfl) (Nat.le_of_ble_eq_true rfl) rfl ?_
      change ab_W _ _ _ G54 96 [some (vR s), some (vR t), some (vz 0), some (vz 0)] [] _
      refine ab_less (L' := [some (vR s), none, some (vz 0), some (vz 0)]) (fun i v h => by rcases i with _ | _ | _ | _ | i <;> first | exact h | (simp at h)) ?_
      refine y_SU_take_96 (s := s) (by_ := a20) (co := a29) (re := a38) (ho := a47) (n := n1) (f := (zcpy ft (fun _ => 0) 0 0 n1)) (m := 2000) (mc := 2001) (G0 := G54) (rest := 0) (a := 0) (C := (fun _ => 0)) (Rs := (fun _ => 0)) (H := (fun _ => 0)) (by omega) (by_cpy hbt) (by omega) (Int.toNat (n1 + 1 - 0) + 1) hs ha20 ha29 ha38 ha47 (by omega) (by omega) ⟨fun _ => rfl, fun h => absurd h (by omega)⟩ sup_0 fx.rf rfl rfl (by omega) (fun G57 C258 R259 H260 hNs hNa20 hNa29 hNa38 hNa47 hq61 hfk hlk hsk => ?_)
      · have hby_ := hfk.get hby_ (by decide)
        have ht := hfk.get ht (by decide)
        have hit := hfk.get hit (by decide)
        have hfr := hfr.tr hfk (by decide)
        have hq62 := hfk.1
        have hq63 := hlk
        have hq64 := hsk
        have hs := hNs
        have ha20 := hNa20
        have ha29 := hNa29
        have ha38 := hNa38
        have ha47 := hNa47
        rw [hQ]; exact ⟨_, _, _, _, _, _, _, _, _, _, _, rfl, hfr, hs, ha20, ha29, ha38, ha47, (by exact hq61), (by exact eq_cpy), (by omega), (by omega), (by unfold zT; (repeat' split) <;> omega)⟩
    · refine zz_mmax2 mj_SU_43 d_SU_take_37 (by omega) (by omega) (Nat.le_of_ble_eq_true rfl) (by omega) (fun c65 => ?_) (fun c65 => ?_)
      · refine ab_istore_n d_SU_take_40 (Nat.le_of_ble_eq_true rfl) (Nat.le_of_ble_eq_true rfl) rfl ?_
        change ab_W _ _ _ G1 41 [some (vR s), some (vR t), some (vz (2 * (↑m : Int))), none] [] _
        refine ab_aload_n d_SU_take_41 rfl ?_
        refine ab_iload_n d_SU_take_42 rfl ?_
        obtain ⟨w66, hw66⟩ : ∃ z : Nat, (z : Int) = (2 * (↑m : Int)) := ⟨Int.toNat (2 * (↑m : Int)), by omega⟩
        refine zz_newI (w := w66) a_int d_SU_take_43 (by omega) (by omega) (by omega) (by omega) ?_
        obtain ⟨G67, eG67⟩ : ∃ z : ab_G, z = G1 ++ [za w66 (fun _ => 0)] := ⟨_, rfl⟩
        obtain ⟨o68, eo68⟩ : ∃ z : Nat → Nat, z = ol o G1.length 27 := ⟨_, rfl⟩
        obtain ⟨a69, ea69⟩ : ∃ z : Nat, z = G1.length := ⟨_, rfl⟩
        have hq70 := hit.n0 (by first | decide | omega)
        have ne_a69_s : nq a69 s := by have hlt := hs.lt; unfold nq; omega
        have ne_a69_by_ : nq a69 by_ := by have hlt := hby_.lt; unfold nq; omega
        have ne_a69_co : nq a69 co := by have hlt := hco.lt; unfold nq; omega
        have ne_a69_re : nq a69 re := by have hlt := hre.lt; unfold nq; omega
        have ne_a69_ho : nq a69 ho := by have hlt := hho.lt; unfold nq; omega
        have ne_a69_t : nq a69 t := by have hlt := ht.lt; unfold nq; omega
        have ne_a69_it : nq a69 it := by have hlt := hit.lt; unfold nq; omega
        have hs := hs.akeep (k := 27) eG67
        rw [← eo68] at hs
        have hby_ := hby_.akeep (k := 27) eG67
        rw [← eo68] at hby_
        have hco := hco.akeep (k := 27) eG67
        rw [← eo68] at hco
        have hre := hre.akeep (k := 27) eG67
        rw [← eo68] at hre
        have hho := hho.akeep (k := 27) eG67
        rw [← eo68] at hho
        have ht := ht.akeep (k := 27) eG67
        rw [← eo68] at ht
        have hit := hit.akeep (k := 27) eG67
        rw [← eo68] at hit
        have ha69 := cc.anew (o := o) 27 eG67 hq70
        rw [← eo68, ← ea69] at ha69
        have hfr := hfr.ap (k := 27) eG67
        rw [← eo68] at hfr
        have hq71 := z_alen eG67
        have hq72 : ab_slots G67 = ab_slots G1 + w66 := z_asl eG67 hq70
        change ab_W _ _ _ (G1 ++ [za w66 (fun _ => 0)]) 45 [some (vR s), some (vR t), some (vz (2 * (↑m : Int))), none] [.ref G1.length, vR s] _
        rw [← eG67, ← ea69]
        change ab_W _ _ _ G67 45 [some (vR s), some (vR t), some (vz (2 * (↑m : Int))), none] [vR a69, vR s] _
        refine ab_putf (fs := [vR by_, vR co, vR re, vR ho, vz n1]) f_SU_9 (Or.inl rfl) d_SU_take_45 hs.2.2 (Nat.le_of_ble_eq_true rfl) (fun _ => ⟨rfl, rfl⟩) (hs.2.1 (by decide)) ?_
        obtain ⟨G73, eG73⟩ : ∃ z : ab_G, z = List.set G67 s (ab_ob 9 [vR a69, vR co, vR re, vR ho, vz n1]) := ⟨_, rfl⟩
        have hby_ := hby_.keep hs eG73 (by decide)
        have hco := hco.keep hs eG73 (by decide)
        have hre := hre.keep hs eG73 (by decide)
        have hho := hho.keep hs eG73 (by decide)
        have ht := ht.keep hs eG73 (by decide)
        have hit := hit.keep hs eG73 (by decide)
        have ha69 := ha69.keep hs eG73 (by decide)
        have hq74 := z_len eG73
        have hq75 := z_sl hs eG73 rfl
        have hfr := hfr.wr hs eG73 (by decide)
        have hs := hs.kept eG73
        change ab_W _ _ _ (List.set G67 s (ab_ob 9 [vR a69, vR co, vR re, vR ho, vz n1])) 48 [some (vR s), some (vR t), some (vz (2 * (↑m : Int))), none] [] _
        rw [← eG73]
        refine ab_aload_n d_SU_take_48 rfl ?_
        refine ab_iload_n d_SU_take_49 rfl ?_
        refine zz_iconst d_SU_take_50 ?_
        refine zz_iadd d_SU_take_51 ?_
        obtain ⟨w76, hw76⟩ : ∃ z : Nat, (z : Int) = ((2 * (↑m : Int)) + 1) := ⟨Int.toNat ((2 * (↑m : Int)) + 1), by omega⟩
        refine zz_newI (w := w76) a_int d_SU_take_52 (by omega) (by omega) (by omega) (by omega) ?_
        obtain ⟨G77, eG77⟩ : ∃ z : ab_G, z = G73 ++ [za w76 (fun _ => 0)] := ⟨_, rfl⟩
        obtain ⟨o78, eo78⟩ : ∃ z : Nat → Nat, z = ol o68 G73.length 28 := ⟨_, rfl⟩
        obtain ⟨a79, ea79⟩ : ∃ z : Nat, z = G73.length := ⟨_, rfl⟩
        have hq80 := ha69.n0 (by first | decide | omega)
        have ne_a79_s : nq a79 s := by have hlt := hs.lt; unfold nq; omega
        have ne_a79_by_ : nq a79 by_ := by have hlt := hby_.lt; unfold nq; omega
        have ne_a79_co : nq a79 co := by have hlt := hco.lt; unfold nq; omega
        have ne_a79_re : nq a79 re := by have hlt := hre.lt; unfold nq; omega
        have ne_a79_ho : nq a79 ho := by have hlt := hho.lt; unfold nq; omega
        have ne_a79_t : nq a79 t := by have hlt := ht.lt; unfold nq; omega
        have ne_a79_it : nq a79 it := by have hlt := hit.lt; unfold nq; omega
        have ne_a79_a69 : nq a79 a69 := by have hlt := ha69.lt; unfold nq; omega
        have hs := hs.akeep (k := 28) eG77
        rw [← eo78] at hs
        have hby_ := hby_.akeep (k := 28) eG77
        rw [← eo78] at hby_
        have hco := hco.akeep (k := 28) eG77
        rw [← eo78] at hco
        have hre := hre.akeep (k := 28) eG77
        rw [← eo78] at hre
        have hho := hho.akeep (k := 28) eG77
        rw [← eo78] at hho
        have ht := ht.akeep (k := 28) eG77
        rw [← eo78] at ht
        have hit := hit.akeep (k := 28) eG77
        rw [← eo78] at hit
        have ha69 := ha69.akeep (k := 28) eG77
        rw [← eo78] at ha69
        have ha79 := cc.anew (o := o68) 28 eG77 hq80
        rw [← eo78, ← ea79] at ha79
        have hfr := hfr.ap (k := 28) eG77
        rw [← eo78] at hfr
        have hq81 := z_alen eG77
        have hq82 : ab_slots G77 = ab_slots G73 + w76 := z_asl eG77 hq80
        change ab_W _ _ _ (G73 ++ [za w76 (fun _ => 0)]) 54 [some (vR s), some (vR t), some (vz (2 * (↑m : Int))), none] [.ref G73.length, vR s] _
        rw [← eG77, ← ea79]
        change ab_W _ _ _ G77 54 [some (vR s), some (vR t), some (vz (2 * (↑m : Int))), none] [vR a79, vR s] _
        refine ab_putf (fs := [vR a69, vR co, vR re, vR ho, vz n1]) f_SU_15 (Or.inl rfl) d_SU_take_54 hs.2.2 (Nat.le_of_ble_eq_true rfl) (fun _ => ⟨rfl, rfl⟩) (hs.2.1 (by decide)) ?_
        obtain ⟨G83, eG83⟩ : ∃ z : ab_G, z = List.set G77 s (ab_ob 9 [vR a69, vR a79, vR re, vR ho, vz n1]) := ⟨_, rfl⟩
        have hby_ := hby_.keep hs eG83 (by decide)
        have hco := hco.keep hs eG83 (by decide)
        have hre := hre.keep hs eG83 (by decide)
        have hho := hho.keep hs eG83 (by decide)
        have ht := ht.keep hs eG83 (by decide)
        have hit := hit.keep hs eG83 (by decide)
        have ha69 := ha69.keep hs eG83 (by decide)
        have ha79 := ha79.keep hs eG83 (by decide)
        have hq84 := z_len eG83
        have hq85 := z_sl hs eG83 rfl
        have hfr := hfr.wr hs eG83 (by decide)
        have hs := hs.kept eG83
        change ab_W _ _ _ (List.set G77 s (ab_ob 9 [vR a69, vR a79, vR re, vR ho, vz n1])) 57 [some (vR s), some (vR t), some (vz (2 * (↑m : Int))), none] [] _
        rw [← eG83]
        refine ab_aload_n d_SU_take_57 rfl ?_
        refine ab_iload_n d_SU_take_58 rfl ?_
        refine zz_iconst d_SU_take_59 ?_
        refine zz_iadd d_SU_take_60 ?_
        refine zz_newI (w := w76) a_int d_SU_take_61 (by omega) (by omega) (by omega) (by omega) ?_
        obtain ⟨G86, eG86⟩ : ∃ z : ab_G, z = G83 ++ [za w76 (fun _ => 0)] := ⟨_, rfl⟩
        obtain ⟨o87, eo87⟩ : ∃ z : Nat → Nat, z = ol o78 G83.length 29 := ⟨_, rfl⟩
        obtain ⟨a88, ea88⟩ : ∃ z : Nat, z = G83.length := ⟨_, rfl⟩
        have hq89 := ha79.n0 (by first | decide | omega)
        have ne_a88_s : nq a88 s := by have hlt := hs.lt; unfold nq; omega
        have ne_a88_by_ : nq a88 by_ := by have hlt := hby_.lt; unfold nq; omega
        have ne_a88_co : nq a88 co := by have hlt := hco.lt; unfold nq; omega
        have ne_a88_re : nq a88 re := by have hlt := hre.lt; unfold nq; omega
        have ne_a88_ho : nq a88 ho := by have hlt := hho.lt; unfold nq; omega
        have ne_a88_t : nq a88 t := by have hlt := ht.lt; unfold nq; omega
        have ne_a88_it : nq a88 it := by have hlt := hit.lt; unfold nq; omega
        have ne_a88_a69 : nq a88 a69 := by have hlt := ha69.lt; unfold nq; omega
        have ne_a88_a79 : nq a88 a79 := by have hlt := ha79.lt; unfold nq; omega
        have hs := hs.akeep (k := 29) eG86
        rw [← eo87] at hs
        have hby_ := hby_.akeep (k := 29) eG86
        rw [← eo87] at hby_
        have hco := hco.akeep (k := 29) eG86
        rw [← eo87] at hco
        have hre := hre.akeep (k := 29) eG86
        rw [← eo87] at hre
        have hho := hho.akeep (k := 29) eG86
        rw [← eo87] at hho
        have ht := ht.akeep (k := 29) eG86
        rw [← eo87] at ht
        have hit := hit.akeep (k := 29) eG86
        rw [← eo87] at hit
        have ha69 := ha69.akeep (k := 29) eG86
        rw [← eo87] at ha69
        have ha79 := ha79.akeep (k := 29) eG86
        rw [← eo87] at ha79
        have ha88 := cc.anew (o := o78) 29 eG86 hq89
        rw [← eo87, ← ea88] at ha88
        have hfr := hfr.ap (k := 29) eG86
        rw [← eo87] at hfr
        have hq90 := z_alen eG86
        have hq91 : ab_slots G86 = ab_slots G83 + w76 := z_asl eG86 hq89
        change ab_W _ _ _ (G83 ++ [za w76 (fun _ => 0)]) 63 [some (vR s), some (vR t), some (vz (2 * (↑m : Int))), none] [.ref G83.length, vR s] _
        rw [← eG86, ← ea88]
        change ab_W _ _ _ G86 63 [some (vR s), some (vR t), some (vz (2 * (↑m : Int))), none] [vR a88, vR s] _
        refine ab_putf (fs := [vR a69, vR a79, vR re, vR ho, vz n1]) f_SU_18 (Or.inl rfl) d_SU_take_63 hs.2.2 (Nat.le_of_ble_eq_true rfl) (fun _ => ⟨rfl, rfl⟩) (hs.2.1 (by decide)) ?_
        obtain ⟨G92, eG92⟩ : ∃ z : ab_G, z = List.set G86 s (ab_ob 9 [vR a69, vR a79, vR a88, vR ho, vz n1]) := ⟨_, rfl⟩
        have hby_ := hby_.keep hs eG92 (by decide)
        have hco := hco.keep hs eG92 (by decide)
        have hre := hre.keep hs eG92 (by decide)
        have hho := hho.keep hs eG92 (by decide)
        have ht := ht.keep hs eG92 (by decide)
        have hit := hit.keep hs eG92 (by decide)
        have ha69 := ha69.keep hs eG92 (by decide)
        have ha79 := ha79.keep hs eG92 (by decide)
        have ha88 := ha88.keep hs eG92 (by decide)
        have hq93 := z_len eG92
        have hq94 := z_sl hs eG92 rfl
        have hfr := hfr.wr hs eG92 (by decide)
        have hs := hs.kept eG92
        change ab_W _ _ _ (List.set G86 s (ab_ob 9 [vR a69, vR a79, vR a88, vR ho, vz n1])) 66 [some (vR s), some (vR t), some (vz (2 * (↑m : Int))), none] [] _
        rw [← eG92]
        refine ab_aload_n d_SU_take_66 rfl ?_
        refine ab_iload_n d_SU_take_67 rfl ?_
        refine zz_iconst d_SU_take_68 ?_
        refine zz_iadd d_SU_take_69 ?_
        refine zz_newI (w := w76) a_int d_SU_take_70 (by omega) (by omega) (by omega) (by omega) ?_
        obtain ⟨G95, eG95⟩ : ∃ z : ab_G, z = G92 ++ [za w76 (fun _ => 0)] := ⟨_, rfl⟩
        obtain ⟨o96, eo96⟩ : ∃ z : Nat → Nat, z = ol o87 G92.length 30 := ⟨_, rfl⟩
        obtain ⟨a97, ea97⟩ : ∃ z : Nat, z = G92.length := ⟨_, rfl⟩
        have hq98 := ha88.n0 (by first | decide | omega)
        have ne_a97_s : nq a97 s := by have hlt := hs.lt; unfold nq; omega
        have ne_a97_by_ : nq a97 by_ := by have hlt := hby_.lt; unfold nq; omega
        have ne_a97_co : nq a97 co := by have hlt := hco.lt; unfold nq; omega
        have ne_a97_re : nq a97 re := by have hlt := hre.lt; unfold nq; omega
        have ne_a97_ho : nq a97 ho := by have hlt := hho.lt; unfold nq; omega
        have ne_a97_t : nq a97 t := by have hlt := ht.lt; unfold nq; omega
        have ne_a97_it : nq a97 it := by have hlt := hit.lt; unfold nq; omega
        have ne_a97_a69 : nq a97 a69 := by have hlt := ha69.lt; unfold nq; omega
        have ne_a97_a79 : nq a97 a79 := by have hlt := ha79.lt; unfold nq; omega
        have ne_a97_a88 : nq a97 a88 := by have hlt := ha88.lt; unfold nq; omega
        have hs := hs.akeep (k := 30) eG95
        rw [← eo96] at hs
        have hby_ := hby_.akeep (k := 30) eG95
        rw [← eo96] at hby_
        have hco := hco.akeep (k := 30) eG95
        rw [← eo96] at hco
        have hre := hre.akeep (k := 30) eG95
        rw [← eo96] at hre
        have hho := hho.akeep (k := 30) eG95
        rw [← eo96] at hho
        have ht := ht.akeep (k := 30) eG95
        rw [← eo96] at ht
        have hit := hit.akeep (k := 30) eG95
        rw [← eo96] at hit
        have ha69 := ha69.akeep (k := 30) eG95
        rw [← eo96] at ha69
        have ha79 := ha79.akeep (k := 30) eG95
        rw [← eo96] at ha79
        have ha88 := ha88.akeep (k := 30) eG95
        rw [← eo96] at ha88
        have ha97 := cc.anew (o := o87) 30 eG95 hq98
        rw [← eo96, ← ea97] at ha97
        have hfr := hfr.ap (k := 30) eG95
        rw [← eo96] at hfr
        have hq99 := z_alen eG95
        have hq100 : ab_slots G95 = ab_slots G92 + w76 := z_asl eG95 hq98
        change ab_W _ _ _ (G92 ++ [za w76 (fun _ => 0)]) 72 [some (vR s), some (vR t), some (vz (2 * (↑m : Int))), none] [.ref G92.length, vR s] _
        rw [← eG95, ← ea97]
        change ab_W _ _ _ G95 72 [some (vR s), some (vR t), some (vz (2 * (↑m : Int))), none] [vR a97, vR s] _
        refine ab_putf (fs := [vR a69, vR a79, vR a88, vR ho, vz n1]) f_SU_21 (Or.inl rfl) d_SU_take_72 hs.2.2 (Nat.le_of_ble_eq_true rfl) (fun _ => ⟨rfl, rfl⟩) (hs.2.1 (by decide)) ?_
        obtain ⟨G101, eG101⟩ : ∃ z : ab_G, z = List.set G95 s (ab_ob 9 [vR a69, vR a79, vR a88, vR a97, vz n1]) := ⟨_, rfl⟩
        have hby_ := hby_.keep hs eG101 (by decide)
        have hco := hco.keep hs eG101 (by decide)
        have hre := hre.keep hs eG101 (by decide)
        have hho := hho.keep hs eG101 (by decide)
        have ht := ht.keep hs eG101 (by decide)
        have hit := hit.keep hs eG101 (by decide)
        have ha69 := ha69.keep hs eG101 (by decide)
        have ha79 := ha79.keep hs eG101 (by decide)
        have ha88 := ha88.keep hs eG101 (by decide)
        have ha97 := ha97.keep hs eG101 (by decide)
        have hq102 := z_len eG101
        have hq103 := z_sl hs eG101 rfl
        have hfr := hfr.wr hs eG101 (by decide)
        have hs := hs.kept eG101
        change ab_W _ _ _ (List.set G95 s (ab_ob 9 [vR a69, vR a79, vR a88, vR a97, vz n1])) 75 [some (vR s), some (vR t), some (vz (2 * (↑m : Int))), none] [] _
        rw [← eG101]
        refine ab_aload_n d_SU_take_75 rfl ?_
        refine ab_getf (fs := [vz lim, vR it, vz n1]) f_SU_46 d_SU_take_76 ht.2.2 rfl ?_
        refine zz_iconst d_SU_take_79 ?_
        refine ab_aload_n d_SU_take_80 rfl ?_
        refine ab_getf (fs := [vR a69, vR a79, vR a88, vR a97, vz n1]) f_SU_9 d_SU_take_81 hs.2.2 rfl ?_
        refine zz_iconst d_SU_take_84 ?_
        refine ab_aload_n d_SU_take_85 rfl ?_
        refine ab_getf (fs := [vR a69, vR a79, vR a88, vR a97, vz n1]) f_SU_34 d_SU_take_86 hs.2.2 rfl ?_
        refine zz_copy mj_SU_49 d_SU_take_89 hit ha69 (ha69.2.1 (by decide)) (by omega) (Nat.le_of_ble_eq_true rfl) (by omega) ?_
        obtain ⟨G104, eG104⟩ : ∃ z : ab_G, z = List.set G101 a69 (za w66 (zcpy ft (fun _ => 0) 0 0 n1)) := ⟨_, rfl⟩
        have hs := hs.keep ha69 eG104 (by decide)
        have hby_ := hby_.keep' eG104 ne_a69_by_
        have hco := hco.keep ha69 eG104 (by decide)
        have hre := hre.keep ha69 eG104 (by decide)
        have hho := hho.keep ha69 eG104 (by decide)
        have ht := ht.keep ha69 eG104 (by decide)
        have hit := hit.keep ha69 eG104 (by decide)
        have ha79 := ha79.keep ha69 eG104 (by decide)
        have ha88 := ha88.keep ha69 eG104 (by decide)
        have ha97 := ha97.keep ha69 eG104 (by decide)
        have hq105 := z_len eG104
        have hq106 := z_sl ha69 eG104 rfl
        have hfr := hfr.wn (show G.length ≤ a69 by have := hfr.1; omega) eG104
        have ha69 := ha69.kept eG104
        change ab_W _ _ _ (List.set G101 a69 (za w66 (zcpy ft (fun _ => 0) 0 0 n1))) 92 [some (vR s), some (vR t), some (vz (2 * (↑m : Int))), none] [] _
        rw [← eG104]
        refine zz_iconst d_SU_take_92 ?_
        refine ab_istore_n d_SU_take_93 (Nat.le_of_ble_eq_true rfl) (Nat.le_of_ble_eq_true rfl) rfl ?_
        change ab_W _ _ _ G104 94 [some (vR s), some (vR t), some (vz 0), none] [] _
        refine zz_iconst d_SU_take_94 ?_
        refine ab_istore_n d_SU_take_95 (Nat.le_of_ble_eq_true rfl) (Nat.le_of_ble_eq_true rfl) rfl ?_
        change ab_W _ _ _ G104 96 [some (vR s), some (vR t), some (vz 0), some (vz 0)] [] _
        refine ab_less (L' := [some (vR s), none, some (vz 0), some (vz 0)]) (fun i v h => by rcases i with _ | _ | _ | _ | i <;> first | exact h | (simp at h)) ?_
        refine y_SU_take_96 (s := s) (by_ := a69) (co := a79) (re := a88) (ho := a97) (n := n1) (f := (zcpy ft (fun _ => 0) 0 0 n1)) (m := w66) (mc := w76) (G0 := G104) (rest := 0) (a := 0) (C := (fun _ => 0)) (Rs := (fun _ => 0)) (H := (fun _ => 0)) (by omega) (by_cpy hbt) (by omega) (Int.toNat (n1 + 1 - 0) + 1) hs ha69 ha79 ha88 ha97 (by omega) (by omega) ⟨fun _ => rfl, fun h => absurd h (by omega)⟩ sup_0 fx.rf rfl rfl (by omega) (fun G107 C2108 R2109 H2110 hNs hNa69 hNa79 hNa88 hNa97 hq111 hfk hlk hsk => ?_)
        · have hby_ := hfk.get hby_ (by decide)
          have ht := hfk.get ht (by decide)
          have hit := hfk.get hit (by decide)
          have hfr := hfr.tr hfk (by decide)
          have hq112 := hfk.1
          have hq113 := hlk
          have hq114 := hsk
          have hs := hNs
          have ha69 := hNa69
          have ha79 := hNa79
          have ha88 := hNa88
          have ha97 := hNa97
          rw [hQ]; exact ⟨_, _, _, _, _, _, _, _, _, _, _, rfl, hfr, hs, ha69, ha79, ha88, ha97, (by exact hq111), (by exact eq_cpy), (by omega), (by omega), (by unfold zT; (repeat' split) <;> omega)⟩
      · refine ab_istore_n d_SU_take_40 (Nat.le_of_ble_eq_true rfl) (Nat.le_of_ble_eq_true rfl) rfl ?_
        change ab_W _ _ _ G1 41 [some (vR s), some (vR t), some (vz n1), none] [] _
        refine ab_aload_n d_SU_take_41 rfl ?_
        refine ab_iload_n d_SU_take_42 rfl ?_
        obtain ⟨w115, hw115⟩ : ∃ z : Nat, (z : Int) = n1 := ⟨Int.toNat n1, by omega⟩
        refine zz_newI (w := w115) a_int d_SU_take_43 (by omega) (by omega) (by omega) (by omega) ?_
        obtain ⟨G116, eG116⟩ : ∃ z : ab_G, z = G1 ++ [za w115 (fun _ => 0)] := ⟨_, rfl⟩
        obtain ⟨o117, eo117⟩ : ∃ z : Nat → Nat, z = ol o G1.length 27 := ⟨_, rfl⟩
        obtain ⟨a118, ea118⟩ : ∃ z : Nat, z = G1.length := ⟨_, rfl⟩
        have hq119 := hit.n0 (by first | decide | omega)
        have ne_a118_s : nq a118 s := by have hlt := hs.lt; unfold nq; omega
        have ne_a118_by_ : nq a118 by_ := by have hlt := hby_.lt; unfold nq; omega
        have ne_a118_co : nq a118 co := by have hlt := hco.lt; unfold nq; omega
        have ne_a118_re : nq a118 re := by have hlt := hre.lt; unfold nq; omega
        have ne_a118_ho : nq a118 ho := by have hlt := hho.lt; unfold nq; omega
        have ne_a118_t : nq a118 t := by have hlt := ht.lt; unfold nq; omega
        have ne_a118_it : nq a118 it := by have hlt := hit.lt; unfold nq; omega
        have hs := hs.akeep (k := 27) eG116
        rw [← eo117] at hs
        have hby_ := hby_.akeep (k := 27) eG116
        rw [← eo117] at hby_
        have hco := hco.akeep (k := 27) eG116
        rw [← eo117] at hco
        have hre := hre.akeep (k := 27) eG116
        rw [← eo117] at hre
        have hho := hho.akeep (k := 27) eG116
        rw [← eo117] at hho
        have ht := ht.akeep (k := 27) eG116
        rw [← eo117] at ht
        have hit := hit.akeep (k := 27) eG116
        rw [← eo117] at hit
        have ha118 := cc.anew (o := o) 27 eG116 hq119
        rw [← eo117, ← ea118] at ha118
        have hfr := hfr.ap (k := 27) eG116
        rw [← eo117] at hfr
        have hq120 := z_alen eG116
        have hq121 : ab_slots G116 = ab_slots G1 + w115 := z_asl eG116 hq119
        change ab_W _ _ _ (G1 ++ [za w115 (fun _ => 0)]) 45 [some (vR s), some (vR t), some (vz n1), none] [.ref G1.length, vR s] _
        rw [← eG116, ← ea118]
        change ab_W _ _ _ G116 45 [some (vR s), some (vR t), some (vz n1), none] [vR a118, vR s] _
        refine ab_putf (fs := [vR by_, vR co, vR re, vR ho, vz n1]) f_SU_9 (Or.inl rfl) d_SU_take_45 hs.2.2 (Nat.le_of_ble_eq_true rfl) (fun _ => ⟨rfl, rfl⟩) (hs.2.1 (by decide)) ?_
        obtain ⟨G122, eG122⟩ : ∃ z : ab_G, z = List.set G116 s (ab_ob 9 [vR a118, vR co, vR re, vR ho, vz n1]) := ⟨_, rfl⟩
        have hby_ := hby_.keep hs eG122 (by decide)
        have hco := hco.keep hs eG122 (by decide)
        have hre := hre.keep hs eG122 (by decide)
        have hho := hho.keep hs eG122 (by decide)
        have ht := ht.keep hs eG122 (by decide)
        have hit := hit.keep hs eG122 (by decide)
        have ha118 := ha118.keep hs eG122 (by decide)
        have hq123 := z_len eG122
        have hq124 := z_sl hs eG122 rfl
        have hfr := hfr.wr hs eG122 (by decide)
        have hs := hs.kept eG122
        change ab_W _ _ _ (List.set G116 s (ab_ob 9 [vR a118, vR co, vR re, vR ho, vz n1])) 48 [some (vR s), some (vR t), some (vz n1), none] [] _
        rw [← eG122]
        refine ab_aload_n d_SU_take_48 rfl ?_
        refine ab_iload_n d_SU_take_49 rfl ?_
        refine zz_iconst d_SU_take_50 ?_
        refine zz_iadd d_SU_take_51 ?_
        obtain ⟨w125, hw125⟩ : ∃ z : Nat, (z : Int) = (n1 + 1) := ⟨Int.toNat (n1 + 1), by omega⟩
        refine zz_newI (w := w125) a_int d_SU_take_52 (by omega) (by omega) (by omega) (by omega) ?_
        obtain ⟨G126, eG126⟩ : ∃ z : ab_G, z = G122 ++ [za w125 (fun _ => 0)] := ⟨_, rfl⟩
        obtain ⟨o127, eo127⟩ : ∃ z : Nat → Nat, z = ol o117 G122.length 28 := ⟨_, rfl⟩
        obtain ⟨a128, ea128⟩ : ∃ z : Nat, z = G122.length := ⟨_, rfl⟩
        have hq129 := ha118.n0 (by first | decide | omega)
        have ne_a128_s : nq a128 s := by have hlt := hs.lt; unfold nq; omega
        have ne_a128_by_ : nq a128 by_ := by have hlt := hby_.lt; unfold nq; omega
        have ne_a128_co : nq a128 co := by have hlt := hco.lt; unfold nq; omega
        have ne_a128_re : nq a128 re := by have hlt := hre.lt; unfold nq; omega
        have ne_a128_ho : nq a128 ho := by have hlt := hho.lt; unfold nq; omega
        have ne_a128_t : nq a128 t := by have hlt := ht.lt; unfold nq; omega
        have ne_a128_it : nq a128 it := by have hlt := hit.lt; unfold nq; omega
        have ne_a128_a118 : nq a128 a118 := by have hlt := ha118.lt; unfold nq; omega
        have hs := hs.akeep (k := 28) eG126
        rw [← eo127] at hs
        have hby_ := hby_.akeep (k := 28) eG126
        rw [← eo127] at hby_
        have hco := hco.akeep (k := 28) eG126
        rw [← eo127] at hco
        have hre := hre.akeep (k := 28) eG126
        rw [← eo127] at hre
        have hho := hho.akeep (k := 28) eG126
        rw [← eo127] at hho
        have ht := ht.akeep (k := 28) eG126
        rw [← eo127] at ht
        have hit := hit.akeep (k := 28) eG126
        rw [← eo127] at hit
        have ha118 := ha118.akeep (k := 28) eG126
        rw [← eo127] at ha118
        have ha128 := cc.anew (o := o117) 28 eG126 hq129
        rw [← eo127, ← ea128] at ha128
        have hfr := hfr.ap (k := 28) eG126
        rw [← eo127] at hfr
        have hq130 := z_alen eG126
        have hq131 : ab_slots G126 = ab_slots G122 + w125 := z_asl eG126 hq129
        change ab_W _ _ _ (G122 ++ [za w125 (fun _ => 0)]) 54 [some (vR s), some (vR t), some (vz n1), none] [.ref G122.length, vR s] _
        rw [← eG126, ← ea128]
        change ab_W _ _ _ G126 54 [some (vR s), some (vR t), some (vz n1), none] [vR a128, vR s] _
        refine ab_putf (fs := [vR a118, vR co, vR re, vR ho, vz n1]) f_SU_15 (Or.inl rfl) d_SU_take_54 hs.2.2 (Nat.le_of_ble_eq_true rfl) (fun _ => ⟨rfl, rfl⟩) (hs.2.1 (by decide)) ?_
        obtain ⟨G132, eG132⟩ : ∃ z : ab_G, z = List.set G126 s (ab_ob 9 [vR a118, vR a128, vR re, vR ho, vz n1]) := ⟨_, rfl⟩
        have hby_ := hby_.keep hs eG132 (by decide)
        have hco := hco.keep hs eG132 (by decide)
        have hre := hre.keep hs eG132 (by decide)
        have hho := hho.keep hs eG132 (by decide)
        have ht := ht.keep hs eG132 (by decide)
        have hit := hit.keep hs eG132 (by decide)
        have ha118 := ha118.keep hs eG132 (by decide)
        have ha128 := ha128.keep hs eG132 (by decide)
        have hq133 := z_len eG132
        have hq134 := z_sl hs eG132 rfl
        have hfr := hfr.wr hs eG132 (by decide)
        have hs := hs.kept eG132
        change ab_W _ _ _ (List.set G126 s (ab_ob 9 [vR a118, vR a128, vR re, vR ho, vz n1])) 57 [some (vR s), some (vR t), some (vz n1), none] [] _
        rw [← eG132]
        refine ab_aload_n d_SU_take_57 rfl ?_
        refine ab_iload_n d_SU_take_58 rfl ?_
        refine zz_iconst d_SU_take_59 ?_
        refine zz_iadd d_SU_take_60 ?_
        refine zz_newI (w := w125) a_int d_SU_take_61 (by omega) (by omega) (by omega) (by omega) ?_
        obtain ⟨G135, eG135⟩ : ∃ z : ab_G, z = G132 ++ [za w125 (fun _ => 0)] := ⟨_, rfl⟩
        obtain ⟨o136, eo136⟩ : ∃ z : Nat → Nat, z = ol o127 G132.length 29 := ⟨_, rfl⟩
        obtain ⟨a137, ea137⟩ : ∃ z : Nat, z = G132.length := ⟨_, rfl⟩
        have hq138 := ha128.n0 (by first | decide | omega)
        have ne_a137_s : nq a137 s := by have hlt := hs.lt; unfold nq; omega
        have ne_a137_by_ : nq a137 by_ := by have hlt := hby_.lt; unfold nq; omega
        have ne_a137_co : nq a137 co := by have hlt := hco.lt; unfold nq; omega
        have ne_a137_re : nq a137 re := by have hlt := hre.lt; unfold nq; omega
        have ne_a137_ho : nq a137 ho := by have hlt := hho.lt; unfold nq; omega
        have ne_a137_t : nq a137 t := by have hlt := ht.lt; unfold nq; omega
        have ne_a137_it : nq a137 it := by have hlt := hit.lt; unfold nq; omega
        have ne_a137_a118 : nq a137 a118 := by have hlt := ha118.lt; unfold nq; omega
        have ne_a137_a128 : nq a137 a128 := by have hlt := ha128.lt; unfold nq; omega
        have hs := hs.akeep (k := 29) eG135
        rw [← eo136] at hs
        have hby_ := hby_.akeep (k := 29) eG135
        rw [← eo136] at hby_
        have hco := hco.akeep (k := 29) eG135
        rw [← eo136] at hco
        have hre := hre.akeep (k := 29) eG135
        rw [← eo136] at hre
        have hho := hho.akeep (k := 29) eG135
        rw [← eo136] at hho
        have ht := ht.akeep (k := 29) eG135
        rw [← eo136] at ht
        have hit := hit.akeep (k := 29) eG135
        rw [← eo136] at hit
        have ha118 := ha118.akeep (k := 29) eG135
        rw [← eo136] at ha118
        have ha128 := ha128.akeep (k := 29) eG135
        rw [← eo136] at ha128
        have ha137 := cc.anew (o := o127) 29 eG135 hq138
        rw [← eo136, ← ea137] at ha137
        have hfr := hfr.ap (k := 29) eG135
        rw [← eo136] at hfr
        have hq139 := z_alen eG135
        have hq140 : ab_slots G135 = ab_slots G132 + w125 := z_asl eG135 hq138
        change ab_W _ _ _ (G132 ++ [za w125 (fun _ => 0)]) 63 [some (vR s), some (vR t), some (vz n1), none] [.ref G132.length, vR s] _
        rw [← eG135, ← ea137]
        change ab_W _ _ _ G135 63 [some (vR s), some (vR t), some (vz n1), none] [vR a137, vR s] _
        refine ab_putf (fs := [vR a118, vR a128, vR re, vR ho, vz n1]) f_SU_18 (Or.inl rfl) d_SU_take_63 hs.2.2 (Nat.le_of_ble_eq_true rfl) (fun _ => ⟨rfl, rfl⟩) (hs.2.1 (by decide)) ?_
        obtain ⟨G141, eG141⟩ : ∃ z : ab_G, z = List.set G135 s (ab_ob 9 [vR a118, vR a128, vR a137, vR ho, vz n1]) := ⟨_, rfl⟩
        have hby_ := hby_.keep hs eG141 (by decide)
        have hco := hco.keep hs eG141 (by decide)
        have hre := hre.keep hs eG141 (by decide)
        have hho := hho.keep hs eG141 (by decide)
        have ht := ht.keep hs eG141 (by decide)
        have hit := hit.keep hs eG141 (by decide)
        have ha118 := ha118.keep hs eG141 (by decide)
        have ha128 := ha128.keep hs eG141 (by decide)
        have ha137 := ha137.keep hs eG141 (by decide)
        have hq142 := z_len eG141
        have hq143 := z_sl hs eG141 rfl
        have hfr := hfr.wr hs eG141 (by decide)
        have hs := hs.kept eG141
        change ab_W _ _ _ (List.set G135 s (ab_ob 9 [vR a118, vR a128, vR a137, vR ho, vz n1])) 66 [some (vR s), some (vR t), some (vz n1), none] [] _
        rw [← eG141]
        refine ab_aload_n d_SU_take_66 rfl ?_
        refine ab_iload_n d_SU_take_67 rfl ?_
        refine zz_iconst d_SU_take_68 ?_
        refine zz_iadd d_SU_take_69 ?_
        refine zz_newI (w := w125) a_int d_SU_take_70 (by omega) (by omega) (by omega) (by omega) ?_
        obtain ⟨G144, eG144⟩ : ∃ z : ab_G, z = G141 ++ [za w125 (fun _ => 0)] := ⟨_, rfl⟩
        obtain ⟨o145, eo145⟩ : ∃ z : Nat → Nat, z = ol o136 G141.length 30 := ⟨_, rfl⟩
        obtain ⟨a146, ea146⟩ : ∃ z : Nat, z = G141.length := ⟨_, rfl⟩
        have hq147 := ha137.n0 (by first | decide | omega)
        have ne_a146_s : nq a146 s := by have hlt := hs.lt; unfold nq; omega
        have ne_a146_by_ : nq a146 by_ := by have hlt := hby_.lt; unfold nq; omega
        have ne_a146_co : nq a146 co := by have hlt := hco.lt; unfold nq; omega
        have ne_a146_re : nq a146 re := by have hlt := hre.lt; unfold nq; omega
        have ne_a146_ho : nq a146 ho := by have hlt := hho.lt; unfold nq; omega
        have ne_a146_t : nq a146 t := by have hlt := ht.lt; unfold nq; omega
        have ne_a146_it : nq a146 it := by have hlt := hit.lt; unfold nq; omega
        have ne_a146_a118 : nq a146 a118 := by have hlt := ha118.lt; unfold nq; omega
        have ne_a146_a128 : nq a146 a128 := by have hlt := ha128.lt; unfold nq; omega
        have ne_a146_a137 : nq a146 a137 := by have hlt := ha137.lt; unfold nq; omega
        have hs := hs.akeep (k := 30) eG144
        rw [← eo145] at hs
        have hby_ := hby_.akeep (k := 30) eG144
        rw [← eo145] at hby_
        have hco := hco.akeep (k := 30) eG144
        rw [← eo145] at hco
        have hre := hre.akeep (k := 30) eG144
        rw [← eo145] at hre
        have hho := hho.akeep (k := 30) eG144
        rw [← eo145] at hho
        have ht := ht.akeep (k := 30) eG144
        rw [← eo145] at ht
        have hit := hit.akeep (k := 30) eG144
        rw [← eo145] at hit
        have ha118 := ha118.akeep (k := 30) eG144
        rw [← eo145] at ha118
        have ha128 := ha128.akeep (k := 30) eG144
        rw [← eo145] at ha128
        have ha137 := ha137.akeep (k := 30) eG144
        rw [← eo145] at ha137
        have ha146 := cc.anew (o := o136) 30 eG144 hq147
        rw [← eo145, ← ea146] at ha146
        have hfr := hfr.ap (k := 30) eG144
        rw [← eo145] at hfr
        have hq148 := z_alen eG144
        have hq149 : ab_slots G144 = ab_slots G141 + w125 := z_asl eG144 hq147
        change ab_W _ _ _ (G141 ++ [za w125 (fun _ => 0)]) 72 [some (vR s), some (vR t), some (vz n1), none] [.ref G141.length, vR s] _
        rw [← eG144, ← ea146]
        change ab_W _ _ _ G144 72 [some (vR s), some (vR t), some (vz n1), none] [vR a146, vR s] _
        refine ab_putf (fs := [vR a118, vR a128, vR a137, vR ho, vz n1]) f_SU_21 (Or.inl rfl) d_SU_take_72 hs.2.2 (Nat.le_of_ble_eq_true rfl) (fun _ => ⟨rfl, rfl⟩) (hs.2.1 (by decide)) ?_
        obtain ⟨G150, eG150⟩ : ∃ z : ab_G, z = List.set G144 s (ab_ob 9 [vR a118, vR a128, vR a137, vR a146, vz n1]) := ⟨_, rfl⟩
        have hby_ := hby_.keep hs eG150 (by decide)
        have hco := hco.keep hs eG150 (by decide)
        have hre := hre.keep hs eG150 (by decide)
        have hho := hho.keep hs eG150 (by decide)
        have ht := ht.keep hs eG150 (by decide)
        have hit := hit.keep hs eG150 (by decide)
        have ha118 := ha118.keep hs eG150 (by decide)
        have ha128 := ha128.keep hs eG150 (by decide)
        have ha137 := ha137.keep hs eG150 (by decide)
        have ha146 := ha146.keep hs eG150 (by decide)
        have hq151 := z_len eG150
        have hq152 := z_sl hs eG150 rfl
        have hfr := hfr.wr hs eG150 (by decide)
        have hs := hs.kept eG150
        change ab_W _ _ _ (List.set G144 s (ab_ob 9 [vR a118, vR a128, vR a137, vR a146, vz n1])) 75 [some (vR s), some (vR t), some (vz n1), none] [] _
        rw [← eG150]
        refine ab_aload_n d_SU_take_75 rfl ?_
        refine ab_getf (fs := [vz lim, vR it, vz n1]) f_SU_46 d_SU_take_76 ht.2.2 rfl ?_
        refine zz_iconst d_SU_take_79 ?_
        refine ab_aload_n d_SU_take_80 rfl ?_
        refine ab_getf (fs := [vR a118, vR a128, vR a137, vR a146, vz n1]) f_SU_9 d_SU_take_81 hs.2.2 rfl ?_
        refine zz_iconst d_SU_take_84 ?_
        refine ab_aload_n d_SU_take_85 rfl ?_
        refine ab_getf (fs := [vR a118, vR a128, vR a137, vR a146, vz n1]) f_SU_34 d_SU_take_86 hs.2.2 rfl ?_
        refine zz_copy mj_SU_49 d_SU_take_89 hit ha118 (ha118.2.1 (by decide)) (by omega) (Nat.le_of_ble_eq_true rfl) (by omega) ?_
        obtain ⟨G153, eG153⟩ : ∃ z : ab_G, z = List.set G150 a118 (za w115 (zcpy ft (fun _ => 0) 0 0 n1)) := ⟨_, rfl⟩
        have hs := hs.keep ha118 eG153 (by decide)
        have hby_ := hby_.keep' eG153 ne_a118_by_
        have hco := hco.keep ha118 eG153 (by decide)
        have hre := hre.keep ha118 eG153 (by decide)
        have hho := hho.keep ha118 eG153 (by decide)
        have ht := ht.keep ha118 eG153 (by decide)
        have hit := hit.keep ha118 eG153 (by decide)
        have ha128 := ha128.keep ha118 eG153 (by decide)
        have ha137 := ha137.keep ha118 eG153 (by decide)
        have ha146 := ha146.keep ha118 eG153 (by decide)
        have hq154 := z_len eG153
        have hq155 := z_sl ha118 eG153 rfl
        have hfr := hfr.wn (show G.length ≤ a118 by have := hfr.1; omega) eG153
        have ha118 := ha118.kept eG153
        change ab_W _ _ _ (List.set G150 a118 (za w115 (zcpy ft (fun _ => 0) 0 0 n1))) 92 [some (vR s), some (vR t), some (vz n1), none] [] _
        rw [← eG153]
        refine zz_iconst d_SU_take_92 ?_
        refine ab_istore_n d_SU_take_93 (Nat.le_of_ble_eq_true rfl) (Nat.le_of_ble_eq_true rfl) rfl ?_
        change ab_W _ _ _ G153 94 [some (vR s), some (vR t), some (vz 0), none] [] _
        refine zz_iconst d_SU_take_94 ?_
        refine ab_istore_n d_SU_take_95 (Nat.le_of_ble_eq_true rfl) (Nat.le_of_ble_eq_true rfl) rfl ?_
        change ab_W _ _ _ G153 96 [some (vR s), some (vR t), some (vz 0), some (vz 0)] [] _
        refine ab_less (L' := [some (vR s), none, some (vz 0), some (vz 0)]) (fun i v h => by rcases i with _ | _ | _ | _ | i <;> first | exact h | (simp at h)) ?_
        refine y_SU_take_96 (s := s) (by_ := a118) (co := a128) (re := a137) (ho := a146) (n := n1) (f := (zcpy ft (fun _ => 0) 0 0 n1)) (m := w115) (mc := w125) (G0 := G153) (rest := 0) (a := 0) (C := (fun _ => 0)) (Rs := (fun _ => 0)) (H := (fun _ => 0)) (by omega) (by_cpy hbt) (by omega) (Int.toNat (n1 + 1 - 0) + 1) hs ha118 ha128 ha137 ha146 (by omega) (by omega) ⟨fun _ => rfl, fun h => absurd h (by omega)⟩ sup_0 fx.rf rfl rfl (by omega) (fun G156 C2157 R2158 H2159 hNs hNa118 hNa128 hNa137 hNa146 hq160 hfk hlk hsk => ?_)
        · have hby_ := hfk.get hby_ (by decide)
          have ht := hfk.get ht (by decide)
          have hit := hfk.get hit (by decide)
          have hfr := hfr.tr hfk (by decide)
          have hq161 := hfk.1
          have hq162 := hlk
          have hq163 := hsk
          have hs := hNs
          have ha118 := hNa118
          have ha128 := hNa128
          have ha137 := hNa137
          have ha146 := hNa146
          rw [hQ]; exact ⟨_, _, _, _, _, _, _, _, _, _, _, rfl, hfr, hs, ha118, ha128, ha137, ha146, (by exact hq160), (by exact eq_cpy), (by omega), (by omega), (by unfold zT; (repeat' split) <;> omega)⟩
