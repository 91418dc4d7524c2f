set_option maxRecDepth 100000 in
set_option maxHeartbeats 4000000 in
theorem y_AR_fill_5 {X : ab_X} {d : Nat} {Q : Outcome → ab_G → Prop} {o : Nat → Nat} {G0 : ab_G} {a : Nat} {l : Nat} {n : Nat} {f : Int → Int} {v : Int} {y : Int} (c0 : y = ↑n ∧ ↑n ≤ (2147483647 : Int) ∧ ab_n0 ≤ l) : ∀ (mz : Nat) {G : ab_G} {i : Int}, (cc o G a l (za n (zfill f 0 i v))) → (0 ≤ i ∧ i ≤ y) → (fx o o [l] G0 G) → (G.length = G0.length) → (ab_slots G = ab_slots G0) → (Int.toNat (y - i) < mz) → (∀ (G2 : ab_G) (i : Int), (cc o G2 a l (za n (zfill f 0 i v))) → (i = ↑n) → (fx o o [l] G0 G2) → (G2.length = G0.length) → (ab_slots G2 = ab_slots G0) → ab_W X (ab_pl y_AR_fill b_AR_fill 4 none) d G2 20 [none, none, none, none] [] Q) → ab_W X (ab_pl y_AR_fill b_AR_fill 4 none) d G 5 [some (vR a), some (vz v), some (vz i), some (vz y)] [] Q := by
  intro mz
  induction mz with
  | zero => intro G i ha c1 hfr hlen hsl hm hk0; exact absurd hm (Nat.not_lt_zero _)
  | succ mz ih =>
    intro G i ha c1 hfr hlen hsl hm hk0
    refine ab_iload_n d_AR_fill_5 rfl ?_
    refine ab_iload_n d_AR_fill_6 rfl ?_
    refine zz_icmp_ge (tgt := 20) d_AR_fill_7 (by decide) (by omega) (by omega) (fun c1 => ?_) (fun c1 => ?_)
    · refine ab_less (L' := [none, none, none, none]) (fun i v h => by rcases i with _ | _ | _ | _ | i <;> first | exact h | (simp at h)) ?_
      exact hk0 _ _ ha (by omega) hfr hlen hsl
    · refine ab_aload_n d_AR_fill_10 rfl ?_
      refine ab_iload_n d_AR_fill_11 rfl ?_
      refine ab_iload_n d_AR_fill_12 rfl ?_
      refine zz_iast d_AR_fill_13 ha (by omega) (ha.2.1 (by first | omega | exact (show 18 ≤ _ by omega))) ?_
      obtain ⟨G2, eG2⟩ : ∃ z : ab_G, z = List.set G a (za n (zu (zfill f 0 i v) i v)) := ⟨_, rfl⟩
      have hlen := (z_len eG2).trans hlen
      have hsl := (z_sl ha eG2 rfl).trans hsl
      have hfr := hfr.wr ha eG2 (by simp)
      have ha := ha.kept eG2
      change ab_W _ _ _ (List.set G a (za n (zu (zfill f 0 i v) i v))) 14 [some (vR a), some (vz v), some (vz i), some (vz y)] [] _
      rw [← eG2]
      have ha : cc o G2 a l (za n (zfill f 0 (i + 1) v)) := by rw [← zfill_s (g := f) (a := 0) (i := i) (v := v) (by omega)]; exact ha
      refine zz_iinc d_AR_fill_14 rfl (Nat.le_of_ble_eq_true rfl) (Nat.le_of_ble_eq_true rfl) rfl ?_
      change ab_W _ _ _ G2 17 [some (vR a), some (vz v), some (vz (i + 1)), some (vz y)] [] _
      refine ab_goto (tgt := 5) d_AR_fill_17 (by decide) ?_
      exact ih (i := (i + 1)) ha (by omega) hfr hlen hsl (by omega) hk0
set_option maxRecDepth 100000 in
set_option maxHeartbeats 4000000 in
theorem z_AR_fill {X : ab_X} {d : Nat} {o : Nat → Nat} {G : ab_G} {a : Nat} {l : Nat} {n : Nat} {f : Int → Int} {v : Int} (ha : cc o G a l (za n f)) (c0 : ↑n ≤ (2147483647 : Int) ∧ ab_n0 ≤ l) : ab_F X d y_AR_fill (.code y_AR_fill b_AR_fill 4 none) [vR a, vz v] G (fun oc G2 => oc = .returned none ∧ fx o o [l] G G2 ∧ G2.length = G.length ∧ ab_slots G2 = ab_slots G ∧ cc o G2 a l (za n (zfill f 0 ↑n v))) := by
  refine ab_F_of (by decide +kernel) (Nat.le_of_ble_eq_true rfl) ?_
  obtain ⟨Q, hQ⟩ : ∃ z : Outcome → ab_G → Prop, z = (fun oc G2 => oc = .returned none ∧ fx o o [l] G G2 ∧ G2.length = G.length ∧ ab_slots G2 = ab_slots G ∧ cc o G2 a l (za n (zfill f 0 ↑n v))) := ⟨_, rfl⟩
  rw [← hQ]
  change ab_W X (ab_pl y_AR_fill b_AR_fill 4 none) d G 0 [some (vR a), some (vz v), none, none] [] Q
  have hfr : fx o o [l] G G := fx.rf
  have hlen : G.length = G.length := rfl
  have hsl : ab_slots G = ab_slots G := rfl
  refine zz_iconst d_AR_fill_0 ?_
  refine ab_istore_n d_AR_fill_1 (Nat.le_of_ble_eq_true rfl) (Nat.le_of_ble_eq_true rfl) rfl ?_
  change ab_W _ _ _ G 2 [some (vR a), some (vz v), some (vz 0), none] [] _
  refine ab_aload_n d_AR_fill_2 rfl ?_
  refine zz_alen d_AR_fill_3 ha ?_
  have ha : cc o G a l (za n (zfill f 0 0 v)) := by rw [← (zfill_0 f 0 v).symm]; exact ha
  refine ab_istore_n d_AR_fill_4 (Nat.le_of_ble_eq_true rfl) (Nat.le_of_ble_eq_true rfl) rfl ?_
  change ab_W _ _ _ G 5 [some (vR a), some (vz v), some (vz 0), some (vz (↑n : Int))] [] _
  refine y_AR_fill_5 (a := a) (l := l) (n := n) (v := v) (y := (↑n : Int)) (i := 0) (by have h18 : ab_n0 = 18 := rfl; omega) (Int.toNat ((↑n : Int) - 0) + 1) ha (by omega) hfr hlen hsl (by omega) (fun G1 i2 ha hq3 hfr hlen hsl => ?_)
  · change ab_W _ _ _ G1 20 [none, none, none, none] [] _
    rw [hq3] at ha
    refine ab_vret rfl d_AR_fill_20 ?_
    rw [hQ]; exact ⟨rfl, hfr, hlen, hsl, ha⟩
set_option maxRecDepth 100000 in
set_option maxHeartbeats 4000000 in
theorem z_TH_put {X : ab_X} {d : Nat} {o : Nat → Nat} {G : ab_G} {q : Nat} {lq : Nat} {ki : Nat} {ne : Nat} {ot : Nat} {cnt : Int} {fi : Int} {la : Int} {ra : Nat} {ru : Int} {gr : Int} {wi : Int} {sz : Int} {fl : Int} {ve : Int} {mi : Int} {na : Nat} {nl : Nat} {K : Int → Int} {s : Nat} {n : Int} {a : Nat} {sp : Nat} {wk : Nat} {nw : Nat} {tn : Nat} {nsp : Nat} {tsp : Nat} {se : Nat} {stk : Nat} {nc : Int} {tc : Int} {sta : Int} {fo : Int} {hw : Int} {fy : Int} {stp : Int} {WK : Int → Int} {NW : Int → Int} {TN : Int → Int} {NS : Int → Int} {TS : Int → Int} {SE : Int → Int} {l1 : Nat} {l2 : Nat} {l3 : Nat} {l4 : Nat} {e : Int} (ha : cc o G a 32 (ab_ob 11 [vR sp, vR wk, vR nw, vR tn, vR nsp, vR tsp, vz nc, vz tc, vR se, vz sta, vR stk, vz fo, vR q, vR s, vz hw, vz fy, vj stp])) (hwk : cc o G wk 33 (za 20 WK)) (hnw : cc o G nw l1 (za 801 NW)) (hnsp : cc o G nsp l3 (za 16020 NS)) (htn : cc o G tn l2 (za 801 TN)) (htsp : cc o G tsp l4 (za 16020 TS)) (hse : cc o G se 39 (za 2048 SE)) (hq : cc o G q lq (ab_ob 5 [vR ki, vR ne, vR ot, vz cnt, vz fi, vz la, vR ra, vz ru, vz gr, vz wi, vz sz, vz fl, vz ve, vz mi, vR na, vR nl])) (clq : 100 ≤ lq) (cwi : 2 ≤ wi ∧ wi ≤ 20) (cl : l1 + l2 = 71 ∧ 35 ≤ l1 ∧ l1 ≤ 36 ∧ l3 + l4 = 75 ∧ 37 ≤ l3 ∧ l3 ≤ 38) (jwk : rgs WK wi (-1) n) (c0k : 0 ≤ WK 0) (jse : rgs SE 2048 0 sta) (cst : 0 ≤ sta ∧ sta ≤ 2100000000) (jtn : thos K cnt TN tc) (jts : thr TS tc wi n) (ctc : 0 ≤ tc ∧ tc ≤ 801) (je : tho K cnt e) (ce : 0 ≤ e ∧ e < 2048) (hd : 1 ≤ d) : ab_F X d y_TH_put (.code y_TH_put b_TH_put 2 none) [vR a, vz e] G (fun oc G2 => (oc = .returned none ∧ G2 = G ∧ (SE e = sta)) ∨ (oc = .returned none ∧ G2 = G ∧ (¬ SE e = sta) ∧ (801 ≤ tc)) ∨ (∃ SE2 : Int → Int, ∃ TN2 : Int → Int, ∃ TS2 : Int → Int, ∃ tc2 : Int, oc = .returned none ∧ fx o o [32, 35, 36, 37, 38, 39] G G2 ∧ G2.length = G.length ∧ ab_slots G2 = ab_slots G ∧ cc o G2 a 32 (ab_ob 11 [vR sp, vR wk, vR nw, vR tn, vR nsp, vR tsp, vz nc, vz tc2, vR se, vz sta, vR stk, vz fo, vR q, vR s, vz hw, vz fy, vj stp]) ∧ cc o G2 wk 33 (za 20 WK) ∧ cc o G2 nw l1 (za 801 NW) ∧ cc o G2 nsp l3 (za 16020 NS) ∧ cc o G2 tn l2 (za 801 TN2) ∧ cc o G2 tsp l4 (za 16020 TS2) ∧ cc o G2 se 39 (za 2048 SE2) ∧ (0 ≤ tc2 ∧ tc2 ≤ 801 ∧ tc2 = tc + 1) ∧ (rgs SE2 2048 0 sta) ∧ (thos K cnt TN2 tc2) ∧ (thr TS2 tc2 wi n) ∧ (ptR SE TN TS tc e WK wi sta SE2 TN2 TS2))) := by
  refine ab_F_of (by decide +kernel) (Nat.le_of_ble_eq_true rfl) ?_
  obtain ⟨Q, hQ⟩ : ∃ z : Outcome → ab_G → Prop, z = (fun oc G2 => (oc = .returned none ∧ G2 = G ∧ (SE e = sta)) ∨ (oc = .returned none ∧ G2 = G ∧ (¬ SE e = sta) ∧ (801 ≤ tc)) ∨ (∃ SE2 : Int → Int, ∃ TN2 : Int → Int, ∃ TS2 : Int → Int, ∃ tc2 : Int, oc = .returned none ∧ fx o o [32, 35, 36, 37, 38, 39] G G2 ∧ G2.length = G.length ∧ ab_slots G2 = ab_slots G ∧ cc o G2 a 32 (ab_ob 11 [vR sp, vR wk, vR nw, vR tn, vR nsp, vR tsp, vz nc, vz tc2, vR se, vz sta, vR stk, vz fo, vR q, vR s, vz hw, vz fy, vj stp]) ∧ cc o G2 wk 33 (za 20 WK) ∧ cc o G2 nw l1 (za 801 NW) ∧ cc o G2 nsp l3 (za 16020 NS) ∧ cc o G2 tn l2 (za 801 TN2) ∧ cc o G2 tsp l4 (za 16020 TS2) ∧ cc o G2 se 39 (za 2048 SE2) ∧ (0 ≤ tc2 ∧ tc2 ≤ 801 ∧ tc2 = tc + 1) ∧ (rgs SE2 2048 0 sta) ∧ (thos K cnt TN2 tc2) ∧ (thr TS2 tc2 wi n) ∧ (ptR SE TN TS tc e WK wi sta SE2 TN2 TS2))) := ⟨_, rfl⟩
  rw [← hQ]
  change ab_W X (ab_pl y_TH_put b_TH_put 2 none) d G 0 [some (vR a), some (vz e)] [] Q
  have hfr : fx o o [32, 35, 36, 37, 38, 39] G G := fx.rf
  have hlen : G.length = G.length := rfl
  have hsl : ab_slots G = ab_slots G := rfl
  refine ab_aload_n d_TH_put_0 rfl ?_
  refine ab_getf (fs := [vR sp, vR wk, vR nw, vR tn, vR nsp, vR tsp, vz nc, vz tc, vR se, vz sta, vR stk, vz fo, vR q, vR s, vz hw, vz fy, vj stp]) f_TH_30 d_TH_put_1 ha.2.2 rfl ?_
  refine ab_iload_n d_TH_put_4 rfl ?_
  refine zz_iald d_TH_put_5 hse (by omega) ?_
  have hq1 := jse e (by omega) (by omega)
  refine ab_aload_n d_TH_put_6 rfl ?_
  refine ab_getf (fs := [vR sp, vR wk, vR nw, vR tn, vR nsp, vR tsp, vz nc, vz tc, vR se, vz sta, vR stk, vz fo, vR q, vR s, vz hw, vz fy, vj stp]) f_TH_98 d_TH_put_7 ha.2.2 rfl ?_
  refine zz_icmp_eq (tgt := 86) d_TH_put_10 (by decide) (by omega) (by omega) (fun c2 => ?_) (fun c2 => ?_)
  · refine ab_vret rfl d_TH_put_86 ?_
    rw [hQ]; exact (Or.inl ⟨rfl, rfl, (by omega)⟩)
  · refine ab_aload_n d_TH_put_13 rfl ?_
    refine ab_getf (fs := [vR sp, vR wk, vR nw, vR tn, vR nsp, vR tsp, vz nc, vz tc, vR se, vz sta, vR stk, vz fo, vR q, vR s, vz hw, vz fy, vj stp]) f_TH_64 d_TH_put_14 ha.2.2 rfl ?_
    refine ab_aload_n d_TH_put_17 rfl ?_
    refine ab_getf (fs := [vR sp, vR wk, vR nw, vR tn, vR nsp, vR tsp, vz nc, vz tc, vR se, vz sta, vR stk, vz fo, vR q, vR s, vz hw, vz fy, vj stp]) f_TH_21 d_TH_put_18 ha.2.2 rfl ?_
    refine zz_alen d_TH_put_21 htn ?_
    change ab_W _ _ _ G 22 [some (vR a), some (vz e)] [vz 801, vz tc] _
    refine zz_icmp_ge (tgt := 86) d_TH_put_22 (by decide) (by omega) (by decide) (fun c3 => ?_) (fun c3 => ?_)
    · refine ab_vret rfl d_TH_put_86 ?_
      rw [hQ]; exact (Or.inr (Or.inl ⟨rfl, rfl, (by omega), (by omega)⟩))
    · refine ab_aload_n d_TH_put_25 rfl ?_
      refine ab_getf (fs := [vR sp, vR wk, vR nw, vR tn, vR nsp, vR tsp, vz nc, vz tc, vR se, vz sta, vR stk, vz fo, vR q, vR s, vz hw, vz fy, vj stp]) f_TH_30 d_TH_put_26 ha.2.2 rfl ?_
      refine ab_iload_n d_TH_put_29 rfl ?_
      refine ab_aload_n d_TH_put_30 rfl ?_
      refine ab_getf (fs := [vR sp, vR wk, vR nw, vR tn, vR nsp, vR tsp, vz nc, vz tc, vR se, vz sta, vR stk, vz fo, vR q, vR s, vz hw, vz fy, vj stp]) f_TH_98 d_TH_put_31 ha.2.2 rfl ?_
      refine zz_iast d_TH_put_34 hse (by omega) (hse.2.1 (by decide)) ?_
      obtain ⟨G4, eG4⟩ : ∃ z : ab_G, z = List.set G se (za 2048 (zu SE e sta)) := ⟨_, rfl⟩
      have ha := ha.keep hse eG4 (by decide)
      have hwk := hwk.keep hse eG4 (by decide)
      have hnw := hnw.keep hse eG4 (by omega)
      have hnsp := hnsp.keep hse eG4 (by omega)
      have htn := htn.keep hse eG4 (by omega)
      have htsp := htsp.keep hse eG4 (by omega)
      have hq := hq.keep hse eG4 (by omega)
      have hlen := (z_len eG4).trans hlen
      have hsl := (z_sl hse eG4 rfl).trans hsl
      have hfr := hfr.wr hse eG4 (by decide)
      have hse := hse.kept eG4
      change ab_W _ _ _ (List.set G se (za 2048 (zu SE e sta))) 35 [some (vR a), some (vz e)] [] _
      rw [← eG4]
      refine ab_aload_n d_TH_put_35 rfl ?_
      refine ab_getf (fs := [vR sp, vR wk, vR nw, vR tn, vR nsp, vR tsp, vz nc, vz tc, vR se, vz sta, vR stk, vz fo, vR q, vR s, vz hw, vz fy, vj stp]) f_TH_21 d_TH_put_36 ha.2.2 rfl ?_
      refine ab_aload_n d_TH_put_39 rfl ?_
      refine ab_getf (fs := [vR sp, vR wk, vR nw, vR tn, vR nsp, vR tsp, vz nc, vz tc, vR se, vz sta, vR stk, vz fo, vR q, vR s, vz hw, vz fy, vj stp]) f_TH_64 d_TH_put_40 ha.2.2 rfl ?_
      refine ab_iload_n d_TH_put_43 rfl ?_
      refine zz_iast d_TH_put_44 htn (by omega) (htn.2.1 (by first | omega | exact (show 18 ≤ _ by omega))) ?_
      obtain ⟨G5, eG5⟩ : ∃ z : ab_G, z = List.set G4 tn (za 801 (zu TN tc e)) := ⟨_, rfl⟩
      have ha := ha.keep htn eG5 (by omega)
      have hwk := hwk.keep htn eG5 (by omega)
      have hnw := hnw.keep htn eG5 (by omega)
      have hnsp := hnsp.keep htn eG5 (by omega)
      have htsp := htsp.keep htn eG5 (by omega)
      have hse := hse.keep htn eG5 (by omega)
      have hq := hq.keep htn eG5 (by omega)
      have hlen := (z_len eG5).trans hlen
      have hsl := (z_sl htn eG5 rfl).trans hsl
      have hfr := hfr.wr htn eG5 (by simp only [List.mem_cons, List.not_mem_nil, or_false]; omega)
      have htn := htn.kept eG5
      change ab_W _ _ _ (List.set G4 tn (za 801 (zu TN tc e))) 45 [some (vR a), some (vz e)] [] _
      rw [← eG5]
      refine ab_aload_n d_TH_put_45 rfl ?_
      refine ab_getf (fs := [vR sp, vR wk, vR nw, vR tn, vR nsp, vR tsp, vz nc, vz tc, vR se, vz sta, vR stk, vz fo, vR q, vR s, vz hw, vz fy, vj stp]) f_TH_15 d_TH_put_46 ha.2.2 rfl ?_
      refine zz_iconst d_TH_put_49 ?_
      refine ab_aload_n d_TH_put_50 rfl ?_
      refine ab_getf (fs := [vR sp, vR wk, vR nw, vR tn, vR nsp, vR tsp, vz nc, vz tc, vR se, vz sta, vR stk, vz fo, vR q, vR s, vz hw, vz fy, vj stp]) f_TH_27 d_TH_put_51 ha.2.2 rfl ?_
      refine ab_aload_n d_TH_put_54 rfl ?_
      refine ab_getf (fs := [vR sp, vR wk, vR nw, vR tn, vR nsp, vR tsp, vz nc, vz tc, vR se, vz sta, vR stk, vz fo, vR q, vR s, vz hw, vz fy, vj stp]) f_TH_64 d_TH_put_55 ha.2.2 rfl ?_
      refine ab_aload_n d_TH_put_58 rfl ?_
      refine ab_getf (fs := [vR sp, vR wk, vR nw, vR tn, vR nsp, vR tsp, vz nc, vz tc, vR se, vz sta, vR stk, vz fo, vR q, vR s, vz hw, vz fy, vj stp]) f_TH_36 d_TH_put_59 ha.2.2 rfl ?_
      refine ab_getf (fs := [vR ki, vR ne, vR ot, vz cnt, vz fi, vz la, vR ra, vz ru, vz gr, vz wi, vz sz, vz fl, vz ve, vz mi, vR na, vR nl]) f_TH_72 d_TH_put_62 hq.2.2 rfl ?_
      refine zz_imul d_TH_put_65 ?_
      obtain ⟨v6, hv6⟩ : ∃ z : Int, z = tc * wi := ⟨_, rfl⟩
      rw [← hv6]
      have hv6b := z_mulb (a := tc) (b := wi) (A := 801) (B := 20) (by omega) (by omega)
      rw [← hv6] at hv6b
      change ab_W _ _ _ G5 66 [some (vR a), some (vz e)] [vz v6, vR tsp, vz 0, vR wk] _
      have jtw : (tc + 1) * wi ≤ 801 * 20 := Int.mul_le_mul (by omega) (by omega) (by omega) (by omega)
      have jtw2 : (tc + 1) * wi = tc * wi + wi := by rw [Int.add_mul, Int.one_mul]
      refine ab_aload_n d_TH_put_66 rfl ?_
      refine ab_getf (fs := [vR sp, vR wk, vR nw, vR tn, vR nsp, vR tsp, vz nc, vz tc, vR se, vz sta, vR stk, vz fo, vR q, vR s, vz hw, vz fy, vj stp]) f_TH_36 d_TH_put_67 ha.2.2 rfl ?_
      refine ab_getf (fs := [vR ki, vR ne, vR ot, vz cnt, vz fi, vz la, vR ra, vz ru, vz gr, vz wi, vz sz, vz fl, vz ve, vz mi, vR na, vR nl]) f_TH_72 d_TH_put_70 hq.2.2 rfl ?_
      refine zz_copy mj_TH_109 d_TH_put_73 hwk htsp (htsp.2.1 (by first | omega | exact (show 18 ≤ _ by omega))) (by omega) (Nat.le_of_ble_eq_true rfl) (by omega) ?_
      obtain ⟨G7, eG7⟩ : ∃ z : ab_G, z = List.set G5 tsp (za 16020 (zcpy WK TS 0 v6 wi)) := ⟨_, rfl⟩
      have ha := ha.keep htsp eG7 (by omega)
      have hwk := hwk.keep htsp eG7 (by omega)
      have hnw := hnw.keep htsp eG7 (by omega)
      have hnsp := hnsp.keep htsp eG7 (by omega)
      have htn := htn.keep htsp eG7 (by omega)
      have hse := hse.keep htsp eG7 (by omega)
      have hq := hq.keep htsp eG7 (by omega)
      have hlen := (z_len eG7).trans hlen
      have hsl := (z_sl htsp eG7 rfl).trans hsl
      have hfr := hfr.wr htsp eG7 (by simp only [List.mem_cons, List.not_mem_nil, or_false]; omega)
      have htsp := htsp.kept eG7
      change ab_W _ _ _ (List.set G5 tsp (za 16020 (zcpy WK TS 0 v6 wi))) 76 [some (vR a), some (vz e)] [] _
      rw [← eG7]
      refine ab_aload_n d_TH_put_76 rfl ?_
      refine ab_dup d_TH_put_77 rfl ?_
      refine ab_getf (fs := [vR sp, vR wk, vR nw, vR tn, vR nsp, vR tsp, vz nc, vz tc, vR se, vz sta, vR stk, vz fo, vR q, vR s, vz hw, vz fy, vj stp]) f_TH_64 d_TH_put_78 ha.2.2 rfl ?_
      refine zz_iconst d_TH_put_81 ?_
      refine zz_iadd d_TH_put_82 ?_
      refine ab_putf (fs := [vR sp, vR wk, vR nw, vR tn, vR nsp, vR tsp, vz nc, vz tc, vR se, vz sta, vR stk, vz fo, vR q, vR s, vz hw, vz fy, vj stp]) f_TH_64 (Or.inl rfl) d_TH_put_83 ha.2.2 (Nat.le_of_ble_eq_true rfl) (fun _ => ⟨rfl, rfl⟩) (ha.2.1 (by decide)) ?_
      obtain ⟨G8, eG8⟩ : ∃ z : ab_G, z = List.set G7 a (ab_ob 11 [vR sp, vR wk, vR nw, vR tn, vR nsp, vR tsp, vz nc, vz (tc + 1), vR se, vz sta, vR stk, vz fo, vR q, vR s, vz hw, vz fy, vj stp]) := ⟨_, rfl⟩
      have hwk := hwk.keep ha eG8 (by decide)
      have hnw := hnw.keep ha eG8 (by omega)
      have hnsp := hnsp.keep ha eG8 (by omega)
      have htn := htn.keep ha eG8 (by omega)
      have htsp := htsp.keep ha eG8 (by omega)
      have hse := hse.keep ha eG8 (by decide)
      have hq := hq.keep ha eG8 (by omega)
      have hlen := (z_len eG8).trans hlen
      have hsl := (z_sl ha eG8 rfl).trans hsl
      have hfr := hfr.wr ha eG8 (by decide)
      have ha := ha.kept eG8
      change ab_W _ _ _ (List.set G7 a (ab_ob 11 [vR sp, vR wk, vR nw, vR tn, vR nsp, vR tsp, vz nc, vz (tc + 1), vR se, vz sta, vR stk, vz fo, vR q, vR s, vz hw, vz fy, vj stp])) 86 [some (vR a), some (vz e)] [] _
      rw [← eG8]
      refine ab_vret rfl d_TH_put_86 ?_
      rw [hQ]; exact (Or.inr (Or.inr ⟨_, _, _, _, rfl, hfr, hlen, hsl, ha, hwk, hnw, hnsp, htn, htsp, hse, (by omega), (by first | exact (rgs_zu jse (by omega)) | exact rgs_w (rgs_zu jse (by omega)) (by omega)), (by exact thos_s jtn je), (by subst hv6; exact thr_s (by omega) (by omega) jts jwk c0k), (by subst hv6; exact ⟨by omega, rfl, rfl, rfl⟩)⟩))
set_option maxRecDepth 100000 in
set_option maxHeartbeats 4000000 in
theorem z_TH_turnRows {X : ab_X} {d : Nat} {o : Nat → Nat} {G : ab_G} {q : Nat} {s : Nat} {a : Nat} {sp : Nat} {wk : Nat} {nw : Nat} {tn : Nat} {nsp : Nat} {tsp : Nat} {se : Nat} {stk : Nat} {nc : Int} {tc : Int} {sta : Int} {fo : Int} {hw : Int} {fy : Int} {stp : Int} (ha : cc o G a 32 (ab_ob 11 [vR sp, vR wk, vR nw, vR tn, vR nsp, vR tsp, vz nc, vz tc, vR se, vz sta, vR stk, vz fo, vR q, vR s, vz hw, vz fy, vj stp])) : ab_F X d y_TH_turnRows (.code y_TH_turnRows b_TH_turnRows 3 none) [vR a] G (fun oc G2 => oc = .returned none ∧ fx o o [32] G G2 ∧ G2.length = G.length ∧ ab_slots G2 = ab_slots G ∧ cc o G2 a 32 (ab_ob 11 [vR sp, vR wk, vR tn, vR nw, vR tsp, vR nsp, vz tc, vz 0, vR se, vz (sta + 1), vR stk, vz fo, vR q, vR s, vz hw, vz fy, vj stp])) := by
  refine ab_F_of (by decide +kernel) (Nat.le_of_ble_eq_true rfl) ?_
  obtain ⟨Q, hQ⟩ : ∃ z : Outcome → ab_G → Prop, z = (fun oc G2 => oc = .returned none ∧ fx o o [32] G G2 ∧ G2.length = G.length ∧ ab_slots G2 = ab_slots G ∧ cc o G2 a 32 (ab_ob 11 [vR sp, vR wk, vR tn, vR nw, vR tsp, vR nsp, vz tc, vz 0, vR se, vz (sta + 1), vR stk, vz fo, vR q, vR s, vz hw, vz fy, vj stp])) := ⟨_, rfl⟩
  rw [← hQ]
  change ab_W X (ab_pl y_TH_turnRows b_TH_turnRows 3 none) d G 0 [some (vR a), none, none] [] Q
  have hfr : fx o o [32] G G := fx.rf
  have hlen : G.length = G.length := rfl
  have hsl : ab_slots G = ab_slots G := rfl
  refine ab_aload_n d_TH_turnRows_0 rfl ?_
  refine ab_getf (fs := [vR sp, vR wk, vR nw, vR tn, vR nsp, vR tsp, vz nc, vz tc, vR se, vz sta, vR stk, vz fo, vR q, vR s, vz hw, vz fy, vj stp]) f_TH_18 d_TH_turnRows_1 ha.2.2 rfl ?_
  refine ab_astore_n d_TH_turnRows_4 (Nat.le_of_ble_eq_true rfl) (Nat.le_of_ble_eq_true rfl) rfl ?_
  change ab_W _ _ _ G 5 [some (vR a), some (vR nw), none] [] _
  refine ab_aload_n d_TH_turnRows_5 rfl ?_
  refine ab_aload_n d_TH_turnRows_6 rfl ?_
  refine ab_getf (fs := [vR sp, vR wk, vR nw, vR tn, vR nsp, vR tsp, vz nc, vz tc, vR se, vz sta, vR stk, vz fo, vR q, vR s, vz hw, vz fy, vj stp]) f_TH_21 d_TH_turnRows_7 ha.2.2 rfl ?_
  refine ab_putf (fs := [vR sp, vR wk, vR nw, vR tn, vR nsp, vR tsp, vz nc, vz tc, vR se, vz sta, vR stk, vz fo, vR q, vR s, vz hw, vz fy, vj stp]) f_TH_18 (Or.inl rfl) d_TH_turnRows_10 ha.2.2 (Nat.le_of_ble_eq_true rfl) (fun _ => ⟨rfl, rfl⟩) (ha.2.1 (by decide)) ?_
  obtain ⟨G1, eG1⟩ : ∃ z : ab_G, z = List.set G a (ab_ob 11 [vR sp, vR wk, vR tn, vR tn, vR nsp, vR tsp, vz nc, vz tc, vR se, vz sta, vR stk, vz fo, vR q, vR s, vz hw, vz fy, vj stp]) := ⟨_, rfl⟩
  have hlen := (z_len eG1).trans hlen
  have hsl := (z_sl ha eG1 rfl).trans hsl
  have hfr := hfr.wr ha eG1 (by decide)
  have ha := ha.kept eG1
  change ab_W _ _ _ (List.set G a (ab_ob 11 [vR sp, vR wk, vR tn, vR tn, vR nsp, vR tsp, vz nc, vz tc, vR se, vz sta, vR stk, vz fo, vR q, vR s, vz hw, vz fy, vj stp])) 13 [some (vR a), some (vR nw), none] [] _
  rw [← eG1]
  refine ab_aload_n d_TH_turnRows_13 rfl ?_
  refine ab_aload_n d_TH_turnRows_14 rfl ?_
  refine ab_putf (fs := [vR sp, vR wk, vR tn, vR tn, vR nsp, vR tsp, vz nc, vz tc, vR se, vz sta, vR stk, vz fo, vR q, vR s, vz hw, vz fy, vj stp]) f_TH_21 (Or.inl rfl) d_TH_turnRows_15 ha.2.2 (Nat.le_of_ble_eq_true rfl) (fun _ => ⟨rfl, rfl⟩) (ha.2.1 (by decide)) ?_
  obtain ⟨G2, eG2⟩ : ∃ z : ab_G, z = List.set G1 a (ab_ob 11 [vR sp, vR wk, vR tn, vR nw, vR nsp, vR tsp, vz nc, vz tc, vR se, vz sta, vR stk, vz fo, vR q, vR s, vz hw, vz fy, vj stp]) := ⟨_, rfl⟩
  have hlen := (z_len eG2).trans hlen
  have hsl := (z_sl ha eG2 rfl).trans hsl
  have hfr := hfr.wr ha eG2 (by decide)
  have ha := ha.kept eG2
  change ab_W _ _ _ (List.set G1 a (ab_ob 11 [vR sp, vR wk, vR tn, vR nw, vR nsp, vR tsp, vz nc, vz tc, vR se, vz sta, vR stk, vz fo, vR q, vR s, vz hw, vz fy, vj stp])) 18 [some (vR a), some (vR nw), none] [] _
  rw [← eG2]
  refine ab_aload_n d_TH_turnRows_18 rfl ?_
  refine ab_getf (fs := [vR sp, vR wk, vR tn, vR nw, vR nsp, vR tsp, vz nc, vz tc, vR se, vz sta, vR stk, vz fo, vR q, vR s, vz hw, vz fy, vj stp]) f_TH_24 d_TH_turnRows_19 ha.2.2 rfl ?_
  refine ab_astore_n d_TH_turnRows_22 (Nat.le_of_ble_eq_true rfl) (Nat.le_of_ble_eq_true rfl) rfl ?_
  change ab_W _ _ _ G2 23 [some (vR a), some (vR nw), some (vR nsp)] [] _
  refine ab_aload_n d_TH_turnRows_23 rfl ?_
  refine ab_aload_n d_TH_turnRows_24 rfl ?_
  refine ab_getf (fs := [vR sp, vR wk, vR tn, vR nw, vR nsp, vR tsp, vz nc, vz tc, vR se, vz sta, vR stk, vz fo, vR q, vR s, vz hw, vz fy, vj stp]) f_TH_27 d_TH_turnRows_25 ha.2.2 rfl ?_
  refine ab_putf (fs := [vR sp, vR wk, vR tn, vR nw, vR nsp, vR tsp, vz nc, vz tc, vR se, vz sta, vR stk, vz fo, vR q, vR s, vz hw, vz fy, vj stp]) f_TH_24 (Or.inl rfl) d_TH_turnRows_28 ha.2.2 (Nat.le_of_ble_eq_true rfl) (fun _ => ⟨rfl, rfl⟩) (ha.2.1 (by decide)) ?_
  obtain ⟨G3, eG3⟩ : ∃ z : ab_G, z = List.set G2 a (ab_ob 11 [vR sp, vR wk, vR tn, vR nw, vR tsp, vR tsp, vz nc, vz tc, vR se, vz sta, vR stk, vz fo, vR q, vR s, vz hw, vz fy, vj stp]) := ⟨_, rfl⟩
  have hlen := (z_len eG3).trans hlen
  have hsl := (z_sl ha eG3 rfl).trans hsl
  have hfr := hfr.wr ha eG3 (by decide)
  have ha := ha.kept eG3
  change ab_W _ _ _ (List.set G2 a (ab_ob 11 [vR sp, vR wk, vR tn, vR nw, vR tsp, vR tsp, vz nc, vz tc, vR se, vz sta, vR stk, vz fo, vR q, vR s, vz hw, vz fy, vj stp])) 31 [some (vR a), some (vR nw), some (vR nsp)] [] _
  rw [← eG3]
  refine ab_aload_n d_TH_turnRows_31 rfl ?_
  refine ab_aload_n d_TH_turnRows_32 rfl ?_
  refine ab_putf (fs := [vR sp, vR wk, vR tn, vR nw, vR tsp, vR tsp, vz nc, vz tc, vR se, vz sta, vR stk, vz fo, vR q, vR s, vz hw, vz fy, vj stp]) f_TH_27 (Or.inl rfl) d_TH_turnRows_33 ha.2.2 (Nat.le_of_ble_eq_true rfl) (fun _ => ⟨rfl, rfl⟩) (ha.2.1 (by decide)) ?_
  obtain ⟨G4, eG4⟩ : ∃ z : ab_G, z = List.set G3 a (ab_ob 11 [vR sp, vR wk, vR tn, vR nw, vR tsp, vR nsp, vz nc, vz tc, vR se, vz sta, vR stk, vz fo, vR q, vR s, vz hw, vz fy, vj stp]) := ⟨_, rfl⟩
  have hlen := (z_len eG4).trans hlen
  have hsl := (z_sl ha eG4 rfl).trans hsl
  have hfr := hfr.wr ha eG4 (by decide)
  have ha := ha.kept eG4
  change ab_W _ _ _ (List.set G3 a (ab_ob 11 [vR sp, vR wk, vR tn, vR nw, vR tsp, vR nsp, vz nc, vz tc, vR se, vz sta, vR stk, vz fo, vR q, vR s, vz hw, vz fy, vj stp])) 36 [some (vR a), some (vR nw), some (vR nsp)] [] _
  rw [← eG4]
  refine ab_aload_n d_TH_turnRows_36 rfl ?_
  refine ab_aload_n d_TH_turnRows_37 rfl ?_
  refine ab_getf (fs := [vR sp, vR wk, vR tn, vR nw, vR tsp, vR nsp, vz nc, vz tc, vR se, vz sta, vR stk, vz fo, vR q, vR s, vz hw, vz fy, vj stp]) f_TH_64 d_TH_turnRows_38 ha.2.2 rfl ?_
  refine ab_putf (fs := [vR sp, vR wk, vR tn, vR nw, vR tsp, vR nsp, vz nc, vz tc, vR se, vz sta, vR stk, vz fo, vR q, vR s, vz hw, vz fy, vj stp]) f_TH_91 (Or.inl rfl) d_TH_turnRows_41 ha.2.2 (Nat.le_of_ble_eq_true rfl) (fun _ => ⟨rfl, rfl⟩) (ha.2.1 (by decide)) ?_
  obtain ⟨G5, eG5⟩ : ∃ z : ab_G, z = List.set G4 a (ab_ob 11 [vR sp, vR wk, vR tn, vR nw, vR tsp, vR nsp, vz tc, vz tc, vR se, vz sta, vR stk, vz fo, vR q, vR s, vz hw, vz fy, vj stp]) := ⟨_, rfl⟩
  have hlen := (z_len eG5).trans hlen
  have hsl := (z_sl ha eG5 rfl).trans hsl
  have hfr := hfr.wr ha eG5 (by decide)
  have ha := ha.kept eG5
  change ab_W _ _ _ (List.set G4 a (ab_ob 11 [vR sp, vR wk, vR tn, vR nw, vR tsp, vR nsp, vz tc, vz tc, vR se, vz sta, vR stk, vz fo, vR q, vR s, vz hw, vz fy, vj stp])) 44 [some (vR a), some (vR nw), some (vR nsp)] [] _
  rw [← eG5]
  refine ab_aload_n d_TH_turnRows_44 rfl ?_
  refine zz_iconst d_TH_turnRows_45 ?_
  refine ab_putf (fs := [vR sp, vR wk, vR tn, vR nw, vR tsp, vR nsp, vz tc, vz tc, vR se, vz sta, vR stk, vz fo, vR q, vR s, vz hw, vz fy, vj stp]) f_TH_64 (Or.inl rfl) d_TH_turnRows_46 ha.2.2 (Nat.le_of_ble_eq_true rfl) (fun _ => ⟨rfl, rfl⟩) (ha.2.1 (by decide)) ?_
  obtain ⟨G6, eG6⟩ : ∃ z : ab_G, z = List.set G5 a (ab_ob 11 [vR sp, vR wk, vR tn, vR nw, vR tsp, vR nsp, vz tc, vz 0, vR se, vz sta, vR stk, vz fo, vR q, vR s, vz hw, vz fy, vj stp]) := ⟨_, rfl⟩
  have hlen := (z_len eG6).trans hlen
  have hsl := (z_sl ha eG6 rfl).trans hsl
  have hfr := hfr.wr ha eG6 (by decide)
  have ha := ha.kept eG6
  change ab_W _ _ _ (List.set G5 a (ab_ob 11 [vR sp, vR wk, vR tn, vR nw, vR tsp, vR nsp, vz tc, vz 0, vR se, vz sta, vR stk, vz fo, vR q, vR s, vz hw, vz fy, vj stp])) 49 [some (vR a), some (vR nw), some (vR nsp)] [] _
  rw [← eG6]
  refine ab_aload_n d_TH_turnRows_49 rfl ?_
  refine ab_dup d_TH_turnRows_50 rfl ?_
  refine ab_getf (fs := [vR sp, vR wk, vR tn, vR nw, vR tsp, vR nsp, vz tc, vz 0, vR se, vz sta, vR stk, vz fo, vR q, vR s, vz hw, vz fy, vj stp]) f_TH_98 d_TH_turnRows_51 ha.2.2 rfl ?_
  refine zz_iconst d_TH_turnRows_54 ?_
  refine zz_iadd d_TH_turnRows_55 ?_
  refine ab_putf (fs := [vR sp, vR wk, vR tn, vR nw, vR tsp, vR nsp, vz tc, vz 0, vR se, vz sta, vR stk, vz fo, vR q, vR s, vz hw, vz fy, vj stp]) f_TH_98 (Or.inl rfl) d_TH_turnRows_56 ha.2.2 (Nat.le_of_ble_eq_true rfl) (fun _ => ⟨rfl, rfl⟩) (ha.2.1 (by decide)) ?_
  obtain ⟨G7, eG7⟩ : ∃ z : ab_G, z = List.set G6 a (ab_ob 11 [vR sp, vR wk, vR tn, vR nw, vR tsp, vR nsp, vz tc, vz 0, vR se, vz (sta + 1), vR stk, vz fo, vR q, vR s, vz hw, vz fy, vj stp]) := ⟨_, rfl⟩
  have hlen := (z_len eG7).trans hlen
  have hsl := (z_sl ha eG7 rfl).trans hsl
  have hfr := hfr.wr ha eG7 (by decide)
  have ha := ha.kept eG7
  change ab_W _ _ _ (List.set G6 a (ab_ob 11 [vR sp, vR wk, vR tn, vR nw, vR tsp, vR nsp, vz tc, vz 0, vR se, vz (sta + 1), vR stk, vz fo, vR q, vR s, vz hw, vz fy, vj stp])) 59 [some (vR a), some (vR nw), some (vR nsp)] [] _
  rw [← eG7]
  refine ab_vret rfl d_TH_turnRows_59 ?_
  rw [hQ]; exact ⟨rfl, hfr, hlen, hsl, ha⟩
set_option maxRecDepth 100000 in
set_option maxHeartbeats 4000000 in
theorem y_TH_walk_9 {X : ab_X} {d : Nat} {Q : Outcome → ab_G → Prop} {o : Nat → Nat} {G0 : ab_G} {q : Nat} {lq : Nat} {ki : Nat} {ne : Nat} {ot : Nat} {cnt : Int} {fi : Int} {la : Int} {ra : Nat} {ru : Int} {gr : Int} {wi : Int} {sz : Int} {fl : Int} {ve : Int} {mi : Int} {na : Nat} {nl : Nat} {K : Int → Int} {N : Int → Int} {O : Int → Int} {RR : Int → Int} {nr : Nat} {s : Nat} {by_ : Nat} {co : Nat} {re : Nat} {ho : Nat} {n : Int} {f : Int → Int} {C : Int → Int} {Rs : Int → Int} {H : Int → Int} {m : Nat} {mc : Nat} {a : Nat} {sp : Nat} {wk : Nat} {nw : Nat} {tn : Nat} {nsp : Nat} {tsp : Nat} {se : Nat} {stk : Nat} {nc : Int} {sta : Int} {fo : Int} {hw : Int} {fy : Int} {SP : Int → Int} {NW : Int → Int} {NS : Int → Int} {l1 : Nat} {l2 : Nat} {l3 : Nat} {l4 : Nat} {p : Int} {st : Int} {Mw : List Tw} {k0 : Int} (cq : 100 ≤ lq ∧ 0 ≤ cnt ∧ cnt ≤ 808 ∧ ↑nr ≤ (100000 : Int)) (hp : prok K N O RR cnt ↑nr wi) (hr : ∀ k : Int, 0 ≤ k → k < ↑nr → 0 ≤ RR k ∧ RR k ≤ 1114111) (csu : 0 ≤ n ∧ n ≤ ↑m ∧ 32 ≤ m ∧ m ≤ 2000 ∧ mc = m + 1) (hsu : suok f C Rs H n) (cwi : 2 ≤ wi ∧ wi ≤ 20) (cl : l1 + l2 = 71 ∧ 35 ≤ l1 ∧ l1 ≤ 36 ∧ l3 + l4 = 75 ∧ 37 ≤ l3 ∧ l3 ≤ 38) (hkk : kkF K cnt) (ck0 : 0 ≤ k0) (hd : 2 ≤ d) : ∀ (mz : Nat) {G : ab_G} {tc : Int} {stp : Int} {WK : Int → Int} {TN : Int → Int} {TS : Int → Int} {SE : Int → Int} {SK : Int → Int} {x : Int} {dp : Int} {tu : Int}, (cc o G a 32 (ab_ob 11 [vR sp, vR wk, vR nw, vR tn, vR nsp, vR tsp, vz nc, vz tc, vR se, vz sta, vR stk, vz fo, vR q, vR s, vz hw, vz fy, vj stp])) → (cc o G sp 31 (za 20 SP)) → (cc o G wk 33 (za 20 WK)) → (cc o G nw l1 (za 801 NW)) → (cc o G tn l2 (za 801 TN)) → (cc o G nsp l3 (za 16020 NS)) → (cc o G tsp l4 (za 16020 TS)) → (cc o G se 39 (za 2048 SE)) → (cc o G stk 40 (za 809 SK)) → (cc o G q lq (ab_ob 5 [vR ki, vR ne, vR ot, vz cnt, vz fi, vz la, vR ra, vz ru, vz gr, vz wi, vz sz, vz fl, vz ve, vz mi, vR na, vR nl])) → (cc o G ki (lq + 1) (za 808 K)) → (cc o G ne (lq + 2) (za 808 N)) → (cc o G ot (lq + 3) (za 808 O)) → (cc o G ra (lq + 4) (za nr RR)) → (cc o G s 26 (ab_ob 9 [vR by_, vR co, vR re, vR ho, vz n])) → (cc o G co 28 (za mc C)) → (cc o G re 29 (za mc Rs)) → (cc o G ho 30 (za mc H)) → (0 ≤ x ∧ x < cnt ∧ 0 ≤ p ∧ p ≤ n) → (0 ≤ tu ∧ tu ≤ 808) → (0 ≤ sta ∧ sta ≤ 2100000000) → (0 ≤ tc ∧ tc ≤ 801) → (0 ≤ dp ∧ dp ≤ 809) → (rgs WK wi (-1) n) → (0 ≤ WK 0) → (rgs SE 2048 0 sta) → (thos K cnt TN tc) → (thr TS tc wi n) → (tkos SK dp cnt n wi) → (THW K N O RR cnt f n fy hw wi st p Rs SE sta SK dp WK TN TS tc x Mw) → (dp + k0 ≤ viN SE sta 807) → (tu ≤ viN SE sta 807) → (fx o o [32, 33, 35, 36, 37, 38, 39, 40] G0 G) → (G.length = G0.length) → (ab_slots G = ab_slots G0) → (Int.toNat (808 - tu) < mz) → (∀ (G2 : ab_G) (dp2 : Int) (tc2 : Int) (st2 : Int) (SE2 : Int → Int) (TN2 : Int → Int) (TS2 : Int → Int) (SK2 : Int → Int) (WK2 : Int → Int), (cc o G2 a 32 (ab_ob 11 [vR sp, vR wk, vR nw, vR tn, vR nsp, vR tsp, vz nc, vz tc2, vR se, vz sta, vR stk, vz fo, vR q, vR s, vz hw, vz fy, vj st2])) → (cc o G2 sp 31 (za 20 SP)) → (cc o G2 wk 33 (za 20 WK2)) → (cc o G2 nw l1 (za 801 NW)) → (cc o G2 tn l2 (za 801 TN2)) → (cc o G2 nsp l3 (za 16020 NS)) → (cc o G2 tsp l4 (za 16020 TS2)) → (cc o G2 se 39 (za 2048 SE2)) → (cc o G2 stk 40 (za 809 SK2)) → (0 ≤ tc2 ∧ tc2 ≤ 801) → (rgs WK2 wi (-1) n) → (0 ≤ WK2 0) → (rgs SE2 2048 0 sta) → (thos K cnt TN2 tc2) → (thr TS2 tc2 wi n) → (0 ≤ dp2 ∧ dp2 ≤ 809) → (tkos SK2 dp2 cnt n wi) → (THY K N O RR cnt f n fy hw wi st p Rs SE2 sta SK2 dp2 WK2 TN2 TS2 tc2 Mw) → (dp2 + k0 ≤ viN SE2 sta 807) → (fx o o [32, 33, 35, 36, 37, 38, 39, 40] G0 G2) → (G2.length = G0.length) → (ab_slots G2 = ab_slots G0) → Q (.returned (some (vz dp2))) G2) → ab_W X (ab_pl y_TH_walk b_TH_walk 9 (some (.int))) d G 9 [some (vR a), none, some (vz p), none, some (vz dp), some (vz x), some (vz tu), none, none] [] Q := by
  intro mz
  induction mz with
  | zero => intro G tc stp WK TN TS SE SK x dp tu ha hsp hwk hnw htn hnsp htsp hse hstk hq hki hne hot hra hs hco hre hho cx ct cst ctc cdp jwk c0k jse jtn jts jsk jth jvn jtu hfr hlen hsl hm hk0; exact absurd hm (Nat.not_lt_zero _)
  | succ mz ih =>
    intro G tc stp WK TN TS SE SK x dp tu ha hsp hwk hnw htn hnsp htsp hse hstk hq hki hne hot hra hs hco hre hho cx ct cst ctc cdp jwk c0k jse jtn jts jsk jth jvn jtu hfr hlen hsl hm hk0
    have hvb_ := viN_b (SE := SE) (sta := sta) 807
    refine ab_iload d_TH_walk_9 rfl ?_
    refine zz_sipush d_TH_walk_11 (by decide) ?_
    refine zz_icmp_ge (tgt := 221) d_TH_walk_14 (by decide) (by omega) (by decide) (fun c1 => absurd c1 (by omega)) (fun c1 => ?_)
    refine ab_aload_n d_TH_walk_17 rfl ?_
    refine ab_getf (fs := [vR sp, vR wk, vR nw, vR tn, vR nsp, vR tsp, vz nc, vz tc, vR se, vz sta, vR stk, vz fo, vR q, vR s, vz hw, vz fy, vj stp]) f_TH_30 d_TH_walk_18 ha.2.2 rfl ?_
    refine ab_iload d_TH_walk_21 rfl ?_
    refine zz_iald d_TH_walk_23 hse (by omega) ?_
    have hq2 := jse x (by omega) (by omega)
    refine ab_aload_n d_TH_walk_24 rfl ?_
    refine ab_getf (fs := [vR sp, vR wk, vR nw, vR tn, vR nsp, vR tsp, vz nc, vz tc, vR se, vz sta, vR stk, vz fo, vR q, vR s, vz hw, vz fy, vj stp]) f_TH_98 d_TH_walk_25 ha.2.2 rfl ?_
    refine zz_icmp_eq (tgt := 221) d_TH_walk_28 (by decide) (by omega) (by omega) (fun c3 => ?_) (fun c3 => ?_)
    · refine ab_iload d_TH_walk_221 rfl ?_
      refine zz_iret rfl d_TH_walk_223 ?_
      exact hk0 _ _ _ _ _ _ _ _ _ ha hsp hwk hnw htn hnsp htsp hse hstk (by omega) (by first | exact jwk | exact rgs_w jwk (by omega)) (by omega) (by first | exact jse | exact rgs_w jse (by omega)) (by exact jtn) (by exact jts) (by omega) (by exact jsk) (by exact tw_dead jth (by omega) (by omega)) (by omega) hfr hlen hsl
    · refine ab_aload_n d_TH_walk_31 rfl ?_
      refine ab_dup d_TH_walk_32 rfl ?_
      refine ab_getf (fs := [vR sp, vR wk, vR nw, vR tn, vR nsp, vR tsp, vz nc, vz tc, vR se, vz sta, vR stk, vz fo, vR q, vR s, vz hw, vz fy, vj stp]) f_TH_105 d_TH_walk_33 ha.2.2 rfl ?_
      refine zz_lconst d_TH_walk_36 ?_
      change ab_W _ _ _ G 37 [some (vR a), none, some (vz p), none, some (vz dp), some (vz x), some (vz tu), none, none] [vj 1, vj stp, vR a] _
      refine zz_ladd d_TH_walk_37 ?_
      refine ab_putf (fs := [vR sp, vR wk, vR nw, vR tn, vR nsp, vR tsp, vz nc, vz tc, vR se, vz sta, vR stk, vz fo, vR q, vR s, vz hw, vz fy, vj stp]) f_TH_105 (Or.inl rfl) d_TH_walk_38 ha.2.2 (Nat.le_of_ble_eq_true rfl) (fun _ => ⟨rfl, rfl⟩) (ha.2.1 (by decide)) ?_
      obtain ⟨G4, eG4⟩ : ∃ z : ab_G, z = List.set G a (ab_ob 11 [vR sp, vR wk, vR nw, vR tn, vR nsp, vR tsp, vz nc, vz tc, vR se, vz sta, vR stk, vz fo, vR q, vR s, vz hw, vz fy, vj (stp + 1)]) := ⟨_, rfl⟩
      have hsp := hsp.keep ha eG4 (by decide)
      have hwk := hwk.keep ha eG4 (by decide)
      have hnw := hnw.keep ha eG4 (by omega)
      have htn := htn.keep ha eG4 (by omega)
      have hnsp := hnsp.keep ha eG4 (by omega)
      have htsp := htsp.keep ha eG4 (by omega)
      have hse := hse.keep ha eG4 (by decide)
      have hstk := hstk.keep ha eG4 (by decide)
      have hq := hq.keep ha eG4 (by omega)
      have hki := hki.keep ha eG4 (by omega)
      have hne := hne.keep ha eG4 (by omega)
      have hot := hot.keep ha eG4 (by omega)
      have hra := hra.keep ha eG4 (by omega)
      have hs := hs.keep ha eG4 (by decide)
      have hco := hco.keep ha eG4 (by decide)
      have hre := hre.keep ha eG4 (by decide)
      have hho := hho.keep ha eG4 (by decide)
      have hlen := (z_len eG4).trans hlen
      have hsl := (z_sl ha eG4 rfl).trans hsl
      have hfr := hfr.wr ha eG4 (by decide)
      have ha := ha.kept eG4
      change ab_W _ _ _ (List.set G a (ab_ob 11 [vR sp, vR wk, vR nw, vR tn, vR nsp, vR tsp, vz nc, vz tc, vR se, vz sta, vR stk, vz fo, vR q, vR s, vz hw, vz fy, vj (stp + 1)])) 41 [some (vR a), none, some (vz p), none, some (vz dp), some (vz x), some (vz tu), none, none] [] _
      rw [← eG4]
      refine ab_aload_n d_TH_walk_41 rfl ?_
      refine ab_getf (fs := [vR sp, vR wk, vR nw, vR tn, vR nsp, vR tsp, vz nc, vz tc, vR se, vz sta, vR stk, vz fo, vR q, vR s, vz hw, vz fy, vj (stp + 1)]) f_TH_36 d_TH_walk_42 ha.2.2 rfl ?_
      refine ab_getf (fs := [vR ki, vR ne, vR ot, vz cnt, vz fi, vz la, vR ra, vz ru, vz gr, vz wi, vz sz, vz fl, vz ve, vz mi, vR na, vR nl]) f_TH_115 d_TH_walk_45 hq.2.2 rfl ?_
      refine ab_iload d_TH_walk_48 rfl ?_
      refine zz_iald d_TH_walk_50 hki (by omega) ?_
      have hq5 := hp.k x (by omega) (by omega)
      refine ab_istore d_TH_walk_51 (Nat.le_of_ble_eq_true rfl) (Nat.le_of_ble_eq_true rfl) rfl ?_
      change ab_W _ _ _ G4 53 [some (vR a), none, some (vz p), none, some (vz dp), some (vz x), some (vz tu), some (vz (K x)), none] [] _
      refine ab_aload_n d_TH_walk_53 rfl ?_
      refine ab_getf (fs := [vR sp, vR wk, vR nw, vR tn, vR nsp, vR tsp, vz nc, vz tc, vR se, vz sta, vR stk, vz fo, vR q, vR s, vz hw, vz fy, vj (stp + 1)]) f_TH_36 d_TH_walk_54 ha.2.2 rfl ?_
      refine ab_getf (fs := [vR ki, vR ne, vR ot, vz cnt, vz fi, vz la, vR ra, vz ru, vz gr, vz wi, vz sz, vz fl, vz ve, vz mi, vR na, vR nl]) f_TH_138 d_TH_walk_57 hq.2.2 rfl ?_
      refine ab_iload d_TH_walk_60 rfl ?_
      refine zz_iald d_TH_walk_62 hot (by omega) ?_
      refine ab_istore d_TH_walk_63 (Nat.le_of_ble_eq_true rfl) (Nat.le_of_ble_eq_true rfl) rfl ?_
      change ab_W _ _ _ G4 65 [some (vR a), none, some (vz p), none, some (vz dp), some (vz x), some (vz tu), some (vz (K x)), some (vz (O x))] [] _
      refine ab_iload d_TH_walk_65 rfl ?_
      refine zz_iconst d_TH_walk_67 ?_
      refine zz_icmp_le (tgt := 78) d_TH_walk_68 (by decide) (by omega) (by decide) (fun c6 => ?_) (fun c6 => ?_)
      · refine ab_aload_n d_TH_walk_78 rfl ?_
        refine ab_iload d_TH_walk_79 rfl ?_
        refine ab_callV (d' := d - 1) (as := [vz x]) (st := []) (r := _) (z_TH_put (o := o) (q := q) (lq := lq) (ki := ki) (ne := ne) (ot := ot) (cnt := cnt) (fi := fi) (la := la) (ra := ra) (ru := ru) (gr := gr) (wi := wi) (sz := sz) (fl := fl) (ve := ve) (mi := mi) (na := na) (nl := nl) (s := s) (a := a) (sp := sp) (wk := wk) (nw := nw) (tn := tn) (nsp := nsp) (tsp := tsp) (se := se) (stk := stk) (nc := nc) (tc := tc) (sta := sta) (fo := fo) (hw := hw) (fy := fy) (stp := (stp + 1)) (WK := WK) (NW := NW) (TN := TN) (NS := NS) (TS := TS) (SE := SE) (l1 := l1) (l2 := l2) (l3 := l3) (l4 := l4) (e := x) ha hwk hnw hnsp htn htsp hse hq (by omega) (by omega) (by omega) jwk (by omega) jse (by omega) jtn jts (by omega) (tho_a (by omega) (by omega)) (by omega) (by omega)) (fun oc G2 h => by rcases h with ⟨h, _⟩ | ⟨h, _⟩ | ⟨_, _, _, _, h, _⟩ <;> exact ⟨_, h⟩) (by omega) m_TH_put ml_TH_128 im_TH_put se_TH_put c_TH ha.2.2 (Nat.le_of_ble_eq_true rfl) d_TH_walk_81 rfl ?_
        intro v G7 hq
        rcases hq with ⟨hv, hGe, hq8⟩ | ⟨hv, hGe, hq9, hq10⟩ | ⟨SE211, TN212, TS213, tc214, hv, hfk, hlk, hsk, hNa, hNwk, hNnw, hNnsp, hNtn, hNtsp, hNse, hq15, hq16, hq17, hq18, hq19⟩
        · cases hv
          rw [hGe]
          change ab_W _ _ _ G4 84 [some (vR a), none, some (vz p), none, some (vz dp), some (vz x), some (vz tu), some (vz (K x)), some (vz (O x))] [] _
          exfalso; omega
        · cases hv
          rw [hGe]
          change ab_W _ _ _ G4 84 [some (vR a), none, some (vz p), none, some (vz dp), some (vz x), some (vz tu), some (vz (K x)), some (vz (O x))] [] _
          exfalso
          have hrm_ := tw_room jth hkk (by omega) (by omega) (by omega)
          omega
        · cases hv
          have hsp := hfk.get hsp (by decide)
          have hstk := hfk.get hstk (by decide)
          have hq := hfk.get hq (by simp only [List.mem_cons, List.not_mem_nil, or_false]; omega)
          have hki := hfk.get hki (by simp only [List.mem_cons, List.not_mem_nil, or_false]; omega)
          have hne := hfk.get hne (by simp only [List.mem_cons, List.not_mem_nil, or_false]; omega)
          have hot := hfk.get hot (by simp only [List.mem_cons, List.not_mem_nil, or_false]; omega)
          have hra := hfk.get hra (by simp only [List.mem_cons, List.not_mem_nil, or_false]; omega)
          have hs := hfk.get hs (by decide)
          have hco := hfk.get hco (by decide)
          have hre := hfk.get hre (by decide)
          have hho := hfk.get hho (by decide)
          have hfr := hfr.tr hfk (by decide)
          have hlen := hlk.trans hlen
          have hsl := hsk.trans hsl
          have ha := hNa
          have hwk := hNwk
          have hnw := hNnw
          have hnsp := hNnsp
          have htn := hNtn
          have htsp := hNtsp
          have hse := hNse
          change ab_W _ _ _ G7 84 [some (vR a), none, some (vz p), none, some (vz dp), some (vz x), some (vz tu), some (vz (K x)), some (vz (O x))] [] _
          have hvp_ : viN SE sta 807 ≤ viN SE211 sta 807 := by rw [hq19.2.1]; exact viN_m (by omega)
          refine ab_iload d_TH_walk_84 rfl ?_
          refine zz_iret rfl d_TH_walk_86 ?_
          exact hk0 _ _ _ _ _ _ _ _ _ ha hsp hwk hnw htn hnsp htsp hse hstk (by omega) (by first | exact jwk | exact rgs_w jwk (by omega)) (by omega) (by first | exact hq16 | exact rgs_w hq16 (by omega)) (by exact hq17) (by exact hq18) (by omega) (by exact jsk) (by have hty_ := tw_put jth hq19 (by omega) (by omega) (by omega); rw [show tc + 1 = tc214 by omega] at hty_; exact hty_) (by omega) hfr hlen hsl
      · refine ab_iload d_TH_walk_71 rfl ?_
        refine zz_bipush d_TH_walk_73 (by decide) ?_
        refine zz_icmp_ne (tgt := 87) d_TH_walk_75 (by decide) (by omega) (by decide) (fun c20 => ?_) (fun c20 => ?_)
        · refine ab_aload_n d_TH_walk_87 rfl ?_
          refine ab_getf (fs := [vR sp, vR wk, vR nw, vR tn, vR nsp, vR tsp, vz nc, vz tc, vR se, vz sta, vR stk, vz fo, vR q, vR s, vz hw, vz fy, vj (stp + 1)]) f_TH_30 d_TH_walk_88 ha.2.2 rfl ?_
          refine ab_iload d_TH_walk_91 rfl ?_
          refine ab_aload_n d_TH_walk_93 rfl ?_
          refine ab_getf (fs := [vR sp, vR wk, vR nw, vR tn, vR nsp, vR tsp, vz nc, vz tc, vR se, vz sta, vR stk, vz fo, vR q, vR s, vz hw, vz fy, vj (stp + 1)]) f_TH_98 d_TH_walk_94 ha.2.2 rfl ?_
          refine zz_iast d_TH_walk_97 hse (by omega) (hse.2.1 (by decide)) ?_
          obtain ⟨G21, eG21⟩ : ∃ z : ab_G, z = List.set G4 se (za 2048 (zu SE x sta)) := ⟨_, rfl⟩
          have ha := ha.keep hse eG21 (by decide)
          have hsp := hsp.keep hse eG21 (by decide)
          have hwk := hwk.keep hse eG21 (by decide)
          have hnw := hnw.keep hse eG21 (by omega)
          have htn := htn.keep hse eG21 (by omega)
          have hnsp := hnsp.keep hse eG21 (by omega)
          have htsp := htsp.keep hse eG21 (by omega)
          have hstk := hstk.keep hse eG21 (by decide)
          have hq := hq.keep hse eG21 (by omega)
          have hki := hki.keep hse eG21 (by omega)
          have hne := hne.keep hse eG21 (by omega)
          have hot := hot.keep hse eG21 (by omega)
          have hra := hra.keep hse eG21 (by omega)
          have hs := hs.keep hse eG21 (by decide)
          have hco := hco.keep hse eG21 (by decide)
          have hre := hre.keep hse eG21 (by decide)
          have hho := hho.keep hse eG21 (by decide)
          have hlen := (z_len eG21).trans hlen
          have hsl := (z_sl hse eG21 rfl).trans hsl
          have hfr := hfr.wr hse eG21 (by decide)
          have hse := hse.kept eG21
          change ab_W _ _ _ (List.set G4 se (za 2048 (zu SE x sta))) 98 [some (vR a), none, some (vz p), none, some (vz dp), some (vz x), some (vz tu), some (vz (K x)), some (vz (O x))] [] _
          rw [← eG21]
          have hvm_ := viN_m (SE := SE) (sta := sta) (x := x) (by omega)
          have hvc_ := viN_b (SE := zu SE x sta) (sta := sta) 807
          refine ab_iload d_TH_walk_98 rfl ?_
          refine zz_bipush d_TH_walk_100 (by decide) ?_
          refine zz_icmp_eq (tgt := 124) d_TH_walk_102 (by decide) (by omega) (by decide) (fun c22 => ?_) (fun c22 => ?_)
          · refine ab_iload d_TH_walk_124 rfl ?_
            refine zz_iret rfl d_TH_walk_126 ?_
            exact hk0 _ _ _ _ _ _ _ _ _ ha hsp hwk hnw htn hnsp htsp hse hstk (by omega) (by first | exact jwk | exact rgs_w jwk (by omega)) (by omega) (by first | exact (rgs_zu jse (by omega)) | exact rgs_w (rgs_zu jse (by omega)) (by omega)) (by exact jtn) (by exact jts) (by omega) (by exact jsk) (by exact tw_no jth (Or.inl (by omega)) (by omega)) (by omega) hfr hlen hsl
          · refine ab_iload d_TH_walk_105 rfl ?_
            refine zz_iconst d_TH_walk_107 ?_
            refine zz_icmp_ne (tgt := 127) d_TH_walk_108 (by decide) (by omega) (by decide) (fun c23 => ?_) (fun c23 => ?_)
            · have hk45_ := (hp x (by omega) (by omega)).1
              have hx1_ : 1 ≤ x := kx0 hkk.2.1 (by omega) (by omega)
              have hvy_ := viN_y (SE := SE) (sta := sta) (x := x) (by omega) (by omega)
              refine ab_iload d_TH_walk_127 rfl ?_
              refine zz_bipush d_TH_walk_129 (by decide) ?_
              refine zz_icmp_ne (tgt := 159) d_TH_walk_131 (by decide) (by omega) (by decide) (fun c24 => ?_) (fun c24 => ?_)
              · refine ab_iload d_TH_walk_159 rfl ?_
                refine zz_bipush d_TH_walk_161 (by decide) ?_
                refine zz_icmp_ne (tgt := 203) d_TH_walk_163 (by decide) (by omega) (by decide) (fun c25 => ?_) (fun c25 => ?_)
                · refine ab_aload_n d_TH_walk_203 rfl ?_
                  refine ab_getf (fs := [vR sp, vR wk, vR nw, vR tn, vR nsp, vR tsp, vz nc, vz tc, vR se, vz sta, vR stk, vz fo, vR q, vR s, vz hw, vz fy, vj (stp + 1)]) f_TH_36 d_TH_walk_204 ha.2.2 rfl ?_
                  refine ab_getf (fs := [vR ki, vR ne, vR ot, vz cnt, vz fi, vz la, vR ra, vz ru, vz gr, vz wi, vz sz, vz fl, vz ve, vz mi, vR na, vR nl]) f_TH_125 d_TH_walk_207 hq.2.2 rfl ?_
                  refine ab_iload d_TH_walk_210 rfl ?_
                  refine zz_iald d_TH_walk_212 hne (by omega) ?_
                  have hq26 := hp.n x (by omega) (by omega)
                  refine ab_istore d_TH_walk_213 (Nat.le_of_ble_eq_true rfl) (Nat.le_of_ble_eq_true rfl) rfl ?_
                  change ab_W _ _ _ G21 215 [some (vR a), none, some (vz p), none, some (vz dp), some (vz (N x)), some (vz tu), some (vz (K x)), some (vz (O x))] [] _
                  refine zz_iinc d_TH_walk_215 rfl (Nat.le_of_ble_eq_true rfl) (Nat.le_of_ble_eq_true rfl) rfl ?_
                  change ab_W _ _ _ G21 218 [some (vR a), none, some (vz p), none, some (vz dp), some (vz (N x)), some (vz (tu + 1)), some (vz (K x)), some (vz (O x))] [] _
                  refine ab_goto (tgt := 9) d_TH_walk_218 (by decide) ?_
                  refine ab_less (L' := [some (vR a), none, some (vz p), none, some (vz dp), some (vz (N x)), some (vz (tu + 1)), none, none]) (fun i v h => by rcases i with _ | _ | _ | _ | _ | _ | _ | _ | _ | i <;> first | exact h | (simp at h)) ?_
                  exact ih (tc := tc) (stp := (stp + 1)) (WK := WK) (TN := TN) (TS := TS) (SE := (zu SE x sta)) (SK := SK) (x := (N x)) (dp := dp) (tu := (tu + 1)) ha hsp hwk hnw htn hnsp htsp hse hstk hq hki hne hot hra hs hco hre hho (by omega) (by omega) (by omega) (by omega) (by omega) jwk (by omega) (rgs_zu jse (by omega)) jtn jts jsk (by exfalso; omega) (by omega) (by omega) hfr hlen hsl (by omega) hk0
                · have jo := hp.o7 x (by omega) (by omega) (by omega)
                  have jwv := jwk (O x) (by omega) (by omega)
                  refine ab_iload d_TH_walk_166 rfl ?_
                  refine ab_aload_n d_TH_walk_168 rfl ?_
                  refine ab_getf (fs := [vR sp, vR wk, vR nw, vR tn, vR nsp, vR tsp, vz nc, vz tc, vR se, vz sta, vR stk, vz fo, vR q, vR s, vz hw, vz fy, vj (stp + 1)]) f_TH_33 d_TH_walk_169 ha.2.2 rfl ?_
                  refine zz_alen d_TH_walk_172 hstk ?_
                  change ab_W _ _ _ G21 173 [some (vR a), none, some (vz p), none, some (vz dp), some (vz x), some (vz tu), some (vz (K x)), some (vz (O x))] [vz 809, vz dp] _
                  refine zz_icmp_ge (tgt := 203) d_TH_walk_173 (by decide) (by omega) (by decide) (fun c27 => absurd c27 (by omega)) (fun c27 => ?_)
                  refine ab_aload_n d_TH_walk_176 rfl ?_
                  refine ab_getf (fs := [vR sp, vR wk, vR nw, vR tn, vR nsp, vR tsp, vz nc, vz tc, vR se, vz sta, vR stk, vz fo, vR q, vR s, vz hw, vz fy, vj (stp + 1)]) f_TH_33 d_TH_walk_177 ha.2.2 rfl ?_
                  refine ab_iload d_TH_walk_180 rfl ?_
                  refine ab_aload_n d_TH_walk_182 rfl ?_
                  refine ab_getf (fs := [vR sp, vR wk, vR nw, vR tn, vR nsp, vR tsp, vz nc, vz tc, vR se, vz sta, vR stk, vz fo, vR q, vR s, vz hw, vz fy, vj (stp + 1)]) f_TH_15 d_TH_walk_183 ha.2.2 rfl ?_
                  refine ab_iload d_TH_walk_186 rfl ?_
                  refine ab_callS (d' := d - 1) (as := [vR wk, vz (O x)]) (st := [vz dp, vR stk]) (z_PW_undoOf (o := o) (a := wk) (l := 33) (m := 20) (f := WK) (s := (O x)) hwk (by omega) (by omega)) (fun oc G2 h => by rcases h with ⟨h, _⟩ <;> exact ⟨_, h⟩) (by omega) m_PW_undoOf ml_TH_145 st_PW_undoOf (Nat.le_of_ble_eq_true rfl) d_TH_walk_188 rfl ?_
                  intro v G28 hq
                  rcases hq with ⟨hv, hGe⟩
                  cases hv
                  rw [hGe]
                  change ab_W _ _ _ G21 191 [some (vR a), none, some (vz p), none, some (vz dp), some (vz x), some (vz tu), some (vz (K x)), some (vz (O x))] [vz (-1 - ((O x) * 4096 + (WK (O x) + 1))), vz dp, vR stk] _
                  refine zz_iast d_TH_walk_191 hstk (by omega) (hstk.2.1 (by decide)) ?_
                  obtain ⟨G29, eG29⟩ : ∃ z : ab_G, z = List.set G21 stk (za 809 (zu SK dp (-1 - ((O x) * 4096 + (WK (O x) + 1))))) := ⟨_, rfl⟩
                  have ha := ha.keep hstk eG29 (by decide)
                  have hsp := hsp.keep hstk eG29 (by decide)
                  have hwk := hwk.keep hstk eG29 (by decide)
                  have hnw := hnw.keep hstk eG29 (by omega)
                  have htn := htn.keep hstk eG29 (by omega)
                  have hnsp := hnsp.keep hstk eG29 (by omega)
                  have htsp := htsp.keep hstk eG29 (by omega)
                  have hse := hse.keep hstk eG29 (by decide)
                  have hq := hq.keep hstk eG29 (by omega)
                  have hki := hki.keep hstk eG29 (by omega)
                  have hne := hne.keep hstk eG29 (by omega)
                  have hot := hot.keep hstk eG29 (by omega)
                  have hra := hra.keep hstk eG29 (by omega)
                  have hs := hs.keep hstk eG29 (by decide)
                  have hco := hco.keep hstk eG29 (by decide)
                  have hre := hre.keep hstk eG29 (by decide)
                  have hho := hho.keep hstk eG29 (by decide)
                  have hlen := (z_len eG29).trans hlen
                  have hsl := (z_sl hstk eG29 rfl).trans hsl
                  have hfr := hfr.wr hstk eG29 (by decide)
                  have hstk := hstk.kept eG29
                  change ab_W _ _ _ (List.set G21 stk (za 809 (zu SK dp (-1 - ((O x) * 4096 + (WK (O x) + 1)))))) 192 [some (vR a), none, some (vz p), none, some (vz dp), some (vz x), some (vz tu), some (vz (K x)), some (vz (O x))] [] _
                  rw [← eG29]
                  refine zz_iinc d_TH_walk_192 rfl (Nat.le_of_ble_eq_true rfl) (Nat.le_of_ble_eq_true rfl) rfl ?_
                  change ab_W _ _ _ G29 195 [some (vR a), none, some (vz p), none, some (vz (dp + 1)), some (vz x), some (vz tu), some (vz (K x)), some (vz (O x))] [] _
                  refine ab_aload_n d_TH_walk_195 rfl ?_
                  refine ab_getf (fs := [vR sp, vR wk, vR nw, vR tn, vR nsp, vR tsp, vz nc, vz tc, vR se, vz sta, vR stk, vz fo, vR q, vR s, vz hw, vz fy, vj (stp + 1)]) f_TH_15 d_TH_walk_196 ha.2.2 rfl ?_
                  refine ab_iload d_TH_walk_199 rfl ?_
                  refine ab_iload_n d_TH_walk_201 rfl ?_
                  refine zz_iast d_TH_walk_202 hwk (by omega) (hwk.2.1 (by decide)) ?_
                  obtain ⟨G30, eG30⟩ : ∃ z : ab_G, z = List.set G29 wk (za 20 (zu WK (O x) p)) := ⟨_, rfl⟩
                  have ha := ha.keep hwk eG30 (by decide)
                  have hsp := hsp.keep hwk eG30 (by decide)
                  have hnw := hnw.keep hwk eG30 (by omega)
                  have htn := htn.keep hwk eG30 (by omega)
                  have hnsp := hnsp.keep hwk eG30 (by omega)
                  have htsp := htsp.keep hwk eG30 (by omega)
                  have hse := hse.keep hwk eG30 (by decide)
                  have hstk := hstk.keep hwk eG30 (by decide)
                  have hq := hq.keep hwk eG30 (by omega)
                  have hki := hki.keep hwk eG30 (by omega)
                  have hne := hne.keep hwk eG30 (by omega)
                  have hot := hot.keep hwk eG30 (by omega)
                  have hra := hra.keep hwk eG30 (by omega)
                  have hs := hs.keep hwk eG30 (by decide)
                  have hco := hco.keep hwk eG30 (by decide)
                  have hre := hre.keep hwk eG30 (by decide)
                  have hho := hho.keep hwk eG30 (by decide)
                  have hlen := (z_len eG30).trans hlen
                  have hsl := (z_sl hwk eG30 rfl).trans hsl
                  have hfr := hfr.wr hwk eG30 (by decide)
                  have hwk := hwk.kept eG30
                  change ab_W _ _ _ (List.set G29 wk (za 20 (zu WK (O x) p))) 203 [some (vR a), none, some (vz p), none, some (vz (dp + 1)), some (vz x), some (vz tu), some (vz (K x)), some (vz (O x))] [] _
                  rw [← eG30]
                  refine ab_aload_n d_TH_walk_203 rfl ?_
                  refine ab_getf (fs := [vR sp, vR wk, vR nw, vR tn, vR nsp, vR tsp, vz nc, vz tc, vR se, vz sta, vR stk, vz fo, vR q, vR s, vz hw, vz fy, vj (stp + 1)]) f_TH_36 d_TH_walk_204 ha.2.2 rfl ?_
                  refine ab_getf (fs := [vR ki, vR ne, vR ot, vz cnt, vz fi, vz la, vR ra, vz ru, vz gr, vz wi, vz sz, vz fl, vz ve, vz mi, vR na, vR nl]) f_TH_125 d_TH_walk_207 hq.2.2 rfl ?_
                  refine ab_iload d_TH_walk_210 rfl ?_
                  refine zz_iald d_TH_walk_212 hne (by omega) ?_
                  have hq31 := hp.n x (by omega) (by omega)
                  refine ab_istore d_TH_walk_213 (Nat.le_of_ble_eq_true rfl) (Nat.le_of_ble_eq_true rfl) rfl ?_
                  change ab_W _ _ _ G30 215 [some (vR a), none, some (vz p), none, some (vz (dp + 1)), some (vz (N x)), some (vz tu), some (vz (K x)), some (vz (O x))] [] _
                  refine zz_iinc d_TH_walk_215 rfl (Nat.le_of_ble_eq_true rfl) (Nat.le_of_ble_eq_true rfl) rfl ?_
                  change ab_W _ _ _ G30 218 [some (vR a), none, some (vz p), none, some (vz (dp + 1)), some (vz (N x)), some (vz (tu + 1)), some (vz (K x)), some (vz (O x))] [] _
                  refine ab_goto (tgt := 9) d_TH_walk_218 (by decide) ?_
                  refine ab_less (L' := [some (vR a), none, some (vz p), none, some (vz (dp + 1)), some (vz (N x)), some (vz (tu + 1)), none, none]) (fun i v h => by rcases i with _ | _ | _ | _ | _ | _ | _ | _ | _ | i <;> first | exact h | (simp at h)) ?_
                  exact ih (tc := tc) (stp := (stp + 1)) (WK := (zu WK (O x) p)) (TN := TN) (TS := TS) (SE := (zu SE x sta)) (SK := (zu SK dp (-1 - ((O x) * 4096 + (WK (O x) + 1))))) (x := (N x)) (dp := (dp + 1)) (tu := (tu + 1)) ha hsp hwk hnw htn hnsp htsp hse hstk hq hki hne hot hra hs hco hre hho (by omega) (by omega) (by omega) (by omega) (by omega) (rgs_zu jwk (by omega)) (by rw [zu_ne (by omega)]; omega) (rgs_zu jse (by omega)) jtn jts (tkos_zu jsk (by first | exact tko_s (by omega) | exact tko_u (by omega))) (tw_save jth (by omega) (by omega) (by omega) (by omega)) (by omega) (by omega) hfr hlen hsl (by omega) hk0
              · have jo := hp.o6 x (by omega) (by omega) (by omega)
                refine ab_iload d_TH_walk_134 rfl ?_
                refine ab_aload_n d_TH_walk_136 rfl ?_
                refine ab_getf (fs := [vR sp, vR wk, vR nw, vR tn, vR nsp, vR tsp, vz nc, vz tc, vR se, vz sta, vR stk, vz fo, vR q, vR s, vz hw, vz fy, vj (stp + 1)]) f_TH_33 d_TH_walk_137 ha.2.2 rfl ?_
                refine zz_alen d_TH_walk_140 hstk ?_
                change ab_W _ _ _ G21 141 [some (vR a), none, some (vz p), none, some (vz dp), some (vz x), some (vz tu), some (vz (K x)), some (vz (O x))] [vz 809, vz dp] _
                refine zz_icmp_ge (tgt := 159) d_TH_walk_141 (by decide) (by omega) (by decide) (fun c32 => absurd c32 (by omega)) (fun c32 => ?_)
                refine ab_aload_n d_TH_walk_144 rfl ?_
                refine ab_getf (fs := [vR sp, vR wk, vR nw, vR tn, vR nsp, vR tsp, vz nc, vz tc, vR se, vz sta, vR stk, vz fo, vR q, vR s, vz hw, vz fy, vj (stp + 1)]) f_TH_33 d_TH_walk_145 ha.2.2 rfl ?_
                refine ab_iload d_TH_walk_148 rfl ?_
                refine ab_iload d_TH_walk_150 rfl ?_
                refine zz_iast d_TH_walk_152 hstk (by omega) (hstk.2.1 (by decide)) ?_
                obtain ⟨G33, eG33⟩ : ∃ z : ab_G, z = List.set G21 stk (za 809 (zu SK dp (O x))) := ⟨_, rfl⟩
                have ha := ha.keep hstk eG33 (by decide)
                have hsp := hsp.keep hstk eG33 (by decide)
                have hwk := hwk.keep hstk eG33 (by decide)
                have hnw := hnw.keep hstk eG33 (by omega)
                have htn := htn.keep hstk eG33 (by omega)
                have hnsp := hnsp.keep hstk eG33 (by omega)
                have htsp := htsp.keep hstk eG33 (by omega)
                have hse := hse.keep hstk eG33 (by decide)
                have hq := hq.keep hstk eG33 (by omega)
                have hki := hki.keep hstk eG33 (by omega)
                have hne := hne.keep hstk eG33 (by omega)
                have hot := hot.keep hstk eG33 (by omega)
                have hra := hra.keep hstk eG33 (by omega)
                have hs := hs.keep hstk eG33 (by decide)
                have hco := hco.keep hstk eG33 (by decide)
                have hre := hre.keep hstk eG33 (by decide)
                have hho := hho.keep hstk eG33 (by decide)
                have hlen := (z_len eG33).trans hlen
                have hsl := (z_sl hstk eG33 rfl).trans hsl
                have hfr := hfr.wr hstk eG33 (by decide)
                have hstk := hstk.kept eG33
                change ab_W _ _ _ (List.set G21 stk (za 809 (zu SK dp (O x)))) 153 [some (vR a), none, some (vz p), none, some (vz dp), some (vz x), some (vz tu), some (vz (K x)), some (vz (O x))] [] _
                rw [← eG33]
                refine zz_iinc d_TH_walk_153 rfl (Nat.le_of_ble_eq_true rfl) (Nat.le_of_ble_eq_true rfl) rfl ?_
                change ab_W _ _ _ G33 156 [some (vR a), none, some (vz p), none, some (vz (dp + 1)), some (vz x), some (vz tu), some (vz (K x)), some (vz (O x))] [] _
                refine ab_goto (tgt := 203) d_TH_walk_156 (by decide) ?_
                refine ab_aload_n d_TH_walk_203 rfl ?_
                refine ab_getf (fs := [vR sp, vR wk, vR nw, vR tn, vR nsp, vR tsp, vz nc, vz tc, vR se, vz sta, vR stk, vz fo, vR q, vR s, vz hw, vz fy, vj (stp + 1)]) f_TH_36 d_TH_walk_204 ha.2.2 rfl ?_
                refine ab_getf (fs := [vR ki, vR ne, vR ot, vz cnt, vz fi, vz la, vR ra, vz ru, vz gr, vz wi, vz sz, vz fl, vz ve, vz mi, vR na, vR nl]) f_TH_125 d_TH_walk_207 hq.2.2 rfl ?_
                refine ab_iload d_TH_walk_210 rfl ?_
                refine zz_iald d_TH_walk_212 hne (by omega) ?_
                have hq34 := hp.n x (by omega) (by omega)
                refine ab_istore d_TH_walk_213 (Nat.le_of_ble_eq_true rfl) (Nat.le_of_ble_eq_true rfl) rfl ?_
                change ab_W _ _ _ G33 215 [some (vR a), none, some (vz p), none, some (vz (dp + 1)), some (vz (N x)), some (vz tu), some (vz (K x)), some (vz (O x))] [] _
                refine zz_iinc d_TH_walk_215 rfl (Nat.le_of_ble_eq_true rfl) (Nat.le_of_ble_eq_true rfl) rfl ?_
                change ab_W _ _ _ G33 218 [some (vR a), none, some (vz p), none, some (vz (dp + 1)), some (vz (N x)), some (vz (tu + 1)), some (vz (K x)), some (vz (O x))] [] _
                refine ab_goto (tgt := 9) d_TH_walk_218 (by decide) ?_
                refine ab_less (L' := [some (vR a), none, some (vz p), none, some (vz (dp + 1)), some (vz (N x)), some (vz (tu + 1)), none, none]) (fun i v h => by rcases i with _ | _ | _ | _ | _ | _ | _ | _ | _ | i <;> first | exact h | (simp at h)) ?_
                exact ih (tc := tc) (stp := (stp + 1)) (WK := WK) (TN := TN) (TS := TS) (SE := (zu SE x sta)) (SK := (zu SK dp (O x))) (x := (N x)) (dp := (dp + 1)) (tu := (tu + 1)) ha hsp hwk hnw htn hnsp htsp hse hstk hq hki hne hot hra hs hco hre hho (by omega) (by omega) (by omega) (by omega) (by omega) jwk (by omega) (rgs_zu jse (by omega)) jtn jts (tkos_zu jsk (by first | exact tko_s (by omega) | exact tko_u (by omega))) (tw_split jth (by omega) (by omega) (by omega)) (by omega) (by omega) hfr hlen hsl (by omega) hk0
            · have jo := hp.o3 x (by omega) (by omega) (by omega)
              refine ab_aload_n d_TH_walk_111 rfl ?_
              refine ab_getf (fs := [vR sp, vR wk, vR nw, vR tn, vR nsp, vR tsp, vz nc, vz tc, vR se, vz sta, vR stk, vz fo, vR q, vR s, vz hw, vz fy, vj (stp + 1)]) f_TH_40 d_TH_walk_112 ha.2.2 rfl ?_
              refine ab_iload d_TH_walk_115 rfl ?_
              refine ab_iload_n d_TH_walk_117 rfl ?_
              refine ab_callV (d' := d - 1) (as := [vz (O x), vz p]) (st := []) (r := _) (z_SU_holds (o := o) (s := s) (by_ := by_) (co := co) (re := re) (ho := ho) (n := n) (H := H) (mc := mc) (p := p) (a := (O x)) hs hho (by omega) (by omega) (by omega) hsu) (fun oc G2 h => by rcases h with ⟨h, _⟩ | ⟨h, _⟩ <;> exact ⟨_, h⟩) (by omega) m_SU_holds ml_TH_141 im_SU_holds se_SU_holds c_SU hs.2.2 (Nat.le_of_ble_eq_true rfl) d_TH_walk_118 rfl ?_
              intro v G35 hq
              rcases hq with ⟨hv, hGe, hq36⟩ | ⟨hv, hGe, hq37⟩
              · cases hv
                rw [hGe]
                change ab_W _ _ _ G21 121 [some (vR a), none, some (vz p), none, some (vz dp), some (vz x), some (vz tu), some (vz (K x)), some (vz (O x))] [vz 1] _
                refine zz_if_ne (tgt := 127) d_TH_walk_121 (by decide) (by decide) (fun c38 => ?_) (fun c38 => absurd c38 (by decide))
                have hk45_ := (hp x (by omega) (by omega)).1
                have hx1_ : 1 ≤ x := kx0 hkk.2.1 (by omega) (by omega)
                have hvy_ := viN_y (SE := SE) (sta := sta) (x := x) (by omega) (by omega)
                refine ab_iload d_TH_walk_127 rfl ?_
                refine zz_bipush d_TH_walk_129 (by decide) ?_
                refine zz_icmp_ne (tgt := 159) d_TH_walk_131 (by decide) (by omega) (by decide) (fun c39 => ?_) (fun c39 => absurd c39 (by omega))
                refine ab_iload d_TH_walk_159 rfl ?_
                refine zz_bipush d_TH_walk_161 (by decide) ?_
                refine zz_icmp_ne (tgt := 203) d_TH_walk_163 (by decide) (by omega) (by decide) (fun c40 => ?_) (fun c40 => absurd c40 (by omega))
                refine ab_aload_n d_TH_walk_203 rfl ?_
                refine ab_getf (fs := [vR sp, vR wk, vR nw, vR tn, vR nsp, vR tsp, vz nc, vz tc, vR se, vz sta, vR stk, vz fo, vR q, vR s, vz hw, vz fy, vj (stp + 1)]) f_TH_36 d_TH_walk_204 ha.2.2 rfl ?_
                refine ab_getf (fs := [vR ki, vR ne, vR ot, vz cnt, vz fi, vz la, vR ra, vz ru, vz gr, vz wi, vz sz, vz fl, vz ve, vz mi, vR na, vR nl]) f_TH_125 d_TH_walk_207 hq.2.2 rfl ?_
                refine ab_iload d_TH_walk_210 rfl ?_
                refine zz_iald d_TH_walk_212 hne (by omega) ?_
                have hq41 := hp.n x (by omega) (by omega)
                refine ab_istore d_TH_walk_213 (Nat.le_of_ble_eq_true rfl) (Nat.le_of_ble_eq_true rfl) rfl ?_
                change ab_W _ _ _ G21 215 [some (vR a), none, some (vz p), none, some (vz dp), some (vz (N x)), some (vz tu), some (vz (K x)), some (vz (O x))] [] _
                refine zz_iinc d_TH_walk_215 rfl (Nat.le_of_ble_eq_true rfl) (Nat.le_of_ble_eq_true rfl) rfl ?_
                change ab_W _ _ _ G21 218 [some (vR a), none, some (vz p), none, some (vz dp), some (vz (N x)), some (vz (tu + 1)), some (vz (K x)), some (vz (O x))] [] _
                refine ab_goto (tgt := 9) d_TH_walk_218 (by decide) ?_
                refine ab_less (L' := [some (vR a), none, some (vz p), none, some (vz dp), some (vz (N x)), some (vz (tu + 1)), none, none]) (fun i v h => by rcases i with _ | _ | _ | _ | _ | _ | _ | _ | _ | i <;> first | exact h | (simp at h)) ?_
                exact ih (tc := tc) (stp := (stp + 1)) (WK := WK) (TN := TN) (TS := TS) (SE := (zu SE x sta)) (SK := SK) (x := (N x)) (dp := dp) (tu := (tu + 1)) ha hsp hwk hnw htn hnsp htsp hse hstk hq hki hne hot hra hs hco hre hho (by omega) (by omega) (by omega) (by omega) (by omega) jwk (by omega) (rgs_zu jse (by omega)) jtn jts jsk (tw_ask jth (by omega) hq36 (by omega)) (by omega) (by omega) hfr hlen hsl (by omega) hk0
              · cases hv
                rw [hGe]
                change ab_W _ _ _ G21 121 [some (vR a), none, some (vz p), none, some (vz dp), some (vz x), some (vz tu), some (vz (K x)), some (vz (O x))] [vz 0] _
                refine zz_if_ne (tgt := 127) d_TH_walk_121 (by decide) (by decide) (fun c42 => absurd c42 (by decide)) (fun c42 => ?_)
                refine ab_iload d_TH_walk_124 rfl ?_
                refine zz_iret rfl d_TH_walk_126 ?_
                exact hk0 _ _ _ _ _ _ _ _ _ ha hsp hwk hnw htn hnsp htsp hse hstk (by omega) (by first | exact jwk | exact rgs_w jwk (by omega)) (by omega) (by first | exact (rgs_zu jse (by omega)) | exact rgs_w (rgs_zu jse (by omega)) (by omega)) (by exact jtn) (by exact jts) (by omega) (by exact jsk) (by exact tw_no jth (Or.inr ⟨by omega, hq37⟩) (by omega)) (by omega) hfr hlen hsl
        · refine ab_aload_n d_TH_walk_78 rfl ?_
          refine ab_iload d_TH_walk_79 rfl ?_
          refine ab_callV (d' := d - 1) (as := [vz x]) (st := []) (r := _) (z_TH_put (o := o) (q := q) (lq := lq) (ki := ki) (ne := ne) (ot := ot) (cnt := cnt) (fi := fi) (la := la) (ra := ra) (ru := ru) (gr := gr) (wi := wi) (sz := sz) (fl := fl) (ve := ve) (mi := mi) (na := na) (nl := nl) (s := s) (a := a) (sp := sp) (wk := wk) (nw := nw) (tn := tn) (nsp := nsp) (tsp := tsp) (se := se) (stk := stk) (nc := nc) (tc := tc) (sta := sta) (fo := fo) (hw := hw) (fy := fy) (stp := (stp + 1)) (WK := WK) (NW := NW) (TN := TN) (NS := NS) (TS := TS) (SE := SE) (l1 := l1) (l2 := l2) (l3 := l3) (l4 := l4) (e := x) ha hwk hnw hnsp htn htsp hse hq (by omega) (by omega) (by omega) jwk (by omega) jse (by omega) jtn jts (by omega) (tho_a (by omega) (by omega)) (by omega) (by omega)) (fun oc G2 h => by rcases h with ⟨h, _⟩ | ⟨h, _⟩ | ⟨_, _, _, _, h, _⟩ <;> exact ⟨_, h⟩) (by omega) m_TH_put ml_TH_128 im_TH_put se_TH_put c_TH ha.2.2 (Nat.le_of_ble_eq_true rfl) d_TH_walk_81 rfl ?_
          intro v G43 hq
          rcases hq with ⟨hv, hGe, hq44⟩ | ⟨hv, hGe, hq45, hq46⟩ | ⟨SE247, TN248, TS249, tc250, hv, hfk, hlk, hsk, hNa, hNwk, hNnw, hNnsp, hNtn, hNtsp, hNse, hq51, hq52, hq53, hq54, hq55⟩
          · cases hv
            rw [hGe]
            change ab_W _ _ _ G4 84 [some (vR a), none, some (vz p), none, some (vz dp), some (vz x), some (vz tu), some (vz (K x)), some (vz (O x))] [] _
            exfalso; omega
          · cases hv
            rw [hGe]
            change ab_W _ _ _ G4 84 [some (vR a), none, some (vz p), none, some (vz dp), some (vz x), some (vz tu), some (vz (K x)), some (vz (O x))] [] _
            exfalso
            have hrm_ := tw_room jth hkk (by omega) (by omega) (by omega)
            omega
          · cases hv
            have hsp := hfk.get hsp (by decide)
            have hstk := hfk.get hstk (by decide)
            have hq := hfk.get hq (by simp only [List.mem_cons, List.not_mem_nil, or_false]; omega)
            have hki := hfk.get hki (by simp only [List.mem_cons, List.not_mem_nil, or_false]; omega)
            have hne := hfk.get hne (by simp only [List.mem_cons, List.not_mem_nil, or_false]; omega)
            have hot := hfk.get hot (by simp only [List.mem_cons, List.not_mem_nil, or_false]; omega)
            have hra := hfk.get hra (by simp only [List.mem_cons, List.not_mem_nil, or_false]; omega)
            have hs := hfk.get hs (by decide)
            have hco := hfk.get hco (by decide)
            have hre := hfk.get hre (by decide)
            have hho := hfk.get hho (by decide)
            have hfr := hfr.tr hfk (by decide)
            have hlen := hlk.trans hlen
            have hsl := hsk.trans hsl
            have ha := hNa
            have hwk := hNwk
            have hnw := hNnw
            have hnsp := hNnsp
            have htn := hNtn
            have htsp := hNtsp
            have hse := hNse
            change ab_W _ _ _ G43 84 [some (vR a), none, some (vz p), none, some (vz dp), some (vz x), some (vz tu), some (vz (K x)), some (vz (O x))] [] _
            have hvp_ : viN SE sta 807 ≤ viN SE247 sta 807 := by rw [hq55.2.1]; exact viN_m (by omega)
            refine ab_iload d_TH_walk_84 rfl ?_
            refine zz_iret rfl d_TH_walk_86 ?_
            exact hk0 _ _ _ _ _ _ _ _ _ ha hsp hwk hnw htn hnsp htsp hse hstk (by omega) (by first | exact jwk | exact rgs_w jwk (by omega)) (by omega) (by first | exact hq52 | exact rgs_w hq52 (by omega)) (by exact hq53) (by exact hq54) (by omega) (by exact jsk) (by have hty_ := tw_put jth hq55 (by omega) (by omega) (by omega); rw [show tc + 1 = tc250 by omega] at hty_; exact hty_) (by omega) hfr hlen hsl
set_option maxRecDepth 100000 in
set_option maxHeartbeats 4000000 in
theorem z_TH_walk {X : ab_X} {d : Nat} {o : Nat → Nat} {G : ab_G} {q : Nat} {lq : Nat} {ki : Nat} {ne : Nat} {ot : Nat} {cnt : Int} {fi : Int} {la : Int} {ra : Nat} {ru : Int} {gr : Int} {wi : Int} {sz : Int} {fl : Int} {ve : Int} {mi : Int} {na : Nat} {nl : Nat} {K : Int → Int} {N : Int → Int} {O : Int → Int} {RR : Int → Int} {nr : Nat} {s : Nat} {by_ : Nat} {co : Nat} {re : Nat} {ho : Nat} {n : Int} {f : Int → Int} {C : Int → Int} {Rs : Int → Int} {H : Int → Int} {m : Nat} {mc : Nat} {a : Nat} {sp : Nat} {wk : Nat} {nw : Nat} {tn : Nat} {nsp : Nat} {tsp : Nat} {se : Nat} {stk : Nat} {nc : Int} {tc : Int} {sta : Int} {fo : Int} {hw : Int} {fy : Int} {stp : Int} {SP : Int → Int} {WK : Int → Int} {NW : Int → Int} {TN : Int → Int} {NS : Int → Int} {TS : Int → Int} {SE : Int → Int} {SK : Int → Int} {l1 : Nat} {l2 : Nat} {l3 : Nat} {l4 : Nat} {x : Int} {p : Int} {dp : Int} {st : Int} {Mw : List Tw} {k0 : Int} (ha : cc o G a 32 (ab_ob 11 [vR sp, vR wk, vR nw, vR tn, vR nsp, vR tsp, vz nc, vz tc, vR se, vz sta, vR stk, vz fo, vR q, vR s, vz hw, vz fy, vj stp])) (hsp : cc o G sp 31 (za 20 SP)) (hwk : cc o G wk 33 (za 20 WK)) (hnw : cc o G nw l1 (za 801 NW)) (htn : cc o G tn l2 (za 801 TN)) (hnsp : cc o G nsp l3 (za 16020 NS)) (htsp : cc o G tsp l4 (za 16020 TS)) (hse : cc o G se 39 (za 2048 SE)) (hstk : cc o G stk 40 (za 809 SK)) (hq : cc o G q lq (ab_ob 5 [vR ki, vR ne, vR ot, vz cnt, vz fi, vz la, vR ra, vz ru, vz gr, vz wi, vz sz, vz fl, vz ve, vz mi, vR na, vR nl])) (hki : cc o G ki (lq + 1) (za 808 K)) (hne : cc o G ne (lq + 2) (za 808 N)) (hot : cc o G ot (lq + 3) (za 808 O)) (hra : cc o G ra (lq + 4) (za nr RR)) (hs : cc o G s 26 (ab_ob 9 [vR by_, vR co, vR re, vR ho, vz n])) (hco : cc o G co 28 (za mc C)) (hre : cc o G re 29 (za mc Rs)) (hho : cc o G ho 30 (za mc H)) (cq : 100 ≤ lq ∧ 0 ≤ cnt ∧ cnt ≤ 808 ∧ ↑nr ≤ (100000 : Int)) (hp : prok K N O RR cnt ↑nr wi) (hr : ∀ k : Int, 0 ≤ k → k < ↑nr → 0 ≤ RR k ∧ RR k ≤ 1114111) (csu : 0 ≤ n ∧ n ≤ ↑m ∧ 32 ≤ m ∧ m ≤ 2000 ∧ mc = m + 1) (hsu : suok f C Rs H n) (cwi : 2 ≤ wi ∧ wi ≤ 20) (cl : l1 + l2 = 71 ∧ 35 ≤ l1 ∧ l1 ≤ 36 ∧ l3 + l4 = 75 ∧ 37 ≤ l3 ∧ l3 ≤ 38) (hkk : kkF K cnt) (ck0 : 0 ≤ k0) (cx : 0 ≤ x ∧ x < cnt ∧ 0 ≤ p ∧ p ≤ n) (cst : 0 ≤ sta ∧ sta ≤ 2100000000) (ctc : 0 ≤ tc ∧ tc ≤ 801) (cdp : 0 ≤ dp ∧ dp ≤ 809) (jwk : rgs WK wi (-1) n) (c0k : 0 ≤ WK 0) (jse : rgs SE 2048 0 sta) (jtn : thos K cnt TN tc) (jts : thr TS tc wi n) (jsk : tkos SK dp cnt n wi) (jth : THW K N O RR cnt f n fy hw wi st p Rs SE sta SK dp WK TN TS tc x Mw) (jvn : dp + k0 ≤ viN SE sta 807) (hd : 3 ≤ d) : ab_F X d y_TH_walk (.code y_TH_walk b_TH_walk 9 (some (.int))) [vR a, vz x, vz p, vz dp] G (fun oc G2 => ∃ dp2 : Int, ∃ tc2 : Int, ∃ st2 : Int, ∃ SE2 : Int → Int, ∃ TN2 : Int → Int, ∃ TS2 : Int → Int, ∃ SK2 : Int → Int, ∃ WK2 : Int → Int, oc = .returned (some (vz dp2)) ∧ fx o o [32, 33, 35, 36, 37, 38, 39, 40] G G2 ∧ G2.length = G.length ∧ ab_slots G2 = ab_slots G ∧ cc o G2 a 32 (ab_ob 11 [vR sp, vR wk, vR nw, vR tn, vR nsp, vR tsp, vz nc, vz tc2, vR se, vz sta, vR stk, vz fo, vR q, vR s, vz hw, vz fy, vj st2]) ∧ cc o G2 sp 31 (za 20 SP) ∧ cc o G2 wk 33 (za 20 WK2) ∧ cc o G2 nw l1 (za 801 NW) ∧ cc o G2 tn l2 (za 801 TN2) ∧ cc o G2 nsp l3 (za 16020 NS) ∧ cc o G2 tsp l4 (za 16020 TS2) ∧ cc o G2 se 39 (za 2048 SE2) ∧ cc o G2 stk 40 (za 809 SK2) ∧ (0 ≤ tc2 ∧ tc2 ≤ 801) ∧ (rgs WK2 wi (-1) n) ∧ (0 ≤ WK2 0) ∧ (rgs SE2 2048 0 sta) ∧ (thos K cnt TN2 tc2) ∧ (thr TS2 tc2 wi n) ∧ (0 ≤ dp2 ∧ dp2 ≤ 809) ∧ (tkos SK2 dp2 cnt n wi) ∧ (THY K N O RR cnt f n fy hw wi st p Rs SE2 sta SK2 dp2 WK2 TN2 TS2 tc2 Mw) ∧ (dp2 + k0 ≤ viN SE2 sta 807)) := by
  refine ab_F_of (by decide +kernel) (Nat.le_of_ble_eq_true rfl) ?_
  obtain ⟨Q, hQ⟩ : ∃ z : Outcome → ab_G → Prop, z = (fun oc G2 => ∃ dp2 : Int, ∃ tc2 : Int, ∃ st2 : Int, ∃ SE2 : Int → Int, ∃ TN2 : Int → Int, ∃ TS2 : Int → Int, ∃ SK2 : Int → Int, ∃ WK2 : Int → Int, oc = .returned (some (vz dp2)) ∧ fx o o [32, 33, 35, 36, 37, 38, 39, 40] G G2 ∧ G2.length = G.length ∧ ab_slots G2 = ab_slots G ∧ cc o G2 a 32 (ab_ob 11 [vR sp, vR wk, vR nw, vR tn, vR nsp, vR tsp, vz nc, vz tc2, vR se, vz sta, vR stk, vz fo, vR q, vR s, vz hw, vz fy, vj st2]) ∧ cc o G2 sp 31 (za 20 SP) ∧ cc o G2 wk 33 (za 20 WK2) ∧ cc o G2 nw l1 (za 801 NW) ∧ cc o G2 tn l2 (za 801 TN2) ∧ cc o G2 nsp l3 (za 16020 NS) ∧ cc o G2 tsp l4 (za 16020 TS2) ∧ cc o G2 se 39 (za 2048 SE2) ∧ cc o G2 stk 40 (za 809 SK2) ∧ (0 ≤ tc2 ∧ tc2 ≤ 801) ∧ (rgs WK2 wi (-1) n) ∧ (0 ≤ WK2 0) ∧ (rgs SE2 2048 0 sta) ∧ (thos K cnt TN2 tc2) ∧ (thr TS2 tc2 wi n) ∧ (0 ≤ dp2 ∧ dp2 ≤ 809) ∧ (tkos SK2 dp2 cnt n wi) ∧ (THY K N O RR cnt f n fy hw wi st p Rs SE2 sta SK2 dp2 WK2 TN2 TS2 tc2 Mw) ∧ (dp2 + k0 ≤ viN SE2 sta 807)) := ⟨_, rfl⟩
  rw [← hQ]
  change ab_W X (ab_pl y_TH_walk b_TH_walk 9 (some (.int))) d G 0 [some (vR a), some (vz x), some (vz p), some (vz dp), none, none, none, none, none] [] Q
  have hfr : fx o o [32, 33, 35, 36, 37, 38, 39, 40] G G := fx.rf
  have hlen : G.length = G.length := rfl
  have hsl : ab_slots G = ab_slots G := rfl
  have hvb_ := viN_b (SE := SE) (sta := sta) 807
  refine ab_iload_n d_TH_walk_0 rfl ?_
  refine ab_istore d_TH_walk_1 (Nat.le_of_ble_eq_true rfl) (Nat.le_of_ble_eq_true rfl) rfl ?_
  change ab_W _ _ _ G 3 [some (vR a), some (vz x), some (vz p), some (vz dp), some (vz dp), none, none, none, none] [] _
  refine ab_iload_n d_TH_walk_3 rfl ?_
  refine ab_istore d_TH_walk_4 (Nat.le_of_ble_eq_true rfl) (Nat.le_of_ble_eq_true rfl) rfl ?_
  change ab_W _ _ _ G 6 [some (vR a), some (vz x), some (vz p), some (vz dp), some (vz dp), some (vz x), none, none, none] [] _
  refine zz_iconst d_TH_walk_6 ?_
  refine ab_istore d_TH_walk_7 (Nat.le_of_ble_eq_true rfl) (Nat.le_of_ble_eq_true rfl) rfl ?_
  change ab_W _ _ _ G 9 [some (vR a), some (vz x), some (vz p), some (vz dp), some (vz dp), some (vz x), some (vz 0), none, none] [] _
  refine ab_less (L' := [some (vR a), none, some (vz p), none, some (vz dp), some (vz x), some (vz 0), none, none]) (fun i v h => by rcases i with _ | _ | _ | _ | _ | _ | _ | _ | _ | i <;> first | exact h | (simp at h)) ?_
  refine y_TH_walk_9 (q := q) (lq := lq) (ki := ki) (ne := ne) (ot := ot) (cnt := cnt) (fi := fi) (la := la) (ra := ra) (ru := ru) (gr := gr) (wi := wi) (sz := sz) (fl := fl) (ve := ve) (mi := mi) (na := na) (nl := nl) (K := K) (N := N) (O := O) (RR := RR) (nr := nr) (s := s) (by_ := by_) (co := co) (re := re) (ho := ho) (n := n) (C := C) (Rs := Rs) (H := H) (mc := mc) (a := a) (sp := sp) (wk := wk) (nw := nw) (tn := tn) (nsp := nsp) (tsp := tsp) (se := se) (stk := stk) (nc := nc) (sta := sta) (fo := fo) (hw := hw) (fy := fy) (SP := SP) (NW := NW) (NS := NS) (l1 := l1) (l2 := l2) (l3 := l3) (l4 := l4) (p := p) (st := st) (Mw := Mw) (k0 := k0) (G0 := G) (tc := tc) (stp := stp) (WK := WK) (TN := TN) (TS := TS) (SE := SE) (SK := SK) (x := x) (dp := dp) (tu := 0) (by omega) hp hr (by omega) hsu (by omega) (by omega) hkk (by omega) (by omega) (Int.toNat (808 - 0) + 1) ha hsp hwk hnw htn hnsp htsp hse hstk hq hki hne hot hra hs hco hre hho (by omega) (by omega) (by omega) (by omega) (by omega) jwk (by omega) jse jtn jts jsk jth (by omega) (by omega) fx.rf rfl rfl (by omega) (fun G1 dp22 tc23 st24 SE25 TN26 TS27 SK28 WK29 hNa hNsp hNwk hNnw hNtn hNnsp hNtsp hNse hNstk hq10 hq11 hq12 hq13 hq14 hq15 hq16 hq17 hq18 hq19 hfk hlk hsk => ?_)
  · have hq := hfk.get hq (by simp only [List.mem_cons, List.not_mem_nil, or_false]; omega)
    have hki := hfk.get hki (by simp only [List.mem_cons, List.not_mem_nil, or_false]; omega)
    have hne := hfk.get hne (by simp only [List.mem_cons, List.not_mem_nil, or_false]; omega)
    have hot := hfk.get hot (by simp only [List.mem_cons, List.not_mem_nil, or_false]; omega)
    have hra := hfk.get hra (by simp only [List.mem_cons, List.not_mem_nil, or_false]; omega)
    have hs := hfk.get hs (by decide)
    have hco := hfk.get hco (by decide)
    have hre := hfk.get hre (by decide)
    have hho := hfk.get hho (by decide)
    have hfr := hfr.tr hfk (by decide)
    have hlen := hlk.trans hlen
    have hsl := hsk.trans hsl
    have ha := hNa
    have hsp := hNsp
    have hwk := hNwk
    have hnw := hNnw
    have htn := hNtn
    have hnsp := hNnsp
    have htsp := hNtsp
    have hse := hNse
    have hstk := hNstk
    rw [hQ]; exact ⟨_, _, _, _, _, _, _, _, rfl, hfr, hlen, hsl, ha, hsp, hwk, hnw, htn, hnsp, htsp, hse, hstk, (by omega), (by first | exact hq11 | exact rgs_w hq11 (by omega)), (by omega), (by first | exact hq13 | exact rgs_w hq13 (by omega)), (by exact hq14), (by exact hq15), (by omega), (by exact hq17), (by exact hq18), (by omega)⟩
set_option maxRecDepth 100000 in
set_option maxHeartbeats 4000000 in
theorem y_TH_follow_12 {X : ab_X} {d : Nat} {Q : Outcome → ab_G → Prop} {o : Nat → Nat} {G0 : ab_G} {q : Nat} {lq : Nat} {ki : Nat} {ne : Nat} {ot : Nat} {cnt : Int} {fi : Int} {la : Int} {ra : Nat} {ru : Int} {gr : Int} {wi : Int} {sz : Int} {fl : Int} {ve : Int} {mi : Int} {na : Nat} {nl : Nat} {K : Int → Int} {N : Int → Int} {O : Int → Int} {RR : Int → Int} {nr : Nat} {s : Nat} {by_ : Nat} {co : Nat} {re : Nat} {ho : Nat} {n : Int} {f : Int → Int} {C : Int → Int} {Rs : Int → Int} {H : Int → Int} {m : Nat} {mc : Nat} {a : Nat} {sp : Nat} {wk : Nat} {nw : Nat} {tn : Nat} {nsp : Nat} {tsp : Nat} {se : Nat} {stk : Nat} {nc : Int} {sta : Int} {fo : Int} {hw : Int} {fy : Int} {SP : Int → Int} {NW : Int → Int} {NS : Int → Int} {l1 : Nat} {l2 : Nat} {l3 : Nat} {l4 : Nat} {p : Int} {st : Int} {Mw : List Tw} (cq : 100 ≤ lq ∧ 0 ≤ cnt ∧ cnt ≤ 808 ∧ ↑nr ≤ (100000 : Int)) (hp : prok K N O RR cnt ↑nr wi) (hr : ∀ k : Int, 0 ≤ k → k < ↑nr → 0 ≤ RR k ∧ RR k ≤ 1114111) (csu : 0 ≤ n ∧ n ≤ ↑m ∧ 32 ≤ m ∧ m ≤ 2000 ∧ mc = m + 1) (hsu : suok f C Rs H n) (cwi : 2 ≤ wi ∧ wi ≤ 20) (cl : l1 + l2 = 71 ∧ 35 ≤ l1 ∧ l1 ≤ 36 ∧ l3 + l4 = 75 ∧ 37 ≤ l3 ∧ l3 ≤ 38) (hkk : kkF K cnt) (cp : 0 ≤ p ∧ p ≤ n) (hd : 4 ≤ d) : ∀ (mz : Nat) {G : ab_G} {tc : Int} {stp : Int} {WK : Int → Int} {TN : Int → Int} {TS : Int → Int} {SE : Int → Int} {SK : Int → Int} {dp : Int} {tu : Int}, (cc o G a 32 (ab_ob 11 [vR sp, vR wk, vR nw, vR tn, vR nsp, vR tsp, vz nc, vz tc, vR se, vz sta, vR stk, vz fo, vR q, vR s, vz hw, vz fy, vj stp])) → (cc o G sp 31 (za 20 SP)) → (cc o G wk 33 (za 20 WK)) → (cc o G nw l1 (za 801 NW)) → (cc o G tn l2 (za 801 TN)) → (cc o G nsp l3 (za 16020 NS)) → (cc o G tsp l4 (za 16020 TS)) → (cc o G se 39 (za 2048 SE)) → (cc o G stk 40 (za 809 SK)) → (cc o G q lq (ab_ob 5 [vR ki, vR ne, vR ot, vz cnt, vz fi, vz la, vR ra, vz ru, vz gr, vz wi, vz sz, vz fl, vz ve, vz mi, vR na, vR nl])) → (cc o G ki (lq + 1) (za 808 K)) → (cc o G ne (lq + 2) (za 808 N)) → (cc o G ot (lq + 3) (za 808 O)) → (cc o G ra (lq + 4) (za nr RR)) → (cc o G s 26 (ab_ob 9 [vR by_, vR co, vR re, vR ho, vz n])) → (cc o G co 28 (za mc C)) → (cc o G re 29 (za mc Rs)) → (cc o G ho 30 (za mc H)) → (0 ≤ tu ∧ tu ≤ 1616) → (0 ≤ sta ∧ sta ≤ 2100000000) → (0 ≤ tc ∧ tc ≤ 801) → (0 ≤ dp ∧ dp ≤ 809) → (rgs WK wi (-1) n) → (0 ≤ WK 0) → (rgs SE 2048 0 sta) → (thos K cnt TN tc) → (thr TS tc wi n) → (tkos SK dp cnt n wi) → (THY K N O RR cnt f n fy hw wi st p Rs SE sta SK dp WK TN TS tc Mw) → (tu + dp ≤ 1 + viN SE sta 807) → (fx o o [32, 33, 35, 36, 37, 38, 39, 40] G0 G) → (G.length = G0.length) → (ab_slots G = ab_slots G0) → (Int.toNat (1616 - tu) < mz) → (∀ (G2 : ab_G) (tc2 : Int) (st2 : Int) (SE2 : Int → Int) (TN2 : Int → Int) (TS2 : Int → Int) (SK2 : Int → Int) (WK2 : Int → Int), (cc o G2 a 32 (ab_ob 11 [vR sp, vR wk, vR nw, vR tn, vR nsp, vR tsp, vz nc, vz tc2, vR se, vz sta, vR stk, vz fo, vR q, vR s, vz hw, vz fy, vj st2])) → (cc o G2 sp 31 (za 20 SP)) → (cc o G2 wk 33 (za 20 WK2)) → (cc o G2 nw l1 (za 801 NW)) → (cc o G2 tn l2 (za 801 TN2)) → (cc o G2 nsp l3 (za 16020 NS)) → (cc o G2 tsp l4 (za 16020 TS2)) → (cc o G2 se 39 (za 2048 SE2)) → (cc o G2 stk 40 (za 809 SK2)) → (0 ≤ tc2 ∧ tc2 ≤ 801) → (rgs WK2 wi (-1) n) → (0 ≤ WK2 0) → (rgs SE2 2048 0 sta) → (thos K cnt TN2 tc2) → (thr TS2 tc2 wi n) → (THF K N O RR cnt f n fy hw wi st p Rs SE2 sta TN2 TS2 tc2 Mw) → (fx o o [32, 33, 35, 36, 37, 38, 39, 40] G0 G2) → (G2.length = G0.length) → (ab_slots G2 = ab_slots G0) → Q (.returned none) G2) → ab_W X (ab_pl y_TH_follow b_TH_follow 6 none) d G 12 [some (vR a), none, some (vz p), some (vz dp), some (vz tu), none] [] Q := by
  intro mz
  induction mz with
  | zero => intro G tc stp WK TN TS SE SK dp tu ha hsp hwk hnw htn hnsp htsp hse hstk hq hki hne hot hra hs hco hre hho ct cst ctc cdp jwk c0k jse jtn jts jsk jty jvn hfr hlen hsl hm hk0; exact absurd hm (Nat.not_lt_zero _)
  | succ mz ih =>
    intro G tc stp WK TN TS SE SK dp tu ha hsp hwk hnw htn hnsp htsp hse hstk hq hki hne hot hra hs hco hre hho ct cst ctc cdp jwk c0k jse jtn jts jsk jty jvn hfr hlen hsl hm hk0
    have hvb_ := viN_b (SE := SE) (sta := sta) 807
    refine ab_iload d_TH_follow_12 rfl ?_
    refine zz_sipush d_TH_follow_14 (by decide) ?_
    refine zz_icmp_ge (tgt := 67) d_TH_follow_17 (by decide) (by omega) (by decide) (fun c1 => absurd c1 (by omega)) (fun c1 => ?_)
    refine ab_iload_n d_TH_follow_20 rfl ?_
    refine zz_if_le (tgt := 67) d_TH_follow_21 (by decide) (by omega) (fun c2 => ?_) (fun c2 => ?_)
    · refine ab_vret rfl d_TH_follow_67 ?_
      exact hk0 _ _ _ _ _ _ _ _ ha hsp hwk hnw htn hnsp htsp hse hstk (by omega) (by first | exact jwk | exact rgs_w jwk (by omega)) (by omega) (by first | exact jse | exact rgs_w jse (by omega)) (by exact jtn) (by exact jts) (by exact ty_fin jty (by omega)) hfr hlen hsl
    · refine zz_iinc d_TH_follow_24 rfl (Nat.le_of_ble_eq_true rfl) (Nat.le_of_ble_eq_true rfl) rfl ?_
      change ab_W _ _ _ G 27 [some (vR a), none, some (vz p), some (vz (dp + (-1))), some (vz tu), none] [] _
      refine ab_aload_n d_TH_follow_27 rfl ?_
      refine ab_getf (fs := [vR sp, vR wk, vR nw, vR tn, vR nsp, vR tsp, vz nc, vz tc, vR se, vz sta, vR stk, vz fo, vR q, vR s, vz hw, vz fy, vj stp]) f_TH_33 d_TH_follow_28 ha.2.2 rfl ?_
      refine ab_iload_n d_TH_follow_31 rfl ?_
      refine zz_iald d_TH_follow_32 hstk (by omega) ?_
      have hs0 := jsk (dp - 1) (by omega) (by omega)
      have hs1 := tko_in hs0 (by omega)
      have hs3 : dp + -1 = dp - 1 := by omega
      rw [← hs3] at hs0 hs1
      refine ab_istore d_TH_follow_33 (Nat.le_of_ble_eq_true rfl) (Nat.le_of_ble_eq_true rfl) rfl ?_
      change ab_W _ _ _ G 35 [some (vR a), none, some (vz p), some (vz (dp + (-1))), some (vz tu), some (vz (SK (dp + (-1))))] [] _
      refine ab_iload d_TH_follow_35 rfl ?_
      refine zz_if_ge (tgt := 52) d_TH_follow_37 (by decide) (by omega) (fun c3 => ?_) (fun c3 => ?_)
      · have hs2x := tko_pos hs0 (by omega)
        refine ab_aload_n d_TH_follow_52 rfl ?_
        refine ab_iload d_TH_follow_53 rfl ?_
        refine ab_iload_n d_TH_follow_55 rfl ?_
        refine ab_iload_n d_TH_follow_56 rfl ?_
        refine ab_callV (d' := d - 1) (as := [vz (SK (dp + (-1))), vz p, vz (dp + (-1))]) (st := []) (r := _) (z_TH_walk (o := o) (q := q) (lq := lq) (ki := ki) (ne := ne) (ot := ot) (cnt := cnt) (fi := fi) (la := la) (ra := ra) (ru := ru) (gr := gr) (wi := wi) (sz := sz) (fl := fl) (ve := ve) (mi := mi) (na := na) (nl := nl) (K := K) (N := N) (O := O) (RR := RR) (nr := nr) (s := s) (by_ := by_) (co := co) (re := re) (ho := ho) (n := n) (C := C) (Rs := Rs) (H := H) (mc := mc) (a := a) (sp := sp) (wk := wk) (nw := nw) (tn := tn) (nsp := nsp) (tsp := tsp) (se := se) (stk := stk) (nc := nc) (tc := tc) (sta := sta) (fo := fo) (hw := hw) (fy := fy) (stp := stp) (SP := SP) (WK := WK) (NW := NW) (TN := TN) (NS := NS) (TS := TS) (SE := SE) (SK := SK) (l1 := l1) (l2 := l2) (l3 := l3) (l4 := l4) (x := (SK (dp + (-1)))) (p := p) (dp := (dp + (-1))) (st := st) (Mw := Mw) (k0 := tu) ha hsp hwk hnw htn hnsp htsp hse hstk hq hki hne hot hra hs hco hre hho (by omega) hp hr (by omega) hsu (by omega) (by omega) hkk (by omega) (by omega) (by omega) (by omega) (by omega) jwk (by omega) jse jtn jts (tkos_p jsk (by omega)) (ty_pop jty (by omega) (by omega) (by omega) (by omega)) (by omega) (by omega)) (fun oc G2 h => by rcases h with ⟨_, _, _, _, _, _, _, _, h, _⟩ <;> exact ⟨_, h⟩) (by omega) m_TH_walk ml_TH_134 im_TH_walk se_TH_walk c_TH ha.2.2 (Nat.le_of_ble_eq_true rfl) d_TH_follow_57 rfl ?_
        intro v G4 hq
        rcases hq with ⟨dp25, tc26, st27, SE28, TN29, TS210, SK211, WK212, hv, hfk, hlk, hsk, hNa, hNsp, hNwk, hNnw, hNtn, hNnsp, hNtsp, hNse, hNstk, hq13, hq14, hq15, hq16, hq17, hq18, hq19, hq20, hq21, hq22⟩
        cases hv
        have hq := hfk.get hq (by simp only [List.mem_cons, List.not_mem_nil, or_false]; omega)
        have hki := hfk.get hki (by simp only [List.mem_cons, List.not_mem_nil, or_false]; omega)
        have hne := hfk.get hne (by simp only [List.mem_cons, List.not_mem_nil, or_false]; omega)
        have hot := hfk.get hot (by simp only [List.mem_cons, List.not_mem_nil, or_false]; omega)
        have hra := hfk.get hra (by simp only [List.mem_cons, List.not_mem_nil, or_false]; omega)
        have hs := hfk.get hs (by decide)
        have hco := hfk.get hco (by decide)
        have hre := hfk.get hre (by decide)
        have hho := hfk.get hho (by decide)
        have hfr := hfr.tr hfk (by decide)
        have hlen := hlk.trans hlen
        have hsl := hsk.trans hsl
        have ha := hNa
        have hsp := hNsp
        have hwk := hNwk
        have hnw := hNnw
        have htn := hNtn
        have hnsp := hNnsp
        have htsp := hNtsp
        have hse := hNse
        have hstk := hNstk
        change ab_W _ _ _ G4 60 [some (vR a), none, some (vz p), some (vz (dp + (-1))), some (vz tu), some (vz (SK (dp + (-1))))] [vz dp25] _
        refine ab_istore_n d_TH_follow_60 (Nat.le_of_ble_eq_true rfl) (Nat.le_of_ble_eq_true rfl) rfl ?_
        change ab_W _ _ _ G4 61 [some (vR a), none, some (vz p), some (vz dp25), some (vz tu), some (vz (SK (dp + (-1))))] [] _
        refine zz_iinc d_TH_follow_61 rfl (Nat.le_of_ble_eq_true rfl) (Nat.le_of_ble_eq_true rfl) rfl ?_
        change ab_W _ _ _ G4 64 [some (vR a), none, some (vz p), some (vz dp25), some (vz (tu + 1)), some (vz (SK (dp + (-1))))] [] _
        refine ab_goto (tgt := 12) d_TH_follow_64 (by decide) ?_
        refine ab_less (L' := [some (vR a), none, some (vz p), some (vz dp25), some (vz (tu + 1)), none]) (fun i v h => by rcases i with _ | _ | _ | _ | _ | _ | i <;> first | exact h | (simp at h)) ?_
        exact ih (tc := tc26) (stp := st27) (WK := WK212) (TN := TN29) (TS := TS210) (SE := SE28) (SK := SK211) (dp := dp25) (tu := (tu + 1)) ha hsp hwk hnw htn hnsp htsp hse hstk hq hki hne hot hra hs hco hre hho (by omega) (by omega) (by omega) (by omega) hq14 (by omega) hq16 hq17 hq18 hq20 hq21 (by omega) hfr hlen hsl (by omega) hk0
      · have hs2x := tko_neg hs0 (by omega)
        refine ab_aload_n d_TH_follow_40 rfl ?_
        refine ab_getf (fs := [vR sp, vR wk, vR nw, vR tn, vR nsp, vR tsp, vz nc, vz tc, vR se, vz sta, vR stk, vz fo, vR q, vR s, vz hw, vz fy, vj stp]) f_TH_15 d_TH_follow_41 ha.2.2 rfl ?_
        refine ab_iload d_TH_follow_44 rfl ?_
        refine ab_callS (d' := d - 1) (as := [vR wk, vz (SK (dp + (-1)))]) (st := []) (z_PW_undo (o := o) (a := wk) (l := 33) (m := 20) (f := WK) (e := (SK (dp + (-1)))) hwk (by have h18 : ab_n0 = 18 := rfl; omega)) (fun oc G2 h => by rcases h with ⟨h, _⟩ <;> exact ⟨_, h⟩) (by omega) m_PW_undo ml_TH_131 st_PW_undo (Nat.le_of_ble_eq_true rfl) d_TH_follow_46 rfl ?_
        intro v G23 hq
        rcases hq with ⟨hv, hfk, hlk, hsk, hNwk⟩
        cases hv
        have ha := hfk.get ha (by decide)
        have hsp := hfk.get hsp (by decide)
        have hnw := hfk.get hnw (by simp only [List.mem_cons, List.not_mem_nil, or_false]; omega)
        have htn := hfk.get htn (by simp only [List.mem_cons, List.not_mem_nil, or_false]; omega)
        have hnsp := hfk.get hnsp (by simp only [List.mem_cons, List.not_mem_nil, or_false]; omega)
        have htsp := hfk.get htsp (by simp only [List.mem_cons, List.not_mem_nil, or_false]; omega)
        have hse := hfk.get hse (by decide)
        have hstk := hfk.get hstk (by decide)
        have hq := hfk.get hq (by simp only [List.mem_cons, List.not_mem_nil, or_false]; omega)
        have hki := hfk.get hki (by simp only [List.mem_cons, List.not_mem_nil, or_false]; omega)
        have hne := hfk.get hne (by simp only [List.mem_cons, List.not_mem_nil, or_false]; omega)
        have hot := hfk.get hot (by simp only [List.mem_cons, List.not_mem_nil, or_false]; omega)
        have hra := hfk.get hra (by simp only [List.mem_cons, List.not_mem_nil, or_false]; omega)
        have hs := hfk.get hs (by decide)
        have hco := hfk.get hco (by decide)
        have hre := hfk.get hre (by decide)
        have hho := hfk.get hho (by decide)
        have hfr := hfr.tr hfk (by decide)
        have hlen := hlk.trans hlen
        have hsl := hsk.trans hsl
        have hwk := hNwk
        change ab_W _ _ _ G23 49 [some (vR a), none, some (vz p), some (vz (dp + (-1))), some (vz tu), some (vz (SK (dp + (-1))))] [] _
        refine ab_goto (tgt := 61) d_TH_follow_49 (by decide) ?_
        refine zz_iinc d_TH_follow_61 rfl (Nat.le_of_ble_eq_true rfl) (Nat.le_of_ble_eq_true rfl) rfl ?_
        change ab_W _ _ _ G23 64 [some (vR a), none, some (vz p), some (vz (dp + (-1))), some (vz (tu + 1)), some (vz (SK (dp + (-1))))] [] _
        refine ab_goto (tgt := 12) d_TH_follow_64 (by decide) ?_
        refine ab_less (L' := [some (vR a), none, some (vz p), some (vz (dp + (-1))), some (vz (tu + 1)), none]) (fun i v h => by rcases i with _ | _ | _ | _ | _ | _ | i <;> first | exact h | (simp at h)) ?_
        exact ih (tc := tc) (stp := stp) (WK := (zu WK ((-1 - (SK (dp + (-1)))) / 4096) ((-1 - (SK (dp + (-1)))) % 4096 - 1))) (TN := TN) (TS := TS) (SE := SE) (SK := SK) (dp := (dp + (-1))) (tu := (tu + 1)) ha hsp hwk hnw htn hnsp htsp hse hstk hq hki hne hot hra hs hco hre hho (by omega) (by omega) (by omega) (by omega) (rgs_zu jwk (by omega)) (by rw [zu_ne (by omega)]; omega) jse jtn jts (tkos_p jsk (by omega)) (ty_undo jty (by omega) (by omega) (by omega) (by omega)) (by omega) hfr hlen hsl (by omega) hk0
set_option maxRecDepth 100000 in
set_option maxHeartbeats 4000000 in
theorem z_TH_follow {X : ab_X} {d : Nat} {o : Nat → Nat} {G : ab_G} {q : Nat} {lq : Nat} {ki : Nat} {ne : Nat} {ot : Nat} {cnt : Int} {fi : Int} {la : Int} {ra : Nat} {ru : Int} {gr : Int} {wi : Int} {sz : Int} {fl : Int} {ve : Int} {mi : Int} {na : Nat} {nl : Nat} {K : Int → Int} {N : Int → Int} {O : Int → Int} {RR : Int → Int} {nr : Nat} {s : Nat} {by_ : Nat} {co : Nat} {re : Nat} {ho : Nat} {n : Int} {f : Int → Int} {C : Int → Int} {Rs : Int → Int} {H : Int → Int} {m : Nat} {mc : Nat} {a : Nat} {sp : Nat} {wk : Nat} {nw : Nat} {tn : Nat} {nsp : Nat} {tsp : Nat} {se : Nat} {stk : Nat} {nc : Int} {tc : Int} {sta : Int} {fo : Int} {hw : Int} {fy : Int} {stp : Int} {SP : Int → Int} {WK : Int → Int} {NW : Int → Int} {TN : Int → Int} {NS : Int → Int} {TS : Int → Int} {SE : Int → Int} {SK : Int → Int} {l1 : Nat} {l2 : Nat} {l3 : Nat} {l4 : Nat} {p : Int} {x : Int} {st : Int} {Mw : List Tw} {s0 : Int} {gw : Gr} {Lw : List (Int × Gr)} (ha : cc o G a 32 (ab_ob 11 [vR sp, vR wk, vR nw, vR tn, vR nsp, vR tsp, vz nc, vz tc, vR se, vz sta, vR stk, vz fo, vR q, vR s, vz hw, vz fy, vj stp])) (hsp : cc o G sp 31 (za 20 SP)) (hwk : cc o G wk 33 (za 20 WK)) (hnw : cc o G nw l1 (za 801 NW)) (htn : cc o G tn l2 (za 801 TN)) (hnsp : cc o G nsp l3 (za 16020 NS)) (htsp : cc o G tsp l4 (za 16020 TS)) (hse : cc o G se 39 (za 2048 SE)) (hstk : cc o G stk 40 (za 809 SK)) (hq : cc o G q lq (ab_ob 5 [vR ki, vR ne, vR ot, vz cnt, vz fi, vz la, vR ra, vz ru, vz gr, vz wi, vz sz, vz fl, vz ve, vz mi, vR na, vR nl])) (hki : cc o G ki (lq + 1) (za 808 K)) (hne : cc o G ne (lq + 2) (za 808 N)) (hot : cc o G ot (lq + 3) (za 808 O)) (hra : cc o G ra (lq + 4) (za nr RR)) (hs : cc o G s 26 (ab_ob 9 [vR by_, vR co, vR re, vR ho, vz n])) (hco : cc o G co 28 (za mc C)) (hre : cc o G re 29 (za mc Rs)) (hho : cc o G ho 30 (za mc H)) (cq : 100 ≤ lq ∧ 0 ≤ cnt ∧ cnt ≤ 808 ∧ ↑nr ≤ (100000 : Int)) (hp : prok K N O RR cnt ↑nr wi) (hr : ∀ k : Int, 0 ≤ k → k < ↑nr → 0 ≤ RR k ∧ RR k ≤ 1114111) (csu : 0 ≤ n ∧ n ≤ ↑m ∧ 32 ≤ m ∧ m ≤ 2000 ∧ mc = m + 1) (hsu : suok f C Rs H n) (cwi : 2 ≤ wi ∧ wi ≤ 20) (cl : l1 + l2 = 71 ∧ 35 ≤ l1 ∧ l1 ≤ 36 ∧ l3 + l4 = 75 ∧ 37 ≤ l3 ∧ l3 ≤ 38) (hkk : kkF K cnt) (cx : 0 ≤ x ∧ x < cnt ∧ 0 ≤ p ∧ p ≤ n) (cst : 0 ≤ sta ∧ sta ≤ 2100000000) (ctc : 0 ≤ tc ∧ tc ≤ 801) (jwk : rgs WK wi (-1) n) (c0k : 0 ≤ WK 0) (jse : rgs SE 2048 0 sta) (jtn : thos K cnt TN tc) (jts : thr TS tc wi n) (jtf : THF K N O RR cnt f n fy hw wi s0 p Rs SE sta TN TS tc Mw) (cst2 : s0 ≤ st) (jga : gA WK gw wi) (jk0 : WK 0 = st) (jww : WW (tgC K) N O (phas K O RR) f n x p gw Lw) (hd : 5 ≤ d) : ab_F X d y_TH_follow (.code y_TH_follow b_TH_follow 6 none) [vR a, vz x, vz p] G (fun oc G2 => ∃ tc2 : Int, ∃ st2 : Int, ∃ SE2 : Int → Int, ∃ TN2 : Int → Int, ∃ TS2 : Int → Int, ∃ SK2 : Int → Int, ∃ WK2 : Int → Int, oc = .returned none ∧ fx o o [32, 33, 35, 36, 37, 38, 39, 40] G G2 ∧ G2.length = G.length ∧ ab_slots G2 = ab_slots G ∧ cc o G2 a 32 (ab_ob 11 [vR sp, vR wk, vR nw, vR tn, vR nsp, vR tsp, vz nc, vz tc2, vR se, vz sta, vR stk, vz fo, vR q, vR s, vz hw, vz fy, vj st2]) ∧ cc o G2 sp 31 (za 20 SP) ∧ cc o G2 wk 33 (za 20 WK2) ∧ cc o G2 nw l1 (za 801 NW) ∧ cc o G2 tn l2 (za 801 TN2) ∧ cc o G2 nsp l3 (za 16020 NS) ∧ cc o G2 tsp l4 (za 16020 TS2) ∧ cc o G2 se 39 (za 2048 SE2) ∧ cc o G2 stk 40 (za 809 SK2) ∧ (0 ≤ tc2 ∧ tc2 ≤ 801) ∧ (rgs WK2 wi (-1) n) ∧ (0 ≤ WK2 0) ∧ (rgs SE2 2048 0 sta) ∧ (thos K cnt TN2 tc2) ∧ (thr TS2 tc2 wi n) ∧ (THF K N O RR cnt f n fy hw wi st p Rs SE2 sta TN2 TS2 tc2 (Mw ++ tgT st Lw))) := by
  refine ab_F_of (by decide +kernel) (Nat.le_of_ble_eq_true rfl) ?_
  obtain ⟨Q, hQ⟩ : ∃ z : Outcome → ab_G → Prop, z = (fun oc G2 => ∃ tc2 : Int, ∃ st2 : Int, ∃ SE2 : Int → Int, ∃ TN2 : Int → Int, ∃ TS2 : Int → Int, ∃ SK2 : Int → Int, ∃ WK2 : Int → Int, oc = .returned none ∧ fx o o [32, 33, 35, 36, 37, 38, 39, 40] G G2 ∧ G2.length = G.length ∧ ab_slots G2 = ab_slots G ∧ cc o G2 a 32 (ab_ob 11 [vR sp, vR wk, vR nw, vR tn, vR nsp, vR tsp, vz nc, vz tc2, vR se, vz sta, vR stk, vz fo, vR q, vR s, vz hw, vz fy, vj st2]) ∧ cc o G2 sp 31 (za 20 SP) ∧ cc o G2 wk 33 (za 20 WK2) ∧ cc o G2 nw l1 (za 801 NW) ∧ cc o G2 tn l2 (za 801 TN2) ∧ cc o G2 nsp l3 (za 16020 NS) ∧ cc o G2 tsp l4 (za 16020 TS2) ∧ cc o G2 se 39 (za 2048 SE2) ∧ cc o G2 stk 40 (za 809 SK2) ∧ (0 ≤ tc2 ∧ tc2 ≤ 801) ∧ (rgs WK2 wi (-1) n) ∧ (0 ≤ WK2 0) ∧ (rgs SE2 2048 0 sta) ∧ (thos K cnt TN2 tc2) ∧ (thr TS2 tc2 wi n) ∧ (THF K N O RR cnt f n fy hw wi st p Rs SE2 sta TN2 TS2 tc2 (Mw ++ tgT st Lw))) := ⟨_, rfl⟩
  rw [← hQ]
  change ab_W X (ab_pl y_TH_follow b_TH_follow 6 none) d G 0 [some (vR a), some (vz x), some (vz p), none, none, none] [] Q
  have hfr : fx o o [32, 33, 35, 36, 37, 38, 39, 40] G G := fx.rf
  have hlen : G.length = G.length := rfl
  have hsl : ab_slots G = ab_slots G := rfl
  have hvb_ := viN_b (SE := SE) (sta := sta) 807
  refine ab_aload_n d_TH_follow_0 rfl ?_
  refine ab_getf (fs := [vR sp, vR wk, vR nw, vR tn, vR nsp, vR tsp, vz nc, vz tc, vR se, vz sta, vR stk, vz fo, vR q, vR s, vz hw, vz fy, vj stp]) f_TH_33 d_TH_follow_1 ha.2.2 rfl ?_
  refine zz_iconst d_TH_follow_4 ?_
  refine ab_iload_n d_TH_follow_5 rfl ?_
  refine zz_iast d_TH_follow_6 hstk (by omega) (hstk.2.1 (by decide)) ?_
  obtain ⟨G1, eG1⟩ : ∃ z : ab_G, z = List.set G stk (za 809 (zu SK 0 x)) := ⟨_, rfl⟩
  have ha := ha.keep hstk eG1 (by decide)
  have hsp := hsp.keep hstk eG1 (by decide)
  have hwk := hwk.keep hstk eG1 (by decide)
  have hnw := hnw.keep hstk eG1 (by omega)
  have htn := htn.keep hstk eG1 (by omega)
  have hnsp := hnsp.keep hstk eG1 (by omega)
  have htsp := htsp.keep hstk eG1 (by omega)
  have hse := hse.keep hstk eG1 (by decide)
  have hq := hq.keep hstk eG1 (by omega)
  have hki := hki.keep hstk eG1 (by omega)
  have hne := hne.keep hstk eG1 (by omega)
  have hot := hot.keep hstk eG1 (by omega)
  have hra := hra.keep hstk eG1 (by omega)
  have hs := hs.keep hstk eG1 (by decide)
  have hco := hco.keep hstk eG1 (by decide)
  have hre := hre.keep hstk eG1 (by decide)
  have hho := hho.keep hstk eG1 (by decide)
  have hlen := (z_len eG1).trans hlen
  have hsl := (z_sl hstk eG1 rfl).trans hsl
  have hfr := hfr.wr hstk eG1 (by decide)
  have hstk := hstk.kept eG1
  change ab_W _ _ _ (List.set G stk (za 809 (zu SK 0 x))) 7 [some (vR a), some (vz x), some (vz p), none, none, none] [] _
  rw [← eG1]
  refine zz_iconst d_TH_follow_7 ?_
  refine ab_istore_n d_TH_follow_8 (Nat.le_of_ble_eq_true rfl) (Nat.le_of_ble_eq_true rfl) rfl ?_
  change ab_W _ _ _ G1 9 [some (vR a), some (vz x), some (vz p), some (vz 1), none, none] [] _
  refine zz_iconst d_TH_follow_9 ?_
  refine ab_istore d_TH_follow_10 (Nat.le_of_ble_eq_true rfl) (Nat.le_of_ble_eq_true rfl) rfl ?_
  change ab_W _ _ _ G1 12 [some (vR a), some (vz x), some (vz p), some (vz 1), some (vz 0), none] [] _
  refine ab_less (L' := [some (vR a), none, some (vz p), some (vz 1), some (vz 0), none]) (fun i v h => by rcases i with _ | _ | _ | _ | _ | _ | i <;> first | exact h | (simp at h)) ?_
  refine y_TH_follow_12 (q := q) (lq := lq) (ki := ki) (ne := ne) (ot := ot) (cnt := cnt) (fi := fi) (la := la) (ra := ra) (ru := ru) (gr := gr) (wi := wi) (sz := sz) (fl := fl) (ve := ve) (mi := mi) (na := na) (nl := nl) (K := K) (N := N) (O := O) (RR := RR) (nr := nr) (s := s) (by_ := by_) (co := co) (re := re) (ho := ho) (n := n) (C := C) (Rs := Rs) (H := H) (mc := mc) (a := a) (sp := sp) (wk := wk) (nw := nw) (tn := tn) (nsp := nsp) (tsp := tsp) (se := se) (stk := stk) (nc := nc) (sta := sta) (fo := fo) (hw := hw) (fy := fy) (SP := SP) (NW := NW) (NS := NS) (l1 := l1) (l2 := l2) (l3 := l3) (l4 := l4) (p := p) (st := st) (Mw := (Mw ++ tgT st Lw)) (G0 := G1) (tc := tc) (stp := stp) (WK := WK) (TN := TN) (TS := TS) (SE := SE) (SK := (zu SK 0 x)) (dp := 1) (tu := 0) (by omega) hp hr (by omega) hsu (by omega) (by omega) hkk (by omega) (by omega) (Int.toNat (1616 - 0) + 1) ha hsp hwk hnw htn hnsp htsp hse hstk hq hki hne hot hra hs hco hre hho (by omega) (by omega) (by omega) (by omega) jwk (by omega) jse jtn jts (tkos_zu tkos_0 (tko_s (by omega))) (ty_new jtf cst2 jga jk0 (by omega) jww) (by omega) fx.rf rfl rfl (by omega) (fun G2 tc23 st24 SE25 TN26 TS27 SK28 WK29 hNa hNsp hNwk hNnw hNtn hNnsp hNtsp hNse hNstk hq10 hq11 hq12 hq13 hq14 hq15 hq16 hfk hlk hsk => ?_)
  · have hq := hfk.get hq (by simp only [List.mem_cons, List.not_mem_nil, or_false]; omega)
    have hki := hfk.get hki (by simp only [List.mem_cons, List.not_mem_nil, or_false]; omega)
    have hne := hfk.get hne (by simp only [List.mem_cons, List.not_mem_nil, or_false]; omega)
    have hot := hfk.get hot (by simp only [List.mem_cons, List.not_mem_nil, or_false]; omega)
    have hra := hfk.get hra (by simp only [List.mem_cons, List.not_mem_nil, or_false]; omega)
    have hs := hfk.get hs (by decide)
    have hco := hfk.get hco (by decide)
    have hre := hfk.get hre (by decide)
    have hho := hfk.get hho (by decide)
    have hfr := hfr.tr hfk (by decide)
    have hlen := hlk.trans hlen
    have hsl := hsk.trans hsl
    have ha := hNa
    have hsp := hNsp
    have hwk := hNwk
    have hnw := hNnw
    have htn := hNtn
    have hnsp := hNnsp
    have htsp := hNtsp
    have hse := hNse
    have hstk := hNstk
    rw [hQ]; exact ⟨_, _, _, _, _, _, _, rfl, hfr, hlen, hsl, ha, hsp, hwk, hnw, htn, hnsp, htsp, hse, hstk, (by omega), (by first | exact hq11 | exact rgs_w hq11 (by omega)), (by omega), (by first | exact hq13 | exact rgs_w hq13 (by omega)), (by exact hq14), (by exact hq15), (by exact hq16)⟩
set_option maxRecDepth 100000 in
set_option maxHeartbeats 4000000 in
theorem y_TH_step_10 {X : ab_X} {d : Nat} {Q : Outcome → ab_G → Prop} {o : Nat → Nat} {G0 : ab_G} {q : Nat} {lq : Nat} {ki : Nat} {ne : Nat} {ot : Nat} {cnt : Int} {fi : Int} {la : Int} {ra : Nat} {ru : Int} {gr : Int} {wi : Int} {sz : Int} {fl : Int} {ve : Int} {mi : Int} {na : Nat} {nl : Nat} {K : Int → Int} {N : Int → Int} {O : Int → Int} {RR : Int → Int} {nr : Nat} {s : Nat} {by_ : Nat} {co : Nat} {re : Nat} {ho : Nat} {n : Int} {f : Int → Int} {C : Int → Int} {Rs : Int → Int} {H : Int → Int} {m : Nat} {mc : Nat} {a : Nat} {sp : Nat} {wk : Nat} {nw : Nat} {tn : Nat} {nsp : Nat} {tsp : Nat} {se : Nat} {stk : Nat} {nc : Int} {sta : Int} {hw : Int} {fy : Int} {NW : Int → Int} {NS : Int → Int} {l1 : Nat} {l2 : Nat} {l3 : Nat} {l4 : Nat} {p : Int} {u9 : Sn} {lz : Int} {S9 : Option Tw} (cq : 100 ≤ lq ∧ 0 ≤ cnt ∧ cnt ≤ 808 ∧ ↑nr ≤ (100000 : Int)) (hp : prok K N O RR cnt ↑nr wi) (hr : ∀ k : Int, 0 ≤ k → k < ↑nr → 0 ≤ RR k ∧ RR k ≤ 1114111) (csu : 0 ≤ n ∧ n ≤ ↑m ∧ 32 ≤ m ∧ m ≤ 2000 ∧ mc = m + 1) (hsu : suok f C Rs H n) (cwi : 2 ≤ wi ∧ wi ≤ 20) (cl : l1 + l2 = 71 ∧ 35 ≤ l1 ∧ l1 ≤ 36 ∧ l3 + l4 = 75 ∧ 37 ≤ l3 ∧ l3 ≤ 38) (hkk : kkF K cnt) (cp : 0 ≤ p ∧ p ≤ n) (jnw : thos K cnt NW nc) (jns : thr NS nc wi n) (cnc : 0 ≤ nc ∧ nc ≤ 801) (cst : 0 ≤ sta ∧ sta ≤ 2100000000) (chw : 0 ≤ hw ∧ hw ≤ 2 ∧ 0 ≤ fy ∧ fy ≤ 1) (jro : roW Rs n p wi p NW NS nc) (hd : 6 ≤ d) : ∀ (mz : Nat) {G : ab_G} {tc : Int} {fo : Int} {stp : Int} {SP : Int → Int} {WK : Int → Int} {TN : Int → Int} {TS : Int → Int} {SE : Int → Int} {SK : Int → Int} {i : Int}, (cc o G a 32 (ab_ob 11 [vR sp, vR wk, vR nw, vR tn, vR nsp, vR tsp, vz nc, vz tc, vR se, vz sta, vR stk, vz fo, vR q, vR s, vz hw, vz fy, vj stp])) → (cc o G sp 31 (za 20 SP)) → (cc o G wk 33 (za 20 WK)) → (cc o G nw l1 (za 801 NW)) → (cc o G tn l2 (za 801 TN)) → (cc o G nsp l3 (za 16020 NS)) → (cc o G tsp l4 (za 16020 TS)) → (cc o G se 39 (za 2048 SE)) → (cc o G stk 40 (za 809 SK)) → (cc o G q lq (ab_ob 5 [vR ki, vR ne, vR ot, vz cnt, vz fi, vz la, vR ra, vz ru, vz gr, vz wi, vz sz, vz fl, vz ve, vz mi, vR na, vR nl])) → (cc o G ki (lq + 1) (za 808 K)) → (cc o G ne (lq + 2) (za 808 N)) → (cc o G ot (lq + 3) (za 808 O)) → (cc o G ra (lq + 4) (za nr RR)) → (cc o G s 26 (ab_ob 9 [vR by_, vR co, vR re, vR ho, vz n])) → (cc o G co 28 (za mc C)) → (cc o G re 29 (za mc Rs)) → (cc o G ho 30 (za mc H)) → (0 ≤ i ∧ i ≤ nc) → (0 ≤ tc ∧ tc ≤ 801) → (rgs SE 2048 0 sta) → (thos K cnt TN tc) → (thr TS tc wi n) → (rgs SP 20 (-1) 2000) → (spo fo SP wi n) → (0 ≤ fo ∧ fo ≤ 1) → (stJ K N O RR cnt u9 f n fy hw wi lz p Rs SE sta NW NS nc i TN TS tc fo SP S9) → (fx o o [31, 32, 33, 35, 36, 37, 38, 39, 40] G0 G) → (G.length = G0.length) → (ab_slots G = ab_slots G0) → (Int.toNat (nc - i) < mz) → (∀ (G2 : ab_G) (tc2 : Int) (st2 : Int) (fo2 : Int) (SE2 : Int → Int) (TN2 : Int → Int) (TS2 : Int → Int) (SK2 : Int → Int) (WK2 : Int → Int) (SP2 : Int → Int), (cc o G2 a 32 (ab_ob 11 [vR sp, vR wk, vR nw, vR tn, vR nsp, vR tsp, vz nc, vz tc2, vR se, vz sta, vR stk, vz fo2, vR q, vR s, vz hw, vz fy, vj st2])) → (cc o G2 sp 31 (za 20 SP2)) → (cc o G2 wk 33 (za 20 WK2)) → (cc o G2 nw l1 (za 801 NW)) → (cc o G2 tn l2 (za 801 TN2)) → (cc o G2 nsp l3 (za 16020 NS)) → (cc o G2 tsp l4 (za 16020 TS2)) → (cc o G2 se 39 (za 2048 SE2)) → (cc o G2 stk 40 (za 809 SK2)) → (0 ≤ tc2 ∧ tc2 ≤ 801) → (0 ≤ fo2 ∧ fo2 ≤ 1) → (rgs SP2 20 (-1) 2000) → (rgs SE2 2048 0 sta) → (thos K cnt TN2 tc2) → (thr TS2 tc2 wi n) → (spo fo2 SP2 wi n) → (stE K N O RR cnt u9 f n fy hw wi lz (p + 1) Rs SE2 sta TN2 TS2 tc2 fo2 SP2 S9) → (fx o o [31, 32, 33, 35, 36, 37, 38, 39, 40] G0 G2) → (G2.length = G0.length) → (ab_slots G2 = ab_slots G0) → Q (.returned none) G2) → ab_W X (ab_pl y_TH_step b_TH_step 7 none) d G 10 [some (vR a), some (vz p), some (vz wi), some (vz i), none, none, none] [] Q := by
  intro mz
  induction mz with
  | zero => intro G tc fo stp SP WK TN TS SE SK i ha hsp hwk hnw htn hnsp htsp hse hstk hq hki hne hot hra hs hco hre hho ci ctc jse jtn jts jsp jspo cfo jst hfr hlen hsl hm hk0; exact absurd hm (Nat.not_lt_zero _)
  | succ mz ih =>
    intro G tc fo stp SP WK TN TS SE SK i ha hsp hwk hnw htn hnsp htsp hse hstk hq hki hne hot hra hs hco hre hho ci ctc jse jtn jts jsp jspo cfo jst hfr hlen hsl hm hk0
    refine ab_iload_n d_TH_step_10 rfl ?_
    refine ab_aload_n d_TH_step_11 rfl ?_
    refine ab_getf (fs := [vR sp, vR wk, vR nw, vR tn, vR nsp, vR tsp, vz nc, vz tc, vR se, vz sta, vR stk, vz fo, vR q, vR s, vz hw, vz fy, vj stp]) f_TH_91 d_TH_step_12 ha.2.2 rfl ?_
    refine zz_icmp_ge (tgt := 264) d_TH_step_15 (by decide) (by omega) (by omega) (fun c1 => ?_) (fun c1 => ?_)
    · refine ab_vret rfl d_TH_step_264 ?_
      exact hk0 _ _ _ _ _ _ _ _ _ _ ha hsp hwk hnw htn hnsp htsp hse hstk (by omega) (by omega) (by first | exact jsp | exact rgs_w jsp (by omega)) (by first | exact jse | exact rgs_w jse (by omega)) (by exact jtn) (by exact jts) (by exact jspo) (by exact jst.fin (by omega)) hfr hlen hsl
    · obtain ⟨W_, c_, s_, L_, V_, g_, y_, z_, jso⟩ := jst.o (by omega)
      refine ab_aload_n d_TH_step_18 rfl ?_
      refine ab_dup d_TH_step_19 rfl ?_
      refine ab_getf (fs := [vR sp, vR wk, vR nw, vR tn, vR nsp, vR tsp, vz nc, vz tc, vR se, vz sta, vR stk, vz fo, vR q, vR s, vz hw, vz fy, vj stp]) f_TH_105 d_TH_step_20 ha.2.2 rfl ?_
      refine zz_lconst d_TH_step_23 ?_
      change ab_W _ _ _ G 24 [some (vR a), some (vz p), some (vz wi), some (vz i), none, none, none] [vj 1, vj stp, vR a] _
      refine zz_ladd d_TH_step_24 ?_
      refine ab_putf (fs := [vR sp, vR wk, vR nw, vR tn, vR nsp, vR tsp, vz nc, vz tc, vR se, vz sta, vR stk, vz fo, vR q, vR s, vz hw, vz fy, vj stp]) f_TH_105 (Or.inl rfl) d_TH_step_25 ha.2.2 (Nat.le_of_ble_eq_true rfl) (fun _ => ⟨rfl, rfl⟩) (ha.2.1 (by decide)) ?_
      obtain ⟨G2, eG2⟩ : ∃ z : ab_G, z = List.set G a (ab_ob 11 [vR sp, vR wk, vR nw, vR tn, vR nsp, vR tsp, vz nc, vz tc, vR se, vz sta, vR stk, vz fo, vR q, vR s, vz hw, vz fy, vj (stp + 1)]) := ⟨_, rfl⟩
      have hsp := hsp.keep ha eG2 (by decide)
      have hwk := hwk.keep ha eG2 (by decide)
      have hnw := hnw.keep ha eG2 (by omega)
      have htn := htn.keep ha eG2 (by omega)
      have hnsp := hnsp.keep ha eG2 (by omega)
      have htsp := htsp.keep ha eG2 (by omega)
      have hse := hse.keep ha eG2 (by decide)
      have hstk := hstk.keep ha eG2 (by decide)
      have hq := hq.keep ha eG2 (by omega)
      have hki := hki.keep ha eG2 (by omega)
      have hne := hne.keep ha eG2 (by omega)
      have hot := hot.keep ha eG2 (by omega)
      have hra := hra.keep ha eG2 (by omega)
      have hs := hs.keep ha eG2 (by decide)
      have hco := hco.keep ha eG2 (by decide)
      have hre := hre.keep ha eG2 (by decide)
      have hho := hho.keep ha eG2 (by decide)
      have hlen := (z_len eG2).trans hlen
      have hsl := (z_sl ha eG2 rfl).trans hsl
      have hfr := hfr.wr ha eG2 (by decide)
      have ha := ha.kept eG2
      change ab_W _ _ _ (List.set G a (ab_ob 11 [vR sp, vR wk, vR nw, vR tn, vR nsp, vR tsp, vz nc, vz tc, vR se, vz sta, vR stk, vz fo, vR q, vR s, vz hw, vz fy, vj (stp + 1)])) 28 [some (vR a), some (vz p), some (vz wi), some (vz i), none, none, none] [] _
      rw [← eG2]
      refine ab_aload_n d_TH_step_28 rfl ?_
      refine ab_getf (fs := [vR sp, vR wk, vR nw, vR tn, vR nsp, vR tsp, vz nc, vz tc, vR se, vz sta, vR stk, vz fo, vR q, vR s, vz hw, vz fy, vj (stp + 1)]) f_TH_61 d_TH_step_29 ha.2.2 rfl ?_
      refine zz_if_eq (tgt := 53) d_TH_step_32 (by decide) (by omega) (fun c3 => ?_) (fun c3 => ?_)
      · refine ab_aload_n d_TH_step_53 rfl ?_
        refine ab_getf (fs := [vR sp, vR wk, vR nw, vR tn, vR nsp, vR tsp, vz nc, vz tc, vR se, vz sta, vR stk, vz fo, vR q, vR s, vz hw, vz fy, vj (stp + 1)]) f_TH_24 d_TH_step_54 ha.2.2 rfl ?_
        refine ab_iload_n d_TH_step_57 rfl ?_
        refine ab_iload_n d_TH_step_58 rfl ?_
        refine zz_imul d_TH_step_59 ?_
        obtain ⟨v4, hv4⟩ : ∃ z : Int, z = i * wi := ⟨_, rfl⟩
        rw [← hv4]
        have hv4b := z_mulb (a := i) (b := wi) (A := 801) (B := 20) (by omega) (by omega)
        rw [← hv4] at hv4b
        change ab_W _ _ _ G2 60 [some (vR a), some (vz p), some (vz wi), some (vz i), none, none, none] [vz v4, vR nsp] _
        have jiw : (i + 1) * wi ≤ 801 * 20 := Int.mul_le_mul (by omega) (by omega) (by omega) (by omega)
        have jiw2 : (i + 1) * wi = i * wi + wi := by rw [Int.add_mul, Int.one_mul]
        refine ab_aload_n d_TH_step_60 rfl ?_
        refine ab_getf (fs := [vR sp, vR wk, vR nw, vR tn, vR nsp, vR tsp, vz nc, vz tc, vR se, vz sta, vR stk, vz fo, vR q, vR s, vz hw, vz fy, vj (stp + 1)]) f_TH_15 d_TH_step_61 ha.2.2 rfl ?_
        refine zz_iconst d_TH_step_64 ?_
        refine ab_iload_n d_TH_step_65 rfl ?_
        refine zz_copy mj_TH_109 d_TH_step_66 hnsp hwk (hwk.2.1 (by decide)) (by omega) (Nat.le_of_ble_eq_true rfl) (by omega) ?_
        obtain ⟨G5, eG5⟩ : ∃ z : ab_G, z = List.set G2 wk (za 20 (zcpy NS WK v4 0 wi)) := ⟨_, rfl⟩
        have ha := ha.keep hwk eG5 (by decide)
        have hsp := hsp.keep hwk eG5 (by decide)
        have hnw := hnw.keep hwk eG5 (by omega)
        have htn := htn.keep hwk eG5 (by omega)
        have hnsp := hnsp.keep hwk eG5 (by omega)
        have htsp := htsp.keep hwk eG5 (by omega)
        have hse := hse.keep hwk eG5 (by decide)
        have hstk := hstk.keep hwk eG5 (by decide)
        have hq := hq.keep hwk eG5 (by omega)
        have hki := hki.keep hwk eG5 (by omega)
        have hne := hne.keep hwk eG5 (by omega)
        have hot := hot.keep hwk eG5 (by omega)
        have hra := hra.keep hwk eG5 (by omega)
        have hs := hs.keep hwk eG5 (by decide)
        have hco := hco.keep hwk eG5 (by decide)
        have hre := hre.keep hwk eG5 (by decide)
        have hho := hho.keep hwk eG5 (by decide)
        have hlen := (z_len eG5).trans hlen
        have hsl := (z_sl hwk eG5 rfl).trans hsl
        have hfr := hfr.wr hwk eG5 (by decide)
        have hwk := hwk.kept eG5
        change ab_W _ _ _ (List.set G2 wk (za 20 (zcpy NS WK v4 0 wi))) 69 [some (vR a), some (vz p), some (vz wi), some (vz i), none, none, none] [] _
        rw [← eG5]
        have hc_ : fo = 0 ∨ NS (i * wi) ≤ SP 0 := by first | (left; omega) | (right; rw [← hv4]; omega)
        have jg := thr_g jns (i := i) ⟨by omega, by omega⟩ (by omega) (WK := WK)
        rw [← hv4] at jg
        obtain ⟨W6, eW6⟩ : ∃ z : Int → Int, z = zcpy NS WK v4 0 wi := ⟨_, rfl⟩
        rw [← eW6] at jg
        have hk_ : wkO W6 NS (i * wi) wi := by rw [eW6, hv4]; exact wkO_c (by omega)
        have hwk : cc o G5 wk 33 (za 20 W6) := by rw [← eW6.symm]; exact hwk
        obtain ⟨jg1, jg2⟩ := jg
        have jt := jnw i (by omega) (by omega)
        have jti := tho_in jt
        refine ab_aload_n d_TH_step_69 rfl ?_
        refine ab_getf (fs := [vR sp, vR wk, vR nw, vR tn, vR nsp, vR tsp, vz nc, vz tc, vR se, vz sta, vR stk, vz fo, vR q, vR s, vz hw, vz fy, vj (stp + 1)]) f_TH_18 d_TH_step_70 ha.2.2 rfl ?_
        refine ab_iload_n d_TH_step_73 rfl ?_
        refine zz_iald d_TH_step_74 hnw (by omega) ?_
        refine zz_sipush d_TH_step_75 (by decide) ?_
        refine zz_iand 10 1024 d_TH_step_78 (by decide) (by decide) (by decide) (by decide) ?_
        refine ab_istore d_TH_step_79 (Nat.le_of_ble_eq_true rfl) (Nat.le_of_ble_eq_true rfl) rfl ?_
        change ab_W _ _ _ G5 81 [some (vR a), some (vz p), some (vz wi), some (vz i), some (vz ((NW i) % 1024)), none, none] [] _
        refine ab_aload_n d_TH_step_81 rfl ?_
        refine ab_getf (fs := [vR sp, vR wk, vR nw, vR tn, vR nsp, vR tsp, vz nc, vz tc, vR se, vz sta, vR stk, vz fo, vR q, vR s, vz hw, vz fy, vj (stp + 1)]) f_TH_18 d_TH_step_82 ha.2.2 rfl ?_
        refine ab_iload_n d_TH_step_85 rfl ?_
        refine zz_iald d_TH_step_86 hnw (by omega) ?_
        refine zz_sipush d_TH_step_87 (by decide) ?_
        refine zz_icmp_ge (tgt := 108) d_TH_step_90 (by decide) (by omega) (by decide) (fun c7 => ?_) (fun c7 => ?_)
        · have jk := tho_t jt (by omega)
          have jk0_ := (hp (NW i % 1024) (by omega) (by omega)).1
          refine ab_aload_n d_TH_step_108 rfl ?_
          refine ab_getf (fs := [vR sp, vR wk, vR nw, vR tn, vR nsp, vR tsp, vz nc, vz tc, vR se, vz sta, vR stk, vz fo, vR q, vR s, vz hw, vz fy, vj (stp + 1)]) f_TH_18 d_TH_step_109 ha.2.2 rfl ?_
          refine ab_iload_n d_TH_step_112 rfl ?_
          refine zz_iald d_TH_step_113 hnw (by omega) ?_
          refine zz_sipush d_TH_step_114 (by decide) ?_
          refine zz_icmp_lt (tgt := 124) d_TH_step_117 (by decide) (by omega) (by decide) (fun c8 => absurd c8 (by omega)) (fun c8 => ?_)
          refine zz_iconst d_TH_step_120 ?_
          refine ab_goto (tgt := 125) d_TH_step_121 (by decide) ?_
          refine ab_istore d_TH_step_125 (Nat.le_of_ble_eq_true rfl) (Nat.le_of_ble_eq_true rfl) rfl ?_
          change ab_W _ _ _ G5 127 [some (vR a), some (vz p), some (vz wi), some (vz i), some (vz ((NW i) % 1024)), some (vz 1), none] [] _
          refine ab_iload d_TH_step_127 rfl ?_
          refine zz_if_eq (tgt := 144) d_TH_step_129 (by decide) (by decide) (fun c9 => absurd c9 (by decide)) (fun c9 => ?_)
          refine ab_aload_n d_TH_step_132 rfl ?_
          refine ab_getf (fs := [vR sp, vR wk, vR nw, vR tn, vR nsp, vR tsp, vz nc, vz tc, vR se, vz sta, vR stk, vz fo, vR q, vR s, vz hw, vz fy, vj (stp + 1)]) f_TH_40 d_TH_step_133 ha.2.2 rfl ?_
          refine ab_getf (fs := [vR by_, vR co, vR re, vR ho, vz n]) f_TH_118 d_TH_step_136 hs.2.2 rfl ?_
          refine ab_iload_n d_TH_step_139 rfl ?_
          refine zz_iald d_TH_step_140 hre (by omega) ?_
          have hq10 := hsu.r p (by omega) (by omega)
          refine ab_goto (tgt := 158) d_TH_step_141 (by decide) ?_
          refine ab_istore d_TH_step_158 (Nat.le_of_ble_eq_true rfl) (Nat.le_of_ble_eq_true rfl) rfl ?_
          change ab_W _ _ _ G5 160 [some (vR a), some (vz p), some (vz wi), some (vz i), some (vz ((NW i) % 1024)), some (vz 1), some (vz (Rs p))] [] _
          have jv_ := jso.v (vb := (Rs p)) jro (by omega) hsu (by omega) (Or.inr ⟨by omega, rfl⟩)
          refine ab_iload d_TH_step_160 rfl ?_
          refine zz_iconst d_TH_step_162 ?_
          refine zz_icmp_ne (tgt := 186) d_TH_step_163 (by decide) (by omega) (by decide) (fun c11 => ?_) (fun c11 => ?_)
          · refine ab_iload d_TH_step_186 rfl ?_
            refine zz_iconst d_TH_step_188 ?_
            refine zz_icmp_le (tgt := 202) d_TH_step_189 (by decide) (by omega) (by decide) (fun c12 => ?_) (fun c12 => ?_)
            · refine ab_goto (tgt := 258) d_TH_step_202 (by decide) ?_
              refine zz_iinc d_TH_step_258 rfl (Nat.le_of_ble_eq_true rfl) (Nat.le_of_ble_eq_true rfl) rfl ?_
              change ab_W _ _ _ G5 261 [some (vR a), some (vz p), some (vz wi), some (vz (i + 1)), some (vz ((NW i) % 1024)), some (vz 1), some (vz (Rs p))] [] _
              refine ab_goto (tgt := 10) d_TH_step_261 (by decide) ?_
              refine ab_less (L' := [some (vR a), some (vz p), some (vz wi), some (vz (i + 1)), none, none, none]) (fun i v h => by rcases i with _ | _ | _ | _ | _ | _ | _ | i <;> first | exact h | (simp at h)) ?_
              exact ih (tc := tc) (fo := fo) (stp := (stp + 1)) (SP := SP) (WK := W6) (TN := TN) (TS := TS) (SE := SE) (SK := SK) (i := (i + 1)) ha hsp hwk hnw htn hnsp htsp hse hstk hq hki hne hot hra hs hco hre hho (by omega) (by omega) jse jtn jts jsp jspo (by omega) (jso.skip jro (by omega) (jv_.1 (by omega))) hfr hlen hsl (by omega) hk0
            · refine ab_aload_n d_TH_step_192 rfl ?_
              refine ab_iload d_TH_step_193 rfl ?_
              refine zz_sipush d_TH_step_195 (by decide) ?_
              refine zz_iadd d_TH_step_198 ?_
              refine ab_callV (d' := d - 1) (as := [vz (((NW i) % 1024) + 1024)]) (st := []) (r := _) (z_TH_put (o := o) (q := q) (lq := lq) (ki := ki) (ne := ne) (ot := ot) (cnt := cnt) (fi := fi) (la := la) (ra := ra) (ru := ru) (gr := gr) (wi := wi) (sz := sz) (fl := fl) (ve := ve) (mi := mi) (na := na) (nl := nl) (s := s) (a := a) (sp := sp) (wk := wk) (nw := nw) (tn := tn) (nsp := nsp) (tsp := tsp) (se := se) (stk := stk) (nc := nc) (tc := tc) (sta := sta) (fo := fo) (hw := hw) (fy := fy) (stp := (stp + 1)) (WK := W6) (NW := NW) (TN := TN) (NS := NS) (TS := TS) (SE := SE) (l1 := l1) (l2 := l2) (l3 := l3) (l4 := l4) (e := (((NW i) % 1024) + 1024)) ha hwk hnw hnsp htn htsp hse hq (by omega) (by omega) (by omega) jg1 (by omega) jse (by omega) jtn jts (by omega) (tho_w (by omega) jk) (by omega) (by omega)) (fun oc G2 h => by rcases h with ⟨h, _⟩ | ⟨h, _⟩ | ⟨_, _, _, _, h, _⟩ <;> exact ⟨_, h⟩) (by omega) m_TH_put ml_TH_128 im_TH_put se_TH_put c_TH ha.2.2 (Nat.le_of_ble_eq_true rfl) d_TH_step_199 rfl ?_
              intro v G13 hq
              rcases hq with ⟨hv, hGe, hq14⟩ | ⟨hv, hGe, hq15, hq16⟩ | ⟨SE217, TN218, TS219, tc220, hv, hfk, hlk, hsk, hNa, hNwk, hNnw, hNnsp, hNtn, hNtsp, hNse, hq21, hq22, hq23, hq24, hq25⟩
              · cases hv
                rw [hGe]
                change ab_W _ _ _ G5 202 [some (vR a), some (vz p), some (vz wi), some (vz i), some (vz ((NW i) % 1024)), some (vz 1), some (vz (Rs p))] [] _
                refine ab_goto (tgt := 258) d_TH_step_202 (by decide) ?_
                refine zz_iinc d_TH_step_258 rfl (Nat.le_of_ble_eq_true rfl) (Nat.le_of_ble_eq_true rfl) rfl ?_
                change ab_W _ _ _ G5 261 [some (vR a), some (vz p), some (vz wi), some (vz (i + 1)), some (vz ((NW i) % 1024)), some (vz 1), some (vz (Rs p))] [] _
                refine ab_goto (tgt := 10) d_TH_step_261 (by decide) ?_
                refine ab_less (L' := [some (vR a), some (vz p), some (vz wi), some (vz (i + 1)), none, none, none]) (fun i v h => by rcases i with _ | _ | _ | _ | _ | _ | _ | i <;> first | exact h | (simp at h)) ?_
                exact ih (tc := tc) (fo := fo) (stp := (stp + 1)) (SP := SP) (WK := W6) (TN := TN) (TS := TS) (SE := SE) (SK := SK) (i := (i + 1)) ha hsp hwk hnw htn hnsp htsp hse hstk hq hki hne hot hra hs hco hre hho (by omega) (by omega) jse jtn jts jsp jspo (by omega) (jso.wait jro (by omega) hsu (by omega) (jv_.2 (by omega)) (by omega) (by omega) hk_ (by omega) hc_ (Or.inl ⟨hq14, rfl, rfl, rfl, rfl⟩)) hfr hlen hsl (by omega) hk0
              · cases hv
                rw [hGe]
                change ab_W _ _ _ G5 202 [some (vR a), some (vz p), some (vz wi), some (vz i), some (vz ((NW i) % 1024)), some (vz 1), some (vz (Rs p))] [] _
                exfalso
                have hrm_ := jso.room hkk (x := NW i % 1024) (by omega) hq15
                omega
              · cases hv
                have hsp := hfk.get hsp (by decide)
                have hstk := hfk.get hstk (by decide)
                have hq := hfk.get hq (by simp only [List.mem_cons, List.not_mem_nil, or_false]; omega)
                have hki := hfk.get hki (by simp only [List.mem_cons, List.not_mem_nil, or_false]; omega)
                have hne := hfk.get hne (by simp only [List.mem_cons, List.not_mem_nil, or_false]; omega)
                have hot := hfk.get hot (by simp only [List.mem_cons, List.not_mem_nil, or_false]; omega)
                have hra := hfk.get hra (by simp only [List.mem_cons, List.not_mem_nil, or_false]; omega)
                have hs := hfk.get hs (by decide)
                have hco := hfk.get hco (by decide)
                have hre := hfk.get hre (by decide)
                have hho := hfk.get hho (by decide)
                have hfr := hfr.tr hfk (by decide)
                have hlen := hlk.trans hlen
                have hsl := hsk.trans hsl
                have ha := hNa
                have hwk := hNwk
                have hnw := hNnw
                have hnsp := hNnsp
                have htn := hNtn
                have htsp := hNtsp
                have hse := hNse
                change ab_W _ _ _ G13 202 [some (vR a), some (vz p), some (vz wi), some (vz i), some (vz ((NW i) % 1024)), some (vz 1), some (vz (Rs p))] [] _
                refine ab_goto (tgt := 258) d_TH_step_202 (by decide) ?_
                refine zz_iinc d_TH_step_258 rfl (Nat.le_of_ble_eq_true rfl) (Nat.le_of_ble_eq_true rfl) rfl ?_
                change ab_W _ _ _ G13 261 [some (vR a), some (vz p), some (vz wi), some (vz (i + 1)), some (vz ((NW i) % 1024)), some (vz 1), some (vz (Rs p))] [] _
                refine ab_goto (tgt := 10) d_TH_step_261 (by decide) ?_
                refine ab_less (L' := [some (vR a), some (vz p), some (vz wi), some (vz (i + 1)), none, none, none]) (fun i v h => by rcases i with _ | _ | _ | _ | _ | _ | _ | i <;> first | exact h | (simp at h)) ?_
                exact ih (tc := tc220) (fo := fo) (stp := (stp + 1)) (SP := SP) (WK := W6) (TN := TN218) (TS := TS219) (SE := SE217) (SK := SK) (i := (i + 1)) ha hsp hwk hnw htn hnsp htsp hse hstk hq hki hne hot hra hs hco hre hho (by omega) (by omega) hq22 hq23 hq24 jsp jspo (by omega) (jso.wait jro (by omega) hsu (by omega) (jv_.2 (by omega)) (by omega) (by omega) hk_ (by omega) hc_ (Or.inr ⟨hq25, by omega⟩)) hfr hlen hsl (by omega) hk0
          · have jw_ := jv_.2 (by omega)
            have jwn_ := jw_.2.1
            have jw1_ := jw_.1
            rw [show (Rs p) = 1 by omega] at jw1_ jwn_
            refine ab_aload_n d_TH_step_166 rfl ?_
            refine ab_aload_n d_TH_step_167 rfl ?_
            refine ab_getf (fs := [vR sp, vR wk, vR nw, vR tn, vR nsp, vR tsp, vz nc, vz tc, vR se, vz sta, vR stk, vz fo, vR q, vR s, vz hw, vz fy, vj (stp + 1)]) f_TH_36 d_TH_step_168 ha.2.2 rfl ?_
            refine ab_getf (fs := [vR ki, vR ne, vR ot, vz cnt, vz fi, vz la, vR ra, vz ru, vz gr, vz wi, vz sz, vz fl, vz ve, vz mi, vR na, vR nl]) f_TH_125 d_TH_step_171 hq.2.2 rfl ?_
            refine ab_iload d_TH_step_174 rfl ?_
            refine zz_iald d_TH_step_176 hne (by omega) ?_
            have hq26 := hp.n ((NW i) % 1024) (by omega) (by omega)
            refine ab_iload_n d_TH_step_177 rfl ?_
            refine zz_iconst d_TH_step_178 ?_
            refine zz_iadd d_TH_step_179 ?_
            refine ab_callV (d' := d - 1) (as := [vz (N ((NW i) % 1024)), vz (p + 1)]) (st := []) (r := _) (z_TH_follow (o := o) (q := q) (lq := lq) (ki := ki) (ne := ne) (ot := ot) (cnt := cnt) (fi := fi) (la := la) (ra := ra) (ru := ru) (gr := gr) (wi := wi) (sz := sz) (fl := fl) (ve := ve) (mi := mi) (na := na) (nl := nl) (K := K) (N := N) (O := O) (RR := RR) (nr := nr) (s := s) (by_ := by_) (co := co) (re := re) (ho := ho) (n := n) (C := C) (Rs := Rs) (H := H) (mc := mc) (a := a) (sp := sp) (wk := wk) (nw := nw) (tn := tn) (nsp := nsp) (tsp := tsp) (se := se) (stk := stk) (nc := nc) (tc := tc) (sta := sta) (fo := fo) (hw := hw) (fy := fy) (stp := (stp + 1)) (SP := SP) (WK := W6) (NW := NW) (TN := TN) (NS := NS) (TS := TS) (SE := SE) (SK := SK) (l1 := l1) (l2 := l2) (l3 := l3) (l4 := l4) (p := (p + 1)) (x := (N ((NW i) % 1024))) (st := (NS (i * wi))) (Mw := W_) (s0 := s_) (gw := g_) (Lw := L_) ha hsp hwk hnw htn hnsp htsp hse hstk hq hki hne hot hra hs hco hre hho (by omega) hp hr (by omega) hsu (by omega) (by omega) hkk (by omega) (by omega) (by omega) jg1 (by omega) jse jtn jts jso.f jso.2.2.2.2.2.2.2 (jso.gA hk_) hk_.1 jw1_ (by omega)) (fun oc G2 h => by rcases h with ⟨_, _, _, _, _, _, _, h, _⟩ <;> exact ⟨_, h⟩) (by omega) m_TH_follow ml_TH_84 im_TH_follow se_TH_follow c_TH ha.2.2 (Nat.le_of_ble_eq_true rfl) d_TH_step_180 rfl ?_
            intro v G27 hq
            rcases hq with ⟨tc228, st229, SE230, TN231, TS232, SK233, WK234, hv, hfk, hlk, hsk, hNa, hNsp, hNwk, hNnw, hNtn, hNnsp, hNtsp, hNse, hNstk, hq35, hq36, hq37, hq38, hq39, hq40, hq41⟩
            cases hv
            have hq := hfk.get hq (by simp only [List.mem_cons, List.not_mem_nil, or_false]; omega)
            have hki := hfk.get hki (by simp only [List.mem_cons, List.not_mem_nil, or_false]; omega)
            have hne := hfk.get hne (by simp only [List.mem_cons, List.not_mem_nil, or_false]; omega)
            have hot := hfk.get hot (by simp only [List.mem_cons, List.not_mem_nil, or_false]; omega)
            have hra := hfk.get hra (by simp only [List.mem_cons, List.not_mem_nil, or_false]; omega)
            have hs := hfk.get hs (by decide)
            have hco := hfk.get hco (by decide)
            have hre := hfk.get hre (by decide)
            have hho := hfk.get hho (by decide)
            have hfr := hfr.tr hfk (by decide)
            have hlen := hlk.trans hlen
            have hsl := hsk.trans hsl
            have ha := hNa
            have hsp := hNsp
            have hwk := hNwk
            have hnw := hNnw
            have htn := hNtn
            have hnsp := hNnsp
            have htsp := hNtsp
            have hse := hNse
            have hstk := hNstk
            change ab_W _ _ _ G27 183 [some (vR a), some (vz p), some (vz wi), some (vz i), some (vz ((NW i) % 1024)), some (vz 1), some (vz (Rs p))] [] _
            refine ab_goto (tgt := 202) d_TH_step_183 (by decide) ?_
            refine ab_goto (tgt := 258) d_TH_step_202 (by decide) ?_
            refine zz_iinc d_TH_step_258 rfl (Nat.le_of_ble_eq_true rfl) (Nat.le_of_ble_eq_true rfl) rfl ?_
            change ab_W _ _ _ G27 261 [some (vR a), some (vz p), some (vz wi), some (vz (i + 1)), some (vz ((NW i) % 1024)), some (vz 1), some (vz (Rs p))] [] _
            refine ab_goto (tgt := 10) d_TH_step_261 (by decide) ?_
            refine ab_less (L' := [some (vR a), some (vz p), some (vz wi), some (vz (i + 1)), none, none, none]) (fun i v h => by rcases i with _ | _ | _ | _ | _ | _ | _ | i <;> first | exact h | (simp at h)) ?_
            exact ih (tc := tc228) (fo := fo) (stp := st229) (SP := SP) (WK := WK234) (TN := TN231) (TS := TS232) (SE := SE230) (SK := SK233) (i := (i + 1)) ha hsp hwk hnw htn hnsp htsp hse hstk hq hki hne hot hra hs hco hre hho (by omega) (by omega) hq38 hq39 hq40 jsp jspo (by omega) (jso.move jro (by omega) hq41 hc_ hsu (by omega)) hfr hlen hsl (by omega) hk0
        · refine ab_aload_n d_TH_step_93 rfl ?_
          refine ab_getf (fs := [vR sp, vR wk, vR nw, vR tn, vR nsp, vR tsp, vz nc, vz tc, vR se, vz sta, vR stk, vz fo, vR q, vR s, vz hw, vz fy, vj (stp + 1)]) f_TH_36 d_TH_step_94 ha.2.2 rfl ?_
          refine ab_getf (fs := [vR ki, vR ne, vR ot, vz cnt, vz fi, vz la, vR ra, vz ru, vz gr, vz wi, vz sz, vz fl, vz ve, vz mi, vR na, vR nl]) f_TH_115 d_TH_step_97 hq.2.2 rfl ?_
          refine ab_iload d_TH_step_100 rfl ?_
          refine zz_iald d_TH_step_102 hki (by omega) ?_
          have hq42 := hp.k ((NW i) % 1024) (by omega) (by omega)
          refine zz_bipush d_TH_step_103 (by decide) ?_
          refine zz_icmp_eq (tgt := 205) d_TH_step_105 (by decide) (by omega) (by decide) (fun c43 => ?_) (fun c43 => ?_)
          · refine ab_aload_n d_TH_step_205 rfl ?_
            refine ab_getf (fs := [vR sp, vR wk, vR nw, vR tn, vR nsp, vR tsp, vz nc, vz tc, vR se, vz sta, vR stk, vz fo, vR q, vR s, vz hw, vz fy, vj (stp + 1)]) f_TH_44 d_TH_step_206 ha.2.2 rfl ?_
            refine zz_iconst d_TH_step_209 ?_
            refine zz_icmp_ne (tgt := 224) d_TH_step_210 (by decide) (by omega) (by decide) (fun c44 => ?_) (fun c44 => ?_)
            · refine ab_aload_n d_TH_step_224 rfl ?_
              refine ab_getf (fs := [vR sp, vR wk, vR nw, vR tn, vR nsp, vR tsp, vz nc, vz tc, vR se, vz sta, vR stk, vz fo, vR q, vR s, vz hw, vz fy, vj (stp + 1)]) f_TH_15 d_TH_step_225 ha.2.2 rfl ?_
              refine zz_iconst d_TH_step_228 ?_
              refine ab_aload_n d_TH_step_229 rfl ?_
              refine ab_getf (fs := [vR sp, vR wk, vR nw, vR tn, vR nsp, vR tsp, vz nc, vz tc, vR se, vz sta, vR stk, vz fo, vR q, vR s, vz hw, vz fy, vj (stp + 1)]) f_TH_9 d_TH_step_230 ha.2.2 rfl ?_
              refine zz_iconst d_TH_step_233 ?_
              refine ab_iload_n d_TH_step_234 rfl ?_
              refine zz_copy mj_TH_109 d_TH_step_235 hwk hsp (hsp.2.1 (by decide)) (by omega) (Nat.le_of_ble_eq_true rfl) (by omega) ?_
              obtain ⟨G45, eG45⟩ : ∃ z : ab_G, z = List.set G5 sp (za 20 (zcpy W6 SP 0 0 wi)) := ⟨_, rfl⟩
              have ha := ha.keep hsp eG45 (by decide)
              have hwk := hwk.keep hsp eG45 (by decide)
              have hnw := hnw.keep hsp eG45 (by omega)
              have htn := htn.keep hsp eG45 (by omega)
              have hnsp := hnsp.keep hsp eG45 (by omega)
              have htsp := htsp.keep hsp eG45 (by omega)
              have hse := hse.keep hsp eG45 (by decide)
              have hstk := hstk.keep hsp eG45 (by decide)
              have hq := hq.keep hsp eG45 (by omega)
              have hki := hki.keep hsp eG45 (by omega)
              have hne := hne.keep hsp eG45 (by omega)
              have hot := hot.keep hsp eG45 (by omega)
              have hra := hra.keep hsp eG45 (by omega)
              have hs := hs.keep hsp eG45 (by decide)
              have hco := hco.keep hsp eG45 (by decide)
              have hre := hre.keep hsp eG45 (by decide)
              have hho := hho.keep hsp eG45 (by decide)
              have hlen := (z_len eG45).trans hlen
              have hsl := (z_sl hsp eG45 rfl).trans hsl
              have hfr := hfr.wr hsp eG45 (by decide)
              have hsp := hsp.kept eG45
              change ab_W _ _ _ (List.set G5 sp (za 20 (zcpy W6 SP 0 0 wi))) 238 [some (vR a), some (vz p), some (vz wi), some (vz i), some (vz ((NW i) % 1024)), none, none] [] _
              rw [← eG45]
              refine ab_aload_n d_TH_step_238 rfl ?_
              refine ab_getf (fs := [vR sp, vR wk, vR nw, vR tn, vR nsp, vR tsp, vz nc, vz tc, vR se, vz sta, vR stk, vz fo, vR q, vR s, vz hw, vz fy, vj (stp + 1)]) f_TH_9 d_TH_step_239 ha.2.2 rfl ?_
              refine zz_iconst d_TH_step_242 ?_
              refine ab_iload_n d_TH_step_243 rfl ?_
              refine zz_iast d_TH_step_244 hsp (by omega) (hsp.2.1 (by decide)) ?_
              obtain ⟨G46, eG46⟩ : ∃ z : ab_G, z = List.set G45 sp (za 20 (zu (zcpy W6 SP 0 0 wi) 1 p)) := ⟨_, rfl⟩
              have ha := ha.keep hsp eG46 (by decide)
              have hwk := hwk.keep hsp eG46 (by decide)
              have hnw := hnw.keep hsp eG46 (by omega)
              have htn := htn.keep hsp eG46 (by omega)
              have hnsp := hnsp.keep hsp eG46 (by omega)
              have htsp := htsp.keep hsp eG46 (by omega)
              have hse := hse.keep hsp eG46 (by decide)
              have hstk := hstk.keep hsp eG46 (by decide)
              have hq := hq.keep hsp eG46 (by omega)
              have hki := hki.keep hsp eG46 (by omega)
              have hne := hne.keep hsp eG46 (by omega)
              have hot := hot.keep hsp eG46 (by omega)
              have hra := hra.keep hsp eG46 (by omega)
              have hs := hs.keep hsp eG46 (by decide)
              have hco := hco.keep hsp eG46 (by decide)
              have hre := hre.keep hsp eG46 (by decide)
              have hho := hho.keep hsp eG46 (by decide)
              have hlen := (z_len eG46).trans hlen
              have hsl := (z_sl hsp eG46 rfl).trans hsl
              have hfr := hfr.wr hsp eG46 (by decide)
              have hsp := hsp.kept eG46
              change ab_W _ _ _ (List.set G45 sp (za 20 (zu (zcpy W6 SP 0 0 wi) 1 p))) 245 [some (vR a), some (vz p), some (vz wi), some (vz i), some (vz ((NW i) % 1024)), none, none] [] _
              rw [← eG46]
              refine ab_aload_n d_TH_step_245 rfl ?_
              refine zz_iconst d_TH_step_246 ?_
              refine ab_putf (fs := [vR sp, vR wk, vR nw, vR tn, vR nsp, vR tsp, vz nc, vz tc, vR se, vz sta, vR stk, vz fo, vR q, vR s, vz hw, vz fy, vj (stp + 1)]) f_TH_61 (Or.inl rfl) d_TH_step_247 ha.2.2 (Nat.le_of_ble_eq_true rfl) (ab_fbz (by decide)) (ha.2.1 (by decide)) ?_
              obtain ⟨G47, eG47⟩ : ∃ z : ab_G, z = List.set G46 a (ab_ob 11 [vR sp, vR wk, vR nw, vR tn, vR nsp, vR tsp, vz nc, vz tc, vR se, vz sta, vR stk, vz 1, vR q, vR s, vz hw, vz fy, vj (stp + 1)]) := ⟨_, rfl⟩
              have hsp := hsp.keep ha eG47 (by decide)
              have hwk := hwk.keep ha eG47 (by decide)
              have hnw := hnw.keep ha eG47 (by omega)
              have htn := htn.keep ha eG47 (by omega)
              have hnsp := hnsp.keep ha eG47 (by omega)
              have htsp := htsp.keep ha eG47 (by omega)
              have hse := hse.keep ha eG47 (by decide)
              have hstk := hstk.keep ha eG47 (by decide)
              have hq := hq.keep ha eG47 (by omega)
              have hki := hki.keep ha eG47 (by omega)
              have hne := hne.keep ha eG47 (by omega)
              have hot := hot.keep ha eG47 (by omega)
              have hra := hra.keep ha eG47 (by omega)
              have hs := hs.keep ha eG47 (by decide)
              have hco := hco.keep ha eG47 (by decide)
              have hre := hre.keep ha eG47 (by decide)
              have hho := hho.keep ha eG47 (by decide)
              have hlen := (z_len eG47).trans hlen
              have hsl := (z_sl ha eG47 rfl).trans hsl
              have hfr := hfr.wr ha eG47 (by decide)
              have ha := ha.kept eG47
              change ab_W _ _ _ (List.set G46 a (ab_ob 11 [vR sp, vR wk, vR nw, vR tn, vR nsp, vR tsp, vz nc, vz tc, vR se, vz sta, vR stk, vz 1, vR q, vR s, vz hw, vz fy, vj (stp + 1)])) 250 [some (vR a), some (vz p), some (vz wi), some (vz i), some (vz ((NW i) % 1024)), none, none] [] _
              rw [← eG47]
              refine ab_aload_n d_TH_step_250 rfl ?_
              refine ab_getf (fs := [vR sp, vR wk, vR nw, vR tn, vR nsp, vR tsp, vz nc, vz tc, vR se, vz sta, vR stk, vz 1, vR q, vR s, vz hw, vz fy, vj (stp + 1)]) f_TH_54 d_TH_step_251 ha.2.2 rfl ?_
              refine zz_if_eq (tgt := 258) d_TH_step_254 (by decide) (by omega) (fun c48 => ?_) (fun c48 => ?_)
              · refine zz_iinc d_TH_step_258 rfl (Nat.le_of_ble_eq_true rfl) (Nat.le_of_ble_eq_true rfl) rfl ?_
                change ab_W _ _ _ G47 261 [some (vR a), some (vz p), some (vz wi), some (vz (i + 1)), some (vz ((NW i) % 1024)), none, none] [] _
                refine ab_goto (tgt := 10) d_TH_step_261 (by decide) ?_
                refine ab_less (L' := [some (vR a), some (vz p), some (vz wi), some (vz (i + 1)), none, none, none]) (fun i v h => by rcases i with _ | _ | _ | _ | _ | _ | _ | i <;> first | exact h | (simp at h)) ?_
                exact ih (tc := tc) (fo := 1) (stp := (stp + 1)) (SP := (zu (zcpy W6 SP 0 0 wi) 1 p)) (WK := W6) (TN := TN) (TS := TS) (SE := SE) (SK := SK) (i := (i + 1)) ha hsp hwk hnw htn hnsp htsp hse hstk hq hki hne hot hra hs hco hre hho (by omega) (by omega) jse jtn jts (rgs_zu (rgs_cpy jg1 jsp (by omega)) (by omega)) (spo_arr jg1 jg2 (by omega) (by omega)) (by omega) (jso.long jro (by omega) (by omega) (by omega) (by omega) (by omega) hc_ hk_ (by omega) hsu (by omega) hkk jnw (fun z a b => (hp.k z a b).1)) hfr hlen hsl (by omega) hk0
              · refine ab_vret rfl d_TH_step_257 ?_
                exact hk0 _ _ _ _ _ _ _ _ _ _ ha hsp hwk hnw htn hnsp htsp hse hstk (by omega) (by omega) (by first | exact (rgs_zu (rgs_cpy jg1 jsp (by omega)) (by omega)) | exact rgs_w (rgs_zu (rgs_cpy jg1 jsp (by omega)) (by omega)) (by omega)) (by first | exact jse | exact rgs_w jse (by omega)) (by exact jtn) (by exact jts) (by exact (spo_arr jg1 jg2 (by omega) (by omega))) (by exact jso.first jro (by omega) (by omega) (by omega) (by omega) (by omega) hc_ hk_ (by omega)) hfr hlen hsl
            · refine ab_iload_n d_TH_step_213 rfl ?_
              refine ab_aload_n d_TH_step_214 rfl ?_
              refine ab_getf (fs := [vR sp, vR wk, vR nw, vR tn, vR nsp, vR tsp, vz nc, vz tc, vR se, vz sta, vR stk, vz fo, vR q, vR s, vz hw, vz fy, vj (stp + 1)]) f_TH_40 d_TH_step_215 ha.2.2 rfl ?_
              refine ab_getf (fs := [vR by_, vR co, vR re, vR ho, vz n]) f_TH_67 d_TH_step_218 hs.2.2 rfl ?_
              refine zz_icmp_ne (tgt := 258) d_TH_step_221 (by decide) (by omega) (by omega) (fun c49 => ?_) (fun c49 => ?_)
              · refine zz_iinc d_TH_step_258 rfl (Nat.le_of_ble_eq_true rfl) (Nat.le_of_ble_eq_true rfl) rfl ?_
                change ab_W _ _ _ G5 261 [some (vR a), some (vz p), some (vz wi), some (vz (i + 1)), some (vz ((NW i) % 1024)), none, none] [] _
                refine ab_goto (tgt := 10) d_TH_step_261 (by decide) ?_
                refine ab_less (L' := [some (vR a), some (vz p), some (vz wi), some (vz (i + 1)), none, none, none]) (fun i v h => by rcases i with _ | _ | _ | _ | _ | _ | _ | i <;> first | exact h | (simp at h)) ?_
                exact ih (tc := tc) (fo := fo) (stp := (stp + 1)) (SP := SP) (WK := W6) (TN := TN) (TS := TS) (SE := SE) (SK := SK) (i := (i + 1)) ha hsp hwk hnw htn hnsp htsp hse hstk hq hki hne hot hra hs hco hre hho (by omega) (by omega) jse jtn jts jsp jspo (by omega) (jso.miss jro (by omega) (by omega) (by omega) (by omega)) hfr hlen hsl (by omega) hk0
              · refine ab_aload_n d_TH_step_224 rfl ?_
                refine ab_getf (fs := [vR sp, vR wk, vR nw, vR tn, vR nsp, vR tsp, vz nc, vz tc, vR se, vz sta, vR stk, vz fo, vR q, vR s, vz hw, vz fy, vj (stp + 1)]) f_TH_15 d_TH_step_225 ha.2.2 rfl ?_
                refine zz_iconst d_TH_step_228 ?_
                refine ab_aload_n d_TH_step_229 rfl ?_
                refine ab_getf (fs := [vR sp, vR wk, vR nw, vR tn, vR nsp, vR tsp, vz nc, vz tc, vR se, vz sta, vR stk, vz fo, vR q, vR s, vz hw, vz fy, vj (stp + 1)]) f_TH_9 d_TH_step_230 ha.2.2 rfl ?_
                refine zz_iconst d_TH_step_233 ?_
                refine ab_iload_n d_TH_step_234 rfl ?_
                refine zz_copy mj_TH_109 d_TH_step_235 hwk hsp (hsp.2.1 (by decide)) (by omega) (Nat.le_of_ble_eq_true rfl) (by omega) ?_
                obtain ⟨G50, eG50⟩ : ∃ z : ab_G, z = List.set G5 sp (za 20 (zcpy W6 SP 0 0 wi)) := ⟨_, rfl⟩
                have ha := ha.keep hsp eG50 (by decide)
                have hwk := hwk.keep hsp eG50 (by decide)
                have hnw := hnw.keep hsp eG50 (by omega)
                have htn := htn.keep hsp eG50 (by omega)
                have hnsp := hnsp.keep hsp eG50 (by omega)
                have htsp := htsp.keep hsp eG50 (by omega)
                have hse := hse.keep hsp eG50 (by decide)
                have hstk := hstk.keep hsp eG50 (by decide)
                have hq := hq.keep hsp eG50 (by omega)
                have hki := hki.keep hsp eG50 (by omega)
                have hne := hne.keep hsp eG50 (by omega)
                have hot := hot.keep hsp eG50 (by omega)
                have hra := hra.keep hsp eG50 (by omega)
                have hs := hs.keep hsp eG50 (by decide)
                have hco := hco.keep hsp eG50 (by decide)
                have hre := hre.keep hsp eG50 (by decide)
                have hho := hho.keep hsp eG50 (by decide)
                have hlen := (z_len eG50).trans hlen
                have hsl := (z_sl hsp eG50 rfl).trans hsl
                have hfr := hfr.wr hsp eG50 (by decide)
                have hsp := hsp.kept eG50
                change ab_W _ _ _ (List.set G5 sp (za 20 (zcpy W6 SP 0 0 wi))) 238 [some (vR a), some (vz p), some (vz wi), some (vz i), some (vz ((NW i) % 1024)), none, none] [] _
                rw [← eG50]
                refine ab_aload_n d_TH_step_238 rfl ?_
                refine ab_getf (fs := [vR sp, vR wk, vR nw, vR tn, vR nsp, vR tsp, vz nc, vz tc, vR se, vz sta, vR stk, vz fo, vR q, vR s, vz hw, vz fy, vj (stp + 1)]) f_TH_9 d_TH_step_239 ha.2.2 rfl ?_
                refine zz_iconst d_TH_step_242 ?_
                refine ab_iload_n d_TH_step_243 rfl ?_
                refine zz_iast d_TH_step_244 hsp (by omega) (hsp.2.1 (by decide)) ?_
                obtain ⟨G51, eG51⟩ : ∃ z : ab_G, z = List.set G50 sp (za 20 (zu (zcpy W6 SP 0 0 wi) 1 p)) := ⟨_, rfl⟩
                have ha := ha.keep hsp eG51 (by decide)
                have hwk := hwk.keep hsp eG51 (by decide)
                have hnw := hnw.keep hsp eG51 (by omega)
                have htn := htn.keep hsp eG51 (by omega)
                have hnsp := hnsp.keep hsp eG51 (by omega)
                have htsp := htsp.keep hsp eG51 (by omega)
                have hse := hse.keep hsp eG51 (by decide)
                have hstk := hstk.keep hsp eG51 (by decide)
                have hq := hq.keep hsp eG51 (by omega)
                have hki := hki.keep hsp eG51 (by omega)
                have hne := hne.keep hsp eG51 (by omega)
                have hot := hot.keep hsp eG51 (by omega)
                have hra := hra.keep hsp eG51 (by omega)
                have hs := hs.keep hsp eG51 (by decide)
                have hco := hco.keep hsp eG51 (by decide)
                have hre := hre.keep hsp eG51 (by decide)
                have hho := hho.keep hsp eG51 (by decide)
                have hlen := (z_len eG51).trans hlen
                have hsl := (z_sl hsp eG51 rfl).trans hsl
                have hfr := hfr.wr hsp eG51 (by decide)
                have hsp := hsp.kept eG51
                change ab_W _ _ _ (List.set G50 sp (za 20 (zu (zcpy W6 SP 0 0 wi) 1 p))) 245 [some (vR a), some (vz p), some (vz wi), some (vz i), some (vz ((NW i) % 1024)), none, none] [] _
                rw [← eG51]
                refine ab_aload_n d_TH_step_245 rfl ?_
                refine zz_iconst d_TH_step_246 ?_
                refine ab_putf (fs := [vR sp, vR wk, vR nw, vR tn, vR nsp, vR tsp, vz nc, vz tc, vR se, vz sta, vR stk, vz fo, vR q, vR s, vz hw, vz fy, vj (stp + 1)]) f_TH_61 (Or.inl rfl) d_TH_step_247 ha.2.2 (Nat.le_of_ble_eq_true rfl) (ab_fbz (by decide)) (ha.2.1 (by decide)) ?_
                obtain ⟨G52, eG52⟩ : ∃ z : ab_G, z = List.set G51 a (ab_ob 11 [vR sp, vR wk, vR nw, vR tn, vR nsp, vR tsp, vz nc, vz tc, vR se, vz sta, vR stk, vz 1, vR q, vR s, vz hw, vz fy, vj (stp + 1)]) := ⟨_, rfl⟩
                have hsp := hsp.keep ha eG52 (by decide)
                have hwk := hwk.keep ha eG52 (by decide)
                have hnw := hnw.keep ha eG52 (by omega)
                have htn := htn.keep ha eG52 (by omega)
                have hnsp := hnsp.keep ha eG52 (by omega)
                have htsp := htsp.keep ha eG52 (by omega)
                have hse := hse.keep ha eG52 (by decide)
                have hstk := hstk.keep ha eG52 (by decide)
                have hq := hq.keep ha eG52 (by omega)
                have hki := hki.keep ha eG52 (by omega)
                have hne := hne.keep ha eG52 (by omega)
                have hot := hot.keep ha eG52 (by omega)
                have hra := hra.keep ha eG52 (by omega)
                have hs := hs.keep ha eG52 (by decide)
                have hco := hco.keep ha eG52 (by decide)
                have hre := hre.keep ha eG52 (by decide)
                have hho := hho.keep ha eG52 (by decide)
                have hlen := (z_len eG52).trans hlen
                have hsl := (z_sl ha eG52 rfl).trans hsl
                have hfr := hfr.wr ha eG52 (by decide)
                have ha := ha.kept eG52
                change ab_W _ _ _ (List.set G51 a (ab_ob 11 [vR sp, vR wk, vR nw, vR tn, vR nsp, vR tsp, vz nc, vz tc, vR se, vz sta, vR stk, vz 1, vR q, vR s, vz hw, vz fy, vj (stp + 1)])) 250 [some (vR a), some (vz p), some (vz wi), some (vz i), some (vz ((NW i) % 1024)), none, none] [] _
                rw [← eG52]
                refine ab_aload_n d_TH_step_250 rfl ?_
                refine ab_getf (fs := [vR sp, vR wk, vR nw, vR tn, vR nsp, vR tsp, vz nc, vz tc, vR se, vz sta, vR stk, vz 1, vR q, vR s, vz hw, vz fy, vj (stp + 1)]) f_TH_54 d_TH_step_251 ha.2.2 rfl ?_
                refine zz_if_eq (tgt := 258) d_TH_step_254 (by decide) (by omega) (fun c53 => ?_) (fun c53 => ?_)
                · refine zz_iinc d_TH_step_258 rfl (Nat.le_of_ble_eq_true rfl) (Nat.le_of_ble_eq_true rfl) rfl ?_
                  change ab_W _ _ _ G52 261 [some (vR a), some (vz p), some (vz wi), some (vz (i + 1)), some (vz ((NW i) % 1024)), none, none] [] _
                  refine ab_goto (tgt := 10) d_TH_step_261 (by decide) ?_
                  refine ab_less (L' := [some (vR a), some (vz p), some (vz wi), some (vz (i + 1)), none, none, none]) (fun i v h => by rcases i with _ | _ | _ | _ | _ | _ | _ | i <;> first | exact h | (simp at h)) ?_
                  exact ih (tc := tc) (fo := 1) (stp := (stp + 1)) (SP := (zu (zcpy W6 SP 0 0 wi) 1 p)) (WK := W6) (TN := TN) (TS := TS) (SE := SE) (SK := SK) (i := (i + 1)) ha hsp hwk hnw htn hnsp htsp hse hstk hq hki hne hot hra hs hco hre hho (by omega) (by omega) jse jtn jts (rgs_zu (rgs_cpy jg1 jsp (by omega)) (by omega)) (spo_arr jg1 jg2 (by omega) (by omega)) (by omega) (jso.long jro (by omega) (by omega) (by omega) (by omega) (by omega) hc_ hk_ (by omega) hsu (by omega) hkk jnw (fun z a b => (hp.k z a b).1)) hfr hlen hsl (by omega) hk0
                · refine ab_vret rfl d_TH_step_257 ?_
                  exact hk0 _ _ _ _ _ _ _ _ _ _ ha hsp hwk hnw htn hnsp htsp hse hstk (by omega) (by omega) (by first | exact (rgs_zu (rgs_cpy jg1 jsp (by omega)) (by omega)) | exact rgs_w (rgs_zu (rgs_cpy jg1 jsp (by omega)) (by omega)) (by omega)) (by first | exact jse | exact rgs_w jse (by omega)) (by exact jtn) (by exact jts) (by exact (spo_arr jg1 jg2 (by omega) (by omega))) (by exact jso.first jro (by omega) (by omega) (by omega) (by omega) (by omega) hc_ hk_ (by omega)) hfr hlen hsl
          · have jk := tho_t jt (by omega)
            have jk0_ := (hp (NW i % 1024) (by omega) (by omega)).1
            refine ab_aload_n d_TH_step_108 rfl ?_
            refine ab_getf (fs := [vR sp, vR wk, vR nw, vR tn, vR nsp, vR tsp, vz nc, vz tc, vR se, vz sta, vR stk, vz fo, vR q, vR s, vz hw, vz fy, vj (stp + 1)]) f_TH_18 d_TH_step_109 ha.2.2 rfl ?_
            refine ab_iload_n d_TH_step_112 rfl ?_
            refine zz_iald d_TH_step_113 hnw (by omega) ?_
            refine zz_sipush d_TH_step_114 (by decide) ?_
            refine zz_icmp_lt (tgt := 124) d_TH_step_117 (by decide) (by omega) (by decide) (fun c54 => ?_) (fun c54 => absurd c54 (by omega))
            refine zz_iconst d_TH_step_124 ?_
            refine ab_istore d_TH_step_125 (Nat.le_of_ble_eq_true rfl) (Nat.le_of_ble_eq_true rfl) rfl ?_
            change ab_W _ _ _ G5 127 [some (vR a), some (vz p), some (vz wi), some (vz i), some (vz ((NW i) % 1024)), some (vz 0), none] [] _
            refine ab_iload d_TH_step_127 rfl ?_
            refine zz_if_eq (tgt := 144) d_TH_step_129 (by decide) (by decide) (fun c55 => ?_) (fun c55 => absurd c55 (by decide))
            refine ab_aload_n d_TH_step_144 rfl ?_
            refine ab_getf (fs := [vR sp, vR wk, vR nw, vR tn, vR nsp, vR tsp, vz nc, vz tc, vR se, vz sta, vR stk, vz fo, vR q, vR s, vz hw, vz fy, vj (stp + 1)]) f_TH_36 d_TH_step_145 ha.2.2 rfl ?_
            refine ab_iload d_TH_step_148 rfl ?_
            refine ab_aload_n d_TH_step_150 rfl ?_
            refine ab_getf (fs := [vR sp, vR wk, vR nw, vR tn, vR nsp, vR tsp, vz nc, vz tc, vR se, vz sta, vR stk, vz fo, vR q, vR s, vz hw, vz fy, vj (stp + 1)]) f_TH_40 d_TH_step_151 ha.2.2 rfl ?_
            refine ab_iload_n d_TH_step_154 rfl ?_
            refine ab_callV (d' := d - 1) (as := [vz ((NW i) % 1024), vR s, vz p]) (st := []) (r := _) (z_PR_bytesTaken (o := o) (q := q) (lq := lq) (ki := ki) (ne := ne) (ot := ot) (cnt := cnt) (fi := fi) (la := la) (ra := ra) (ru := ru) (gr := gr) (wi := wi) (sz := sz) (fl := fl) (ve := ve) (mi := mi) (na := na) (nl := nl) (K := K) (O := O) (RR := RR) (nr := nr) (s := s) (by_ := by_) (co := co) (re := re) (ho := ho) (n := n) (C := C) (Rs := Rs) (mc := mc) (x := ((NW i) % 1024)) (p := p) hq hki hot hra hs hco hre (by omega) (by omega) hp hr (by omega) hsu (by omega)) (fun oc G2 h => by rcases h with ⟨_, h, _⟩ <;> exact ⟨_, h⟩) (by omega) m_PR_bytesTaken ml_TH_121 im_PR_bytesTaken se_PR_bytesTaken c_PR hq.2.2 (Nat.le_of_ble_eq_true rfl) d_TH_step_155 rfl ?_
            intro v G56 hq
            rcases hq with ⟨v57, hv, hfk, hlk, hsk, hq58, hq59⟩
            cases hv
            have ha := hfk.get ha (by decide)
            have hsp := hfk.get hsp (by decide)
            have hwk := hfk.get hwk (by decide)
            have hnw := hfk.get hnw (by simp)
            have htn := hfk.get htn (by simp)
            have hnsp := hfk.get hnsp (by simp)
            have htsp := hfk.get htsp (by simp)
            have hse := hfk.get hse (by decide)
            have hstk := hfk.get hstk (by decide)
            have hq := hfk.get hq (by simp)
            have hki := hfk.get hki (by simp)
            have hne := hfk.get hne (by simp)
            have hot := hfk.get hot (by simp)
            have hra := hfk.get hra (by simp)
            have hs := hfk.get hs (by decide)
            have hco := hfk.get hco (by decide)
            have hre := hfk.get hre (by decide)
            have hho := hfk.get hho (by decide)
            have hfr := hfr.tr hfk (by decide)
            have hlen := hlk.trans hlen
            have hsl := hsk.trans hsl
            change ab_W _ _ _ G56 158 [some (vR a), some (vz p), some (vz wi), some (vz i), some (vz ((NW i) % 1024)), some (vz 0), none] [vz v57] _
            refine ab_istore d_TH_step_158 (Nat.le_of_ble_eq_true rfl) (Nat.le_of_ble_eq_true rfl) rfl ?_
            change ab_W _ _ _ G56 160 [some (vR a), some (vz p), some (vz wi), some (vz i), some (vz ((NW i) % 1024)), some (vz 0), some (vz v57)] [] _
            have jv_ := jso.v (vb := v57) jro (by omega) hsu (by omega) (Or.inl ⟨by omega, by omega, hq58⟩)
            refine ab_iload d_TH_step_160 rfl ?_
            refine zz_iconst d_TH_step_162 ?_
            refine zz_icmp_ne (tgt := 186) d_TH_step_163 (by decide) (by omega) (by decide) (fun c60 => ?_) (fun c60 => ?_)
            · refine ab_iload d_TH_step_186 rfl ?_
              refine zz_iconst d_TH_step_188 ?_
              refine zz_icmp_le (tgt := 202) d_TH_step_189 (by decide) (by omega) (by decide) (fun c61 => ?_) (fun c61 => ?_)
              · refine ab_goto (tgt := 258) d_TH_step_202 (by decide) ?_
                refine zz_iinc d_TH_step_258 rfl (Nat.le_of_ble_eq_true rfl) (Nat.le_of_ble_eq_true rfl) rfl ?_
                change ab_W _ _ _ G56 261 [some (vR a), some (vz p), some (vz wi), some (vz (i + 1)), some (vz ((NW i) % 1024)), some (vz 0), some (vz v57)] [] _
                refine ab_goto (tgt := 10) d_TH_step_261 (by decide) ?_
                refine ab_less (L' := [some (vR a), some (vz p), some (vz wi), some (vz (i + 1)), none, none, none]) (fun i v h => by rcases i with _ | _ | _ | _ | _ | _ | _ | i <;> first | exact h | (simp at h)) ?_
                exact ih (tc := tc) (fo := fo) (stp := (stp + 1)) (SP := SP) (WK := W6) (TN := TN) (TS := TS) (SE := SE) (SK := SK) (i := (i + 1)) ha hsp hwk hnw htn hnsp htsp hse hstk hq hki hne hot hra hs hco hre hho (by omega) (by omega) jse jtn jts jsp jspo (by omega) (jso.skip jro (by omega) (jv_.1 (by omega))) hfr hlen hsl (by omega) hk0
              · refine ab_aload_n d_TH_step_192 rfl ?_
                refine ab_iload d_TH_step_193 rfl ?_
                refine zz_sipush d_TH_step_195 (by decide) ?_
                refine zz_iadd d_TH_step_198 ?_
                refine ab_callV (d' := d - 1) (as := [vz (((NW i) % 1024) + 1024)]) (st := []) (r := _) (z_TH_put (o := o) (q := q) (lq := lq) (ki := ki) (ne := ne) (ot := ot) (cnt := cnt) (fi := fi) (la := la) (ra := ra) (ru := ru) (gr := gr) (wi := wi) (sz := sz) (fl := fl) (ve := ve) (mi := mi) (na := na) (nl := nl) (s := s) (a := a) (sp := sp) (wk := wk) (nw := nw) (tn := tn) (nsp := nsp) (tsp := tsp) (se := se) (stk := stk) (nc := nc) (tc := tc) (sta := sta) (fo := fo) (hw := hw) (fy := fy) (stp := (stp + 1)) (WK := W6) (NW := NW) (TN := TN) (NS := NS) (TS := TS) (SE := SE) (l1 := l1) (l2 := l2) (l3 := l3) (l4 := l4) (e := (((NW i) % 1024) + 1024)) ha hwk hnw hnsp htn htsp hse hq (by omega) (by omega) (by omega) jg1 (by omega) jse (by omega) jtn jts (by omega) (tho_w (by omega) jk) (by omega) (by omega)) (fun oc G2 h => by rcases h with ⟨h, _⟩ | ⟨h, _⟩ | ⟨_, _, _, _, h, _⟩ <;> exact ⟨_, h⟩) (by omega) m_TH_put ml_TH_128 im_TH_put se_TH_put c_TH ha.2.2 (Nat.le_of_ble_eq_true rfl) d_TH_step_199 rfl ?_
                intro v G62 hq
                rcases hq with ⟨hv, hGe, hq63⟩ | ⟨hv, hGe, hq64, hq65⟩ | ⟨SE266, TN267, TS268, tc269, hv, hfk, hlk, hsk, hNa, hNwk, hNnw, hNnsp, hNtn, hNtsp, hNse, hq70, hq71, hq72, hq73, hq74⟩
                · cases hv
                  rw [hGe]
                  change ab_W _ _ _ G56 202 [some (vR a), some (vz p), some (vz wi), some (vz i), some (vz ((NW i) % 1024)), some (vz 0), some (vz v57)] [] _
                  refine ab_goto (tgt := 258) d_TH_step_202 (by decide) ?_
                  refine zz_iinc d_TH_step_258 rfl (Nat.le_of_ble_eq_true rfl) (Nat.le_of_ble_eq_true rfl) rfl ?_
                  change ab_W _ _ _ G56 261 [some (vR a), some (vz p), some (vz wi), some (vz (i + 1)), some (vz ((NW i) % 1024)), some (vz 0), some (vz v57)] [] _
                  refine ab_goto (tgt := 10) d_TH_step_261 (by decide) ?_
                  refine ab_less (L' := [some (vR a), some (vz p), some (vz wi), some (vz (i + 1)), none, none, none]) (fun i v h => by rcases i with _ | _ | _ | _ | _ | _ | _ | i <;> first | exact h | (simp at h)) ?_
                  exact ih (tc := tc) (fo := fo) (stp := (stp + 1)) (SP := SP) (WK := W6) (TN := TN) (TS := TS) (SE := SE) (SK := SK) (i := (i + 1)) ha hsp hwk hnw htn hnsp htsp hse hstk hq hki hne hot hra hs hco hre hho (by omega) (by omega) jse jtn jts jsp jspo (by omega) (jso.wait jro (by omega) hsu (by omega) (jv_.2 (by omega)) (by omega) (by omega) hk_ (by omega) hc_ (Or.inl ⟨hq63, rfl, rfl, rfl, rfl⟩)) hfr hlen hsl (by omega) hk0
                · cases hv
                  rw [hGe]
                  change ab_W _ _ _ G56 202 [some (vR a), some (vz p), some (vz wi), some (vz i), some (vz ((NW i) % 1024)), some (vz 0), some (vz v57)] [] _
                  exfalso
                  have hrm_ := jso.room hkk (x := NW i % 1024) (by omega) hq64
                  omega
                · cases hv
                  have hsp := hfk.get hsp (by decide)
                  have hstk := hfk.get hstk (by decide)
                  have hq := hfk.get hq (by simp only [List.mem_cons, List.not_mem_nil, or_false]; omega)
                  have hki := hfk.get hki (by simp only [List.mem_cons, List.not_mem_nil, or_false]; omega)
                  have hne := hfk.get hne (by simp only [List.mem_cons, List.not_mem_nil, or_false]; omega)
                  have hot := hfk.get hot (by simp only [List.mem_cons, List.not_mem_nil, or_false]; omega)
                  have hra := hfk.get hra (by simp only [List.mem_cons, List.not_mem_nil, or_false]; omega)
                  have hs := hfk.get hs (by decide)
                  have hco := hfk.get hco (by decide)
                  have hre := hfk.get hre (by decide)
                  have hho := hfk.get hho (by decide)
                  have hfr := hfr.tr hfk (by decide)
                  have hlen := hlk.trans hlen
                  have hsl := hsk.trans hsl
                  have ha := hNa
                  have hwk := hNwk
                  have hnw := hNnw
                  have hnsp := hNnsp
                  have htn := hNtn
                  have htsp := hNtsp
                  have hse := hNse
                  change ab_W _ _ _ G62 202 [some (vR a), some (vz p), some (vz wi), some (vz i), some (vz ((NW i) % 1024)), some (vz 0), some (vz v57)] [] _
                  refine ab_goto (tgt := 258) d_TH_step_202 (by decide) ?_
                  refine zz_iinc d_TH_step_258 rfl (Nat.le_of_ble_eq_true rfl) (Nat.le_of_ble_eq_true rfl) rfl ?_
                  change ab_W _ _ _ G62 261 [some (vR a), some (vz p), some (vz wi), some (vz (i + 1)), some (vz ((NW i) % 1024)), some (vz 0), some (vz v57)] [] _
                  refine ab_goto (tgt := 10) d_TH_step_261 (by decide) ?_
                  refine ab_less (L' := [some (vR a), some (vz p), some (vz wi), some (vz (i + 1)), none, none, none]) (fun i v h => by rcases i with _ | _ | _ | _ | _ | _ | _ | i <;> first | exact h | (simp at h)) ?_
                  exact ih (tc := tc269) (fo := fo) (stp := (stp + 1)) (SP := SP) (WK := W6) (TN := TN267) (TS := TS268) (SE := SE266) (SK := SK) (i := (i + 1)) ha hsp hwk hnw htn hnsp htsp hse hstk hq hki hne hot hra hs hco hre hho (by omega) (by omega) hq71 hq72 hq73 jsp jspo (by omega) (jso.wait jro (by omega) hsu (by omega) (jv_.2 (by omega)) (by omega) (by omega) hk_ (by omega) hc_ (Or.inr ⟨hq74, by omega⟩)) hfr hlen hsl (by omega) hk0
            · have jw_ := jv_.2 (by omega)
              have jwn_ := jw_.2.1
              have jw1_ := jw_.1
              rw [show v57 = 1 by omega] at jw1_ jwn_
              refine ab_aload_n d_TH_step_166 rfl ?_
              refine ab_aload_n d_TH_step_167 rfl ?_
              refine ab_getf (fs := [vR sp, vR wk, vR nw, vR tn, vR nsp, vR tsp, vz nc, vz tc, vR se, vz sta, vR stk, vz fo, vR q, vR s, vz hw, vz fy, vj (stp + 1)]) f_TH_36 d_TH_step_168 ha.2.2 rfl ?_
              refine ab_getf (fs := [vR ki, vR ne, vR ot, vz cnt, vz fi, vz la, vR ra, vz ru, vz gr, vz wi, vz sz, vz fl, vz ve, vz mi, vR na, vR nl]) f_TH_125 d_TH_step_171 hq.2.2 rfl ?_
              refine ab_iload d_TH_step_174 rfl ?_
              refine zz_iald d_TH_step_176 hne (by omega) ?_
              have hq75 := hp.n ((NW i) % 1024) (by omega) (by omega)
              refine ab_iload_n d_TH_step_177 rfl ?_
              refine zz_iconst d_TH_step_178 ?_
              refine zz_iadd d_TH_step_179 ?_
              refine ab_callV (d' := d - 1) (as := [vz (N ((NW i) % 1024)), vz (p + 1)]) (st := []) (r := _) (z_TH_follow (o := o) (q := q) (lq := lq) (ki := ki) (ne := ne) (ot := ot) (cnt := cnt) (fi := fi) (la := la) (ra := ra) (ru := ru) (gr := gr) (wi := wi) (sz := sz) (fl := fl) (ve := ve) (mi := mi) (na := na) (nl := nl) (K := K) (N := N) (O := O) (RR := RR) (nr := nr) (s := s) (by_ := by_) (co := co) (re := re) (ho := ho) (n := n) (C := C) (Rs := Rs) (H := H) (mc := mc) (a := a) (sp := sp) (wk := wk) (nw := nw) (tn := tn) (nsp := nsp) (tsp := tsp) (se := se) (stk := stk) (nc := nc) (tc := tc) (sta := sta) (fo := fo) (hw := hw) (fy := fy) (stp := (stp + 1)) (SP := SP) (WK := W6) (NW := NW) (TN := TN) (NS := NS) (TS := TS) (SE := SE) (SK := SK) (l1 := l1) (l2 := l2) (l3 := l3) (l4 := l4) (p := (p + 1)) (x := (N ((NW i) % 1024))) (st := (NS (i * wi))) (Mw := W_) (s0 := s_) (gw := g_) (Lw := L_) ha hsp hwk hnw htn hnsp htsp hse hstk hq hki hne hot hra hs hco hre hho (by omega) hp hr (by omega) hsu (by omega) (by omega) hkk (by omega) (by omega) (by omega) jg1 (by omega) jse jtn jts jso.f jso.2.2.2.2.2.2.2 (jso.gA hk_) hk_.1 jw1_ (by omega)) (fun oc G2 h => by rcases h with ⟨_, _, _, _, _, _, _, h, _⟩ <;> exact ⟨_, h⟩) (by omega) m_TH_follow ml_TH_84 im_TH_follow se_TH_follow c_TH ha.2.2 (Nat.le_of_ble_eq_true rfl) d_TH_step_180 rfl ?_
              intro v G76 hq
              rcases hq with ⟨tc277, st278, SE279, TN280, TS281, SK282, WK283, hv, hfk, hlk, hsk, hNa, hNsp, hNwk, hNnw, hNtn, hNnsp, hNtsp, hNse, hNstk, hq84, hq85, hq86, hq87, hq88, hq89, hq90⟩
              cases hv
              have hq := hfk.get hq (by simp only [List.mem_cons, List.not_mem_nil, or_false]; omega)
              have hki := hfk.get hki (by simp only [List.mem_cons, List.not_mem_nil, or_false]; omega)
              have hne := hfk.get hne (by simp only [List.mem_cons, List.not_mem_nil, or_false]; omega)
              have hot := hfk.get hot (by simp only [List.mem_cons, List.not_mem_nil, or_false]; omega)
              have hra := hfk.get hra (by simp only [List.mem_cons, List.not_mem_nil, or_false]; omega)
              have hs := hfk.get hs (by decide)
              have hco := hfk.get hco (by decide)
              have hre := hfk.get hre (by decide)
              have hho := hfk.get hho (by decide)
              have hfr := hfr.tr hfk (by decide)
              have hlen := hlk.trans hlen
              have hsl := hsk.trans hsl
              have ha := hNa
              have hsp := hNsp
              have hwk := hNwk
              have hnw := hNnw
              have htn := hNtn
              have hnsp := hNnsp
              have htsp := hNtsp
              have hse := hNse
              have hstk := hNstk
              change ab_W _ _ _ G76 183 [some (vR a), some (vz p), some (vz wi), some (vz i), some (vz ((NW i) % 1024)), some (vz 0), some (vz v57)] [] _
              refine ab_goto (tgt := 202) d_TH_step_183 (by decide) ?_
              refine ab_goto (tgt := 258) d_TH_step_202 (by decide) ?_
              refine zz_iinc d_TH_step_258 rfl (Nat.le_of_ble_eq_true rfl) (Nat.le_of_ble_eq_true rfl) rfl ?_
              change ab_W _ _ _ G76 261 [some (vR a), some (vz p), some (vz wi), some (vz (i + 1)), some (vz ((NW i) % 1024)), some (vz 0), some (vz v57)] [] _
              refine ab_goto (tgt := 10) d_TH_step_261 (by decide) ?_
              refine ab_less (L' := [some (vR a), some (vz p), some (vz wi), some (vz (i + 1)), none, none, none]) (fun i v h => by rcases i with _ | _ | _ | _ | _ | _ | _ | i <;> first | exact h | (simp at h)) ?_
              exact ih (tc := tc277) (fo := fo) (stp := st278) (SP := SP) (WK := WK283) (TN := TN280) (TS := TS281) (SE := SE279) (SK := SK282) (i := (i + 1)) ha hsp hwk hnw htn hnsp htsp hse hstk hq hki hne hot hra hs hco hre hho (by omega) (by omega) hq87 hq88 hq89 jsp jspo (by omega) (jso.move jro (by omega) hq90 hc_ hsu (by omega)) hfr hlen hsl (by omega) hk0
      · refine ab_aload_n d_TH_step_35 rfl ?_
        refine ab_getf (fs := [vR sp, vR wk, vR nw, vR tn, vR nsp, vR tsp, vz nc, vz tc, vR se, vz sta, vR stk, vz fo, vR q, vR s, vz hw, vz fy, vj (stp + 1)]) f_TH_24 d_TH_step_36 ha.2.2 rfl ?_
        refine ab_iload_n d_TH_step_39 rfl ?_
        refine ab_iload_n d_TH_step_40 rfl ?_
        refine zz_imul d_TH_step_41 ?_
        obtain ⟨v91, hv91⟩ : ∃ z : Int, z = i * wi := ⟨_, rfl⟩
        rw [← hv91]
        have hv91b := z_mulb (a := i) (b := wi) (A := 801) (B := 20) (by omega) (by omega)
        rw [← hv91] at hv91b
        change ab_W _ _ _ G2 42 [some (vR a), some (vz p), some (vz wi), some (vz i), none, none, none] [vz v91, vR nsp] _
        have jiw : (i + 1) * wi ≤ 801 * 20 := Int.mul_le_mul (by omega) (by omega) (by omega) (by omega)
        have jiw2 : (i + 1) * wi = i * wi + wi := by rw [Int.add_mul, Int.one_mul]
        refine zz_iald d_TH_step_42 hnsp (by omega) ?_
        have jn0 := jns i (by omega) (by omega)
        have jn1 : 0 ≤ NS v91 ∧ NS v91 ≤ n := by rw [hv91]; exact ⟨jn0.1, by have := (jn0.2 0 (by omega) (by omega)).2; rw [Int.add_zero] at this; exact this⟩
        refine ab_aload_n d_TH_step_43 rfl ?_
        refine ab_getf (fs := [vR sp, vR wk, vR nw, vR tn, vR nsp, vR tsp, vz nc, vz tc, vR se, vz sta, vR stk, vz fo, vR q, vR s, vz hw, vz fy, vj (stp + 1)]) f_TH_9 d_TH_step_44 ha.2.2 rfl ?_
        refine zz_iconst d_TH_step_47 ?_
        refine zz_iald d_TH_step_48 hsp (by omega) ?_
        have hq92 := jsp 0 (by omega) (by omega)
        refine zz_icmp_le (tgt := 53) d_TH_step_49 (by decide) (by omega) (by omega) (fun c93 => ?_) (fun c93 => ?_)
        · refine ab_aload_n d_TH_step_53 rfl ?_
          refine ab_getf (fs := [vR sp, vR wk, vR nw, vR tn, vR nsp, vR tsp, vz nc, vz tc, vR se, vz sta, vR stk, vz fo, vR q, vR s, vz hw, vz fy, vj (stp + 1)]) f_TH_24 d_TH_step_54 ha.2.2 rfl ?_
          refine ab_iload_n d_TH_step_57 rfl ?_
          refine ab_iload_n d_TH_step_58 rfl ?_
          refine zz_imul d_TH_step_59 ?_
          obtain ⟨v94, hv94⟩ : ∃ z : Int, z = i * wi := ⟨_, rfl⟩
          rw [← hv94]
          have hv94b := z_mulb (a := i) (b := wi) (A := 801) (B := 20) (by omega) (by omega)
          rw [← hv94] at hv94b
          change ab_W _ _ _ G2 60 [some (vR a), some (vz p), some (vz wi), some (vz i), none, none, none] [vz v94, vR nsp] _
          have jiw : (i + 1) * wi ≤ 801 * 20 := Int.mul_le_mul (by omega) (by omega) (by omega) (by omega)
          have jiw2 : (i + 1) * wi = i * wi + wi := by rw [Int.add_mul, Int.one_mul]
          refine ab_aload_n d_TH_step_60 rfl ?_
          refine ab_getf (fs := [vR sp, vR wk, vR nw, vR tn, vR nsp, vR tsp, vz nc, vz tc, vR se, vz sta, vR stk, vz fo, vR q, vR s, vz hw, vz fy, vj (stp + 1)]) f_TH_15 d_TH_step_61 ha.2.2 rfl ?_
          refine zz_iconst d_TH_step_64 ?_
          refine ab_iload_n d_TH_step_65 rfl ?_
          refine zz_copy mj_TH_109 d_TH_step_66 hnsp hwk (hwk.2.1 (by decide)) (by omega) (Nat.le_of_ble_eq_true rfl) (by omega) ?_
          obtain ⟨G95, eG95⟩ : ∃ z : ab_G, z = List.set G2 wk (za 20 (zcpy NS WK v94 0 wi)) := ⟨_, rfl⟩
          have ha := ha.keep hwk eG95 (by decide)
          have hsp := hsp.keep hwk eG95 (by decide)
          have hnw := hnw.keep hwk eG95 (by omega)
          have htn := htn.keep hwk eG95 (by omega)
          have hnsp := hnsp.keep hwk eG95 (by omega)
          have htsp := htsp.keep hwk eG95 (by omega)
          have hse := hse.keep hwk eG95 (by decide)
          have hstk := hstk.keep hwk eG95 (by decide)
          have hq := hq.keep hwk eG95 (by omega)
          have hki := hki.keep hwk eG95 (by omega)
          have hne := hne.keep hwk eG95 (by omega)
          have hot := hot.keep hwk eG95 (by omega)
          have hra := hra.keep hwk eG95 (by omega)
          have hs := hs.keep hwk eG95 (by decide)
          have hco := hco.keep hwk eG95 (by decide)
          have hre := hre.keep hwk eG95 (by decide)
          have hho := hho.keep hwk eG95 (by decide)
          have hlen := (z_len eG95).trans hlen
          have hsl := (z_sl hwk eG95 rfl).trans hsl
          have hfr := hfr.wr hwk eG95 (by decide)
          have hwk := hwk.kept eG95
          change ab_W _ _ _ (List.set G2 wk (za 20 (zcpy NS WK v94 0 wi))) 69 [some (vR a), some (vz p), some (vz wi), some (vz i), none, none, none] [] _
          rw [← eG95]
          have hc_ : fo = 0 ∨ NS (i * wi) ≤ SP 0 := by first | (left; omega) | (right; rw [← hv91]; omega)
          have jg := thr_g jns (i := i) ⟨by omega, by omega⟩ (by omega) (WK := WK)
          rw [← hv94] at jg
          obtain ⟨W96, eW96⟩ : ∃ z : Int → Int, z = zcpy NS WK v94 0 wi := ⟨_, rfl⟩
          rw [← eW96] at jg
          have hk_ : wkO W96 NS (i * wi) wi := by rw [eW96, hv94]; exact wkO_c (by omega)
          have hwk : cc o G95 wk 33 (za 20 W96) := by rw [← eW96.symm]; exact hwk
          obtain ⟨jg1, jg2⟩ := jg
          have jt := jnw i (by omega) (by omega)
          have jti := tho_in jt
          refine ab_aload_n d_TH_step_69 rfl ?_
          refine ab_getf (fs := [vR sp, vR wk, vR nw, vR tn, vR nsp, vR tsp, vz nc, vz tc, vR se, vz sta, vR stk, vz fo, vR q, vR s, vz hw, vz fy, vj (stp + 1)]) f_TH_18 d_TH_step_70 ha.2.2 rfl ?_
          refine ab_iload_n d_TH_step_73 rfl ?_
          refine zz_iald d_TH_step_74 hnw (by omega) ?_
          refine zz_sipush d_TH_step_75 (by decide) ?_
          refine zz_iand 10 1024 d_TH_step_78 (by decide) (by decide) (by decide) (by decide) ?_
          refine ab_istore d_TH_step_79 (Nat.le_of_ble_eq_true rfl) (Nat.le_of_ble_eq_true rfl) rfl ?_
          change ab_W _ _ _ G95 81 [some (vR a), some (vz p), some (vz wi), some (vz i), some (vz ((NW i) % 1024)), none, none] [] _
          refine ab_aload_n d_TH_step_81 rfl ?_
          refine ab_getf (fs := [vR sp, vR wk, vR nw, vR tn, vR nsp, vR tsp, vz nc, vz tc, vR se, vz sta, vR stk, vz fo, vR q, vR s, vz hw, vz fy, vj (stp + 1)]) f_TH_18 d_TH_step_82 ha.2.2 rfl ?_
          refine ab_iload_n d_TH_step_85 rfl ?_
          refine zz_iald d_TH_step_86 hnw (by omega) ?_
          refine zz_sipush d_TH_step_87 (by decide) ?_
          refine zz_icmp_ge (tgt := 108) d_TH_step_90 (by decide) (by omega) (by decide) (fun c97 => ?_) (fun c97 => ?_)
          · have jk := tho_t jt (by omega)
            have jk0_ := (hp (NW i % 1024) (by omega) (by omega)).1
            refine ab_aload_n d_TH_step_108 rfl ?_
            refine ab_getf (fs := [vR sp, vR wk, vR nw, vR tn, vR nsp, vR tsp, vz nc, vz tc, vR se, vz sta, vR stk, vz fo, vR q, vR s, vz hw, vz fy, vj (stp + 1)]) f_TH_18 d_TH_step_109 ha.2.2 rfl ?_
            refine ab_iload_n d_TH_step_112 rfl ?_
            refine zz_iald d_TH_step_113 hnw (by omega) ?_
            refine zz_sipush d_TH_step_114 (by decide) ?_
            refine zz_icmp_lt (tgt := 124) d_TH_step_117 (by decide) (by omega) (by decide) (fun c98 => absurd c98 (by omega)) (fun c98 => ?_)
            refine zz_iconst d_TH_step_120 ?_
            refine ab_goto (tgt := 125) d_TH_step_121 (by decide) ?_
            refine ab_istore d_TH_step_125 (Nat.le_of_ble_eq_true rfl) (Nat.le_of_ble_eq_true rfl) rfl ?_
            change ab_W _ _ _ G95 127 [some (vR a), some (vz p), some (vz wi), some (vz i), some (vz ((NW i) % 1024)), some (vz 1), none] [] _
            refine ab_iload d_TH_step_127 rfl ?_
            refine zz_if_eq (tgt := 144) d_TH_step_129 (by decide) (by decide) (fun c99 => absurd c99 (by decide)) (fun c99 => ?_)
            refine ab_aload_n d_TH_step_132 rfl ?_
            refine ab_getf (fs := [vR sp, vR wk, vR nw, vR tn, vR nsp, vR tsp, vz nc, vz tc, vR se, vz sta, vR stk, vz fo, vR q, vR s, vz hw, vz fy, vj (stp + 1)]) f_TH_40 d_TH_step_133 ha.2.2 rfl ?_
            refine ab_getf (fs := [vR by_, vR co, vR re, vR ho, vz n]) f_TH_118 d_TH_step_136 hs.2.2 rfl ?_
            refine ab_iload_n d_TH_step_139 rfl ?_
            refine zz_iald d_TH_step_140 hre (by omega) ?_
            have hq100 := hsu.r p (by omega) (by omega)
            refine ab_goto (tgt := 158) d_TH_step_141 (by decide) ?_
            refine ab_istore d_TH_step_158 (Nat.le_of_ble_eq_true rfl) (Nat.le_of_ble_eq_true rfl) rfl ?_
            change ab_W _ _ _ G95 160 [some (vR a), some (vz p), some (vz wi), some (vz i), some (vz ((NW i) % 1024)), some (vz 1), some (vz (Rs p))] [] _
            have jv_ := jso.v (vb := (Rs p)) jro (by omega) hsu (by omega) (Or.inr ⟨by omega, rfl⟩)
            refine ab_iload d_TH_step_160 rfl ?_
            refine zz_iconst d_TH_step_162 ?_
            refine zz_icmp_ne (tgt := 186) d_TH_step_163 (by decide) (by omega) (by decide) (fun c101 => ?_) (fun c101 => ?_)
            · refine ab_iload d_TH_step_186 rfl ?_
              refine zz_iconst d_TH_step_188 ?_
              refine zz_icmp_le (tgt := 202) d_TH_step_189 (by decide) (by omega) (by decide) (fun c102 => ?_) (fun c102 => ?_)
              · refine ab_goto (tgt := 258) d_TH_step_202 (by decide) ?_
                refine zz_iinc d_TH_step_258 rfl (Nat.le_of_ble_eq_true rfl) (Nat.le_of_ble_eq_true rfl) rfl ?_
                change ab_W _ _ _ G95 261 [some (vR a), some (vz p), some (vz wi), some (vz (i + 1)), some (vz ((NW i) % 1024)), some (vz 1), some (vz (Rs p))] [] _
                refine ab_goto (tgt := 10) d_TH_step_261 (by decide) ?_
                refine ab_less (L' := [some (vR a), some (vz p), some (vz wi), some (vz (i + 1)), none, none, none]) (fun i v h => by rcases i with _ | _ | _ | _ | _ | _ | _ | i <;> first | exact h | (simp at h)) ?_
                exact ih (tc := tc) (fo := fo) (stp := (stp + 1)) (SP := SP) (WK := W96) (TN := TN) (TS := TS) (SE := SE) (SK := SK) (i := (i + 1)) ha hsp hwk hnw htn hnsp htsp hse hstk hq hki hne hot hra hs hco hre hho (by omega) (by omega) jse jtn jts jsp jspo (by omega) (jso.skip jro (by omega) (jv_.1 (by omega))) hfr hlen hsl (by omega) hk0
              · refine ab_aload_n d_TH_step_192 rfl ?_
                refine ab_iload d_TH_step_193 rfl ?_
                refine zz_sipush d_TH_step_195 (by decide) ?_
                refine zz_iadd d_TH_step_198 ?_
                refine ab_callV (d' := d - 1) (as := [vz (((NW i) % 1024) + 1024)]) (st := []) (r := _) (z_TH_put (o := o) (q := q) (lq := lq) (ki := ki) (ne := ne) (ot := ot) (cnt := cnt) (fi := fi) (la := la) (ra := ra) (ru := ru) (gr := gr) (wi := wi) (sz := sz) (fl := fl) (ve := ve) (mi := mi) (na := na) (nl := nl) (s := s) (a := a) (sp := sp) (wk := wk) (nw := nw) (tn := tn) (nsp := nsp) (tsp := tsp) (se := se) (stk := stk) (nc := nc) (tc := tc) (sta := sta) (fo := fo) (hw := hw) (fy := fy) (stp := (stp + 1)) (WK := W96) (NW := NW) (TN := TN) (NS := NS) (TS := TS) (SE := SE) (l1 := l1) (l2 := l2) (l3 := l3) (l4 := l4) (e := (((NW i) % 1024) + 1024)) ha hwk hnw hnsp htn htsp hse hq (by omega) (by omega) (by omega) jg1 (by omega) jse (by omega) jtn jts (by omega) (tho_w (by omega) jk) (by omega) (by omega)) (fun oc G2 h => by rcases h with ⟨h, _⟩ | ⟨h, _⟩ | ⟨_, _, _, _, h, _⟩ <;> exact ⟨_, h⟩) (by omega) m_TH_put ml_TH_128 im_TH_put se_TH_put c_TH ha.2.2 (Nat.le_of_ble_eq_true rfl) d_TH_step_199 rfl ?_
                intro v G103 hq
                rcases hq with ⟨hv, hGe, hq104⟩ | ⟨hv, hGe, hq105, hq106⟩ | ⟨SE2107, TN2108, TS2109, tc2110, hv, hfk, hlk, hsk, hNa, hNwk, hNnw, hNnsp, hNtn, hNtsp, hNse, hq111, hq112, hq113, hq114, hq115⟩
                · cases hv
                  rw [hGe]
                  change ab_W _ _ _ G95 202 [some (vR a), some (vz p), some (vz wi), some (vz i), some (vz ((NW i) % 1024)), some (vz 1), some (vz (Rs p))] [] _
                  refine ab_goto (tgt := 258) d_TH_step_202 (by decide) ?_
                  refine zz_iinc d_TH_step_258 rfl (Nat.le_of_ble_eq_true rfl) (Nat.le_of_ble_eq_true rfl) rfl ?_
                  change ab_W _ _ _ G95 261 [some (vR a), some (vz p), some (vz wi), some (vz (i + 1)), some (vz ((NW i) % 1024)), some (vz 1), some (vz (Rs p))] [] _
                  refine ab_goto (tgt := 10) d_TH_step_261 (by decide) ?_
                  refine ab_less (L' := [some (vR a), some (vz p), some (vz wi), some (vz (i + 1)), none, none, none]) (fun i v h => by rcases i with _ | _ | _ | _ | _ | _ | _ | i <;> first | exact h | (simp at h)) ?_
                  exact ih (tc := tc) (fo := fo) (stp := (stp + 1)) (SP := SP) (WK := W96) (TN := TN) (TS := TS) (SE := SE) (SK := SK) (i := (i + 1)) ha hsp hwk hnw htn hnsp htsp hse hstk hq hki hne hot hra hs hco hre hho (by omega) (by omega) jse jtn jts jsp jspo (by omega) (jso.wait jro (by omega) hsu (by omega) (jv_.2 (by omega)) (by omega) (by omega) hk_ (by omega) hc_ (Or.inl ⟨hq104, rfl, rfl, rfl, rfl⟩)) hfr hlen hsl (by omega) hk0
                · cases hv
                  rw [hGe]
                  change ab_W _ _ _ G95 202 [some (vR a), some (vz p), some (vz wi), some (vz i), some (vz ((NW i) % 1024)), some (vz 1), some (vz (Rs p))] [] _
                  exfalso
                  have hrm_ := jso.room hkk (x := NW i % 1024) (by omega) hq105
                  omega
                · cases hv
                  have hsp := hfk.get hsp (by decide)
                  have hstk := hfk.get hstk (by decide)
                  have hq := hfk.get hq (by simp only [List.mem_cons, List.not_mem_nil, or_false]; omega)
                  have hki := hfk.get hki (by simp only [List.mem_cons, List.not_mem_nil, or_false]; omega)
                  have hne := hfk.get hne (by simp only [List.mem_cons, List.not_mem_nil, or_false]; omega)
                  have hot := hfk.get hot (by simp only [List.mem_cons, List.not_mem_nil, or_false]; omega)
                  have hra := hfk.get hra (by simp only [List.mem_cons, List.not_mem_nil, or_false]; omega)
                  have hs := hfk.get hs (by decide)
                  have hco := hfk.get hco (by decide)
                  have hre := hfk.get hre (by decide)
                  have hho := hfk.get hho (by decide)
                  have hfr := hfr.tr hfk (by decide)
                  have hlen := hlk.trans hlen
                  have hsl := hsk.trans hsl
                  have ha := hNa
                  have hwk := hNwk
                  have hnw := hNnw
                  have hnsp := hNnsp
                  have htn := hNtn
                  have htsp := hNtsp
                  have hse := hNse
                  change ab_W _ _ _ G103 202 [some (vR a), some (vz p), some (vz wi), some (vz i), some (vz ((NW i) % 1024)), some (vz 1), some (vz (Rs p))] [] _
                  refine ab_goto (tgt := 258) d_TH_step_202 (by decide) ?_
                  refine zz_iinc d_TH_step_258 rfl (Nat.le_of_ble_eq_true rfl) (Nat.le_of_ble_eq_true rfl) rfl ?_
                  change ab_W _ _ _ G103 261 [some (vR a), some (vz p), some (vz wi), some (vz (i + 1)), some (vz ((NW i) % 1024)), some (vz 1), some (vz (Rs p))] [] _
                  refine ab_goto (tgt := 10) d_TH_step_261 (by decide) ?_
                  refine ab_less (L' := [some (vR a), some (vz p), some (vz wi), some (vz (i + 1)), none, none, none]) (fun i v h => by rcases i with _ | _ | _ | _ | _ | _ | _ | i <;> first | exact h | (simp at h)) ?_
                  exact ih (tc := tc2110) (fo := fo) (stp := (stp + 1)) (SP := SP) (WK := W96) (TN := TN2108) (TS := TS2109) (SE := SE2107) (SK := SK) (i := (i + 1)) ha hsp hwk hnw htn hnsp htsp hse hstk hq hki hne hot hra hs hco hre hho (by omega) (by omega) hq112 hq113 hq114 jsp jspo (by omega) (jso.wait jro (by omega) hsu (by omega) (jv_.2 (by omega)) (by omega) (by omega) hk_ (by omega) hc_ (Or.inr ⟨hq115, by omega⟩)) hfr hlen hsl (by omega) hk0
            · have jw_ := jv_.2 (by omega)
              have jwn_ := jw_.2.1
              have jw1_ := jw_.1
              rw [show (Rs p) = 1 by omega] at jw1_ jwn_
              refine ab_aload_n d_TH_step_166 rfl ?_
              refine ab_aload_n d_TH_step_167 rfl ?_
              refine ab_getf (fs := [vR sp, vR wk, vR nw, vR tn, vR nsp, vR tsp, vz nc, vz tc, vR se, vz sta, vR stk, vz fo, vR q, vR s, vz hw, vz fy, vj (stp + 1)]) f_TH_36 d_TH_step_168 ha.2.2 rfl ?_
              refine ab_getf (fs := [vR ki, vR ne, vR ot, vz cnt, vz fi, vz la, vR ra, vz ru, vz gr, vz wi, vz sz, vz fl, vz ve, vz mi, vR na, vR nl]) f_TH_125 d_TH_step_171 hq.2.2 rfl ?_
              refine ab_iload d_TH_step_174 rfl ?_
              refine zz_iald d_TH_step_176 hne (by omega) ?_
              have hq116 := hp.n ((NW i) % 1024) (by omega) (by omega)
              refine ab_iload_n d_TH_step_177 rfl ?_
              refine zz_iconst d_TH_step_178 ?_
              refine zz_iadd d_TH_step_179 ?_
              refine ab_callV (d' := d - 1) (as := [vz (N ((NW i) % 1024)), vz (p + 1)]) (st := []) (r := _) (z_TH_follow (o := o) (q := q) (lq := lq) (ki := ki) (ne := ne) (ot := ot) (cnt := cnt) (fi := fi) (la := la) (ra := ra) (ru := ru) (gr := gr) (wi := wi) (sz := sz) (fl := fl) (ve := ve) (mi := mi) (na := na) (nl := nl) (K := K) (N := N) (O := O) (RR := RR) (nr := nr) (s := s) (by_ := by_) (co := co) (re := re) (ho := ho) (n := n) (C := C) (Rs := Rs) (H := H) (mc := mc) (a := a) (sp := sp) (wk := wk) (nw := nw) (tn := tn) (nsp := nsp) (tsp := tsp) (se := se) (stk := stk) (nc := nc) (tc := tc) (sta := sta) (fo := fo) (hw := hw) (fy := fy) (stp := (stp + 1)) (SP := SP) (WK := W96) (NW := NW) (TN := TN) (NS := NS) (TS := TS) (SE := SE) (SK := SK) (l1 := l1) (l2 := l2) (l3 := l3) (l4 := l4) (p := (p + 1)) (x := (N ((NW i) % 1024))) (st := (NS (i * wi))) (Mw := W_) (s0 := s_) (gw := g_) (Lw := L_) ha hsp hwk hnw htn hnsp htsp hse hstk hq hki hne hot hra hs hco hre hho (by omega) hp hr (by omega) hsu (by omega) (by omega) hkk (by omega) (by omega) (by omega) jg1 (by omega) jse jtn jts jso.f jso.2.2.2.2.2.2.2 (jso.gA hk_) hk_.1 jw1_ (by omega)) (fun oc G2 h => by rcases h with ⟨_, _, _, _, _, _, _, h, _⟩ <;> exact ⟨_, h⟩) (by omega) m_TH_follow ml_TH_84 im_TH_follow se_TH_follow c_TH ha.2.2 (Nat.le_of_ble_eq_true rfl) d_TH_step_180 rfl ?_
              intro v G117 hq
              rcases hq with ⟨tc2118, st2119, SE2120, TN2121, TS2122, SK2123, WK2124, hv, hfk, hlk, hsk, hNa, hNsp, hNwk, hNnw, hNtn, hNnsp, hNtsp, hNse, hNstk, hq125, hq126, hq127, hq128, hq129, hq130, hq131⟩
              cases hv
              have hq := hfk.get hq (by simp only [List.mem_cons, List.not_mem_nil, or_false]; omega)
              have hki := hfk.get hki (by simp only [List.mem_cons, List.not_mem_nil, or_false]; omega)
              have hne := hfk.get hne (by simp only [List.mem_cons, List.not_mem_nil, or_false]; omega)
              have hot := hfk.get hot (by simp only [List.mem_cons, List.not_mem_nil, or_false]; omega)
              have hra := hfk.get hra (by simp only [List.mem_cons, List.not_mem_nil, or_false]; omega)
              have hs := hfk.get hs (by decide)
              have hco := hfk.get hco (by decide)
              have hre := hfk.get hre (by decide)
              have hho := hfk.get hho (by decide)
              have hfr := hfr.tr hfk (by decide)
              have hlen := hlk.trans hlen
              have hsl := hsk.trans hsl
              have ha := hNa
              have hsp := hNsp
              have hwk := hNwk
              have hnw := hNnw
              have htn := hNtn
              have hnsp := hNnsp
              have htsp := hNtsp
              have hse := hNse
              have hstk := hNstk
              change ab_W _ _ _ G117 183 [some (vR a), some (vz p), some (vz wi), some (vz i), some (vz ((NW i) % 1024)), some (vz 1), some (vz (Rs p))] [] _
              refine ab_goto (tgt := 202) d_TH_step_183 (by decide) ?_
              refine ab_goto (tgt := 258) d_TH_step_202 (by decide) ?_
              refine zz_iinc d_TH_step_258 rfl (Nat.le_of_ble_eq_true rfl) (Nat.le_of_ble_eq_true rfl) rfl ?_
              change ab_W _ _ _ G117 261 [some (vR a), some (vz p), some (vz wi), some (vz (i + 1)), some (vz ((NW i) % 1024)), some (vz 1), some (vz (Rs p))] [] _
              refine ab_goto (tgt := 10) d_TH_step_261 (by decide) ?_
              refine ab_less (L' := [some (vR a), some (vz p), some (vz wi), some (vz (i + 1)), none, none, none]) (fun i v h => by rcases i with _ | _ | _ | _ | _ | _ | _ | i <;> first | exact h | (simp at h)) ?_
              exact ih (tc := tc2118) (fo := fo) (stp := st2119) (SP := SP) (WK := WK2124) (TN := TN2121) (TS := TS2122) (SE := SE2120) (SK := SK2123) (i := (i + 1)) ha hsp hwk hnw htn hnsp htsp hse hstk hq hki hne hot hra hs hco hre hho (by omega) (by omega) hq128 hq129 hq130 jsp jspo (by omega) (jso.move jro (by omega) hq131 hc_ hsu (by omega)) hfr hlen hsl (by omega) hk0
          · refine ab_aload_n d_TH_step_93 rfl ?_
            refine ab_getf (fs := [vR sp, vR wk, vR nw, vR tn, vR nsp, vR tsp, vz nc, vz tc, vR se, vz sta, vR stk, vz fo, vR q, vR s, vz hw, vz fy, vj (stp + 1)]) f_TH_36 d_TH_step_94 ha.2.2 rfl ?_
            refine ab_getf (fs := [vR ki, vR ne, vR ot, vz cnt, vz fi, vz la, vR ra, vz ru, vz gr, vz wi, vz sz, vz fl, vz ve, vz mi, vR na, vR nl]) f_TH_115 d_TH_step_97 hq.2.2 rfl ?_
            refine ab_iload d_TH_step_100 rfl ?_
            refine zz_iald d_TH_step_102 hki (by omega) ?_
            have hq132 := hp.k ((NW i) % 1024) (by omega) (by omega)
            refine zz_bipush d_TH_step_103 (by decide) ?_
            refine zz_icmp_eq (tgt := 205) d_TH_step_105 (by decide) (by omega) (by decide) (fun c133 => ?_) (fun c133 => ?_)
            · refine ab_aload_n d_TH_step_205 rfl ?_
              refine ab_getf (fs := [vR sp, vR wk, vR nw, vR tn, vR nsp, vR tsp, vz nc, vz tc, vR se, vz sta, vR stk, vz fo, vR q, vR s, vz hw, vz fy, vj (stp + 1)]) f_TH_44 d_TH_step_206 ha.2.2 rfl ?_
              refine zz_iconst d_TH_step_209 ?_
              refine zz_icmp_ne (tgt := 224) d_TH_step_210 (by decide) (by omega) (by decide) (fun c134 => ?_) (fun c134 => ?_)
              · refine ab_aload_n d_TH_step_224 rfl ?_
                refine ab_getf (fs := [vR sp, vR wk, vR nw, vR tn, vR nsp, vR tsp, vz nc, vz tc, vR se, vz sta, vR stk, vz fo, vR q, vR s, vz hw, vz fy, vj (stp + 1)]) f_TH_15 d_TH_step_225 ha.2.2 rfl ?_
                refine zz_iconst d_TH_step_228 ?_
                refine ab_aload_n d_TH_step_229 rfl ?_
                refine ab_getf (fs := [vR sp, vR wk, vR nw, vR tn, vR nsp, vR tsp, vz nc, vz tc, vR se, vz sta, vR stk, vz fo, vR q, vR s, vz hw, vz fy, vj (stp + 1)]) f_TH_9 d_TH_step_230 ha.2.2 rfl ?_
                refine zz_iconst d_TH_step_233 ?_
                refine ab_iload_n d_TH_step_234 rfl ?_
                refine zz_copy mj_TH_109 d_TH_step_235 hwk hsp (hsp.2.1 (by decide)) (by omega) (Nat.le_of_ble_eq_true rfl) (by omega) ?_
                obtain ⟨G135, eG135⟩ : ∃ z : ab_G, z = List.set G95 sp (za 20 (zcpy W96 SP 0 0 wi)) := ⟨_, rfl⟩
                have ha := ha.keep hsp eG135 (by decide)
                have hwk := hwk.keep hsp eG135 (by decide)
                have hnw := hnw.keep hsp eG135 (by omega)
                have htn := htn.keep hsp eG135 (by omega)
                have hnsp := hnsp.keep hsp eG135 (by omega)
                have htsp := htsp.keep hsp eG135 (by omega)
                have hse := hse.keep hsp eG135 (by decide)
                have hstk := hstk.keep hsp eG135 (by decide)
                have hq := hq.keep hsp eG135 (by omega)
                have hki := hki.keep hsp eG135 (by omega)
                have hne := hne.keep hsp eG135 (by omega)
                have hot := hot.keep hsp eG135 (by omega)
                have hra := hra.keep hsp eG135 (by omega)
                have hs := hs.keep hsp eG135 (by decide)
                have hco := hco.keep hsp eG135 (by decide)
                have hre := hre.keep hsp eG135 (by decide)
                have hho := hho.keep hsp eG135 (by decide)
                have hlen := (z_len eG135).trans hlen
                have hsl := (z_sl hsp eG135 rfl).trans hsl
                have hfr := hfr.wr hsp eG135 (by decide)
                have hsp := hsp.kept eG135
                change ab_W _ _ _ (List.set G95 sp (za 20 (zcpy W96 SP 0 0 wi))) 238 [some (vR a), some (vz p), some (vz wi), some (vz i), some (vz ((NW i) % 1024)), none, none] [] _
                rw [← eG135]
                refine ab_aload_n d_TH_step_238 rfl ?_
                refine ab_getf (fs := [vR sp, vR wk, vR nw, vR tn, vR nsp, vR tsp, vz nc, vz tc, vR se, vz sta, vR stk, vz fo, vR q, vR s, vz hw, vz fy, vj (stp + 1)]) f_TH_9 d_TH_step_239 ha.2.2 rfl ?_
                refine zz_iconst d_TH_step_242 ?_
                refine ab_iload_n d_TH_step_243 rfl ?_
                refine zz_iast d_TH_step_244 hsp (by omega) (hsp.2.1 (by decide)) ?_
                obtain ⟨G136, eG136⟩ : ∃ z : ab_G, z = List.set G135 sp (za 20 (zu (zcpy W96 SP 0 0 wi) 1 p)) := ⟨_, rfl⟩
                have ha := ha.keep hsp eG136 (by decide)
                have hwk := hwk.keep hsp eG136 (by decide)
                have hnw := hnw.keep hsp eG136 (by omega)
                have htn := htn.keep hsp eG136 (by omega)
                have hnsp := hnsp.keep hsp eG136 (by omega)
                have htsp := htsp.keep hsp eG136 (by omega)
                have hse := hse.keep hsp eG136 (by decide)
                have hstk := hstk.keep hsp eG136 (by decide)
                have hq := hq.keep hsp eG136 (by omega)
                have hki := hki.keep hsp eG136 (by omega)
                have hne := hne.keep hsp eG136 (by omega)
                have hot := hot.keep hsp eG136 (by omega)
                have hra := hra.keep hsp eG136 (by omega)
                have hs := hs.keep hsp eG136 (by decide)
                have hco := hco.keep hsp eG136 (by decide)
                have hre := hre.keep hsp eG136 (by decide)
                have hho := hho.keep hsp eG136 (by decide)
                have hlen := (z_len eG136).trans hlen
                have hsl := (z_sl hsp eG136 rfl).trans hsl
                have hfr := hfr.wr hsp eG136 (by decide)
                have hsp := hsp.kept eG136
                change ab_W _ _ _ (List.set G135 sp (za 20 (zu (zcpy W96 SP 0 0 wi) 1 p))) 245 [some (vR a), some (vz p), some (vz wi), some (vz i), some (vz ((NW i) % 1024)), none, none] [] _
                rw [← eG136]
                refine ab_aload_n d_TH_step_245 rfl ?_
                refine zz_iconst d_TH_step_246 ?_
                refine ab_putf (fs := [vR sp, vR wk, vR nw, vR tn, vR nsp, vR tsp, vz nc, vz tc, vR se, vz sta, vR stk, vz fo, vR q, vR s, vz hw, vz fy, vj (stp + 1)]) f_TH_61 (Or.inl rfl) d_TH_step_247 ha.2.2 (Nat.le_of_ble_eq_true rfl) (ab_fbz (by decide)) (ha.2.1 (by decide)) ?_
                obtain ⟨G137, eG137⟩ : ∃ z : ab_G, z = List.set G136 a (ab_ob 11 [vR sp, vR wk, vR nw, vR tn, vR nsp, vR tsp, vz nc, vz tc, vR se, vz sta, vR stk, vz 1, vR q, vR s, vz hw, vz fy, vj (stp + 1)]) := ⟨_, rfl⟩
                have hsp := hsp.keep ha eG137 (by decide)
                have hwk := hwk.keep ha eG137 (by decide)
                have hnw := hnw.keep ha eG137 (by omega)
                have htn := htn.keep ha eG137 (by omega)
                have hnsp := hnsp.keep ha eG137 (by omega)
                have htsp := htsp.keep ha eG137 (by omega)
                have hse := hse.keep ha eG137 (by decide)
                have hstk := hstk.keep ha eG137 (by decide)
                have hq := hq.keep ha eG137 (by omega)
                have hki := hki.keep ha eG137 (by omega)
                have hne := hne.keep ha eG137 (by omega)
                have hot := hot.keep ha eG137 (by omega)
                have hra := hra.keep ha eG137 (by omega)
                have hs := hs.keep ha eG137 (by decide)
                have hco := hco.keep ha eG137 (by decide)
                have hre := hre.keep ha eG137 (by decide)
                have hho := hho.keep ha eG137 (by decide)
                have hlen := (z_len eG137).trans hlen
                have hsl := (z_sl ha eG137 rfl).trans hsl
                have hfr := hfr.wr ha eG137 (by decide)
                have ha := ha.kept eG137
                change ab_W _ _ _ (List.set G136 a (ab_ob 11 [vR sp, vR wk, vR nw, vR tn, vR nsp, vR tsp, vz nc, vz tc, vR se, vz sta, vR stk, vz 1, vR q, vR s, vz hw, vz fy, vj (stp + 1)])) 250 [some (vR a), some (vz p), some (vz wi), some (vz i), some (vz ((NW i) % 1024)), none, none] [] _
                rw [← eG137]
                refine ab_aload_n d_TH_step_250 rfl ?_
                refine ab_getf (fs := [vR sp, vR wk, vR nw, vR tn, vR nsp, vR tsp, vz nc, vz tc, vR se, vz sta, vR stk, vz 1, vR q, vR s, vz hw, vz fy, vj (stp + 1)]) f_TH_54 d_TH_step_251 ha.2.2 rfl ?_
                refine zz_if_eq (tgt := 258) d_TH_step_254 (by decide) (by omega) (fun c138 => ?_) (fun c138 => ?_)
                · refine zz_iinc d_TH_step_258 rfl (Nat.le_of_ble_eq_true rfl) (Nat.le_of_ble_eq_true rfl) rfl ?_
                  change ab_W _ _ _ G137 261 [some (vR a), some (vz p), some (vz wi), some (vz (i + 1)), some (vz ((NW i) % 1024)), none, none] [] _
                  refine ab_goto (tgt := 10) d_TH_step_261 (by decide) ?_
                  refine ab_less (L' := [some (vR a), some (vz p), some (vz wi), some (vz (i + 1)), none, none, none]) (fun i v h => by rcases i with _ | _ | _ | _ | _ | _ | _ | i <;> first | exact h | (simp at h)) ?_
                  exact ih (tc := tc) (fo := 1) (stp := (stp + 1)) (SP := (zu (zcpy W96 SP 0 0 wi) 1 p)) (WK := W96) (TN := TN) (TS := TS) (SE := SE) (SK := SK) (i := (i + 1)) ha hsp hwk hnw htn hnsp htsp hse hstk hq hki hne hot hra hs hco hre hho (by omega) (by omega) jse jtn jts (rgs_zu (rgs_cpy jg1 jsp (by omega)) (by omega)) (spo_arr jg1 jg2 (by omega) (by omega)) (by omega) (jso.long jro (by omega) (by omega) (by omega) (by omega) (by omega) hc_ hk_ (by omega) hsu (by omega) hkk jnw (fun z a b => (hp.k z a b).1)) hfr hlen hsl (by omega) hk0
                · refine ab_vret rfl d_TH_step_257 ?_
                  exact hk0 _ _ _ _ _ _ _ _ _ _ ha hsp hwk hnw htn hnsp htsp hse hstk (by omega) (by omega) (by first | exact (rgs_zu (rgs_cpy jg1 jsp (by omega)) (by omega)) | exact rgs_w (rgs_zu (rgs_cpy jg1 jsp (by omega)) (by omega)) (by omega)) (by first | exact jse | exact rgs_w jse (by omega)) (by exact jtn) (by exact jts) (by exact (spo_arr jg1 jg2 (by omega) (by omega))) (by exact jso.first jro (by omega) (by omega) (by omega) (by omega) (by omega) hc_ hk_ (by omega)) hfr hlen hsl
              · refine ab_iload_n d_TH_step_213 rfl ?_
                refine ab_aload_n d_TH_step_214 rfl ?_
                refine ab_getf (fs := [vR sp, vR wk, vR nw, vR tn, vR nsp, vR tsp, vz nc, vz tc, vR se, vz sta, vR stk, vz fo, vR q, vR s, vz hw, vz fy, vj (stp + 1)]) f_TH_40 d_TH_step_215 ha.2.2 rfl ?_
                refine ab_getf (fs := [vR by_, vR co, vR re, vR ho, vz n]) f_TH_67 d_TH_step_218 hs.2.2 rfl ?_
                refine zz_icmp_ne (tgt := 258) d_TH_step_221 (by decide) (by omega) (by omega) (fun c139 => ?_) (fun c139 => ?_)
                · refine zz_iinc d_TH_step_258 rfl (Nat.le_of_ble_eq_true rfl) (Nat.le_of_ble_eq_true rfl) rfl ?_
                  change ab_W _ _ _ G95 261 [some (vR a), some (vz p), some (vz wi), some (vz (i + 1)), some (vz ((NW i) % 1024)), none, none] [] _
                  refine ab_goto (tgt := 10) d_TH_step_261 (by decide) ?_
                  refine ab_less (L' := [some (vR a), some (vz p), some (vz wi), some (vz (i + 1)), none, none, none]) (fun i v h => by rcases i with _ | _ | _ | _ | _ | _ | _ | i <;> first | exact h | (simp at h)) ?_
                  exact ih (tc := tc) (fo := fo) (stp := (stp + 1)) (SP := SP) (WK := W96) (TN := TN) (TS := TS) (SE := SE) (SK := SK) (i := (i + 1)) ha hsp hwk hnw htn hnsp htsp hse hstk hq hki hne hot hra hs hco hre hho (by omega) (by omega) jse jtn jts jsp jspo (by omega) (jso.miss jro (by omega) (by omega) (by omega) (by omega)) hfr hlen hsl (by omega) hk0
                · refine ab_aload_n d_TH_step_224 rfl ?_
                  refine ab_getf (fs := [vR sp, vR wk, vR nw, vR tn, vR nsp, vR tsp, vz nc, vz tc, vR se, vz sta, vR stk, vz fo, vR q, vR s, vz hw, vz fy, vj (stp + 1)]) f_TH_15 d_TH_step_225 ha.2.2 rfl ?_
                  refine zz_iconst d_TH_step_228 ?_
                  refine ab_aload_n d_TH_step_229 rfl ?_
                  refine ab_getf (fs := [vR sp, vR wk, vR nw, vR tn, vR nsp, vR tsp, vz nc, vz tc, vR se, vz sta, vR stk, vz fo, vR q, vR s, vz hw, vz fy, vj (stp + 1)]) f_TH_9 d_TH_step_230 ha.2.2 rfl ?_
                  refine zz_iconst d_TH_step_233 ?_
                  refine ab_iload_n d_TH_step_234 rfl ?_
                  refine zz_copy mj_TH_109 d_TH_step_235 hwk hsp (hsp.2.1 (by decide)) (by omega) (Nat.le_of_ble_eq_true rfl) (by omega) ?_
                  obtain ⟨G140, eG140⟩ : ∃ z : ab_G, z = List.set G95 sp (za 20 (zcpy W96 SP 0 0 wi)) := ⟨_, rfl⟩
                  have ha := ha.keep hsp eG140 (by decide)
                  have hwk := hwk.keep hsp eG140 (by decide)
                  have hnw := hnw.keep hsp eG140 (by omega)
                  have htn := htn.keep hsp eG140 (by omega)
                  have hnsp := hnsp.keep hsp eG140 (by omega)
                  have htsp := htsp.keep hsp eG140 (by omega)
                  have hse := hse.keep hsp eG140 (by decide)
                  have hstk := hstk.keep hsp eG140 (by decide)
                  have hq := hq.keep hsp eG140 (by omega)
                  have hki := hki.keep hsp eG140 (by omega)
                  have hne := hne.keep hsp eG140 (by omega)
                  have hot := hot.keep hsp eG140 (by omega)
                  have hra := hra.keep hsp eG140 (by omega)
                  have hs := hs.keep hsp eG140 (by decide)
                  have hco := hco.keep hsp eG140 (by decide)
                  have hre := hre.keep hsp eG140 (by decide)
                  have hho := hho.keep hsp eG140 (by decide)
                  have hlen := (z_len eG140).trans hlen
                  have hsl := (z_sl hsp eG140 rfl).trans hsl
                  have hfr := hfr.wr hsp eG140 (by decide)
                  have hsp := hsp.kept eG140
                  change ab_W _ _ _ (List.set G95 sp (za 20 (zcpy W96 SP 0 0 wi))) 238 [some (vR a), some (vz p), some (vz wi), some (vz i), some (vz ((NW i) % 1024)), none, none] [] _
                  rw [← eG140]
                  refine ab_aload_n d_TH_step_238 rfl ?_
                  refine ab_getf (fs := [vR sp, vR wk, vR nw, vR tn, vR nsp, vR tsp, vz nc, vz tc, vR se, vz sta, vR stk, vz fo, vR q, vR s, vz hw, vz fy, vj (stp + 1)]) f_TH_9 d_TH_step_239 ha.2.2 rfl ?_
                  refine zz_iconst d_TH_step_242 ?_
                  refine ab_iload_n d_TH_step_243 rfl ?_
                  refine zz_iast d_TH_step_244 hsp (by omega) (hsp.2.1 (by decide)) ?_
                  obtain ⟨G141, eG141⟩ : ∃ z : ab_G, z = List.set G140 sp (za 20 (zu (zcpy W96 SP 0 0 wi) 1 p)) := ⟨_, rfl⟩
                  have ha := ha.keep hsp eG141 (by decide)
                  have hwk := hwk.keep hsp eG141 (by decide)
                  have hnw := hnw.keep hsp eG141 (by omega)
                  have htn := htn.keep hsp eG141 (by omega)
                  have hnsp := hnsp.keep hsp eG141 (by omega)
                  have htsp := htsp.keep hsp eG141 (by omega)
                  have hse := hse.keep hsp eG141 (by decide)
                  have hstk := hstk.keep hsp eG141 (by decide)
                  have hq := hq.keep hsp eG141 (by omega)
                  have hki := hki.keep hsp eG141 (by omega)
                  have hne := hne.keep hsp eG141 (by omega)
                  have hot := hot.keep hsp eG141 (by omega)
                  have hra := hra.keep hsp eG141 (by omega)
                  have hs := hs.keep hsp eG141 (by decide)
                  have hco := hco.keep hsp eG141 (by decide)
                  have hre := hre.keep hsp eG141 (by decide)
                  have hho := hho.keep hsp eG141 (by decide)
                  have hlen := (z_len eG141).trans hlen
                  have hsl := (z_sl hsp eG141 rfl).trans hsl
                  have hfr := hfr.wr hsp eG141 (by decide)
                  have hsp := hsp.kept eG141
                  change ab_W _ _ _ (List.set G140 sp (za 20 (zu (zcpy W96 SP 0 0 wi) 1 p))) 245 [some (vR a), some (vz p), some (vz wi), some (vz i), some (vz ((NW i) % 1024)), none, none] [] _
                  rw [← eG141]
                  refine ab_aload_n d_TH_step_245 rfl ?_
                  refine zz_iconst d_TH_step_246 ?_
                  refine ab_putf (fs := [vR sp, vR wk, vR nw, vR tn, vR nsp, vR tsp, vz nc, vz tc, vR se, vz sta, vR stk, vz fo, vR q, vR s, vz hw, vz fy, vj (stp + 1)]) f_TH_61 (Or.inl rfl) d_TH_step_247 ha.2.2 (Nat.le_of_ble_eq_true rfl) (ab_fbz (by decide)) (ha.2.1 (by decide)) ?_
                  obtain ⟨G142, eG142⟩ : ∃ z : ab_G, z = List.set G141 a (ab_ob 11 [vR sp, vR wk, vR nw, vR tn, vR nsp, vR tsp, vz nc, vz tc, vR se, vz sta, vR stk, vz 1, vR q, vR s, vz hw, vz fy, vj (stp + 1)]) := ⟨_, rfl⟩
                  have hsp := hsp.keep ha eG142 (by decide)
                  have hwk := hwk.keep ha eG142 (by decide)
                  have hnw := hnw.keep ha eG142 (by omega)
                  have htn := htn.keep ha eG142 (by omega)
                  have hnsp := hnsp.keep ha eG142 (by omega)
                  have htsp := htsp.keep ha eG142 (by omega)
                  have hse := hse.keep ha eG142 (by decide)
                  have hstk := hstk.keep ha eG142 (by decide)
                  have hq := hq.keep ha eG142 (by omega)
                  have hki := hki.keep ha eG142 (by omega)
                  have hne := hne.keep ha eG142 (by omega)
                  have hot := hot.keep ha eG142 (by omega)
                  have hra := hra.keep ha eG142 (by omega)
                  have hs := hs.keep ha eG142 (by decide)
                  have hco := hco.keep ha eG142 (by decide)
                  have hre := hre.keep ha eG142 (by decide)
                  have hho := hho.keep ha eG142 (by decide)
                  have hlen := (z_len eG142).trans hlen
                  have hsl := (z_sl ha eG142 rfl).trans hsl
                  have hfr := hfr.wr ha eG142 (by decide)
                  have ha := ha.kept eG142
                  change ab_W _ _ _ (List.set G141 a (ab_ob 11 [vR sp, vR wk, vR nw, vR tn, vR nsp, vR tsp, vz nc, vz tc, vR se, vz sta, vR stk, vz 1, vR q, vR s, vz hw, vz fy, vj (stp + 1)])) 250 [some (vR a), some (vz p), some (vz wi), some (vz i), some (vz ((NW i) % 1024)), none, none] [] _
                  rw [← eG142]
                  refine ab_aload_n d_TH_step_250 rfl ?_
                  refine ab_getf (fs := [vR sp, vR wk, vR nw, vR tn, vR nsp, vR tsp, vz nc, vz tc, vR se, vz sta, vR stk, vz 1, vR q, vR s, vz hw, vz fy, vj (stp + 1)]) f_TH_54 d_TH_step_251 ha.2.2 rfl ?_
                  refine zz_if_eq (tgt := 258) d_TH_step_254 (by decide) (by omega) (fun c143 => ?_) (fun c143 => ?_)
                  · refine zz_iinc d_TH_step_258 rfl (Nat.le_of_ble_eq_true rfl) (Nat.le_of_ble_eq_true rfl) rfl ?_
                    change ab_W _ _ _ G142 261 [some (vR a), some (vz p), some (vz wi), some (vz (i + 1)), some (vz ((NW i) % 1024)), none, none] [] _
                    refine ab_goto (tgt := 10) d_TH_step_261 (by decide) ?_
                    refine ab_less (L' := [some (vR a), some (vz p), some (vz wi), some (vz (i + 1)), none, none, none]) (fun i v h => by rcases i with _ | _ | _ | _ | _ | _ | _ | i <;> first | exact h | (simp at h)) ?_
                    exact ih (tc := tc) (fo := 1) (stp := (stp + 1)) (SP := (zu (zcpy W96 SP 0 0 wi) 1 p)) (WK := W96) (TN := TN) (TS := TS) (SE := SE) (SK := SK) (i := (i + 1)) ha hsp hwk hnw htn hnsp htsp hse hstk hq hki hne hot hra hs hco hre hho (by omega) (by omega) jse jtn jts (rgs_zu (rgs_cpy jg1 jsp (by omega)) (by omega)) (spo_arr jg1 jg2 (by omega) (by omega)) (by omega) (jso.long jro (by omega) (by omega) (by omega) (by omega) (by omega) hc_ hk_ (by omega) hsu (by omega) hkk jnw (fun z a b => (hp.k z a b).1)) hfr hlen hsl (by omega) hk0
                  · refine ab_vret rfl d_TH_step_257 ?_
                    exact hk0 _ _ _ _ _ _ _ _ _ _ ha hsp hwk hnw htn hnsp htsp hse hstk (by omega) (by omega) (by first | exact (rgs_zu (rgs_cpy jg1 jsp (by omega)) (by omega)) | exact rgs_w (rgs_zu (rgs_cpy jg1 jsp (by omega)) (by omega)) (by omega)) (by first | exact jse | exact rgs_w jse (by omega)) (by exact jtn) (by exact jts) (by exact (spo_arr jg1 jg2 (by omega) (by omega))) (by exact jso.first jro (by omega) (by omega) (by omega) (by omega) (by omega) hc_ hk_ (by omega)) hfr hlen hsl
            · have jk := tho_t jt (by omega)
              have jk0_ := (hp (NW i % 1024) (by omega) (by omega)).1
              refine ab_aload_n d_TH_step_108 rfl ?_
              refine ab_getf (fs := [vR sp, vR wk, vR nw, vR tn, vR nsp, vR tsp, vz nc, vz tc, vR se, vz sta, vR stk, vz fo, vR q, vR s, vz hw, vz fy, vj (stp + 1)]) f_TH_18 d_TH_step_109 ha.2.2 rfl ?_
              refine ab_iload_n d_TH_step_112 rfl ?_
              refine zz_iald d_TH_step_113 hnw (by omega) ?_
              refine zz_sipush d_TH_step_114 (by decide) ?_
              refine zz_icmp_lt (tgt := 124) d_TH_step_117 (by decide) (by omega) (by decide) (fun c144 => ?_) (fun c144 => absurd c144 (by omega))
              refine zz_iconst d_TH_step_124 ?_
              refine ab_istore d_TH_step_125 (Nat.le_of_ble_eq_true rfl) (Nat.le_of_ble_eq_true rfl) rfl ?_
              change ab_W _ _ _ G95 127 [some (vR a), some (vz p), some (vz wi), some (vz i), some (vz ((NW i) % 1024)), some (vz 0), none] [] _
              refine ab_iload d_TH_step_127 rfl ?_
              refine zz_if_eq (tgt := 144) d_TH_step_129 (by decide) (by decide) (fun c145 => ?_) (fun c145 => absurd c145 (by decide))
              refine ab_aload_n d_TH_step_144 rfl ?_
              refine ab_getf (fs := [vR sp, vR wk, vR nw, vR tn, vR nsp, vR tsp, vz nc, vz tc, vR se, vz sta, vR stk, vz fo, vR q, vR s, vz hw, vz fy, vj (stp + 1)]) f_TH_36 d_TH_step_145 ha.2.2 rfl ?_
              refine ab_iload d_TH_step_148 rfl ?_
              refine ab_aload_n d_TH_step_150 rfl ?_
              refine ab_getf (fs := [vR sp, vR wk, vR nw, vR tn, vR nsp, vR tsp, vz nc, vz tc, vR se, vz sta, vR stk, vz fo, vR q, vR s, vz hw, vz fy, vj (stp + 1)]) f_TH_40 d_TH_step_151 ha.2.2 rfl ?_
              refine ab_iload_n d_TH_step_154 rfl ?_
              refine ab_callV (d' := d - 1) (as := [vz ((NW i) % 1024), vR s, vz p]) (st := []) (r := _) (z_PR_bytesTaken (o := o) (q := q) (lq := lq) (ki := ki) (ne := ne) (ot := ot) (cnt := cnt) (fi := fi) (la := la) (ra := ra) (ru := ru) (gr := gr) (wi := wi) (sz := sz) (fl := fl) (ve := ve) (mi := mi) (na := na) (nl := nl) (K := K) (O := O) (RR := RR) (nr := nr) (s := s) (by_ := by_) (co := co) (re := re) (ho := ho) (n := n) (C := C) (Rs := Rs) (mc := mc) (x := ((NW i) % 1024)) (p := p) hq hki hot hra hs hco hre (by omega) (by omega) hp hr (by omega) hsu (by omega)) (fun oc G2 h => by rcases h with ⟨_, h, _⟩ <;> exact ⟨_, h⟩) (by omega) m_PR_bytesTaken ml_TH_121 im_PR_bytesTaken se_PR_bytesTaken c_PR hq.2.2 (Nat.le_of_ble_eq_true rfl) d_TH_step_155 rfl ?_
              intro v G146 hq
              rcases hq with ⟨v147, hv, hfk, hlk, hsk, hq148, hq149⟩
              cases hv
              have ha := hfk.get ha (by decide)
              have hsp := hfk.get hsp (by decide)
              have hwk := hfk.get hwk (by decide)
              have hnw := hfk.get hnw (by simp)
              have htn := hfk.get htn (by simp)
              have hnsp := hfk.get hnsp (by simp)
              have htsp := hfk.get htsp (by simp)
              have hse := hfk.get hse (by decide)
              have hstk := hfk.get hstk (by decide)
              have hq := hfk.get hq (by simp)
              have hki := hfk.get hki (by simp)
              have hne := hfk.get hne (by simp)
              have hot := hfk.get hot (by simp)
              have hra := hfk.get hra (by simp)
              have hs := hfk.get hs (by decide)
              have hco := hfk.get hco (by decide)
              have hre := hfk.get hre (by decide)
              have hho := hfk.get hho (by decide)
              have hfr := hfr.tr hfk (by decide)
              have hlen := hlk.trans hlen
              have hsl := hsk.trans hsl
              change ab_W _ _ _ G146 158 [some (vR a), some (vz p), some (vz wi), some (vz i), some (vz ((NW i) % 1024)), some (vz 0), none] [vz v147] _
              refine ab_istore d_TH_step_158 (Nat.le_of_ble_eq_true rfl) (Nat.le_of_ble_eq_true rfl) rfl ?_
              change ab_W _ _ _ G146 160 [some (vR a), some (vz p), some (vz wi), some (vz i), some (vz ((NW i) % 1024)), some (vz 0), some (vz v147)] [] _
              have jv_ := jso.v (vb := v147) jro (by omega) hsu (by omega) (Or.inl ⟨by omega, by omega, hq148⟩)
              refine ab_iload d_TH_step_160 rfl ?_
              refine zz_iconst d_TH_step_162 ?_
              refine zz_icmp_ne (tgt := 186) d_TH_step_163 (by decide) (by omega) (by decide) (fun c150 => ?_) (fun c150 => ?_)
              · refine ab_iload d_TH_step_186 rfl ?_
                refine zz_iconst d_TH_step_188 ?_
                refine zz_icmp_le (tgt := 202) d_TH_step_189 (by decide) (by omega) (by decide) (fun c151 => ?_) (fun c151 => ?_)
                · refine ab_goto (tgt := 258) d_TH_step_202 (by decide) ?_
                  refine zz_iinc d_TH_step_258 rfl (Nat.le_of_ble_eq_true rfl) (Nat.le_of_ble_eq_true rfl) rfl ?_
                  change ab_W _ _ _ G146 261 [some (vR a), some (vz p), some (vz wi), some (vz (i + 1)), some (vz ((NW i) % 1024)), some (vz 0), some (vz v147)] [] _
                  refine ab_goto (tgt := 10) d_TH_step_261 (by decide) ?_
                  refine ab_less (L' := [some (vR a), some (vz p), some (vz wi), some (vz (i + 1)), none, none, none]) (fun i v h => by rcases i with _ | _ | _ | _ | _ | _ | _ | i <;> first | exact h | (simp at h)) ?_
                  exact ih (tc := tc) (fo := fo) (stp := (stp + 1)) (SP := SP) (WK := W96) (TN := TN) (TS := TS) (SE := SE) (SK := SK) (i := (i + 1)) ha hsp hwk hnw htn hnsp htsp hse hstk hq hki hne hot hra hs hco hre hho (by omega) (by omega) jse jtn jts jsp jspo (by omega) (jso.skip jro (by omega) (jv_.1 (by omega))) hfr hlen hsl (by omega) hk0
                · refine ab_aload_n d_TH_step_192 rfl ?_
                  refine ab_iload d_TH_step_193 rfl ?_
                  refine zz_sipush d_TH_step_195 (by decide) ?_
                  refine zz_iadd d_TH_step_198 ?_
                  refine ab_callV (d' := d - 1) (as := [vz (((NW i) % 1024) + 1024)]) (st := []) (r := _) (z_TH_put (o := o) (q := q) (lq := lq) (ki := ki) (ne := ne) (ot := ot) (cnt := cnt) (fi := fi) (la := la) (ra := ra) (ru := ru) (gr := gr) (wi := wi) (sz := sz) (fl := fl) (ve := ve) (mi := mi) (na := na) (nl := nl) (s := s) (a := a) (sp := sp) (wk := wk) (nw := nw) (tn := tn) (nsp := nsp) (tsp := tsp) (se := se) (stk := stk) (nc := nc) (tc := tc) (sta := sta) (fo := fo) (hw := hw) (fy := fy) (stp := (stp + 1)) (WK := W96) (NW := NW) (TN := TN) (NS := NS) (TS := TS) (SE := SE) (l1 := l1) (l2 := l2) (l3 := l3) (l4 := l4) (e := (((NW i) % 1024) + 1024)) ha hwk hnw hnsp htn htsp hse hq (by omega) (by omega) (by omega) jg1 (by omega) jse (by omega) jtn jts (by omega) (tho_w (by omega) jk) (by omega) (by omega)) (fun oc G2 h => by rcases h with ⟨h, _⟩ | ⟨h, _⟩ | ⟨_, _, _, _, h, _⟩ <;> exact ⟨_, h⟩) (by omega) m_TH_put ml_TH_128 im_TH_put se_TH_put c_TH ha.2.2 (Nat.le_of_ble_eq_true rfl) d_TH_step_199 rfl ?_
                  intro v G152 hq
                  rcases hq with ⟨hv, hGe, hq153⟩ | ⟨hv, hGe, hq154, hq155⟩ | ⟨SE2156, TN2157, TS2158, tc2159, hv, hfk, hlk, hsk, hNa, hNwk, hNnw, hNnsp, hNtn, hNtsp, hNse, hq160, hq161, hq162, hq163, hq164⟩
                  · cases hv
                    rw [hGe]
                    change ab_W _ _ _ G146 202 [some (vR a), some (vz p), some (vz wi), some (vz i), some (vz ((NW i) % 1024)), some (vz 0), some (vz v147)] [] _
                    refine ab_goto (tgt := 258) d_TH_step_202 (by decide) ?_
                    refine zz_iinc d_TH_step_258 rfl (Nat.le_of_ble_eq_true rfl) (Nat.le_of_ble_eq_true rfl) rfl ?_
                    change ab_W _ _ _ G146 261 [some (vR a), some (vz p), some (vz wi), some (vz (i + 1)), some (vz ((NW i) % 1024)), some (vz 0), some (vz v147)] [] _
                    refine ab_goto (tgt := 10) d_TH_step_261 (by decide) ?_
                    refine ab_less (L' := [some (vR a), some (vz p), some (vz wi), some (vz (i + 1)), none, none, none]) (fun i v h => by rcases i with _ | _ | _ | _ | _ | _ | _ | i <;> first | exact h | (simp at h)) ?_
                    exact ih (tc := tc) (fo := fo) (stp := (stp + 1)) (SP := SP) (WK := W96) (TN := TN) (TS := TS) (SE := SE) (SK := SK) (i := (i + 1)) ha hsp hwk hnw htn hnsp htsp hse hstk hq hki hne hot hra hs hco hre hho (by omega) (by omega) jse jtn jts jsp jspo (by omega) (jso.wait jro (by omega) hsu (by omega) (jv_.2 (by omega)) (by omega) (by omega) hk_ (by omega) hc_ (Or.inl ⟨hq153, rfl, rfl, rfl, rfl⟩)) hfr hlen hsl (by omega) hk0
                  · cases hv
                    rw [hGe]
                    change ab_W _ _ _ G146 202 [some (vR a), some (vz p), some (vz wi), some (vz i), some (vz ((NW i) % 1024)), some (vz 0), some (vz v147)] [] _
                    exfalso
                    have hrm_ := jso.room hkk (x := NW i % 1024) (by omega) hq154
                    omega
                  · cases hv
                    have hsp := hfk.get hsp (by decide)
                    have hstk := hfk.get hstk (by decide)
                    have hq := hfk.get hq (by simp only [List.mem_cons, List.not_mem_nil, or_false]; omega)
                    have hki := hfk.get hki (by simp only [List.mem_cons, List.not_mem_nil, or_false]; omega)
                    have hne := hfk.get hne (by simp only [List.mem_cons, List.not_mem_nil, or_false]; omega)
                    have hot := hfk.get hot (by simp only [List.mem_cons, List.not_mem_nil, or_false]; omega)
                    have hra := hfk.get hra (by simp only [List.mem_cons, List.not_mem_nil, or_false]; omega)
                    have hs := hfk.get hs (by decide)
                    have hco := hfk.get hco (by decide)
                    have hre := hfk.get hre (by decide)
                    have hho := hfk.get hho (by decide)
                    have hfr := hfr.tr hfk (by decide)
                    have hlen := hlk.trans hlen
                    have hsl := hsk.trans hsl
                    have ha := hNa
                    have hwk := hNwk
                    have hnw := hNnw
                    have hnsp := hNnsp
                    have htn := hNtn
                    have htsp := hNtsp
                    have hse := hNse
                    change ab_W _ _ _ G152 202 [some (vR a), some (vz p), some (vz wi), some (vz i), some (vz ((NW i) % 1024)), some (vz 0), some (vz v147)] [] _
                    refine ab_goto (tgt := 258) d_TH_step_202 (by decide) ?_
                    refine zz_iinc d_TH_step_258 rfl (Nat.le_of_ble_eq_true rfl) (Nat.le_of_ble_eq_true rfl) rfl ?_
                    change ab_W _ _ _ G152 261 [some (vR a), some (vz p), some (vz wi), some (vz (i + 1)), some (vz ((NW i) % 1024)), some (vz 0), some (vz v147)] [] _
                    refine ab_goto (tgt := 10) d_TH_step_261 (by decide) ?_
                    refine ab_less (L' := [some (vR a), some (vz p), some (vz wi), some (vz (i + 1)), none, none, none]) (fun i v h => by rcases i with _ | _ | _ | _ | _ | _ | _ | i <;> first | exact h | (simp at h)) ?_
                    exact ih (tc := tc2159) (fo := fo) (stp := (stp + 1)) (SP := SP) (WK := W96) (TN := TN2157) (TS := TS2158) (SE := SE2156) (SK := SK) (i := (i + 1)) ha hsp hwk hnw htn hnsp htsp hse hstk hq hki hne hot hra hs hco hre hho (by omega) (by omega) hq161 hq162 hq163 jsp jspo (by omega) (jso.wait jro (by omega) hsu (by omega) (jv_.2 (by omega)) (by omega) (by omega) hk_ (by omega) hc_ (Or.inr ⟨hq164, by omega⟩)) hfr hlen hsl (by omega) hk0
              · have jw_ := jv_.2 (by omega)
                have jwn_ := jw_.2.1
                have jw1_ := jw_.1
                rw [show v147 = 1 by omega] at jw1_ jwn_
                refine ab_aload_n d_TH_step_166 rfl ?_
                refine ab_aload_n d_TH_step_167 rfl ?_
                refine ab_getf (fs := [vR sp, vR wk, vR nw, vR tn, vR nsp, vR tsp, vz nc, vz tc, vR se, vz sta, vR stk, vz fo, vR q, vR s, vz hw, vz fy, vj (stp + 1)]) f_TH_36 d_TH_step_168 ha.2.2 rfl ?_
                refine ab_getf (fs := [vR ki, vR ne, vR ot, vz cnt, vz fi, vz la, vR ra, vz ru, vz gr, vz wi, vz sz, vz fl, vz ve, vz mi, vR na, vR nl]) f_TH_125 d_TH_step_171 hq.2.2 rfl ?_
                refine ab_iload d_TH_step_174 rfl ?_
                refine zz_iald d_TH_step_176 hne (by omega) ?_
                have hq165 := hp.n ((NW i) % 1024) (by omega) (by omega)
                refine ab_iload_n d_TH_step_177 rfl ?_
                refine zz_iconst d_TH_step_178 ?_
                refine zz_iadd d_TH_step_179 ?_
                refine ab_callV (d' := d - 1) (as := [vz (N ((NW i) % 1024)), vz (p + 1)]) (st := []) (r := _) (z_TH_follow (o := o) (q := q) (lq := lq) (ki := ki) (ne := ne) (ot := ot) (cnt := cnt) (fi := fi) (la := la) (ra := ra) (ru := ru) (gr := gr) (wi := wi) (sz := sz) (fl := fl) (ve := ve) (mi := mi) (na := na) (nl := nl) (K := K) (N := N) (O := O) (RR := RR) (nr := nr) (s := s) (by_ := by_) (co := co) (re := re) (ho := ho) (n := n) (C := C) (Rs := Rs) (H := H) (mc := mc) (a := a) (sp := sp) (wk := wk) (nw := nw) (tn := tn) (nsp := nsp) (tsp := tsp) (se := se) (stk := stk) (nc := nc) (tc := tc) (sta := sta) (fo := fo) (hw := hw) (fy := fy) (stp := (stp + 1)) (SP := SP) (WK := W96) (NW := NW) (TN := TN) (NS := NS) (TS := TS) (SE := SE) (SK := SK) (l1 := l1) (l2 := l2) (l3 := l3) (l4 := l4) (p := (p + 1)) (x := (N ((NW i) % 1024))) (st := (NS (i * wi))) (Mw := W_) (s0 := s_) (gw := g_) (Lw := L_) ha hsp hwk hnw htn hnsp htsp hse hstk hq hki hne hot hra hs hco hre hho (by omega) hp hr (by omega) hsu (by omega) (by omega) hkk (by omega) (by omega) (by omega) jg1 (by omega) jse jtn jts jso.f jso.2.2.2.2.2.2.2 (jso.gA hk_) hk_.1 jw1_ (by omega)) (fun oc G2 h => by rcases h with ⟨_, _, _, _, _, _, _, h, _⟩ <;> exact ⟨_, h⟩) (by omega) m_TH_follow ml_TH_84 im_TH_follow se_TH_follow c_TH ha.2.2 (Nat.le_of_ble_eq_true rfl) d_TH_step_180 rfl ?_
                intro v G166 hq
                rcases hq with ⟨tc2167, st2168, SE2169, TN2170, TS2171, SK2172, WK2173, hv, hfk, hlk, hsk, hNa, hNsp, hNwk, hNnw, hNtn, hNnsp, hNtsp, hNse, hNstk, hq174, hq175, hq176, hq177, hq178, hq179, hq180⟩
                cases hv
                have hq := hfk.get hq (by simp only [List.mem_cons, List.not_mem_nil, or_false]; omega)
                have hki := hfk.get hki (by simp only [List.mem_cons, List.not_mem_nil, or_false]; omega)
                have hne := hfk.get hne (by simp only [List.mem_cons, List.not_mem_nil, or_false]; omega)
                have hot := hfk.get hot (by simp only [List.mem_cons, List.not_mem_nil, or_false]; omega)
                have hra := hfk.get hra (by simp only [List.mem_cons, List.not_mem_nil, or_false]; omega)
                have hs := hfk.get hs (by decide)
                have hco := hfk.get hco (by decide)
                have hre := hfk.get hre (by decide)
                have hho := hfk.get hho (by decide)
                have hfr := hfr.tr hfk (by decide)
                have hlen := hlk.trans hlen
                have hsl := hsk.trans hsl
                have ha := hNa
                have hsp := hNsp
                have hwk := hNwk
                have hnw := hNnw
                have htn := hNtn
                have hnsp := hNnsp
                have htsp := hNtsp
                have hse := hNse
                have hstk := hNstk
                change ab_W _ _ _ G166 183 [some (vR a), some (vz p), some (vz wi), some (vz i), some (vz ((NW i) % 1024)), some (vz 0), some (vz v147)] [] _
                refine ab_goto (tgt := 202) d_TH_step_183 (by decide) ?_
                refine ab_goto (tgt := 258) d_TH_step_202 (by decide) ?_
                refine zz_iinc d_TH_step_258 rfl (Nat.le_of_ble_eq_true rfl) (Nat.le_of_ble_eq_true rfl) rfl ?_
                change ab_W _ _ _ G166 261 [some (vR a), some (vz p), some (vz wi), some (vz (i + 1)), some (vz ((NW i) % 1024)), some (vz 0), some (vz v147)] [] _
                refine ab_goto (tgt := 10) d_TH_step_261 (by decide) ?_
                refine ab_less (L' := [some (vR a), some (vz p), some (vz wi), some (vz (i + 1)), none, none, none]) (fun i v h => by rcases i with _ | _ | _ | _ | _ | _ | _ | i <;> first | exact h | (simp at h)) ?_
                exact ih (tc := tc2167) (fo := fo) (stp := st2168) (SP := SP) (WK := WK2173) (TN := TN2170) (TS := TS2171) (SE := SE2169) (SK := SK2172) (i := (i + 1)) ha hsp hwk hnw htn hnsp htsp hse hstk hq hki hne hot hra hs hco hre hho (by omega) (by omega) hq177 hq178 hq179 jsp jspo (by omega) (jso.move jro (by omega) hq180 hc_ hsu (by omega)) hfr hlen hsl (by omega) hk0
        · refine ab_vret rfl d_TH_step_52 ?_
          exact hk0 _ _ _ _ _ _ _ _ _ _ ha hsp hwk hnw htn hnsp htsp hse hstk (by omega) (by omega) (by first | exact jsp | exact rgs_w jsp (by omega)) (by first | exact jse | exact rgs_w jse (by omega)) (by exact jtn) (by exact jts) (by exact jspo) (by exact jso.late jro (by omega) (by omega) (by rw [← hv91]; omega)) hfr hlen hsl
set_option maxRecDepth 100000 in
set_option maxHeartbeats 4000000 in
theorem z_TH_step {X : ab_X} {d : Nat} {o : Nat → Nat} {G : ab_G} {q : Nat} {lq : Nat} {ki : Nat} {ne : Nat} {ot : Nat} {cnt : Int} {fi : Int} {la : Int} {ra : Nat} {ru : Int} {gr : Int} {wi : Int} {sz : Int} {fl : Int} {ve : Int} {mi : Int} {na : Nat} {nl : Nat} {K : Int → Int} {N : Int → Int} {O : Int → Int} {RR : Int → Int} {nr : Nat} {s : Nat} {by_ : Nat} {co : Nat} {re : Nat} {ho : Nat} {n : Int} {f : Int → Int} {C : Int → Int} {Rs : Int → Int} {H : Int → Int} {m : Nat} {mc : Nat} {a : Nat} {sp : Nat} {wk : Nat} {nw : Nat} {tn : Nat} {nsp : Nat} {tsp : Nat} {se : Nat} {stk : Nat} {nc : Int} {tc : Int} {sta : Int} {fo : Int} {hw : Int} {fy : Int} {stp : Int} {SP : Int → Int} {WK : Int → Int} {NW : Int → Int} {TN : Int → Int} {NS : Int → Int} {TS : Int → Int} {SE : Int → Int} {SK : Int → Int} {l1 : Nat} {l2 : Nat} {l3 : Nat} {l4 : Nat} {p : Int} {u9 : Sn} {lz : Int} {S9 : Option Tw} (ha : cc o G a 32 (ab_ob 11 [vR sp, vR wk, vR nw, vR tn, vR nsp, vR tsp, vz nc, vz tc, vR se, vz sta, vR stk, vz fo, vR q, vR s, vz hw, vz fy, vj stp])) (hsp : cc o G sp 31 (za 20 SP)) (hwk : cc o G wk 33 (za 20 WK)) (hnw : cc o G nw l1 (za 801 NW)) (htn : cc o G tn l2 (za 801 TN)) (hnsp : cc o G nsp l3 (za 16020 NS)) (htsp : cc o G tsp l4 (za 16020 TS)) (hse : cc o G se 39 (za 2048 SE)) (hstk : cc o G stk 40 (za 809 SK)) (hq : cc o G q lq (ab_ob 5 [vR ki, vR ne, vR ot, vz cnt, vz fi, vz la, vR ra, vz ru, vz gr, vz wi, vz sz, vz fl, vz ve, vz mi, vR na, vR nl])) (hki : cc o G ki (lq + 1) (za 808 K)) (hne : cc o G ne (lq + 2) (za 808 N)) (hot : cc o G ot (lq + 3) (za 808 O)) (hra : cc o G ra (lq + 4) (za nr RR)) (hs : cc o G s 26 (ab_ob 9 [vR by_, vR co, vR re, vR ho, vz n])) (hco : cc o G co 28 (za mc C)) (hre : cc o G re 29 (za mc Rs)) (hho : cc o G ho 30 (za mc H)) (cq : 100 ≤ lq ∧ 0 ≤ cnt ∧ cnt ≤ 808 ∧ ↑nr ≤ (100000 : Int)) (hp : prok K N O RR cnt ↑nr wi) (hr : ∀ k : Int, 0 ≤ k → k < ↑nr → 0 ≤ RR k ∧ RR k ≤ 1114111) (csu : 0 ≤ n ∧ n ≤ ↑m ∧ 32 ≤ m ∧ m ≤ 2000 ∧ mc = m + 1) (hsu : suok f C Rs H n) (cwi : 2 ≤ wi ∧ wi ≤ 20) (cl : l1 + l2 = 71 ∧ 35 ≤ l1 ∧ l1 ≤ 36 ∧ l3 + l4 = 75 ∧ 37 ≤ l3 ∧ l3 ≤ 38) (hkk : kkF K cnt) (cp : 0 ≤ p ∧ p ≤ n) (jnw : thos K cnt NW nc) (jns : thr NS nc wi n) (cnc : 0 ≤ nc ∧ nc ≤ 801) (cst : 0 ≤ sta ∧ sta ≤ 2100000000) (chw : 0 ≤ hw ∧ hw ≤ 2 ∧ 0 ≤ fy ∧ fy ≤ 1) (jro : roW Rs n p wi p NW NS nc) (ctc : 0 ≤ tc ∧ tc ≤ 801) (jse : rgs SE 2048 0 sta) (jtn : thos K cnt TN tc) (jts : thr TS tc wi n) (jsp : rgs SP 20 (-1) 2000) (jspo : spo fo SP wi n) (cfo : 0 ≤ fo ∧ fo ≤ 1) (jst : stJ K N O RR cnt u9 f n fy hw wi lz p Rs SE sta NW NS nc 0 TN TS tc fo SP S9) (hd : 7 ≤ d) : ab_F X d y_TH_step (.code y_TH_step b_TH_step 7 none) [vR a, vz p] G (fun oc G2 => ∃ tc2 : Int, ∃ st2 : Int, ∃ fo2 : Int, ∃ SE2 : Int → Int, ∃ TN2 : Int → Int, ∃ TS2 : Int → Int, ∃ SK2 : Int → Int, ∃ WK2 : Int → Int, ∃ SP2 : Int → Int, oc = .returned none ∧ fx o o [31, 32, 33, 35, 36, 37, 38, 39, 40] G G2 ∧ G2.length = G.length ∧ ab_slots G2 = ab_slots G ∧ cc o G2 a 32 (ab_ob 11 [vR sp, vR wk, vR nw, vR tn, vR nsp, vR tsp, vz nc, vz tc2, vR se, vz sta, vR stk, vz fo2, vR q, vR s, vz hw, vz fy, vj st2]) ∧ cc o G2 sp 31 (za 20 SP2) ∧ cc o G2 wk 33 (za 20 WK2) ∧ cc o G2 nw l1 (za 801 NW) ∧ cc o G2 tn l2 (za 801 TN2) ∧ cc o G2 nsp l3 (za 16020 NS) ∧ cc o G2 tsp l4 (za 16020 TS2) ∧ cc o G2 se 39 (za 2048 SE2) ∧ cc o G2 stk 40 (za 809 SK2) ∧ (0 ≤ tc2 ∧ tc2 ≤ 801) ∧ (0 ≤ fo2 ∧ fo2 ≤ 1) ∧ (rgs SP2 20 (-1) 2000) ∧ (rgs SE2 2048 0 sta) ∧ (thos K cnt TN2 tc2) ∧ (thr TS2 tc2 wi n) ∧ (spo fo2 SP2 wi n) ∧ (stE K N O RR cnt u9 f n fy hw wi lz (p + 1) Rs SE2 sta TN2 TS2 tc2 fo2 SP2 S9)) := by
  refine ab_F_of (by decide +kernel) (Nat.le_of_ble_eq_true rfl) ?_
  obtain ⟨Q, hQ⟩ : ∃ z : Outcome → ab_G → Prop, z = (fun oc G2 => ∃ tc2 : Int, ∃ st2 : Int, ∃ fo2 : Int, ∃ SE2 : Int → Int, ∃ TN2 : Int → Int, ∃ TS2 : Int → Int, ∃ SK2 : Int → Int, ∃ WK2 : Int → Int, ∃ SP2 : Int → Int, oc = .returned none ∧ fx o o [31, 32, 33, 35, 36, 37, 38, 39, 40] G G2 ∧ G2.length = G.length ∧ ab_slots G2 = ab_slots G ∧ cc o G2 a 32 (ab_ob 11 [vR sp, vR wk, vR nw, vR tn, vR nsp, vR tsp, vz nc, vz tc2, vR se, vz sta, vR stk, vz fo2, vR q, vR s, vz hw, vz fy, vj st2]) ∧ cc o G2 sp 31 (za 20 SP2) ∧ cc o G2 wk 33 (za 20 WK2) ∧ cc o G2 nw l1 (za 801 NW) ∧ cc o G2 tn l2 (za 801 TN2) ∧ cc o G2 nsp l3 (za 16020 NS) ∧ cc o G2 tsp l4 (za 16020 TS2) ∧ cc o G2 se 39 (za 2048 SE2) ∧ cc o G2 stk 40 (za 809 SK2) ∧ (0 ≤ tc2 ∧ tc2 ≤ 801) ∧ (0 ≤ fo2 ∧ fo2 ≤ 1) ∧ (rgs SP2 20 (-1) 2000) ∧ (rgs SE2 2048 0 sta) ∧ (thos K cnt TN2 tc2) ∧ (thr TS2 tc2 wi n) ∧ (spo fo2 SP2 wi n) ∧ (stE K N O RR cnt u9 f n fy hw wi lz (p + 1) Rs SE2 sta TN2 TS2 tc2 fo2 SP2 S9)) := ⟨_, rfl⟩
  rw [← hQ]
  change ab_W X (ab_pl y_TH_step b_TH_step 7 none) d G 0 [some (vR a), some (vz p), none, none, none, none, none] [] Q
  have hfr : fx o o [31, 32, 33, 35, 36, 37, 38, 39, 40] G G := fx.rf
  have hlen : G.length = G.length := rfl
  have hsl : ab_slots G = ab_slots G := rfl
  refine ab_aload_n d_TH_step_0 rfl ?_
  refine ab_getf (fs := [vR sp, vR wk, vR nw, vR tn, vR nsp, vR tsp, vz nc, vz tc, vR se, vz sta, vR stk, vz fo, vR q, vR s, vz hw, vz fy, vj stp]) f_TH_36 d_TH_step_1 ha.2.2 rfl ?_
  refine ab_getf (fs := [vR ki, vR ne, vR ot, vz cnt, vz fi, vz la, vR ra, vz ru, vz gr, vz wi, vz sz, vz fl, vz ve, vz mi, vR na, vR nl]) f_TH_72 d_TH_step_4 hq.2.2 rfl ?_
  refine ab_istore_n d_TH_step_7 (Nat.le_of_ble_eq_true rfl) (Nat.le_of_ble_eq_true rfl) rfl ?_
  change ab_W _ _ _ G 8 [some (vR a), some (vz p), some (vz wi), none, none, none, none] [] _
  refine zz_iconst d_TH_step_8 ?_
  refine ab_istore_n d_TH_step_9 (Nat.le_of_ble_eq_true rfl) (Nat.le_of_ble_eq_true rfl) rfl ?_
  change ab_W _ _ _ G 10 [some (vR a), some (vz p), some (vz wi), some (vz 0), none, none, none] [] _
  refine y_TH_step_10 (q := q) (lq := lq) (ki := ki) (ne := ne) (ot := ot) (cnt := cnt) (fi := fi) (la := la) (ra := ra) (ru := ru) (gr := gr) (wi := wi) (sz := sz) (fl := fl) (ve := ve) (mi := mi) (na := na) (nl := nl) (K := K) (N := N) (O := O) (RR := RR) (nr := nr) (s := s) (by_ := by_) (co := co) (re := re) (ho := ho) (n := n) (C := C) (Rs := Rs) (H := H) (mc := mc) (a := a) (sp := sp) (wk := wk) (nw := nw) (tn := tn) (nsp := nsp) (tsp := tsp) (se := se) (stk := stk) (nc := nc) (sta := sta) (hw := hw) (fy := fy) (NW := NW) (NS := NS) (l1 := l1) (l2 := l2) (l3 := l3) (l4 := l4) (p := p) (u9 := u9) (lz := lz) (S9 := S9) (G0 := G) (tc := tc) (fo := fo) (stp := stp) (SP := SP) (WK := WK) (TN := TN) (TS := TS) (SE := SE) (SK := SK) (i := 0) (by omega) hp hr (by omega) hsu (by omega) (by omega) hkk (by omega) jnw jns (by omega) (by omega) (by omega) jro (by omega) (Int.toNat (nc - 0) + 1) ha hsp hwk hnw htn hnsp htsp hse hstk hq hki hne hot hra hs hco hre hho (by omega) (by omega) jse jtn jts jsp jspo (by omega) jst fx.rf rfl rfl (by omega) (fun G1 tc22 st23 fo24 SE25 TN26 TS27 SK28 WK29 SP210 hNa hNsp hNwk hNnw hNtn hNnsp hNtsp hNse hNstk hq11 hq12 hq13 hq14 hq15 hq16 hq17 hq18 hfk hlk hsk => ?_)
  · have hq := hfk.get hq (by simp only [List.mem_cons, List.not_mem_nil, or_false]; omega)
    have hki := hfk.get hki (by simp only [List.mem_cons, List.not_mem_nil, or_false]; omega)
    have hne := hfk.get hne (by simp only [List.mem_cons, List.not_mem_nil, or_false]; omega)
    have hot := hfk.get hot (by simp only [List.mem_cons, List.not_mem_nil, or_false]; omega)
    have hra := hfk.get hra (by simp only [List.mem_cons, List.not_mem_nil, or_false]; omega)
    have hs := hfk.get hs (by decide)
    have hco := hfk.get hco (by decide)
    have hre := hfk.get hre (by decide)
    have hho := hfk.get hho (by decide)
    have hfr := hfr.tr hfk (by decide)
    have hlen := hlk.trans hlen
    have hsl := hsk.trans hsl
    have ha := hNa
    have hsp := hNsp
    have hwk := hNwk
    have hnw := hNnw
    have htn := hNtn
    have hnsp := hNnsp
    have htsp := hNtsp
    have hse := hNse
    have hstk := hNstk
    rw [hQ]; exact ⟨_, _, _, _, _, _, _, _, _, rfl, hfr, hlen, hsl, ha, hsp, hwk, hnw, htn, hnsp, htsp, hse, hstk, (by omega), (by omega), (by first | exact hq13 | exact rgs_w hq13 (by omega)), (by first | exact hq14 | exact rgs_w hq14 (by omega)), (by exact hq15), (by exact hq16), (by exact hq17), (by exact hq18)⟩
set_option maxRecDepth 100000 in
set_option maxHeartbeats 4000000 in
theorem z_TH_renewStamp {X : ab_X} {d : Nat} {o : Nat → Nat} {G : ab_G} {a : Nat} {wk : Nat} {nw : Nat} {tn : Nat} {nsp : Nat} {tsp : Nat} {se : Nat} {stk : Nat} {nc : Int} {tc : Int} {sta : Int} {fo : Int} {hw : Int} {fy : Int} {stp : Int} {SE : Int → Int} {sp0 : Value} {q0 : Value} {s0 : Value} (ha : cc o G a 32 (ab_ob 11 [sp0, vR wk, vR nw, vR tn, vR nsp, vR tsp, vz nc, vz tc, vR se, vz sta, vR stk, vz fo, q0, s0, vz hw, vz fy, vj stp])) (hse : cc o G se 39 (za 2048 SE)) (jse : rgs SE 2048 0 sta) (cst : 0 ≤ sta ∧ sta ≤ 2100000000) (hd : 1 ≤ d) : ab_F X d y_TH_renewStamp (.code y_TH_renewStamp b_TH_renewStamp 1 none) [vR a] G (fun oc G2 => ∃ sta2 : Int, ∃ SE2 : Int → Int, oc = .returned none ∧ fx o o [32, 39] G G2 ∧ G2.length = G.length ∧ ab_slots G2 = ab_slots G ∧ cc o G2 a 32 (ab_ob 11 [sp0, vR wk, vR nw, vR tn, vR nsp, vR tsp, vz nc, vz tc, vR se, vz sta2, vR stk, vz fo, q0, s0, vz hw, vz fy, vj stp]) ∧ cc o G2 se 39 (za 2048 SE2) ∧ (1 ≤ sta2 ∧ sta2 ≤ 2000000001) ∧ (rgs SE2 2048 0 (sta2 - 1))) := by
  refine ab_F_of (by decide +kernel) (Nat.le_of_ble_eq_true rfl) ?_
  obtain ⟨Q, hQ⟩ : ∃ z : Outcome → ab_G → Prop, z = (fun oc G2 => ∃ sta2 : Int, ∃ SE2 : Int → Int, oc = .returned none ∧ fx o o [32, 39] G G2 ∧ G2.length = G.length ∧ ab_slots G2 = ab_slots G ∧ cc o G2 a 32 (ab_ob 11 [sp0, vR wk, vR nw, vR tn, vR nsp, vR tsp, vz nc, vz tc, vR se, vz sta2, vR stk, vz fo, q0, s0, vz hw, vz fy, vj stp]) ∧ cc o G2 se 39 (za 2048 SE2) ∧ (1 ≤ sta2 ∧ sta2 ≤ 2000000001) ∧ (rgs SE2 2048 0 (sta2 - 1))) := ⟨_, rfl⟩
  rw [← hQ]
  change ab_W X (ab_pl y_TH_renewStamp b_TH_renewStamp 1 none) d G 0 [some (vR a)] [] Q
  have hfr : fx o o [32, 39] G G := fx.rf
  have hlen : G.length = G.length := rfl
  have hsl : ab_slots G = ab_slots G := rfl
  refine ab_aload_n d_TH_renewStamp_0 rfl ?_
  refine ab_getf (fs := [sp0, vR wk, vR nw, vR tn, vR nsp, vR tsp, vz nc, vz tc, vR se, vz sta, vR stk, vz fo, q0, s0, vz hw, vz fy, vj stp]) f_TH_98 d_TH_renewStamp_1 ha.2.2 rfl ?_
  refine zz_ldc 2000000000 d_TH_renewStamp_4 cn_TH_101 (by decide) ?_
  refine zz_icmp_le (tgt := 22) d_TH_renewStamp_6 (by decide) (by omega) (by decide) (fun c1 => ?_) (fun c1 => ?_)
  · refine ab_aload_n d_TH_renewStamp_22 rfl ?_
    refine ab_dup d_TH_renewStamp_23 rfl ?_
    refine ab_getf (fs := [sp0, vR wk, vR nw, vR tn, vR nsp, vR tsp, vz nc, vz tc, vR se, vz sta, vR stk, vz fo, q0, s0, vz hw, vz fy, vj stp]) f_TH_98 d_TH_renewStamp_24 ha.2.2 rfl ?_
    refine zz_iconst d_TH_renewStamp_27 ?_
    refine zz_iadd d_TH_renewStamp_28 ?_
    refine ab_putf (fs := [sp0, vR wk, vR nw, vR tn, vR nsp, vR tsp, vz nc, vz tc, vR se, vz sta, vR stk, vz fo, q0, s0, vz hw, vz fy, vj stp]) f_TH_98 (Or.inl rfl) d_TH_renewStamp_29 ha.2.2 (Nat.le_of_ble_eq_true rfl) (fun _ => ⟨rfl, rfl⟩) (ha.2.1 (by decide)) ?_
    obtain ⟨G2, eG2⟩ : ∃ z : ab_G, z = List.set G a (ab_ob 11 [sp0, vR wk, vR nw, vR tn, vR nsp, vR tsp, vz nc, vz tc, vR se, vz (sta + 1), vR stk, vz fo, q0, s0, vz hw, vz fy, vj stp]) := ⟨_, rfl⟩
    have hse := hse.keep ha eG2 (by decide)
    have hlen := (z_len eG2).trans hlen
    have hsl := (z_sl ha eG2 rfl).trans hsl
    have hfr := hfr.wr ha eG2 (by decide)
    have ha := ha.kept eG2
    change ab_W _ _ _ (List.set G a (ab_ob 11 [sp0, vR wk, vR nw, vR tn, vR nsp, vR tsp, vz nc, vz tc, vR se, vz (sta + 1), vR stk, vz fo, q0, s0, vz hw, vz fy, vj stp])) 32 [some (vR a)] [] _
    rw [← eG2]
    refine ab_vret rfl d_TH_renewStamp_32 ?_
    rw [hQ]; exact ⟨_, _, rfl, hfr, hlen, hsl, ha, hse, (by omega), (by exact rgs_up jse (by omega) (by omega))⟩
  · refine ab_aload_n d_TH_renewStamp_9 rfl ?_
    refine ab_getf (fs := [sp0, vR wk, vR nw, vR tn, vR nsp, vR tsp, vz nc, vz tc, vR se, vz sta, vR stk, vz fo, q0, s0, vz hw, vz fy, vj stp]) f_TH_30 d_TH_renewStamp_10 ha.2.2 rfl ?_
    refine zz_iconst d_TH_renewStamp_13 ?_
    refine ab_callS (d' := d - 1) (as := [vR se, vz 0]) (st := []) (z_AR_fill (o := o) (a := se) (l := 39) (n := 2048) (f := SE) (v := 0) hse (by have h18 : ab_n0 = 18 := rfl; omega)) (fun oc G2 h => by rcases h with ⟨h, _⟩ <;> exact ⟨_, h⟩) (by omega) m_AR_fill ml_TH_102 st_AR_fill (Nat.le_of_ble_eq_true rfl) d_TH_renewStamp_14 rfl ?_
    intro v G3 hq
    rcases hq with ⟨hv, hfk, hlk, hsk, hNse⟩
    cases hv
    have ha := hfk.get ha (by decide)
    have hfr := hfr.tr hfk (by decide)
    have hlen := hlk.trans hlen
    have hsl := hsk.trans hsl
    have hse := hNse
    change ab_W _ _ _ G3 17 [some (vR a)] [] _
    refine ab_aload_n d_TH_renewStamp_17 rfl ?_
    refine zz_iconst d_TH_renewStamp_18 ?_
    refine ab_putf (fs := [sp0, vR wk, vR nw, vR tn, vR nsp, vR tsp, vz nc, vz tc, vR se, vz sta, vR stk, vz fo, q0, s0, vz hw, vz fy, vj stp]) f_TH_98 (Or.inl rfl) d_TH_renewStamp_19 ha.2.2 (Nat.le_of_ble_eq_true rfl) (fun _ => ⟨rfl, rfl⟩) (ha.2.1 (by decide)) ?_
    obtain ⟨G4, eG4⟩ : ∃ z : ab_G, z = List.set G3 a (ab_ob 11 [sp0, vR wk, vR nw, vR tn, vR nsp, vR tsp, vz nc, vz tc, vR se, vz 0, vR stk, vz fo, q0, s0, vz hw, vz fy, vj stp]) := ⟨_, rfl⟩
    have hse := hse.keep ha eG4 (by decide)
    have hlen := (z_len eG4).trans hlen
    have hsl := (z_sl ha eG4 rfl).trans hsl
    have hfr := hfr.wr ha eG4 (by decide)
    have ha := ha.kept eG4
    change ab_W _ _ _ (List.set G3 a (ab_ob 11 [sp0, vR wk, vR nw, vR tn, vR nsp, vR tsp, vz nc, vz tc, vR se, vz 0, vR stk, vz fo, q0, s0, vz hw, vz fy, vj stp])) 22 [some (vR a)] [] _
    rw [← eG4]
    refine ab_aload_n d_TH_renewStamp_22 rfl ?_
    refine ab_dup d_TH_renewStamp_23 rfl ?_
    refine ab_getf (fs := [sp0, vR wk, vR nw, vR tn, vR nsp, vR tsp, vz nc, vz tc, vR se, vz 0, vR stk, vz fo, q0, s0, vz hw, vz fy, vj stp]) f_TH_98 d_TH_renewStamp_24 ha.2.2 rfl ?_
    refine zz_iconst d_TH_renewStamp_27 ?_
    refine zz_iadd d_TH_renewStamp_28 ?_
    refine zz_top (y := 1) (by decide) ?_
    refine ab_putf (fs := [sp0, vR wk, vR nw, vR tn, vR nsp, vR tsp, vz nc, vz tc, vR se, vz 0, vR stk, vz fo, q0, s0, vz hw, vz fy, vj stp]) f_TH_98 (Or.inl rfl) d_TH_renewStamp_29 ha.2.2 (Nat.le_of_ble_eq_true rfl) (fun _ => ⟨rfl, rfl⟩) (ha.2.1 (by decide)) ?_
    obtain ⟨G5, eG5⟩ : ∃ z : ab_G, z = List.set G4 a (ab_ob 11 [sp0, vR wk, vR nw, vR tn, vR nsp, vR tsp, vz nc, vz tc, vR se, vz 1, vR stk, vz fo, q0, s0, vz hw, vz fy, vj stp]) := ⟨_, rfl⟩
    have hse := hse.keep ha eG5 (by decide)
    have hlen := (z_len eG5).trans hlen
    have hsl := (z_sl ha eG5 rfl).trans hsl
    have hfr := hfr.wr ha eG5 (by decide)
    have ha := ha.kept eG5
    change ab_W _ _ _ (List.set G4 a (ab_ob 11 [sp0, vR wk, vR nw, vR tn, vR nsp, vR tsp, vz nc, vz tc, vR se, vz 1, vR stk, vz fo, q0, s0, vz hw, vz fy, vj stp])) 32 [some (vR a)] [] _
    rw [← eG5]
    refine ab_vret rfl d_TH_renewStamp_32 ?_
    rw [hQ]; exact ⟨_, _, rfl, hfr, hlen, hsl, ha, hse, (by omega), (by exact rgs_z0 (by omega))⟩
set_option maxRecDepth 100000 in
set_option maxHeartbeats 4000000 in
theorem y_TH_find_62 {X : ab_X} {d : Nat} {Q : Outcome → ab_G → Prop} {o : Nat → Nat} {G0 : ab_G} {q : Nat} {lq : Nat} {ki : Nat} {ne : Nat} {ot : Nat} {cnt : Int} {fi : Int} {la : Int} {ra : Nat} {ru : Int} {gr : Int} {wi : Int} {sz : Int} {fl : Int} {ve : Int} {mi : Int} {na : Nat} {nl : Nat} {K : Int → Int} {N : Int → Int} {O : Int → Int} {RR : Int → Int} {nr : Nat} {s : Nat} {by_ : Nat} {co : Nat} {re : Nat} {ho : Nat} {n : Int} {f : Int → Int} {C : Int → Int} {Rs : Int → Int} {H : Int → Int} {m : Nat} {mc : Nat} {a : Nat} {sp : Nat} {wk : Nat} {se : Nat} {stk : Nat} {hw : Int} {fy : Int} {p : Int} {u9 : Sn} {lz : Int} {S9 : Option Tw} (cq : 100 ≤ lq ∧ 0 ≤ cnt ∧ cnt ≤ 808 ∧ ↑nr ≤ (100000 : Int)) (hp : prok K N O RR cnt ↑nr wi) (hr : ∀ k : Int, 0 ≤ k → k < ↑nr → 0 ≤ RR k ∧ RR k ≤ 1114111) (csu : 0 ≤ n ∧ n ≤ ↑m ∧ 32 ≤ m ∧ m ≤ 2000 ∧ mc = m + 1) (hsu : suok f C Rs H n) (cwi : 2 ≤ wi ∧ wi ≤ 20) (hkk : kkF K cnt) (cfi : 0 ≤ fi ∧ fi < cnt) (cp : 0 ≤ p ∧ p ≤ n) (chw : 0 ≤ hw ∧ hw ≤ 2 ∧ 0 ≤ fy ∧ fy ≤ 1) (hpm : prM K N O RR fi u9) (hl2 : laZ hw n p lz) (hd : 8 ≤ d) : ∀ (mz : Nat) {G : ab_G} {nw : Nat} {tn : Nat} {nsp : Nat} {tsp : Nat} {nc : Int} {tc : Int} {sta : Int} {fo : Int} {stp : Int} {SP : Int → Int} {WK : Int → Int} {NW : Int → Int} {TN : Int → Int} {NS : Int → Int} {TS : Int → Int} {SE : Int → Int} {SK : Int → Int} {l1 : Nat} {l2 : Nat} {l3 : Nat} {l4 : Nat} {i : Int}, (cc o G a 32 (ab_ob 11 [vR sp, vR wk, vR nw, vR tn, vR nsp, vR tsp, vz nc, vz tc, vR se, vz sta, vR stk, vz fo, vR q, vR s, vz hw, vz fy, vj stp])) → (cc o G sp 31 (za 20 SP)) → (cc o G wk 33 (za 20 WK)) → (cc o G nw l1 (za 801 NW)) → (cc o G tn l2 (za 801 TN)) → (cc o G nsp l3 (za 16020 NS)) → (cc o G tsp l4 (za 16020 TS)) → (cc o G se 39 (za 2048 SE)) → (cc o G stk 40 (za 809 SK)) → (cc o G q lq (ab_ob 5 [vR ki, vR ne, vR ot, vz cnt, vz fi, vz la, vR ra, vz ru, vz gr, vz wi, vz sz, vz fl, vz ve, vz mi, vR na, vR nl])) → (cc o G ki (lq + 1) (za 808 K)) → (cc o G ne (lq + 2) (za 808 N)) → (cc o G ot (lq + 3) (za 808 O)) → (cc o G ra (lq + 4) (za nr RR)) → (cc o G s 26 (ab_ob 9 [vR by_, vR co, vR re, vR ho, vz n])) → (cc o G co 28 (za mc C)) → (cc o G re 29 (za mc Rs)) → (cc o G ho 30 (za mc H)) → (p ≤ i ∧ i ≤ n + 1) → (0 ≤ sta ∧ sta ≤ 2000000001 + (i - p)) → (l1 + l2 = 71 ∧ 35 ≤ l1 ∧ l1 ≤ 36 ∧ l3 + l4 = 75 ∧ 37 ≤ l3 ∧ l3 ≤ 38) → (0 ≤ tc ∧ tc ≤ 801) → (rgs SE 2048 0 sta) → (thos K cnt TN tc) → (thr TS tc wi n) → (rgs SP 20 (-1) 2000) → (spo fo SP wi n) → (0 ≤ fo ∧ fo ≤ 1) → (stE K N O RR cnt u9 f n fy hw wi lz i Rs SE sta TN TS tc fo SP S9) → (fx o o [31, 32, 33, 35, 36, 37, 38, 39, 40] G0 G) → (G.length = G0.length) → (ab_slots G = ab_slots G0) → (Int.toNat (n + 1 - i) < mz) → (∀ (G2 : ab_G) (nw2 : Nat) (tn2 : Nat) (nsp2 : Nat) (tsp2 : Nat) (m1 : Nat) (m2_ : Nat) (m3 : Nat) (m4 : Nat) (nc2 : Int) (tc2 : Int) (sta2 : Int) (fo2 : Int) (st2 : Int) (NW2 : Int → Int) (TN2 : Int → Int) (NS2 : Int → Int) (TS2 : Int → Int) (SE2 : Int → Int) (SK2 : Int → Int) (WK2 : Int → Int) (SP2 : Int → Int), (cc o G2 a 32 (ab_ob 11 [vR sp, vR wk, vR nw2, vR tn2, vR nsp2, vR tsp2, vz nc2, vz tc2, vR se, vz sta2, vR stk, vz fo2, vR q, vR s, vz hw, vz fy, vj st2])) → (cc o G2 sp 31 (za 20 SP2)) → (cc o G2 wk 33 (za 20 WK2)) → (cc o G2 nw2 m1 (za 801 NW2)) → (cc o G2 tn2 m2_ (za 801 TN2)) → (cc o G2 nsp2 m3 (za 16020 NS2)) → (cc o G2 tsp2 m4 (za 16020 TS2)) → (cc o G2 se 39 (za 2048 SE2)) → (cc o G2 stk 40 (za 809 SK2)) → (m1 + m2_ = 71 ∧ 35 ≤ m1 ∧ m1 ≤ 36 ∧ m3 + m4 = 75 ∧ 37 ≤ m3 ∧ m3 ≤ 38) → (0 ≤ sta2 ∧ sta2 ≤ 2100000000) → (0 ≤ fo2 ∧ fo2 ≤ 1) → (rgs SP2 20 (-1) 2000) → (rgs SE2 2048 0 sta2) → (spo fo2 SP2 wi n) → (mcT S9 fo2 SP2 wi) → (fx o o [31, 32, 33, 35, 36, 37, 38, 39, 40] G0 G2) → (G2.length = G0.length) → (ab_slots G2 = ab_slots G0) → ab_W X (ab_pl y_TH_find b_TH_find 7 (some (.int))) d G2 157 [some (vR a), none, none, none, none, some (vR sp), none] [] Q) → ab_W X (ab_pl y_TH_find b_TH_find 7 (some (.int))) d G 62 [some (vR a), some (vR q), some (vR s), some (vz hw), some (vz p), some (vR sp), some (vz i)] [] Q := by
  intro mz
  induction mz with
  | zero => intro G nw tn nsp tsp nc tc sta fo stp SP WK NW TN NS TS SE SK l1 l2 l3 l4 i ha hsp hwk hnw htn hnsp htsp hse hstk hq hki hne hot hra hs hco hre hho ci csi cl ctc jse jtn jts jsp jspo cfo jst hfr hlen hsl hm hk0; exact absurd hm (Nat.not_lt_zero _)
  | succ mz ih =>
    intro G nw tn nsp tsp nc tc sta fo stp SP WK NW TN NS TS SE SK l1 l2 l3 l4 i ha hsp hwk hnw htn hnsp htsp hse hstk hq hki hne hot hra hs hco hre hho ci csi cl ctc jse jtn jts jsp jspo cfo jst hfr hlen hsl hm hk0
    refine ab_iload d_TH_find_62 rfl ?_
    refine ab_aload_n d_TH_find_64 rfl ?_
    refine ab_getf (fs := [vR by_, vR co, vR re, vR ho, vz n]) f_TH_67 d_TH_find_65 hs.2.2 rfl ?_
    refine zz_icmp_gt (tgt := 157) d_TH_find_68 (by decide) (by omega) (by omega) (fun c1 => ?_) (fun c1 => ?_)
    · refine ab_less (L' := [some (vR a), none, none, none, none, some (vR sp), none]) (fun i v h => by rcases i with _ | _ | _ | _ | _ | _ | _ | i <;> first | exact h | (simp at h)) ?_
      exact hk0 _ _ _ _ _ _ _ _ _ _ _ _ _ _ _ _ _ _ _ _ _ _ ha hsp hwk hnw htn hnsp htsp hse hstk (by omega) (by omega) (by omega) (by first | exact jsp | exact rgs_w jsp (by omega)) (by exact jse) (by exact jspo) (by exact jst.fin (by omega) (laZ_n hl2 (by omega))) hfr hlen hsl
    · refine ab_aload_n d_TH_find_71 rfl ?_
      refine ab_getf (fs := [vR sp, vR wk, vR nw, vR tn, vR nsp, vR tsp, vz nc, vz tc, vR se, vz sta, vR stk, vz fo, vR q, vR s, vz hw, vz fy, vj stp]) f_TH_61 d_TH_find_72 ha.2.2 rfl ?_
      refine zz_if_ne (tgt := 120) d_TH_find_75 (by decide) (by omega) (fun c2 => ?_) (fun c2 => ?_)
      · have jm_ := jst.no (laZ_no hl2 (by omega) (by omega))
        have jse_ := jse
        have jno_ : ∀ k : Int, 0 ≤ k → k < 2048 → ¬ SE k = sta + 1 := fun k a b => by have := (jse_ k a b).2; omega
        have jse2_ : rgs SE 2048 0 (sta + 1) := rgs_up jse_ (by omega) (by omega)
        refine ab_aload_n d_TH_find_120 rfl ?_
        refine ab_callV (d' := d - 1) (as := []) (st := []) (r := _) (z_TH_turnRows (o := o) (q := q) (s := s) (a := a) (sp := sp) (wk := wk) (nw := nw) (tn := tn) (nsp := nsp) (tsp := tsp) (se := se) (stk := stk) (nc := nc) (tc := tc) (sta := sta) (fo := fo) (hw := hw) (fy := fy) (stp := stp) ha) (fun oc G2 h => by rcases h with ⟨h, _⟩ <;> exact ⟨_, h⟩) (by omega) m_TH_turnRows ml_TH_88 im_TH_turnRows se_TH_turnRows c_TH ha.2.2 (Nat.le_of_ble_eq_true rfl) d_TH_find_121 rfl ?_
        intro v G3 hq
        rcases hq with ⟨hv, hfk, hlk, hsk, hNa⟩
        cases hv
        have hsp := hfk.get hsp (by decide)
        have hwk := hfk.get hwk (by decide)
        have hnw := hfk.get hnw (by simp only [List.mem_cons, List.not_mem_nil, or_false]; omega)
        have htn := hfk.get htn (by simp only [List.mem_cons, List.not_mem_nil, or_false]; omega)
        have hnsp := hfk.get hnsp (by simp only [List.mem_cons, List.not_mem_nil, or_false]; omega)
        have htsp := hfk.get htsp (by simp only [List.mem_cons, List.not_mem_nil, or_false]; omega)
        have hse := hfk.get hse (by decide)
        have hstk := hfk.get hstk (by decide)
        have hq := hfk.get hq (by simp only [List.mem_cons, List.not_mem_nil, or_false]; omega)
        have hki := hfk.get hki (by simp only [List.mem_cons, List.not_mem_nil, or_false]; omega)
        have hne := hfk.get hne (by simp only [List.mem_cons, List.not_mem_nil, or_false]; omega)
        have hot := hfk.get hot (by simp only [List.mem_cons, List.not_mem_nil, or_false]; omega)
        have hra := hfk.get hra (by simp only [List.mem_cons, List.not_mem_nil, or_false]; omega)
        have hs := hfk.get hs (by decide)
        have hco := hfk.get hco (by decide)
        have hre := hfk.get hre (by decide)
        have hho := hfk.get hho (by decide)
        have hfr := hfr.tr hfk (by decide)
        have hlen := hlk.trans hlen
        have hsl := hsk.trans hsl
        have ha := hNa
        change ab_W _ _ _ G3 124 [some (vR a), some (vR q), some (vR s), some (vz hw), some (vz p), some (vR sp), some (vz i)] [] _
        have jj_ := jm_.turn (TN2 := NW) (TS2 := NS) (tc2 := 0) jno_ rfl
        obtain ⟨jj1_, jj2_⟩ := jj_
        refine ab_aload_n d_TH_find_124 rfl ?_
        refine ab_getf (fs := [vR sp, vR wk, vR tn, vR nw, vR tsp, vR nsp, vz tc, vz 0, vR se, vz (sta + 1), vR stk, vz fo, vR q, vR s, vz hw, vz fy, vj stp]) f_TH_91 d_TH_find_125 ha.2.2 rfl ?_
        refine zz_if_ne (tgt := 145) d_TH_find_128 (by decide) (by omega) (fun c4 => ?_) (fun c4 => ?_)
        · refine ab_aload_n d_TH_find_145 rfl ?_
          refine ab_iload d_TH_find_146 rfl ?_
          refine ab_callV (d' := d - 1) (as := [vz i]) (st := []) (r := _) (z_TH_step (o := o) (q := q) (lq := lq) (ki := ki) (ne := ne) (ot := ot) (cnt := cnt) (fi := fi) (la := la) (ra := ra) (ru := ru) (gr := gr) (wi := wi) (sz := sz) (fl := fl) (ve := ve) (mi := mi) (na := na) (nl := nl) (K := K) (N := N) (O := O) (RR := RR) (nr := nr) (s := s) (by_ := by_) (co := co) (re := re) (ho := ho) (n := n) (C := C) (Rs := Rs) (H := H) (mc := mc) (a := a) (sp := sp) (wk := wk) (nw := tn) (tn := nw) (nsp := tsp) (tsp := nsp) (se := se) (stk := stk) (nc := tc) (tc := 0) (sta := (sta + 1)) (fo := fo) (hw := hw) (fy := fy) (stp := stp) (SP := SP) (WK := WK) (NW := TN) (TN := NW) (NS := TS) (TS := NS) (SE := SE) (SK := SK) (l1 := l2) (l2 := l1) (l3 := l4) (l4 := l3) (p := i) (u9 := u9) (lz := lz) (S9 := S9) ha hsp hwk htn hnw htsp hnsp hse hstk hq hki hne hot hra hs hco hre hho (by omega) hp hr (by omega) hsu (by omega) (by omega) hkk (by omega) jtn jts (by omega) (by omega) (by omega) jj2_ (by omega) jse2_ thos_0 thr_0 jsp jspo (by omega) jj1_ (by omega)) (fun oc G2 h => by rcases h with ⟨_, _, _, _, _, _, _, _, _, h, _⟩ <;> exact ⟨_, h⟩) (by omega) m_TH_step ml_TH_94 im_TH_step se_TH_step c_TH ha.2.2 (Nat.le_of_ble_eq_true rfl) d_TH_find_148 rfl ?_
          intro v G5 hq
          rcases hq with ⟨tc26, st27, fo28, SE29, TN210, TS211, SK212, WK213, SP214, hv, hfk, hlk, hsk, hNa, hNsp, hNwk, hNtn, hNnw, hNtsp, hNnsp, hNse, hNstk, hq15, hq16, hq17, hq18, hq19, hq20, hq21, hq22⟩
          cases hv
          have hq := hfk.get hq (by simp only [List.mem_cons, List.not_mem_nil, or_false]; omega)
          have hki := hfk.get hki (by simp only [List.mem_cons, List.not_mem_nil, or_false]; omega)
          have hne := hfk.get hne (by simp only [List.mem_cons, List.not_mem_nil, or_false]; omega)
          have hot := hfk.get hot (by simp only [List.mem_cons, List.not_mem_nil, or_false]; omega)
          have hra := hfk.get hra (by simp only [List.mem_cons, List.not_mem_nil, or_false]; omega)
          have hs := hfk.get hs (by decide)
          have hco := hfk.get hco (by decide)
          have hre := hfk.get hre (by decide)
          have hho := hfk.get hho (by decide)
          have hfr := hfr.tr hfk (by decide)
          have hlen := hlk.trans hlen
          have hsl := hsk.trans hsl
          have ha := hNa
          have hsp := hNsp
          have hwk := hNwk
          have htn := hNtn
          have hnw := hNnw
          have htsp := hNtsp
          have hnsp := hNnsp
          have hse := hNse
          have hstk := hNstk
          change ab_W _ _ _ G5 151 [some (vR a), some (vR q), some (vR s), some (vz hw), some (vz p), some (vR sp), some (vz i)] [] _
          refine zz_iinc d_TH_find_151 rfl (Nat.le_of_ble_eq_true rfl) (Nat.le_of_ble_eq_true rfl) rfl ?_
          change ab_W _ _ _ G5 154 [some (vR a), some (vR q), some (vR s), some (vz hw), some (vz p), some (vR sp), some (vz (i + 1))] [] _
          refine ab_goto (tgt := 62) d_TH_find_154 (by decide) ?_
          exact ih (nw := tn) (tn := nw) (nsp := tsp) (tsp := nsp) (nc := tc) (tc := tc26) (sta := (sta + 1)) (fo := fo28) (stp := st27) (SP := SP214) (WK := WK213) (NW := TN) (TN := TN210) (NS := TS) (TS := TS211) (SE := SE29) (SK := SK212) (l1 := l2) (l2 := l1) (l3 := l4) (l4 := l3) (i := (i + 1)) ha hsp hwk htn hnw htsp hnsp hse hstk hq hki hne hot hra hs hco hre hho (by omega) (by omega) (by omega) (by omega) hq18 hq19 hq20 hq17 hq21 (by omega) hq22 hfr hlen hsl (by omega) hk0
        · refine ab_aload_n d_TH_find_131 rfl ?_
          refine ab_getf (fs := [vR sp, vR wk, vR tn, vR nw, vR tsp, vR nsp, vz tc, vz 0, vR se, vz (sta + 1), vR stk, vz fo, vR q, vR s, vz hw, vz fy, vj stp]) f_TH_61 d_TH_find_132 ha.2.2 rfl ?_
          refine zz_if_ne (tgt := 157) d_TH_find_135 (by decide) (by omega) (fun c23 => ?_) (fun c23 => absurd c23 (by omega))
          refine ab_less (L' := [some (vR a), none, none, none, none, some (vR sp), none]) (fun i v h => by rcases i with _ | _ | _ | _ | _ | _ | _ | i <;> first | exact h | (simp at h)) ?_
          exact hk0 _ _ _ _ _ _ _ _ _ _ _ _ _ _ _ _ _ _ _ _ _ _ ha hsp hwk htn hnw htsp hnsp hse hstk (by omega) (by omega) (by omega) (by first | exact jsp | exact rgs_w jsp (by omega)) (by exact jse2_) (by exact jspo) (by exact jj1_.brk (by omega) rfl (laZ_br hl2 (by omega) (by omega))) hfr hlen hsl
      · refine ab_iload d_TH_find_78 rfl ?_
        refine ab_iload d_TH_find_80 rfl ?_
        refine zz_icmp_eq (tgt := 89) d_TH_find_82 (by decide) (by omega) (by omega) (fun c24 => ?_) (fun c24 => ?_)
        · obtain ⟨W_, c_, jsp⟩ := jst.p (laZ_le hl2 (by omega) (by omega))
          refine ab_aload_n d_TH_find_89 rfl ?_
          refine ab_getf (fs := [vR sp, vR wk, vR nw, vR tn, vR nsp, vR tsp, vz nc, vz tc, vR se, vz sta, vR stk, vz fo, vR q, vR s, vz hw, vz fy, vj stp]) f_TH_15 d_TH_find_90 ha.2.2 rfl ?_
          refine zz_iconst d_TH_find_93 ?_
          refine ab_aload_n d_TH_find_94 rfl ?_
          refine ab_getf (fs := [vR ki, vR ne, vR ot, vz cnt, vz fi, vz la, vR ra, vz ru, vz gr, vz wi, vz sz, vz fl, vz ve, vz mi, vR na, vR nl]) f_TH_72 d_TH_find_95 hq.2.2 rfl ?_
          refine zz_iconst d_TH_find_98 ?_
          refine ab_callS (d' := d - 1) (as := [vR wk, vz 0, vz wi, vz (-1)]) (st := []) (z_AR_fillr (o := o) (a := wk) (l := 33) (n := 20) (f := WK) (v := (-1)) (x := 0) (y := wi) hwk (by have h18 : ab_n0 = 18 := rfl; omega) (by omega)) (fun oc G2 h => by rcases h with ⟨h, _⟩ <;> exact ⟨_, h⟩) (by omega) m_AR_fillr ml_TH_75 st_AR_fillr (Nat.le_of_ble_eq_true rfl) d_TH_find_99 rfl ?_
          intro v G25 hq
          rcases hq with ⟨hv, hfk, hlk, hsk, hNwk⟩
          cases hv
          have ha := hfk.get ha (by decide)
          have hsp := hfk.get hsp (by decide)
          have hnw := hfk.get hnw (by simp only [List.mem_cons, List.not_mem_nil, or_false]; omega)
          have htn := hfk.get htn (by simp only [List.mem_cons, List.not_mem_nil, or_false]; omega)
          have hnsp := hfk.get hnsp (by simp only [List.mem_cons, List.not_mem_nil, or_false]; omega)
          have htsp := hfk.get htsp (by simp only [List.mem_cons, List.not_mem_nil, or_false]; omega)
          have hse := hfk.get hse (by decide)
          have hstk := hfk.get hstk (by decide)
          have hq := hfk.get hq (by simp only [List.mem_cons, List.not_mem_nil, or_false]; omega)
          have hki := hfk.get hki (by simp only [List.mem_cons, List.not_mem_nil, or_false]; omega)
          have hne := hfk.get hne (by simp only [List.mem_cons, List.not_mem_nil, or_false]; omega)
          have hot := hfk.get hot (by simp only [List.mem_cons, List.not_mem_nil, or_false]; omega)
          have hra := hfk.get hra (by simp only [List.mem_cons, List.not_mem_nil, or_false]; omega)
          have hs := hfk.get hs (by decide)
          have hco := hfk.get hco (by decide)
          have hre := hfk.get hre (by decide)
          have hho := hfk.get hho (by decide)
          have hfr := hfr.tr hfk (by decide)
          have hlen := hlk.trans hlen
          have hsl := hsk.trans hsl
          have hwk := hNwk
          change ab_W _ _ _ G25 102 [some (vR a), some (vR q), some (vR s), some (vz hw), some (vz p), some (vR sp), some (vz i)] [] _
          refine ab_aload_n d_TH_find_102 rfl ?_
          refine ab_getf (fs := [vR sp, vR wk, vR nw, vR tn, vR nsp, vR tsp, vz nc, vz tc, vR se, vz sta, vR stk, vz fo, vR q, vR s, vz hw, vz fy, vj stp]) f_TH_15 d_TH_find_103 ha.2.2 rfl ?_
          refine zz_iconst d_TH_find_106 ?_
          refine ab_iload d_TH_find_107 rfl ?_
          refine zz_iast d_TH_find_109 hwk (by omega) (hwk.2.1 (by decide)) ?_
          obtain ⟨G26, eG26⟩ : ∃ z : ab_G, z = List.set G25 wk (za 20 (zu (zfill WK 0 wi (-1)) 0 i)) := ⟨_, rfl⟩
          have ha := ha.keep hwk eG26 (by decide)
          have hsp := hsp.keep hwk eG26 (by decide)
          have hnw := hnw.keep hwk eG26 (by omega)
          have htn := htn.keep hwk eG26 (by omega)
          have hnsp := hnsp.keep hwk eG26 (by omega)
          have htsp := htsp.keep hwk eG26 (by omega)
          have hse := hse.keep hwk eG26 (by decide)
          have hstk := hstk.keep hwk eG26 (by decide)
          have hq := hq.keep hwk eG26 (by omega)
          have hki := hki.keep hwk eG26 (by omega)
          have hne := hne.keep hwk eG26 (by omega)
          have hot := hot.keep hwk eG26 (by omega)
          have hra := hra.keep hwk eG26 (by omega)
          have hs := hs.keep hwk eG26 (by decide)
          have hco := hco.keep hwk eG26 (by decide)
          have hre := hre.keep hwk eG26 (by decide)
          have hho := hho.keep hwk eG26 (by decide)
          have hlen := (z_len eG26).trans hlen
          have hsl := (z_sl hwk eG26 rfl).trans hsl
          have hfr := hfr.wr hwk eG26 (by decide)
          have hwk := hwk.kept eG26
          change ab_W _ _ _ (List.set G25 wk (za 20 (zu (zfill WK 0 wi (-1)) 0 i))) 110 [some (vR a), some (vR q), some (vR s), some (vz hw), some (vz p), some (vR sp), some (vz i)] [] _
          rw [← eG26]
          refine ab_aload_n d_TH_find_110 rfl ?_
          refine ab_aload_n d_TH_find_111 rfl ?_
          refine ab_getf (fs := [vR ki, vR ne, vR ot, vz cnt, vz fi, vz la, vR ra, vz ru, vz gr, vz wi, vz sz, vz fl, vz ve, vz mi, vR na, vR nl]) f_TH_81 d_TH_find_112 hq.2.2 rfl ?_
          refine ab_iload d_TH_find_115 rfl ?_
          refine ab_callV (d' := d - 1) (as := [vz fi, vz i]) (st := []) (r := _) (z_TH_follow (o := o) (q := q) (lq := lq) (ki := ki) (ne := ne) (ot := ot) (cnt := cnt) (fi := fi) (la := la) (ra := ra) (ru := ru) (gr := gr) (wi := wi) (sz := sz) (fl := fl) (ve := ve) (mi := mi) (na := na) (nl := nl) (K := K) (N := N) (O := O) (RR := RR) (nr := nr) (s := s) (by_ := by_) (co := co) (re := re) (ho := ho) (n := n) (C := C) (Rs := Rs) (H := H) (mc := mc) (a := a) (sp := sp) (wk := wk) (nw := nw) (tn := tn) (nsp := nsp) (tsp := tsp) (se := se) (stk := stk) (nc := nc) (tc := tc) (sta := sta) (fo := fo) (hw := hw) (fy := fy) (stp := stp) (SP := SP) (WK := (zu (zfill WK 0 wi (-1)) 0 i)) (NW := NW) (TN := TN) (NS := NS) (TS := TS) (SE := SE) (SK := SK) (l1 := l1) (l2 := l2) (l3 := l3) (l4 := l4) (p := i) (x := fi) (st := i) (Mw := W_) (s0 := (i - 1)) (gw := (fun _ => -1)) (Lw := (wyR u9 f n i)) ha hsp hwk hnw htn hnsp htsp hse hstk hq hki hne hot hra hs hco hre hho (by omega) hp hr (by omega) hsu (by omega) (by omega) hkk (by omega) (by omega) (by omega) (rgs_zu (rgs_fl (by omega)) (by omega)) (by rw [zu_self]; omega) jse jtn jts jsp.2.2.1.f (by omega) gA_0 (zu_self _ _ _) (by rw [wyR_p (by omega) (by omega)]; exact hpm.ww hsu.1 (by omega) (by omega)) (by omega)) (fun oc G2 h => by rcases h with ⟨_, _, _, _, _, _, _, h, _⟩ <;> exact ⟨_, h⟩) (by omega) m_TH_follow ml_TH_84 im_TH_follow se_TH_follow c_TH ha.2.2 (Nat.le_of_ble_eq_true rfl) d_TH_find_117 rfl ?_
          intro v G27 hq
          rcases hq with ⟨tc228, st229, SE230, TN231, TS232, SK233, WK234, hv, hfk, hlk, hsk, hNa, hNsp, hNwk, hNnw, hNtn, hNnsp, hNtsp, hNse, hNstk, hq35, hq36, hq37, hq38, hq39, hq40, hq41⟩
          cases hv
          have hq := hfk.get hq (by simp only [List.mem_cons, List.not_mem_nil, or_false]; omega)
          have hki := hfk.get hki (by simp only [List.mem_cons, List.not_mem_nil, or_false]; omega)
          have hne := hfk.get hne (by simp only [List.mem_cons, List.not_mem_nil, or_false]; omega)
          have hot := hfk.get hot (by simp only [List.mem_cons, List.not_mem_nil, or_false]; omega)
          have hra := hfk.get hra (by simp only [List.mem_cons, List.not_mem_nil, or_false]; omega)
          have hs := hfk.get hs (by decide)
          have hco := hfk.get hco (by decide)
          have hre := hfk.get hre (by decide)
          have hho := hfk.get hho (by decide)
          have hfr := hfr.tr hfk (by decide)
          have hlen := hlk.trans hlen
          have hsl := hsk.trans hsl
          have ha := hNa
          have hsp := hNsp
          have hwk := hNwk
          have hnw := hNnw
          have htn := hNtn
          have hnsp := hNnsp
          have htsp := hNtsp
          have hse := hNse
          have hstk := hNstk
          change ab_W _ _ _ G27 120 [some (vR a), some (vR q), some (vR s), some (vz hw), some (vz p), some (vR sp), some (vz i)] [] _
          have jm_ := jsp.m hq41 (by omega) hsu (by omega)
          have jse_ := hq38
          have jno_ : ∀ k : Int, 0 ≤ k → k < 2048 → ¬ SE230 k = sta + 1 := fun k a b => by have := (jse_ k a b).2; omega
          have jse2_ : rgs SE230 2048 0 (sta + 1) := rgs_up jse_ (by omega) (by omega)
          refine ab_aload_n d_TH_find_120 rfl ?_
          refine ab_callV (d' := d - 1) (as := []) (st := []) (r := _) (z_TH_turnRows (o := o) (q := q) (s := s) (a := a) (sp := sp) (wk := wk) (nw := nw) (tn := tn) (nsp := nsp) (tsp := tsp) (se := se) (stk := stk) (nc := nc) (tc := tc228) (sta := sta) (fo := fo) (hw := hw) (fy := fy) (stp := st229) ha) (fun oc G2 h => by rcases h with ⟨h, _⟩ <;> exact ⟨_, h⟩) (by omega) m_TH_turnRows ml_TH_88 im_TH_turnRows se_TH_turnRows c_TH ha.2.2 (Nat.le_of_ble_eq_true rfl) d_TH_find_121 rfl ?_
          intro v G42 hq
          rcases hq with ⟨hv, hfk, hlk, hsk, hNa⟩
          cases hv
          have hsp := hfk.get hsp (by decide)
          have hwk := hfk.get hwk (by decide)
          have hnw := hfk.get hnw (by simp only [List.mem_cons, List.not_mem_nil, or_false]; omega)
          have htn := hfk.get htn (by simp only [List.mem_cons, List.not_mem_nil, or_false]; omega)
          have hnsp := hfk.get hnsp (by simp only [List.mem_cons, List.not_mem_nil, or_false]; omega)
          have htsp := hfk.get htsp (by simp only [List.mem_cons, List.not_mem_nil, or_false]; omega)
          have hse := hfk.get hse (by decide)
          have hstk := hfk.get hstk (by decide)
          have hq := hfk.get hq (by simp only [List.mem_cons, List.not_mem_nil, or_false]; omega)
          have hki := hfk.get hki (by simp only [List.mem_cons, List.not_mem_nil, or_false]; omega)
          have hne := hfk.get hne (by simp only [List.mem_cons, List.not_mem_nil, or_false]; omega)
          have hot := hfk.get hot (by simp only [List.mem_cons, List.not_mem_nil, or_false]; omega)
          have hra := hfk.get hra (by simp only [List.mem_cons, List.not_mem_nil, or_false]; omega)
          have hs := hfk.get hs (by decide)
          have hco := hfk.get hco (by decide)
          have hre := hfk.get hre (by decide)
          have hho := hfk.get hho (by decide)
          have hfr := hfr.tr hfk (by decide)
          have hlen := hlk.trans hlen
          have hsl := hsk.trans hsl
          have ha := hNa
          change ab_W _ _ _ G42 124 [some (vR a), some (vR q), some (vR s), some (vz hw), some (vz p), some (vR sp), some (vz i)] [] _
          have jj_ := jm_.turn (TN2 := NW) (TS2 := NS) (tc2 := 0) jno_ rfl
          obtain ⟨jj1_, jj2_⟩ := jj_
          refine ab_aload_n d_TH_find_124 rfl ?_
          refine ab_getf (fs := [vR sp, vR wk, vR tn, vR nw, vR tsp, vR nsp, vz tc228, vz 0, vR se, vz (sta + 1), vR stk, vz fo, vR q, vR s, vz hw, vz fy, vj st229]) f_TH_91 d_TH_find_125 ha.2.2 rfl ?_
          refine zz_if_ne (tgt := 145) d_TH_find_128 (by decide) (by omega) (fun c43 => ?_) (fun c43 => ?_)
          · refine ab_aload_n d_TH_find_145 rfl ?_
            refine ab_iload d_TH_find_146 rfl ?_
            refine ab_callV (d' := d - 1) (as := [vz i]) (st := []) (r := _) (z_TH_step (o := o) (q := q) (lq := lq) (ki := ki) (ne := ne) (ot := ot) (cnt := cnt) (fi := fi) (la := la) (ra := ra) (ru := ru) (gr := gr) (wi := wi) (sz := sz) (fl := fl) (ve := ve) (mi := mi) (na := na) (nl := nl) (K := K) (N := N) (O := O) (RR := RR) (nr := nr) (s := s) (by_ := by_) (co := co) (re := re) (ho := ho) (n := n) (C := C) (Rs := Rs) (H := H) (mc := mc) (a := a) (sp := sp) (wk := wk) (nw := tn) (tn := nw) (nsp := tsp) (tsp := nsp) (se := se) (stk := stk) (nc := tc228) (tc := 0) (sta := (sta + 1)) (fo := fo) (hw := hw) (fy := fy) (stp := st229) (SP := SP) (WK := WK234) (NW := TN231) (TN := NW) (NS := TS232) (TS := NS) (SE := SE230) (SK := SK233) (l1 := l2) (l2 := l1) (l3 := l4) (l4 := l3) (p := i) (u9 := u9) (lz := lz) (S9 := S9) ha hsp hwk htn hnw htsp hnsp hse hstk hq hki hne hot hra hs hco hre hho (by omega) hp hr (by omega) hsu (by omega) (by omega) hkk (by omega) hq39 hq40 (by omega) (by omega) (by omega) jj2_ (by omega) jse2_ thos_0 thr_0 jsp jspo (by omega) jj1_ (by omega)) (fun oc G2 h => by rcases h with ⟨_, _, _, _, _, _, _, _, _, h, _⟩ <;> exact ⟨_, h⟩) (by omega) m_TH_step ml_TH_94 im_TH_step se_TH_step c_TH ha.2.2 (Nat.le_of_ble_eq_true rfl) d_TH_find_148 rfl ?_
            intro v G44 hq
            rcases hq with ⟨tc245, st246, fo247, SE248, TN249, TS250, SK251, WK252, SP253, hv, hfk, hlk, hsk, hNa, hNsp, hNwk, hNtn, hNnw, hNtsp, hNnsp, hNse, hNstk, hq54, hq55, hq56, hq57, hq58, hq59, hq60, hq61⟩
            cases hv
            have hq := hfk.get hq (by simp only [List.mem_cons, List.not_mem_nil, or_false]; omega)
            have hki := hfk.get hki (by simp only [List.mem_cons, List.not_mem_nil, or_false]; omega)
            have hne := hfk.get hne (by simp only [List.mem_cons, List.not_mem_nil, or_false]; omega)
            have hot := hfk.get hot (by simp only [List.mem_cons, List.not_mem_nil, or_false]; omega)
            have hra := hfk.get hra (by simp only [List.mem_cons, List.not_mem_nil, or_false]; omega)
            have hs := hfk.get hs (by decide)
            have hco := hfk.get hco (by decide)
            have hre := hfk.get hre (by decide)
            have hho := hfk.get hho (by decide)
            have hfr := hfr.tr hfk (by decide)
            have hlen := hlk.trans hlen
            have hsl := hsk.trans hsl
            have ha := hNa
            have hsp := hNsp
            have hwk := hNwk
            have htn := hNtn
            have hnw := hNnw
            have htsp := hNtsp
            have hnsp := hNnsp
            have hse := hNse
            have hstk := hNstk
            change ab_W _ _ _ G44 151 [some (vR a), some (vR q), some (vR s), some (vz hw), some (vz p), some (vR sp), some (vz i)] [] _
            refine zz_iinc d_TH_find_151 rfl (Nat.le_of_ble_eq_true rfl) (Nat.le_of_ble_eq_true rfl) rfl ?_
            change ab_W _ _ _ G44 154 [some (vR a), some (vR q), some (vR s), some (vz hw), some (vz p), some (vR sp), some (vz (i + 1))] [] _
            refine ab_goto (tgt := 62) d_TH_find_154 (by decide) ?_
            exact ih (nw := tn) (tn := nw) (nsp := tsp) (tsp := nsp) (nc := tc228) (tc := tc245) (sta := (sta + 1)) (fo := fo247) (stp := st246) (SP := SP253) (WK := WK252) (NW := TN231) (TN := TN249) (NS := TS232) (TS := TS250) (SE := SE248) (SK := SK251) (l1 := l2) (l2 := l1) (l3 := l4) (l4 := l3) (i := (i + 1)) ha hsp hwk htn hnw htsp hnsp hse hstk hq hki hne hot hra hs hco hre hho (by omega) (by omega) (by omega) (by omega) hq57 hq58 hq59 hq56 hq60 (by omega) hq61 hfr hlen hsl (by omega) hk0
          · refine ab_aload_n d_TH_find_131 rfl ?_
            refine ab_getf (fs := [vR sp, vR wk, vR tn, vR nw, vR tsp, vR nsp, vz tc228, vz 0, vR se, vz (sta + 1), vR stk, vz fo, vR q, vR s, vz hw, vz fy, vj st229]) f_TH_61 d_TH_find_132 ha.2.2 rfl ?_
            refine zz_if_ne (tgt := 157) d_TH_find_135 (by decide) (by omega) (fun c62 => absurd c62 (by omega)) (fun c62 => ?_)
            refine ab_iload_n d_TH_find_138 rfl ?_
            refine zz_if_eq (tgt := 145) d_TH_find_139 (by decide) (by omega) (fun c63 => ?_) (fun c63 => ?_)
            · refine ab_aload_n d_TH_find_145 rfl ?_
              refine ab_iload d_TH_find_146 rfl ?_
              refine ab_callV (d' := d - 1) (as := [vz i]) (st := []) (r := _) (z_TH_step (o := o) (q := q) (lq := lq) (ki := ki) (ne := ne) (ot := ot) (cnt := cnt) (fi := fi) (la := la) (ra := ra) (ru := ru) (gr := gr) (wi := wi) (sz := sz) (fl := fl) (ve := ve) (mi := mi) (na := na) (nl := nl) (K := K) (N := N) (O := O) (RR := RR) (nr := nr) (s := s) (by_ := by_) (co := co) (re := re) (ho := ho) (n := n) (C := C) (Rs := Rs) (H := H) (mc := mc) (a := a) (sp := sp) (wk := wk) (nw := tn) (tn := nw) (nsp := tsp) (tsp := nsp) (se := se) (stk := stk) (nc := tc228) (tc := 0) (sta := (sta + 1)) (fo := fo) (hw := hw) (fy := fy) (stp := st229) (SP := SP) (WK := WK234) (NW := TN231) (TN := NW) (NS := TS232) (TS := NS) (SE := SE230) (SK := SK233) (l1 := l2) (l2 := l1) (l3 := l4) (l4 := l3) (p := i) (u9 := u9) (lz := lz) (S9 := S9) ha hsp hwk htn hnw htsp hnsp hse hstk hq hki hne hot hra hs hco hre hho (by omega) hp hr (by omega) hsu (by omega) (by omega) hkk (by omega) hq39 hq40 (by omega) (by omega) (by omega) jj2_ (by omega) jse2_ thos_0 thr_0 jsp jspo (by omega) jj1_ (by omega)) (fun oc G2 h => by rcases h with ⟨_, _, _, _, _, _, _, _, _, h, _⟩ <;> exact ⟨_, h⟩) (by omega) m_TH_step ml_TH_94 im_TH_step se_TH_step c_TH ha.2.2 (Nat.le_of_ble_eq_true rfl) d_TH_find_148 rfl ?_
              intro v G64 hq
              rcases hq with ⟨tc265, st266, fo267, SE268, TN269, TS270, SK271, WK272, SP273, hv, hfk, hlk, hsk, hNa, hNsp, hNwk, hNtn, hNnw, hNtsp, hNnsp, hNse, hNstk, hq74, hq75, hq76, hq77, hq78, hq79, hq80, hq81⟩
              cases hv
              have hq := hfk.get hq (by simp only [List.mem_cons, List.not_mem_nil, or_false]; omega)
              have hki := hfk.get hki (by simp only [List.mem_cons, List.not_mem_nil, or_false]; omega)
              have hne := hfk.get hne (by simp only [List.mem_cons, List.not_mem_nil, or_false]; omega)
              have hot := hfk.get hot (by simp only [List.mem_cons, List.not_mem_nil, or_false]; omega)
              have hra := hfk.get hra (by simp only [List.mem_cons, List.not_mem_nil, or_false]; omega)
              have hs := hfk.get hs (by decide)
              have hco := hfk.get hco (by decide)
              have hre := hfk.get hre (by decide)
              have hho := hfk.get hho (by decide)
              have hfr := hfr.tr hfk (by decide)
              have hlen := hlk.trans hlen
              have hsl := hsk.trans hsl
              have ha := hNa
              have hsp := hNsp
              have hwk := hNwk
              have htn := hNtn
              have hnw := hNnw
              have htsp := hNtsp
              have hnsp := hNnsp
              have hse := hNse
              have hstk := hNstk
              change ab_W _ _ _ G64 151 [some (vR a), some (vR q), some (vR s), some (vz hw), some (vz p), some (vR sp), some (vz i)] [] _
              refine zz_iinc d_TH_find_151 rfl (Nat.le_of_ble_eq_true rfl) (Nat.le_of_ble_eq_true rfl) rfl ?_
              change ab_W _ _ _ G64 154 [some (vR a), some (vR q), some (vR s), some (vz hw), some (vz p), some (vR sp), some (vz (i + 1))] [] _
              refine ab_goto (tgt := 62) d_TH_find_154 (by decide) ?_
              exact ih (nw := tn) (tn := nw) (nsp := tsp) (tsp := nsp) (nc := tc228) (tc := tc265) (sta := (sta + 1)) (fo := fo267) (stp := st266) (SP := SP273) (WK := WK272) (NW := TN231) (TN := TN269) (NS := TS232) (TS := TS270) (SE := SE268) (SK := SK271) (l1 := l2) (l2 := l1) (l3 := l4) (l4 := l3) (i := (i + 1)) ha hsp hwk htn hnw htsp hnsp hse hstk hq hki hne hot hra hs hco hre hho (by omega) (by omega) (by omega) (by omega) hq77 hq78 hq79 hq76 hq80 (by omega) hq81 hfr hlen hsl (by omega) hk0
            · refine ab_goto (tgt := 157) d_TH_find_142 (by decide) ?_
              refine ab_less (L' := [some (vR a), none, none, none, none, some (vR sp), none]) (fun i v h => by rcases i with _ | _ | _ | _ | _ | _ | _ | i <;> first | exact h | (simp at h)) ?_
              exact hk0 _ _ _ _ _ _ _ _ _ _ _ _ _ _ _ _ _ _ _ _ _ _ ha hsp hwk htn hnw htsp hnsp hse hstk (by omega) (by omega) (by omega) (by first | exact jsp | exact rgs_w jsp (by omega)) (by exact jse2_) (by exact jspo) (by exact jj1_.brk (by omega) rfl (laZ_br hl2 (by omega) (by omega))) hfr hlen hsl
        · refine ab_iload_n d_TH_find_85 rfl ?_
          refine zz_if_ne (tgt := 120) d_TH_find_86 (by decide) (by omega) (fun c82 => ?_) (fun c82 => ?_)
          · have jm_ := jst.no (laZ_no hl2 (by omega) (by omega))
            have jse_ := jse
            have jno_ : ∀ k : Int, 0 ≤ k → k < 2048 → ¬ SE k = sta + 1 := fun k a b => by have := (jse_ k a b).2; omega
            have jse2_ : rgs SE 2048 0 (sta + 1) := rgs_up jse_ (by omega) (by omega)
            refine ab_aload_n d_TH_find_120 rfl ?_
            refine ab_callV (d' := d - 1) (as := []) (st := []) (r := _) (z_TH_turnRows (o := o) (q := q) (s := s) (a := a) (sp := sp) (wk := wk) (nw := nw) (tn := tn) (nsp := nsp) (tsp := tsp) (se := se) (stk := stk) (nc := nc) (tc := tc) (sta := sta) (fo := fo) (hw := hw) (fy := fy) (stp := stp) ha) (fun oc G2 h => by rcases h with ⟨h, _⟩ <;> exact ⟨_, h⟩) (by omega) m_TH_turnRows ml_TH_88 im_TH_turnRows se_TH_turnRows c_TH ha.2.2 (Nat.le_of_ble_eq_true rfl) d_TH_find_121 rfl ?_
            intro v G83 hq
            rcases hq with ⟨hv, hfk, hlk, hsk, hNa⟩
            cases hv
            have hsp := hfk.get hsp (by decide)
            have hwk := hfk.get hwk (by decide)
            have hnw := hfk.get hnw (by simp only [List.mem_cons, List.not_mem_nil, or_false]; omega)
            have htn := hfk.get htn (by simp only [List.mem_cons, List.not_mem_nil, or_false]; omega)
            have hnsp := hfk.get hnsp (by simp only [List.mem_cons, List.not_mem_nil, or_false]; omega)
            have htsp := hfk.get htsp (by simp only [List.mem_cons, List.not_mem_nil, or_false]; omega)
            have hse := hfk.get hse (by decide)
            have hstk := hfk.get hstk (by decide)
            have hq := hfk.get hq (by simp only [List.mem_cons, List.not_mem_nil, or_false]; omega)
            have hki := hfk.get hki (by simp only [List.mem_cons, List.not_mem_nil, or_false]; omega)
            have hne := hfk.get hne (by simp only [List.mem_cons, List.not_mem_nil, or_false]; omega)
            have hot := hfk.get hot (by simp only [List.mem_cons, List.not_mem_nil, or_false]; omega)
            have hra := hfk.get hra (by simp only [List.mem_cons, List.not_mem_nil, or_false]; omega)
            have hs := hfk.get hs (by decide)
            have hco := hfk.get hco (by decide)
            have hre := hfk.get hre (by decide)
            have hho := hfk.get hho (by decide)
            have hfr := hfr.tr hfk (by decide)
            have hlen := hlk.trans hlen
            have hsl := hsk.trans hsl
            have ha := hNa
            change ab_W _ _ _ G83 124 [some (vR a), some (vR q), some (vR s), some (vz hw), some (vz p), some (vR sp), some (vz i)] [] _
            have jj_ := jm_.turn (TN2 := NW) (TS2 := NS) (tc2 := 0) jno_ rfl
            obtain ⟨jj1_, jj2_⟩ := jj_
            refine ab_aload_n d_TH_find_124 rfl ?_
            refine ab_getf (fs := [vR sp, vR wk, vR tn, vR nw, vR tsp, vR nsp, vz tc, vz 0, vR se, vz (sta + 1), vR stk, vz fo, vR q, vR s, vz hw, vz fy, vj stp]) f_TH_91 d_TH_find_125 ha.2.2 rfl ?_
            refine zz_if_ne (tgt := 145) d_TH_find_128 (by decide) (by omega) (fun c84 => ?_) (fun c84 => ?_)
            · refine ab_aload_n d_TH_find_145 rfl ?_
              refine ab_iload d_TH_find_146 rfl ?_
              refine ab_callV (d' := d - 1) (as := [vz i]) (st := []) (r := _) (z_TH_step (o := o) (q := q) (lq := lq) (ki := ki) (ne := ne) (ot := ot) (cnt := cnt) (fi := fi) (la := la) (ra := ra) (ru := ru) (gr := gr) (wi := wi) (sz := sz) (fl := fl) (ve := ve) (mi := mi) (na := na) (nl := nl) (K := K) (N := N) (O := O) (RR := RR) (nr := nr) (s := s) (by_ := by_) (co := co) (re := re) (ho := ho) (n := n) (C := C) (Rs := Rs) (H := H) (mc := mc) (a := a) (sp := sp) (wk := wk) (nw := tn) (tn := nw) (nsp := tsp) (tsp := nsp) (se := se) (stk := stk) (nc := tc) (tc := 0) (sta := (sta + 1)) (fo := fo) (hw := hw) (fy := fy) (stp := stp) (SP := SP) (WK := WK) (NW := TN) (TN := NW) (NS := TS) (TS := NS) (SE := SE) (SK := SK) (l1 := l2) (l2 := l1) (l3 := l4) (l4 := l3) (p := i) (u9 := u9) (lz := lz) (S9 := S9) ha hsp hwk htn hnw htsp hnsp hse hstk hq hki hne hot hra hs hco hre hho (by omega) hp hr (by omega) hsu (by omega) (by omega) hkk (by omega) jtn jts (by omega) (by omega) (by omega) jj2_ (by omega) jse2_ thos_0 thr_0 jsp jspo (by omega) jj1_ (by omega)) (fun oc G2 h => by rcases h with ⟨_, _, _, _, _, _, _, _, _, h, _⟩ <;> exact ⟨_, h⟩) (by omega) m_TH_step ml_TH_94 im_TH_step se_TH_step c_TH ha.2.2 (Nat.le_of_ble_eq_true rfl) d_TH_find_148 rfl ?_
              intro v G85 hq
              rcases hq with ⟨tc286, st287, fo288, SE289, TN290, TS291, SK292, WK293, SP294, hv, hfk, hlk, hsk, hNa, hNsp, hNwk, hNtn, hNnw, hNtsp, hNnsp, hNse, hNstk, hq95, hq96, hq97, hq98, hq99, hq100, hq101, hq102⟩
              cases hv
              have hq := hfk.get hq (by simp only [List.mem_cons, List.not_mem_nil, or_false]; omega)
              have hki := hfk.get hki (by simp only [List.mem_cons, List.not_mem_nil, or_false]; omega)
              have hne := hfk.get hne (by simp only [List.mem_cons, List.not_mem_nil, or_false]; omega)
              have hot := hfk.get hot (by simp only [List.mem_cons, List.not_mem_nil, or_false]; omega)
              have hra := hfk.get hra (by simp only [List.mem_cons, List.not_mem_nil, or_false]; omega)
              have hs := hfk.get hs (by decide)
              have hco := hfk.get hco (by decide)
              have hre := hfk.get hre (by decide)
              have hho := hfk.get hho (by decide)
              have hfr := hfr.tr hfk (by decide)
              have hlen := hlk.trans hlen
              have hsl := hsk.trans hsl
              have ha := hNa
              have hsp := hNsp
              have hwk := hNwk
              have htn := hNtn
              have hnw := hNnw
              have htsp := hNtsp
              have hnsp := hNnsp
              have hse := hNse
              have hstk := hNstk
              change ab_W _ _ _ G85 151 [some (vR a), some (vR q), some (vR s), some (vz hw), some (vz p), some (vR sp), some (vz i)] [] _
              refine zz_iinc d_TH_find_151 rfl (Nat.le_of_ble_eq_true rfl) (Nat.le_of_ble_eq_true rfl) rfl ?_
              change ab_W _ _ _ G85 154 [some (vR a), some (vR q), some (vR s), some (vz hw), some (vz p), some (vR sp), some (vz (i + 1))] [] _
              refine ab_goto (tgt := 62) d_TH_find_154 (by decide) ?_
              exact ih (nw := tn) (tn := nw) (nsp := tsp) (tsp := nsp) (nc := tc) (tc := tc286) (sta := (sta + 1)) (fo := fo288) (stp := st287) (SP := SP294) (WK := WK293) (NW := TN) (TN := TN290) (NS := TS) (TS := TS291) (SE := SE289) (SK := SK292) (l1 := l2) (l2 := l1) (l3 := l4) (l4 := l3) (i := (i + 1)) ha hsp hwk htn hnw htsp hnsp hse hstk hq hki hne hot hra hs hco hre hho (by omega) (by omega) (by omega) (by omega) hq98 hq99 hq100 hq97 hq101 (by omega) hq102 hfr hlen hsl (by omega) hk0
            · refine ab_aload_n d_TH_find_131 rfl ?_
              refine ab_getf (fs := [vR sp, vR wk, vR tn, vR nw, vR tsp, vR nsp, vz tc, vz 0, vR se, vz (sta + 1), vR stk, vz fo, vR q, vR s, vz hw, vz fy, vj stp]) f_TH_61 d_TH_find_132 ha.2.2 rfl ?_
              refine zz_if_ne (tgt := 157) d_TH_find_135 (by decide) (by omega) (fun c103 => absurd c103 (by omega)) (fun c103 => ?_)
              refine ab_iload_n d_TH_find_138 rfl ?_
              refine zz_if_eq (tgt := 145) d_TH_find_139 (by decide) (by omega) (fun c104 => absurd c104 (by omega)) (fun c104 => ?_)
              refine ab_goto (tgt := 157) d_TH_find_142 (by decide) ?_
              refine ab_less (L' := [some (vR a), none, none, none, none, some (vR sp), none]) (fun i v h => by rcases i with _ | _ | _ | _ | _ | _ | _ | i <;> first | exact h | (simp at h)) ?_
              exact hk0 _ _ _ _ _ _ _ _ _ _ _ _ _ _ _ _ _ _ _ _ _ _ ha hsp hwk htn hnw htsp hnsp hse hstk (by omega) (by omega) (by omega) (by first | exact jsp | exact rgs_w jsp (by omega)) (by exact jse2_) (by exact jspo) (by exact jj1_.brk (by omega) rfl (laZ_br hl2 (by omega) (by omega))) hfr hlen hsl
          · obtain ⟨W_, c_, jsp⟩ := jst.p (laZ_le hl2 (by omega) (by omega))
            refine ab_aload_n d_TH_find_89 rfl ?_
            refine ab_getf (fs := [vR sp, vR wk, vR nw, vR tn, vR nsp, vR tsp, vz nc, vz tc, vR se, vz sta, vR stk, vz fo, vR q, vR s, vz hw, vz fy, vj stp]) f_TH_15 d_TH_find_90 ha.2.2 rfl ?_
            refine zz_iconst d_TH_find_93 ?_
            refine ab_aload_n d_TH_find_94 rfl ?_
            refine ab_getf (fs := [vR ki, vR ne, vR ot, vz cnt, vz fi, vz la, vR ra, vz ru, vz gr, vz wi, vz sz, vz fl, vz ve, vz mi, vR na, vR nl]) f_TH_72 d_TH_find_95 hq.2.2 rfl ?_
            refine zz_iconst d_TH_find_98 ?_
            refine ab_callS (d' := d - 1) (as := [vR wk, vz 0, vz wi, vz (-1)]) (st := []) (z_AR_fillr (o := o) (a := wk) (l := 33) (n := 20) (f := WK) (v := (-1)) (x := 0) (y := wi) hwk (by have h18 : ab_n0 = 18 := rfl; omega) (by omega)) (fun oc G2 h => by rcases h with ⟨h, _⟩ <;> exact ⟨_, h⟩) (by omega) m_AR_fillr ml_TH_75 st_AR_fillr (Nat.le_of_ble_eq_true rfl) d_TH_find_99 rfl ?_
            intro v G105 hq
            rcases hq with ⟨hv, hfk, hlk, hsk, hNwk⟩
            cases hv
            have ha := hfk.get ha (by decide)
            have hsp := hfk.get hsp (by decide)
            have hnw := hfk.get hnw (by simp only [List.mem_cons, List.not_mem_nil, or_false]; omega)
            have htn := hfk.get htn (by simp only [List.mem_cons, List.not_mem_nil, or_false]; omega)
            have hnsp := hfk.get hnsp (by simp only [List.mem_cons, List.not_mem_nil, or_false]; omega)
            have htsp := hfk.get htsp (by simp only [List.mem_cons, List.not_mem_nil, or_false]; omega)
            have hse := hfk.get hse (by decide)
            have hstk := hfk.get hstk (by decide)
            have hq := hfk.get hq (by simp only [List.mem_cons, List.not_mem_nil, or_false]; omega)
            have hki := hfk.get hki (by simp only [List.mem_cons, List.not_mem_nil, or_false]; omega)
            have hne := hfk.get hne (by simp only [List.mem_cons, List.not_mem_nil, or_false]; omega)
            have hot := hfk.get hot (by simp only [List.mem_cons, List.not_mem_nil, or_false]; omega)
            have hra := hfk.get hra (by simp only [List.mem_cons, List.not_mem_nil, or_false]; omega)
            have hs := hfk.get hs (by decide)
            have hco := hfk.get hco (by decide)
            have hre := hfk.get hre (by decide)
            have hho := hfk.get hho (by decide)
            have hfr := hfr.tr hfk (by decide)
            have hlen := hlk.trans hlen
            have hsl := hsk.trans hsl
            have hwk := hNwk
            change ab_W _ _ _ G105 102 [some (vR a), some (vR q), some (vR s), some (vz hw), some (vz p), some (vR sp), some (vz i)] [] _
            refine ab_aload_n d_TH_find_102 rfl ?_
            refine ab_getf (fs := [vR sp, vR wk, vR nw, vR tn, vR nsp, vR tsp, vz nc, vz tc, vR se, vz sta, vR stk, vz fo, vR q, vR s, vz hw, vz fy, vj stp]) f_TH_15 d_TH_find_103 ha.2.2 rfl ?_
            refine zz_iconst d_TH_find_106 ?_
            refine ab_iload d_TH_find_107 rfl ?_
            refine zz_iast d_TH_find_109 hwk (by omega) (hwk.2.1 (by decide)) ?_
            obtain ⟨G106, eG106⟩ : ∃ z : ab_G, z = List.set G105 wk (za 20 (zu (zfill WK 0 wi (-1)) 0 i)) := ⟨_, rfl⟩
            have ha := ha.keep hwk eG106 (by decide)
            have hsp := hsp.keep hwk eG106 (by decide)
            have hnw := hnw.keep hwk eG106 (by omega)
            have htn := htn.keep hwk eG106 (by omega)
            have hnsp := hnsp.keep hwk eG106 (by omega)
            have htsp := htsp.keep hwk eG106 (by omega)
            have hse := hse.keep hwk eG106 (by decide)
            have hstk := hstk.keep hwk eG106 (by decide)
            have hq := hq.keep hwk eG106 (by omega)
            have hki := hki.keep hwk eG106 (by omega)
            have hne := hne.keep hwk eG106 (by omega)
            have hot := hot.keep hwk eG106 (by omega)
            have hra := hra.keep hwk eG106 (by omega)
            have hs := hs.keep hwk eG106 (by decide)
            have hco := hco.keep hwk eG106 (by decide)
            have hre := hre.keep hwk eG106 (by decide)
            have hho := hho.keep hwk eG106 (by decide)
            have hlen := (z_len eG106).trans hlen
            have hsl := (z_sl hwk eG106 rfl).trans hsl
            have hfr := hfr.wr hwk eG106 (by decide)
            have hwk := hwk.kept eG106
            change ab_W _ _ _ (List.set G105 wk (za 20 (zu (zfill WK 0 wi (-1)) 0 i))) 110 [some (vR a), some (vR q), some (vR s), some (vz hw), some (vz p), some (vR sp), some (vz i)] [] _
            rw [← eG106]
            refine ab_aload_n d_TH_find_110 rfl ?_
            refine ab_aload_n d_TH_find_111 rfl ?_
            refine ab_getf (fs := [vR ki, vR ne, vR ot, vz cnt, vz fi, vz la, vR ra, vz ru, vz gr, vz wi, vz sz, vz fl, vz ve, vz mi, vR na, vR nl]) f_TH_81 d_TH_find_112 hq.2.2 rfl ?_
            refine ab_iload d_TH_find_115 rfl ?_
            refine ab_callV (d' := d - 1) (as := [vz fi, vz i]) (st := []) (r := _) (z_TH_follow (o := o) (q := q) (lq := lq) (ki := ki) (ne := ne) (ot := ot) (cnt := cnt) (fi := fi) (la := la) (ra := ra) (ru := ru) (gr := gr) (wi := wi) (sz := sz) (fl := fl) (ve := ve) (mi := mi) (na := na) (nl := nl) (K := K) (N := N) (O := O) (RR := RR) (nr := nr) (s := s) (by_ := by_) (co := co) (re := re) (ho := ho) (n := n) (C := C) (Rs := Rs) (H := H) (mc := mc) (a := a) (sp := sp) (wk := wk) (nw := nw) (tn := tn) (nsp := nsp) (tsp := tsp) (se := se) (stk := stk) (nc := nc) (tc := tc) (sta := sta) (fo := fo) (hw := hw) (fy := fy) (stp := stp) (SP := SP) (WK := (zu (zfill WK 0 wi (-1)) 0 i)) (NW := NW) (TN := TN) (NS := NS) (TS := TS) (SE := SE) (SK := SK) (l1 := l1) (l2 := l2) (l3 := l3) (l4 := l4) (p := i) (x := fi) (st := i) (Mw := W_) (s0 := (i - 1)) (gw := (fun _ => -1)) (Lw := (wyR u9 f n i)) ha hsp hwk hnw htn hnsp htsp hse hstk hq hki hne hot hra hs hco hre hho (by omega) hp hr (by omega) hsu (by omega) (by omega) hkk (by omega) (by omega) (by omega) (rgs_zu (rgs_fl (by omega)) (by omega)) (by rw [zu_self]; omega) jse jtn jts jsp.2.2.1.f (by omega) gA_0 (zu_self _ _ _) (by rw [wyR_p (by omega) (by omega)]; exact hpm.ww hsu.1 (by omega) (by omega)) (by omega)) (fun oc G2 h => by rcases h with ⟨_, _, _, _, _, _, _, h, _⟩ <;> exact ⟨_, h⟩) (by omega) m_TH_follow ml_TH_84 im_TH_follow se_TH_follow c_TH ha.2.2 (Nat.le_of_ble_eq_true rfl) d_TH_find_117 rfl ?_
            intro v G107 hq
            rcases hq with ⟨tc2108, st2109, SE2110, TN2111, TS2112, SK2113, WK2114, hv, hfk, hlk, hsk, hNa, hNsp, hNwk, hNnw, hNtn, hNnsp, hNtsp, hNse, hNstk, hq115, hq116, hq117, hq118, hq119, hq120, hq121⟩
            cases hv
            have hq := hfk.get hq (by simp only [List.mem_cons, List.not_mem_nil, or_false]; omega)
            have hki := hfk.get hki (by simp only [List.mem_cons, List.not_mem_nil, or_false]; omega)
            have hne := hfk.get hne (by simp only [List.mem_cons, List.not_mem_nil, or_false]; omega)
            have hot := hfk.get hot (by simp only [List.mem_cons, List.not_mem_nil, or_false]; omega)
            have hra := hfk.get hra (by simp only [List.mem_cons, List.not_mem_nil, or_false]; omega)
            have hs := hfk.get hs (by decide)
            have hco := hfk.get hco (by decide)
            have hre := hfk.get hre (by decide)
            have hho := hfk.get hho (by decide)
            have hfr := hfr.tr hfk (by decide)
            have hlen := hlk.trans hlen
            have hsl := hsk.trans hsl
            have ha := hNa
            have hsp := hNsp
            have hwk := hNwk
            have hnw := hNnw
            have htn := hNtn
            have hnsp := hNnsp
            have htsp := hNtsp
            have hse := hNse
            have hstk := hNstk
            change ab_W _ _ _ G107 120 [some (vR a), some (vR q), some (vR s), some (vz hw), some (vz p), some (vR sp), some (vz i)] [] _
            have jm_ := jsp.m hq121 (by omega) hsu (by omega)
            have jse_ := hq118
            have jno_ : ∀ k : Int, 0 ≤ k → k < 2048 → ¬ SE2110 k = sta + 1 := fun k a b => by have := (jse_ k a b).2; omega
            have jse2_ : rgs SE2110 2048 0 (sta + 1) := rgs_up jse_ (by omega) (by omega)
            refine ab_aload_n d_TH_find_120 rfl ?_
            refine ab_callV (d' := d - 1) (as := []) (st := []) (r := _) (z_TH_turnRows (o := o) (q := q) (s := s) (a := a) (sp := sp) (wk := wk) (nw := nw) (tn := tn) (nsp := nsp) (tsp := tsp) (se := se) (stk := stk) (nc := nc) (tc := tc2108) (sta := sta) (fo := fo) (hw := hw) (fy := fy) (stp := st2109) ha) (fun oc G2 h => by rcases h with ⟨h, _⟩ <;> exact ⟨_, h⟩) (by omega) m_TH_turnRows ml_TH_88 im_TH_turnRows se_TH_turnRows c_TH ha.2.2 (Nat.le_of_ble_eq_true rfl) d_TH_find_121 rfl ?_
            intro v G122 hq
            rcases hq with ⟨hv, hfk, hlk, hsk, hNa⟩
            cases hv
            have hsp := hfk.get hsp (by decide)
            have hwk := hfk.get hwk (by decide)
            have hnw := hfk.get hnw (by simp only [List.mem_cons, List.not_mem_nil, or_false]; omega)
            have htn := hfk.get htn (by simp only [List.mem_cons, List.not_mem_nil, or_false]; omega)
            have hnsp := hfk.get hnsp (by simp only [List.mem_cons, List.not_mem_nil, or_false]; omega)
            have htsp := hfk.get htsp (by simp only [List.mem_cons, List.not_mem_nil, or_false]; omega)
            have hse := hfk.get hse (by decide)
            have hstk := hfk.get hstk (by decide)
            have hq := hfk.get hq (by simp only [List.mem_cons, List.not_mem_nil, or_false]; omega)
            have hki := hfk.get hki (by simp only [List.mem_cons, List.not_mem_nil, or_false]; omega)
            have hne := hfk.get hne (by simp only [List.mem_cons, List.not_mem_nil, or_false]; omega)
            have hot := hfk.get hot (by simp only [List.mem_cons, List.not_mem_nil, or_false]; omega)
            have hra := hfk.get hra (by simp only [List.mem_cons, List.not_mem_nil, or_false]; omega)
            have hs := hfk.get hs (by decide)
            have hco := hfk.get hco (by decide)
            have hre := hfk.get hre (by decide)
            have hho := hfk.get hho (by decide)
            have hfr := hfr.tr hfk (by decide)
            have hlen := hlk.trans hlen
            have hsl := hsk.trans hsl
            have ha := hNa
            change ab_W _ _ _ G122 124 [some (vR a), some (vR q), some (vR s), some (vz hw), some (vz p), some (vR sp), some (vz i)] [] _
            have jj_ := jm_.turn (TN2 := NW) (TS2 := NS) (tc2 := 0) jno_ rfl
            obtain ⟨jj1_, jj2_⟩ := jj_
            refine ab_aload_n d_TH_find_124 rfl ?_
            refine ab_getf (fs := [vR sp, vR wk, vR tn, vR nw, vR tsp, vR nsp, vz tc2108, vz 0, vR se, vz (sta + 1), vR stk, vz fo, vR q, vR s, vz hw, vz fy, vj st2109]) f_TH_91 d_TH_find_125 ha.2.2 rfl ?_
            refine zz_if_ne (tgt := 145) d_TH_find_128 (by decide) (by omega) (fun c123 => ?_) (fun c123 => ?_)
            · refine ab_aload_n d_TH_find_145 rfl ?_
              refine ab_iload d_TH_find_146 rfl ?_
              refine ab_callV (d' := d - 1) (as := [vz i]) (st := []) (r := _) (z_TH_step (o := o) (q := q) (lq := lq) (ki := ki) (ne := ne) (ot := ot) (cnt := cnt) (fi := fi) (la := la) (ra := ra) (ru := ru) (gr := gr) (wi := wi) (sz := sz) (fl := fl) (ve := ve) (mi := mi) (na := na) (nl := nl) (K := K) (N := N) (O := O) (RR := RR) (nr := nr) (s := s) (by_ := by_) (co := co) (re := re) (ho := ho) (n := n) (C := C) (Rs := Rs) (H := H) (mc := mc) (a := a) (sp := sp) (wk := wk) (nw := tn) (tn := nw) (nsp := tsp) (tsp := nsp) (se := se) (stk := stk) (nc := tc2108) (tc := 0) (sta := (sta + 1)) (fo := fo) (hw := hw) (fy := fy) (stp := st2109) (SP := SP) (WK := WK2114) (NW := TN2111) (TN := NW) (NS := TS2112) (TS := NS) (SE := SE2110) (SK := SK2113) (l1 := l2) (l2 := l1) (l3 := l4) (l4 := l3) (p := i) (u9 := u9) (lz := lz) (S9 := S9) ha hsp hwk htn hnw htsp hnsp hse hstk hq hki hne hot hra hs hco hre hho (by omega) hp hr (by omega) hsu (by omega) (by omega) hkk (by omega) hq119 hq120 (by omega) (by omega) (by omega) jj2_ (by omega) jse2_ thos_0 thr_0 jsp jspo (by omega) jj1_ (by omega)) (fun oc G2 h => by rcases h with ⟨_, _, _, _, _, _, _, _, _, h, _⟩ <;> exact ⟨_, h⟩) (by omega) m_TH_step ml_TH_94 im_TH_step se_TH_step c_TH ha.2.2 (Nat.le_of_ble_eq_true rfl) d_TH_find_148 rfl ?_
              intro v G124 hq
              rcases hq with ⟨tc2125, st2126, fo2127, SE2128, TN2129, TS2130, SK2131, WK2132, SP2133, hv, hfk, hlk, hsk, hNa, hNsp, hNwk, hNtn, hNnw, hNtsp, hNnsp, hNse, hNstk, hq134, hq135, hq136, hq137, hq138, hq139, hq140, hq141⟩
              cases hv
              have hq := hfk.get hq (by simp only [List.mem_cons, List.not_mem_nil, or_false]; omega)
              have hki := hfk.get hki (by simp only [List.mem_cons, List.not_mem_nil, or_false]; omega)
              have hne := hfk.get hne (by simp only [List.mem_cons, List.not_mem_nil, or_false]; omega)
              have hot := hfk.get hot (by simp only [List.mem_cons, List.not_mem_nil, or_false]; omega)
              have hra := hfk.get hra (by simp only [List.mem_cons, List.not_mem_nil, or_false]; omega)
              have hs := hfk.get hs (by decide)
              have hco := hfk.get hco (by decide)
              have hre := hfk.get hre (by decide)
              have hho := hfk.get hho (by decide)
              have hfr := hfr.tr hfk (by decide)
              have hlen := hlk.trans hlen
              have hsl := hsk.trans hsl
              have ha := hNa
              have hsp := hNsp
              have hwk := hNwk
              have htn := hNtn
              have hnw := hNnw
              have htsp := hNtsp
              have hnsp := hNnsp
              have hse := hNse
              have hstk := hNstk
              change ab_W _ _ _ G124 151 [some (vR a), some (vR q), some (vR s), some (vz hw), some (vz p), some (vR sp), some (vz i)] [] _
              refine zz_iinc d_TH_find_151 rfl (Nat.le_of_ble_eq_true rfl) (Nat.le_of_ble_eq_true rfl) rfl ?_
              change ab_W _ _ _ G124 154 [some (vR a), some (vR q), some (vR s), some (vz hw), some (vz p), some (vR sp), some (vz (i + 1))] [] _
              refine ab_goto (tgt := 62) d_TH_find_154 (by decide) ?_
              exact ih (nw := tn) (tn := nw) (nsp := tsp) (tsp := nsp) (nc := tc2108) (tc := tc2125) (sta := (sta + 1)) (fo := fo2127) (stp := st2126) (SP := SP2133) (WK := WK2132) (NW := TN2111) (TN := TN2129) (NS := TS2112) (TS := TS2130) (SE := SE2128) (SK := SK2131) (l1 := l2) (l2 := l1) (l3 := l4) (l4 := l3) (i := (i + 1)) ha hsp hwk htn hnw htsp hnsp hse hstk hq hki hne hot hra hs hco hre hho (by omega) (by omega) (by omega) (by omega) hq137 hq138 hq139 hq136 hq140 (by omega) hq141 hfr hlen hsl (by omega) hk0
            · refine ab_aload_n d_TH_find_131 rfl ?_
              refine ab_getf (fs := [vR sp, vR wk, vR tn, vR nw, vR tsp, vR nsp, vz tc2108, vz 0, vR se, vz (sta + 1), vR stk, vz fo, vR q, vR s, vz hw, vz fy, vj st2109]) f_TH_61 d_TH_find_132 ha.2.2 rfl ?_
              refine zz_if_ne (tgt := 157) d_TH_find_135 (by decide) (by omega) (fun c142 => absurd c142 (by omega)) (fun c142 => ?_)
              refine ab_iload_n d_TH_find_138 rfl ?_
              refine zz_if_eq (tgt := 145) d_TH_find_139 (by decide) (by omega) (fun c143 => ?_) (fun c143 => absurd c143 (by omega))
              refine ab_aload_n d_TH_find_145 rfl ?_
              refine ab_iload d_TH_find_146 rfl ?_
              refine ab_callV (d' := d - 1) (as := [vz i]) (st := []) (r := _) (z_TH_step (o := o) (q := q) (lq := lq) (ki := ki) (ne := ne) (ot := ot) (cnt := cnt) (fi := fi) (la := la) (ra := ra) (ru := ru) (gr := gr) (wi := wi) (sz := sz) (fl := fl) (ve := ve) (mi := mi) (na := na) (nl := nl) (K := K) (N := N) (O := O) (RR := RR) (nr := nr) (s := s) (by_ := by_) (co := co) (re := re) (ho := ho) (n := n) (C := C) (Rs := Rs) (H := H) (mc := mc) (a := a) (sp := sp) (wk := wk) (nw := tn) (tn := nw) (nsp := tsp) (tsp := nsp) (se := se) (stk := stk) (nc := tc2108) (tc := 0) (sta := (sta + 1)) (fo := fo) (hw := hw) (fy := fy) (stp := st2109) (SP := SP) (WK := WK2114) (NW := TN2111) (TN := NW) (NS := TS2112) (TS := NS) (SE := SE2110) (SK := SK2113) (l1 := l2) (l2 := l1) (l3 := l4) (l4 := l3) (p := i) (u9 := u9) (lz := lz) (S9 := S9) ha hsp hwk htn hnw htsp hnsp hse hstk hq hki hne hot hra hs hco hre hho (by omega) hp hr (by omega) hsu (by omega) (by omega) hkk (by omega) hq119 hq120 (by omega) (by omega) (by omega) jj2_ (by omega) jse2_ thos_0 thr_0 jsp jspo (by omega) jj1_ (by omega)) (fun oc G2 h => by rcases h with ⟨_, _, _, _, _, _, _, _, _, h, _⟩ <;> exact ⟨_, h⟩) (by omega) m_TH_step ml_TH_94 im_TH_step se_TH_step c_TH ha.2.2 (Nat.le_of_ble_eq_true rfl) d_TH_find_148 rfl ?_
              intro v G144 hq
              rcases hq with ⟨tc2145, st2146, fo2147, SE2148, TN2149, TS2150, SK2151, WK2152, SP2153, hv, hfk, hlk, hsk, hNa, hNsp, hNwk, hNtn, hNnw, hNtsp, hNnsp, hNse, hNstk, hq154, hq155, hq156, hq157, hq158, hq159, hq160, hq161⟩
              cases hv
              have hq := hfk.get hq (by simp only [List.mem_cons, List.not_mem_nil, or_false]; omega)
              have hki := hfk.get hki (by simp only [List.mem_cons, List.not_mem_nil, or_false]; omega)
              have hne := hfk.get hne (by simp only [List.mem_cons, List.not_mem_nil, or_false]; omega)
              have hot := hfk.get hot (by simp only [List.mem_cons, List.not_mem_nil, or_false]; omega)
              have hra := hfk.get hra (by simp only [List.mem_cons, List.not_mem_nil, or_false]; omega)
              have hs := hfk.get hs (by decide)
              have hco := hfk.get hco (by decide)
              have hre := hfk.get hre (by decide)
              have hho := hfk.get hho (by decide)
              have hfr := hfr.tr hfk (by decide)
              have hlen := hlk.trans hlen
              have hsl := hsk.trans hsl
              have ha := hNa
              have hsp := hNsp
              have hwk := hNwk
              have htn := hNtn
              have hnw := hNnw
              have htsp := hNtsp
              have hnsp := hNnsp
              have hse := hNse
              have hstk := hNstk
              change ab_W _ _ _ G144 151 [some (vR a), some (vR q), some (vR s), some (vz hw), some (vz p), some (vR sp), some (vz i)] [] _
              refine zz_iinc d_TH_find_151 rfl (Nat.le_of_ble_eq_true rfl) (Nat.le_of_ble_eq_true rfl) rfl ?_
              change ab_W _ _ _ G144 154 [some (vR a), some (vR q), some (vR s), some (vz hw), some (vz p), some (vR sp), some (vz (i + 1))] [] _
              refine ab_goto (tgt := 62) d_TH_find_154 (by decide) ?_
              exact ih (nw := tn) (tn := nw) (nsp := tsp) (tsp := nsp) (nc := tc2108) (tc := tc2145) (sta := (sta + 1)) (fo := fo2147) (stp := st2146) (SP := SP2153) (WK := WK2152) (NW := TN2111) (TN := TN2149) (NS := TS2112) (TS := TS2150) (SE := SE2148) (SK := SK2151) (l1 := l2) (l2 := l1) (l3 := l4) (l4 := l3) (i := (i + 1)) ha hsp hwk htn hnw htsp hnsp hse hstk hq hki hne hot hra hs hco hre hho (by omega) (by omega) (by omega) (by omega) hq157 hq158 hq159 hq156 hq160 (by omega) hq161 hfr hlen hsl (by omega) hk0
