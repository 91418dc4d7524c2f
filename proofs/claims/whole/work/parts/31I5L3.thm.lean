set_option maxRecDepth 100000 in
set_option maxHeartbeats 4000000 in
theorem y_AR_fill_5 {X : ab_X} {d : Nat} {Q : Outcome → ab_G → Prop} {o : Nat → Nat} {G0 : ab_G} {a : Nat} {l : Nat} {n : Nat} {f : Int → Int} {v : Int} {y : Int} (c0 : y = ↑n ∧ ↑n ≤ (2147483647 : Int) ∧ ab_n0 ≤ l) : ∀ (mz : Nat) {G : ab_G} {i : Int}, (cc o G a l (za n (zfill f 0 i v))) → (0 ≤ i ∧ i ≤ y) → (fx o o [l] G0 G) → (G.length = G0.length) → (ab_slots G = ab_slots G0) → (Int.toNat (y - i) < mz) → (∀ (G2 : ab_G) (i : Int), (cc o G2 a l (za n (zfill f 0 i v))) → (i = ↑n) → (fx o o [l] G0 G2) → (G2.length = G0.length) → (ab_slots G2 = ab_slots G0) → ab_W X (ab_pl y_AR_fill b_AR_fill 4 none) d G2 20 [none, none, none, none] [] Q) → ab_W X (ab_pl y_AR_fill b_AR_fill 4 none) d G 5 [some (vR a), some (vz v), some (vz i), some (vz y)] [] Q := by
  intro mz
  induction mz with
  | zero => intro G i ha c1 hfr hlen hsl hm hk0; exact absurd hm (Nat.not_lt_zero _)
  | succ mz ih =>
    intro G i ha c1 hfr hlen hsl hm hk0
    refine ab_iload_n d_AR_fill_5 rfl ?_
    refine ab_iload_n d_AR_fill_6 rfl ?_
    refine zz_icmp_ge (tgt := 20) d_AR_fill_7 (by decide) (by omega) (by omega) (fun c1 => ?_) (fun c1 => ?_)
    · refine ab_less (L' := [none, none, none, none]) (fun i v h => by rcases i with _ | _ | _ | _ | i <;> first | exact h | (simp at h)) ?_
      exact hk0 _ _ ha (by omega) hfr hlen hsl
    · refine ab_aload_n d_AR_fill_10 rfl ?_
      refine ab_iload_n d_AR_fill_11 rfl ?_
      refine ab_iload_n d_AR_fill_12 rfl ?_
      refine zz_iast d_AR_fill_13 ha (by omega) (ha.2.1 (by first | omega | exact (show 18 ≤ _ by omega))) ?_
      obtain ⟨G2, eG2⟩ : ∃ z : ab_G, z = List.set G a (za n (zu (zfill f 0 i v) i v)) := ⟨_, rfl⟩
      have hlen := (z_len eG2).trans hlen
      have hsl := (z_sl ha eG2 rfl).trans hsl
      have hfr := hfr.wr ha eG2 (by simp)
      have ha := ha.kept eG2
      change ab_W _ _ _ (List.set G a (za n (zu (zfill f 0 i v) i v))) 14 [some (vR a), some (vz v), some (vz i), some (vz y)] [] _
      rw [← eG2]
      have ha : cc o G2 a l (za n (zfill f 0 (i + 1) v)) := by rw [← zfill_s (g := f) (a := 0) (i := i) (v := v) (by omega)]; exact ha
      refine zz_iinc d_AR_fill_14 rfl (Nat.le_of_ble_eq_true rfl) (Nat.le_of_ble_eq_true rfl) rfl ?_
      change ab_W _ _ _ G2 17 [some (vR a), some (vz v), some (vz (i + 1)), some (vz y)] [] _
      refine ab_goto (tgt := 5) d_AR_fill_17 (by decide) ?_
      exact ih (i := (i + 1)) ha (by omega) hfr hlen hsl (by omega) hk0
set_option maxRecDepth 100000 in
set_option maxHeartbeats 4000000 in
theorem z_AR_fill {X : ab_X} {d : Nat} {o : Nat → Nat} {G : ab_G} {a : Nat} {l : Nat} {n : Nat} {f : Int → Int} {v : Int} (ha : cc o G a l (za n f)) (c0 : ↑n ≤ (2147483647 : Int) ∧ ab_n0 ≤ l) : ab_F X d y_AR_fill (.code y_AR_fill b_AR_fill 4 none) [vR a, vz v] G (fun oc G2 => oc = .returned none ∧ fx o o [l] G G2 ∧ G2.length = G.length ∧ ab_slots G2 = ab_slots G ∧ cc o G2 a l (za n (zfill f 0 ↑n v))) := by
  refine ab_F_of (by decide +kernel) (Nat.le_of_ble_eq_true rfl) ?_
  obtain ⟨Q, hQ⟩ : ∃ z : Outcome → ab_G → Prop, z = (fun oc G2 => oc = .returned none ∧ fx o o [l] G G2 ∧ G2.length = G.length ∧ ab_slots G2 = ab_slots G ∧ cc o G2 a l (za n (zfill f 0 ↑n v))) := ⟨_, rfl⟩
  rw [← hQ]
  change ab_W X (ab_pl y_AR_fill b_AR_fill 4 none) d G 0 [some (vR a), some (vz v), none, none] [] Q
  have hfr : fx o o [l] G G := fx.rf
  have hlen : G.length = G.length := rfl
  have hsl : ab_slots G = ab_slots G := rfl
  refine zz_iconst d_AR_fill_0 ?_
  refine ab_istore_n d_AR_fill_1 (Nat.le_of_ble_eq_true rfl) (Nat.le_of_ble_eq_true rfl) rfl ?_
  change ab_W _ _ _ G 2 [some (vR a), some (vz v), some (vz 0), none] [] _
  refine ab_aload_n d_AR_fill_2 rfl ?_
  refine zz_alen d_AR_fill_3 ha ?_
  have ha : cc o G a l (za n (zfill f 0 0 v)) := by rw [← (zfill_0 f 0 v).symm]; exact ha
  refine ab_istore_n d_AR_fill_4 (Nat.le_of_ble_eq_true rfl) (Nat.le_of_ble_eq_true rfl) rfl ?_
  change ab_W _ _ _ G 5 [some (vR a), some (vz v), some (vz 0), some (vz (↑n : Int))] [] _
  refine y_AR_fill_5 (a := a) (l := l) (n := n) (v := v) (y := (↑n : Int)) (i := 0) (by have h18 : ab_n0 = 18 := rfl; omega) (Int.toNat ((↑n : Int) - 0) + 1) ha (by omega) hfr hlen hsl (by omega) (fun G1 i2 ha hq3 hfr hlen hsl => ?_)
  · change ab_W _ _ _ G1 20 [none, none, none, none] [] _
    rw [hq3] at ha
    refine ab_vret rfl d_AR_fill_20 ?_
    rw [hQ]; exact ⟨rfl, hfr, hlen, hsl, ha⟩
set_option maxRecDepth 100000 in
set_option maxHeartbeats 4000000 in
theorem z_TH_put {X : ab_X} {d : Nat} {o : Nat → Nat} {G : ab_G} {q : Nat} {lq : Nat} {ki : Nat} {ne : Nat} {ot : Nat} {cnt : Int} {fi : Int} {la : Int} {ra : Nat} {ru : Int} {gr : Int} {wi : Int} {sz : Int} {fl : Int} {ve : Int} {mi : Int} {na : Nat} {nl : Nat} {K : Int → Int} {s : Nat} {n : Int} {a : Nat} {sp : Nat} {wk : Nat} {nw : Nat} {tn : Nat} {nsp : Nat} {tsp : Nat} {se : Nat} {stk : Nat} {nc : Int} {tc : Int} {sta : Int} {fo : Int} {hw : Int} {fy : Int} {stp : Int} {WK : Int → Int} {NW : Int → Int} {TN : Int → Int} {NS : Int → Int} {TS : Int → Int} {SE : Int → Int} {l1 : Nat} {l2 : Nat} {l3 : Nat} {l4 : Nat} {e : Int} (ha : cc o G a 32 (ab_ob 11 [vR sp, vR wk, vR nw, vR tn, vR nsp, vR tsp, vz nc, vz tc, vR se, vz sta, vR stk, vz fo, vR q, vR s, vz hw, vz fy, vj stp])) (hwk : cc o G wk 33 (za 20 WK)) (hnw : cc o G nw l1 (za 801 NW)) (hnsp : cc o G nsp l3 (za 16020 NS)) (htn : cc o G tn l2 (za 801 TN)) (htsp : cc o G tsp l4 (za 16020 TS)) (hse : cc o G se 39 (za 2048 SE)) (hq : cc o G q lq (ab_ob 5 [vR ki, vR ne, vR ot, vz cnt, vz fi, vz la, vR ra, vz ru, vz gr, vz wi, vz sz, vz fl, vz ve, vz mi, vR na, vR nl])) (clq : 100 ≤ lq) (cwi : 2 ≤ wi ∧ wi ≤ 20) (cl : l1 + l2 = 71 ∧ 35 ≤ l1 ∧ l1 ≤ 36 ∧ l3 + l4 = 75 ∧ 37 ≤ l3 ∧ l3 ≤ 38) (jwk : rgs WK wi (-1) n) (c0k : 0 ≤ WK 0) (jse : rgs SE 2048 0 sta) (cst : 0 ≤ sta ∧ sta ≤ 2100000000) (jtn : thos K cnt TN tc) (jts : thr TS tc wi n) (ctc : 0 ≤ tc ∧ tc ≤ 801) (je : tho K cnt e) (ce : 0 ≤ e ∧ e < 2048) (hd : 1 ≤ d) : ab_F X d y_TH_put (.code y_TH_put b_TH_put 2 none) [vR a, vz e] G (fun oc G2 => (oc = .returned none ∧ G2 = G ∧ (SE e = sta)) ∨ (oc = .returned none ∧ G2 = G ∧ (¬ SE e = sta) ∧ (801 ≤ tc)) ∨ (∃ SE2 : Int → Int, ∃ TN2 : Int → Int, ∃ TS2 : Int → Int, ∃ tc2 : Int, oc = .returned none ∧ fx o o [32, 35, 36, 37, 38, 39] G G2 ∧ G2.length = G.length ∧ ab_slots G2 = ab_slots G ∧ cc o G2 a 32 (ab_ob 11 [vR sp, vR wk, vR nw, vR tn, vR nsp, vR tsp, vz nc, vz tc2, vR se, vz sta, vR stk, vz fo, vR q, vR s, vz hw, vz fy, vj stp]) ∧ cc o G2 wk 33 (za 20 WK) ∧ cc o G2 nw l1 (za 801 NW) ∧ cc o G2 nsp l3 (za 16020 NS) ∧ cc o G2 tn l2 (za 801 TN2) ∧ cc o G2 tsp l4 (za 16020 TS2) ∧ cc o G2 se 39 (za 2048 SE2) ∧ (0 ≤ tc2 ∧ tc2 ≤ 801 ∧ tc2 = tc + 1) ∧ (rgs SE2 2048 0 sta) ∧ (thos K cnt TN2 tc2) ∧ (thr TS2 tc2 wi n) ∧ (ptR SE TN TS tc e WK wi sta SE2 TN2 TS2) ∧ (scn SE2 sta = scn SE sta + 1))) := by
  refine ab_F_of (by decide +kernel) (Nat.le_of_ble_eq_true rfl) ?_
  obtain ⟨Q, hQ⟩ : ∃ z : Outcome → ab_G → Prop, z = (fun oc G2 => (oc = .returned none ∧ G2 = G ∧ (SE e = sta)) ∨ (oc = .returned none ∧ G2 = G ∧ (¬ SE e = sta) ∧ (801 ≤ tc)) ∨ (∃ SE2 : Int → Int, ∃ TN2 : Int → Int, ∃ TS2 : Int → Int, ∃ tc2 : Int, oc = .returned none ∧ fx o o [32, 35, 36, 37, 38, 39] G G2 ∧ G2.length = G.length ∧ ab_slots G2 = ab_slots G ∧ cc o G2 a 32 (ab_ob 11 [vR sp, vR wk, vR nw, vR tn, vR nsp, vR tsp, vz nc, vz tc2, vR se, vz sta, vR stk, vz fo, vR q, vR s, vz hw, vz fy, vj stp]) ∧ cc o G2 wk 33 (za 20 WK) ∧ cc o G2 nw l1 (za 801 NW) ∧ cc o G2 nsp l3 (za 16020 NS) ∧ cc o G2 tn l2 (za 801 TN2) ∧ cc o G2 tsp l4 (za 16020 TS2) ∧ cc o G2 se 39 (za 2048 SE2) ∧ (0 ≤ tc2 ∧ tc2 ≤ 801 ∧ tc2 = tc + 1) ∧ (rgs SE2 2048 0 sta) ∧ (thos K cnt TN2 tc2) ∧ (thr TS2 tc2 wi n) ∧ (ptR SE TN TS tc e WK wi sta SE2 TN2 TS2) ∧ (scn SE2 sta = scn SE sta + 1))) := ⟨_, rfl⟩
  rw [← hQ]
  change ab_W X (ab_pl y_TH_put b_TH_put 2 none) d G 0 [some (vR a), some (vz e)] [] Q
  have hfr : fx o o [32, 35, 36, 37, 38, 39] G G := fx.rf
  have hlen : G.length = G.length := rfl
  have hsl : ab_slots G = ab_slots G := rfl
  refine ab_aload_n d_TH_put_0 rfl ?_
  refine ab_getf (fs := [vR sp, vR wk, vR nw, vR tn, vR nsp, vR tsp, vz nc, vz tc, vR se, vz sta, vR stk, vz fo, vR q, vR s, vz hw, vz fy, vj stp]) f_TH_30 d_TH_put_1 ha.2.2 rfl ?_
  refine ab_iload_n d_TH_put_4 rfl ?_
  refine zz_iald d_TH_put_5 hse (by omega) ?_
  have hq1 := jse e (by omega) (by omega)
  refine ab_aload_n d_TH_put_6 rfl ?_
  refine ab_getf (fs := [vR sp, vR wk, vR nw, vR tn, vR nsp, vR tsp, vz nc, vz tc, vR se, vz sta, vR stk, vz fo, vR q, vR s, vz hw, vz fy, vj stp]) f_TH_98 d_TH_put_7 ha.2.2 rfl ?_
  refine zz_icmp_eq (tgt := 86) d_TH_put_10 (by decide) (by omega) (by omega) (fun c2 => ?_) (fun c2 => ?_)
  · refine ab_vret rfl d_TH_put_86 ?_
    rw [hQ]; exact (Or.inl ⟨rfl, rfl, (by omega)⟩)
  · refine ab_aload_n d_TH_put_13 rfl ?_
    refine ab_getf (fs := [vR sp, vR wk, vR nw, vR tn, vR nsp, vR tsp, vz nc, vz tc, vR se, vz sta, vR stk, vz fo, vR q, vR s, vz hw, vz fy, vj stp]) f_TH_64 d_TH_put_14 ha.2.2 rfl ?_
    refine ab_aload_n d_TH_put_17 rfl ?_
    refine ab_getf (fs := [vR sp, vR wk, vR nw, vR tn, vR nsp, vR tsp, vz nc, vz tc, vR se, vz sta, vR stk, vz fo, vR q, vR s, vz hw, vz fy, vj stp]) f_TH_21 d_TH_put_18 ha.2.2 rfl ?_
    refine zz_alen d_TH_put_21 htn ?_
    change ab_W _ _ _ G 22 [some (vR a), some (vz e)] [vz 801, vz tc] _
    refine zz_icmp_ge (tgt := 86) d_TH_put_22 (by decide) (by omega) (by decide) (fun c3 => ?_) (fun c3 => ?_)
    · refine ab_vret rfl d_TH_put_86 ?_
      rw [hQ]; exact (Or.inr (Or.inl ⟨rfl, rfl, (by omega), (by omega)⟩))
    · refine ab_aload_n d_TH_put_25 rfl ?_
      refine ab_getf (fs := [vR sp, vR wk, vR nw, vR tn, vR nsp, vR tsp, vz nc, vz tc, vR se, vz sta, vR stk, vz fo, vR q, vR s, vz hw, vz fy, vj stp]) f_TH_30 d_TH_put_26 ha.2.2 rfl ?_
      refine ab_iload_n d_TH_put_29 rfl ?_
      refine ab_aload_n d_TH_put_30 rfl ?_
      refine ab_getf (fs := [vR sp, vR wk, vR nw, vR tn, vR nsp, vR tsp, vz nc, vz tc, vR se, vz sta, vR stk, vz fo, vR q, vR s, vz hw, vz fy, vj stp]) f_TH_98 d_TH_put_31 ha.2.2 rfl ?_
      refine zz_iast d_TH_put_34 hse (by omega) (hse.2.1 (by decide)) ?_
      obtain ⟨G4, eG4⟩ : ∃ z : ab_G, z = List.set G se (za 2048 (zu SE e sta)) := ⟨_, rfl⟩
      have ha := ha.keep hse eG4 (by decide)
      have hwk := hwk.keep hse eG4 (by decide)
      have hnw := hnw.keep hse eG4 (by omega)
      have hnsp := hnsp.keep hse eG4 (by omega)
      have htn := htn.keep hse eG4 (by omega)
      have htsp := htsp.keep hse eG4 (by omega)
      have hq := hq.keep hse eG4 (by omega)
      have hlen := (z_len eG4).trans hlen
      have hsl := (z_sl hse eG4 rfl).trans hsl
      have hfr := hfr.wr hse eG4 (by decide)
      have hse := hse.kept eG4
      change ab_W _ _ _ (List.set G se (za 2048 (zu SE e sta))) 35 [some (vR a), some (vz e)] [] _
      rw [← eG4]
      refine ab_aload_n d_TH_put_35 rfl ?_
      refine ab_getf (fs := [vR sp, vR wk, vR nw, vR tn, vR nsp, vR tsp, vz nc, vz tc, vR se, vz sta, vR stk, vz fo, vR q, vR s, vz hw, vz fy, vj stp]) f_TH_21 d_TH_put_36 ha.2.2 rfl ?_
      refine ab_aload_n d_TH_put_39 rfl ?_
      refine ab_getf (fs := [vR sp, vR wk, vR nw, vR tn, vR nsp, vR tsp, vz nc, vz tc, vR se, vz sta, vR stk, vz fo, vR q, vR s, vz hw, vz fy, vj stp]) f_TH_64 d_TH_put_40 ha.2.2 rfl ?_
      refine ab_iload_n d_TH_put_43 rfl ?_
      refine zz_iast d_TH_put_44 htn (by omega) (htn.2.1 (by first | omega | exact (show 18 ≤ _ by omega))) ?_
      obtain ⟨G5, eG5⟩ : ∃ z : ab_G, z = List.set G4 tn (za 801 (zu TN tc e)) := ⟨_, rfl⟩
      have ha := ha.keep htn eG5 (by omega)
      have hwk := hwk.keep htn eG5 (by omega)
      have hnw := hnw.keep htn eG5 (by omega)
      have hnsp := hnsp.keep htn eG5 (by omega)
      have htsp := htsp.keep htn eG5 (by omega)
      have hse := hse.keep htn eG5 (by omega)
      have hq := hq.keep htn eG5 (by omega)
      have hlen := (z_len eG5).trans hlen
      have hsl := (z_sl htn eG5 rfl).trans hsl
      have hfr := hfr.wr htn eG5 (by simp only [List.mem_cons, List.not_mem_nil, or_false]; omega)
      have htn := htn.kept eG5
      change ab_W _ _ _ (List.set G4 tn (za 801 (zu TN tc e))) 45 [some (vR a), some (vz e)] [] _
      rw [← eG5]
      refine ab_aload_n d_TH_put_45 rfl ?_
      refine ab_getf (fs := [vR sp, vR wk, vR nw, vR tn, vR nsp, vR tsp, vz nc, vz tc, vR se, vz sta, vR stk, vz fo, vR q, vR s, vz hw, vz fy, vj stp]) f_TH_15 d_TH_put_46 ha.2.2 rfl ?_
      refine zz_iconst d_TH_put_49 ?_
      refine ab_aload_n d_TH_put_50 rfl ?_
      refine ab_getf (fs := [vR sp, vR wk, vR nw, vR tn, vR nsp, vR tsp, vz nc, vz tc, vR se, vz sta, vR stk, vz fo, vR q, vR s, vz hw, vz fy, vj stp]) f_TH_27 d_TH_put_51 ha.2.2 rfl ?_
      refine ab_aload_n d_TH_put_54 rfl ?_
      refine ab_getf (fs := [vR sp, vR wk, vR nw, vR tn, vR nsp, vR tsp, vz nc, vz tc, vR se, vz sta, vR stk, vz fo, vR q, vR s, vz hw, vz fy, vj stp]) f_TH_64 d_TH_put_55 ha.2.2 rfl ?_
      refine ab_aload_n d_TH_put_58 rfl ?_
      refine ab_getf (fs := [vR sp, vR wk, vR nw, vR tn, vR nsp, vR tsp, vz nc, vz tc, vR se, vz sta, vR stk, vz fo, vR q, vR s, vz hw, vz fy, vj stp]) f_TH_36 d_TH_put_59 ha.2.2 rfl ?_
      refine ab_getf (fs := [vR ki, vR ne, vR ot, vz cnt, vz fi, vz la, vR ra, vz ru, vz gr, vz wi, vz sz, vz fl, vz ve, vz mi, vR na, vR nl]) f_TH_72 d_TH_put_62 hq.2.2 rfl ?_
      refine zz_imul d_TH_put_65 ?_
      obtain ⟨v6, hv6⟩ : ∃ z : Int, z = tc * wi := ⟨_, rfl⟩
      rw [← hv6]
      have hv6b := z_mulb (a := tc) (b := wi) (A := 801) (B := 20) (by omega) (by omega)
      rw [← hv6] at hv6b
      change ab_W _ _ _ G5 66 [some (vR a), some (vz e)] [vz v6, vR tsp, vz 0, vR wk] _
      have jtw : (tc + 1) * wi ≤ 801 * 20 := Int.mul_le_mul (by omega) (by omega) (by omega) (by omega)
      have jtw2 : (tc + 1) * wi = tc * wi + wi := by rw [Int.add_mul, Int.one_mul]
      refine ab_aload_n d_TH_put_66 rfl ?_
      refine ab_getf (fs := [vR sp, vR wk, vR nw, vR tn, vR nsp, vR tsp, vz nc, vz tc, vR se, vz sta, vR stk, vz fo, vR q, vR s, vz hw, vz fy, vj stp]) f_TH_36 d_TH_put_67 ha.2.2 rfl ?_
      refine ab_getf (fs := [vR ki, vR ne, vR ot, vz cnt, vz fi, vz la, vR ra, vz ru, vz gr, vz wi, vz sz, vz fl, vz ve, vz mi, vR na, vR nl]) f_TH_72 d_TH_put_70 hq.2.2 rfl ?_
      refine zz_copy mj_TH_109 d_TH_put_73 hwk htsp (htsp.2.1 (by first | omega | exact (show 18 ≤ _ by omega))) (by omega) (Nat.le_of_ble_eq_true rfl) (by omega) ?_
      obtain ⟨G7, eG7⟩ : ∃ z : ab_G, z = List.set G5 tsp (za 16020 (zcpy WK TS 0 v6 wi)) := ⟨_, rfl⟩
      have ha := ha.keep htsp eG7 (by omega)
      have hwk := hwk.keep htsp eG7 (by omega)
      have hnw := hnw.keep htsp eG7 (by omega)
      have hnsp := hnsp.keep htsp eG7 (by omega)
      have htn := htn.keep htsp eG7 (by omega)
      have hse := hse.keep htsp eG7 (by omega)
      have hq := hq.keep htsp eG7 (by omega)
      have hlen := (z_len eG7).trans hlen
      have hsl := (z_sl htsp eG7 rfl).trans hsl
      have hfr := hfr.wr htsp eG7 (by simp only [List.mem_cons, List.not_mem_nil, or_false]; omega)
      have htsp := htsp.kept eG7
      change ab_W _ _ _ (List.set G5 tsp (za 16020 (zcpy WK TS 0 v6 wi))) 76 [some (vR a), some (vz e)] [] _
      rw [← eG7]
      refine ab_aload_n d_TH_put_76 rfl ?_
      refine ab_dup d_TH_put_77 rfl ?_
      refine ab_getf (fs := [vR sp, vR wk, vR nw, vR tn, vR nsp, vR tsp, vz nc, vz tc, vR se, vz sta, vR stk, vz fo, vR q, vR s, vz hw, vz fy, vj stp]) f_TH_64 d_TH_put_78 ha.2.2 rfl ?_
      refine zz_iconst d_TH_put_81 ?_
      refine zz_iadd d_TH_put_82 ?_
      refine ab_putf (fs := [vR sp, vR wk, vR nw, vR tn, vR nsp, vR tsp, vz nc, vz tc, vR se, vz sta, vR stk, vz fo, vR q, vR s, vz hw, vz fy, vj stp]) f_TH_64 (Or.inl rfl) d_TH_put_83 ha.2.2 (Nat.le_of_ble_eq_true rfl) (fun _ => ⟨rfl, rfl⟩) (ha.2.1 (by decide)) ?_
      obtain ⟨G8, eG8⟩ : ∃ z : ab_G, z = List.set G7 a (ab_ob 11 [vR sp, vR wk, vR nw, vR tn, vR nsp, vR tsp, vz nc, vz (tc + 1), vR se, vz sta, vR stk, vz fo, vR q, vR s, vz hw, vz fy, vj stp]) := ⟨_, rfl⟩
      have hwk := hwk.keep ha eG8 (by decide)
      have hnw := hnw.keep ha eG8 (by omega)
      have hnsp := hnsp.keep ha eG8 (by omega)
      have htn := htn.keep ha eG8 (by omega)
      have htsp := htsp.keep ha eG8 (by omega)
      have hse := hse.keep ha eG8 (by decide)
      have hq := hq.keep ha eG8 (by omega)
      have hlen := (z_len eG8).trans hlen
      have hsl := (z_sl ha eG8 rfl).trans hsl
      have hfr := hfr.wr ha eG8 (by decide)
      have ha := ha.kept eG8
      change ab_W _ _ _ (List.set G7 a (ab_ob 11 [vR sp, vR wk, vR nw, vR tn, vR nsp, vR tsp, vz nc, vz (tc + 1), vR se, vz sta, vR stk, vz fo, vR q, vR s, vz hw, vz fy, vj stp])) 86 [some (vR a), some (vz e)] [] _
      rw [← eG8]
      refine ab_vret rfl d_TH_put_86 ?_
      rw [hQ]; exact (Or.inr (Or.inr ⟨_, _, _, _, rfl, hfr, hlen, hsl, ha, hwk, hnw, hnsp, htn, htsp, hse, (by omega), (by first | exact (rgs_zu jse (by omega)) | exact rgs_w (rgs_zu jse (by omega)) (by omega)), (by exact thos_s jtn je), (by subst hv6; exact thr_s (by omega) (by omega) jts jwk c0k), (by subst hv6; exact ⟨by omega, rfl, rfl, rfl⟩), (by exact scn_zu (by omega) (by omega))⟩))
set_option maxRecDepth 100000 in
set_option maxHeartbeats 4000000 in
theorem z_TH_turnRows {X : ab_X} {d : Nat} {o : Nat → Nat} {G : ab_G} {q : Nat} {s : Nat} {a : Nat} {sp : Nat} {wk : Nat} {nw : Nat} {tn : Nat} {nsp : Nat} {tsp : Nat} {se : Nat} {stk : Nat} {nc : Int} {tc : Int} {sta : Int} {fo : Int} {hw : Int} {fy : Int} {stp : Int} (ha : cc o G a 32 (ab_ob 11 [vR sp, vR wk, vR nw, vR tn, vR nsp, vR tsp, vz nc, vz tc, vR se, vz sta, vR stk, vz fo, vR q, vR s, vz hw, vz fy, vj stp])) : ab_F X d y_TH_turnRows (.code y_TH_turnRows b_TH_turnRows 3 none) [vR a] G (fun oc G2 => oc = .returned none ∧ fx o o [32] G G2 ∧ G2.length = G.length ∧ ab_slots G2 = ab_slots G ∧ cc o G2 a 32 (ab_ob 11 [vR sp, vR wk, vR tn, vR nw, vR tsp, vR nsp, vz tc, vz 0, vR se, vz (sta + 1), vR stk, vz fo, vR q, vR s, vz hw, vz fy, vj stp])) := by
  refine ab_F_of (by decide +kernel) (Nat.le_of_ble_eq_true rfl) ?_
  obtain ⟨Q, hQ⟩ : ∃ z : Outcome → ab_G → Prop, z = (fun oc G2 => oc = .returned none ∧ fx o o [32] G G2 ∧ G2.length = G.length ∧ ab_slots G2 = ab_slots G ∧ cc o G2 a 32 (ab_ob 11 [vR sp, vR wk, vR tn, vR nw, vR tsp, vR nsp, vz tc, vz 0, vR se, vz (sta + 1), vR stk, vz fo, vR q, vR s, vz hw, vz fy, vj stp])) := ⟨_, rfl⟩
  rw [← hQ]
  change ab_W X (ab_pl y_TH_turnRows b_TH_turnRows 3 none) d G 0 [some (vR a), none, none] [] Q
  have hfr : fx o o [32] G G := fx.rf
  have hlen : G.length = G.length := rfl
  have hsl : ab_slots G = ab_slots G := rfl
  refine ab_aload_n d_TH_turnRows_0 rfl ?_
  refine ab_getf (fs := [vR sp, vR wk, vR nw, vR tn, vR nsp, vR tsp, vz nc, vz tc, vR se, vz sta, vR stk, vz fo, vR q, vR s, vz hw, vz fy, vj stp]) f_TH_18 d_TH_turnRows_1 ha.2.2 rfl ?_
  refine ab_astore_n d_TH_turnRows_4 (Nat.le_of_ble_eq_true rfl) (Nat.le_of_ble_eq_true rfl) rfl ?_
  change ab_W _ _ _ G 5 [some (vR a), some (vR nw), none] [] _
  refine ab_aload_n d_TH_turnRows_5 rfl ?_
  refine ab_aload_n d_TH_turnRows_6 rfl ?_
  refine ab_getf (fs := [vR sp, vR wk, vR nw, vR tn, vR nsp, vR tsp, vz nc, vz tc, vR se, vz sta, vR stk, vz fo, vR q, vR s, vz hw, vz fy, vj stp]) f_TH_21 d_TH_turnRows_7 ha.2.2 rfl ?_
  refine ab_putf (fs := [vR sp, vR wk, vR nw, vR tn, vR nsp, vR tsp, vz nc, vz tc, vR se, vz sta, vR stk, vz fo, vR q, vR s, vz hw, vz fy, vj stp]) f_TH_18 (Or.inl rfl) d_TH_turnRows_10 ha.2.2 (Nat.le_of_ble_eq_true rfl) (fun _ => ⟨rfl, rfl⟩) (ha.2.1 (by decide)) ?_
  obtain ⟨G1, eG1⟩ : ∃ z : ab_G, z = List.set G a (ab_ob 11 [vR sp, vR wk, vR tn, vR tn, vR nsp, vR tsp, vz nc, vz tc, vR se, vz sta, vR stk, vz fo, vR q, vR s, vz hw, vz fy, vj stp]) := ⟨_, rfl⟩
  have hlen := (z_len eG1).trans hlen
  have hsl := (z_sl ha eG1 rfl).trans hsl
  have hfr := hfr.wr ha eG1 (by decide)
  have ha := ha.kept eG1
  change ab_W _ _ _ (List.set G a (ab_ob 11 [vR sp, vR wk, vR tn, vR tn, vR nsp, vR tsp, vz nc, vz tc, vR se, vz sta, vR stk, vz fo, vR q, vR s, vz hw, vz fy, vj stp])) 13 [some (vR a), some (vR nw), none] [] _
  rw [← eG1]
  refine ab_aload_n d_TH_turnRows_13 rfl ?_
  refine ab_aload_n d_TH_turnRows_14 rfl ?_
  refine ab_putf (fs := [vR sp, vR wk, vR tn, vR tn, vR nsp, vR tsp, vz nc, vz tc, vR se, vz sta, vR stk, vz fo, vR q, vR s, vz hw, vz fy, vj stp]) f_TH_21 (Or.inl rfl) d_TH_turnRows_15 ha.2.2 (Nat.le_of_ble_eq_true rfl) (fun _ => ⟨rfl, rfl⟩) (ha.2.1 (by decide)) ?_
  obtain ⟨G2, eG2⟩ : ∃ z : ab_G, z = List.set G1 a (ab_ob 11 [vR sp, vR wk, vR tn, vR nw, vR nsp, vR tsp, vz nc, vz tc, vR se, vz sta, vR stk, vz fo, vR q, vR s, vz hw, vz fy, vj stp]) := ⟨_, rfl⟩
  have hlen := (z_len eG2).trans hlen
  have hsl := (z_sl ha eG2 rfl).trans hsl
  have hfr := hfr.wr ha eG2 (by decide)
  have ha := ha.kept eG2
  change ab_W _ _ _ (List.set G1 a (ab_ob 11 [vR sp, vR wk, vR tn, vR nw, vR nsp, vR tsp, vz nc, vz tc, vR se, vz sta, vR stk, vz fo, vR q, vR s, vz hw, vz fy, vj stp])) 18 [some (vR a), some (vR nw), none] [] _
  rw [← eG2]
  refine ab_aload_n d_TH_turnRows_18 rfl ?_
  refine ab_getf (fs := [vR sp, vR wk, vR tn, vR nw, vR nsp, vR tsp, vz nc, vz tc, vR se, vz sta, vR stk, vz fo, vR q, vR s, vz hw, vz fy, vj stp]) f_TH_24 d_TH_turnRows_19 ha.2.2 rfl ?_
  refine ab_astore_n d_TH_turnRows_22 (Nat.le_of_ble_eq_true rfl) (Nat.le_of_ble_eq_true rfl) rfl ?_
  change ab_W _ _ _ G2 23 [some (vR a), some (vR nw), some (vR nsp)] [] _
  refine ab_aload_n d_TH_turnRows_23 rfl ?_
  refine ab_aload_n d_TH_turnRows_24 rfl ?_
  refine ab_getf (fs := [vR sp, vR wk, vR tn, vR nw, vR nsp, vR tsp, vz nc, vz tc, vR se, vz sta, vR stk, vz fo, vR q, vR s, vz hw, vz fy, vj stp]) f_TH_27 d_TH_turnRows_25 ha.2.2 rfl ?_
  refine ab_putf (fs := [vR sp, vR wk, vR tn, vR nw, vR nsp, vR tsp, vz nc, vz tc, vR se, vz sta, vR stk, vz fo, vR q, vR s, vz hw, vz fy, vj stp]) f_TH_24 (Or.inl rfl) d_TH_turnRows_28 ha.2.2 (Nat.le_of_ble_eq_true rfl) (fun _ => ⟨rfl, rfl⟩) (ha.2.1 (by decide)) ?_
  obtain ⟨G3, eG3⟩ : ∃ z : ab_G, z = List.set G2 a (ab_ob 11 [vR sp, vR wk, vR tn, vR nw, vR tsp, vR tsp, vz nc, vz tc, vR se, vz sta, vR stk, vz fo, vR q, vR s, vz hw, vz fy, vj stp]) := ⟨_, rfl⟩
  have hlen := (z_len eG3).trans hlen
  have hsl := (z_sl ha eG3 rfl).trans hsl
  have hfr := hfr.wr ha eG3 (by decide)
  have ha := ha.kept eG3
  change ab_W _ _ _ (List.set G2 a (ab_ob 11 [vR sp, vR wk, vR tn, vR nw, vR tsp, vR tsp, vz nc, vz tc, vR se, vz sta, vR stk, vz fo, vR q, vR s, vz hw, vz fy, vj stp])) 31 [some (vR a), some (vR nw), some (vR nsp)] [] _
  rw [← eG3]
  refine ab_aload_n d_TH_turnRows_31 rfl ?_
  refine ab_aload_n d_TH_turnRows_32 rfl ?_
  refine ab_putf (fs := [vR sp, vR wk, vR tn, vR nw, vR tsp, vR tsp, vz nc, vz tc, vR se, vz sta, vR stk, vz fo, vR q, vR s, vz hw, vz fy, vj stp]) f_TH_27 (Or.inl rfl) d_TH_turnRows_33 ha.2.2 (Nat.le_of_ble_eq_true rfl) (fun _ => ⟨rfl, rfl⟩) (ha.2.1 (by decide)) ?_
  obtain ⟨G4, eG4⟩ : ∃ z : ab_G, z = List.set G3 a (ab_ob 11 [vR sp, vR wk, vR tn, vR nw, vR tsp, vR nsp, vz nc, vz tc, vR se, vz sta, vR stk, vz fo, vR q, vR s, vz hw, vz fy, vj stp]) := ⟨_, rfl⟩
  have hlen := (z_len eG4).trans hlen
  have hsl := (z_sl ha eG4 rfl).trans hsl
  have hfr := hfr.wr ha eG4 (by decide)
  have ha := ha.kept eG4
  change ab_W _ _ _ (List.set G3 a (ab_ob 11 [vR sp, vR wk, vR tn, vR nw, vR tsp, vR nsp, vz nc, vz tc, vR se, vz sta, vR stk, vz fo, vR q, vR s, vz hw, vz fy, vj stp])) 36 [some (vR a), some (vR nw), some (vR nsp)] [] _
  rw [← eG4]
  refine ab_aload_n d_TH_turnRows_36 rfl ?_
  refine ab_aload_n d_TH_turnRows_37 rfl ?_
  refine ab_getf (fs := [vR sp, vR wk, vR tn, vR nw, vR tsp, vR nsp, vz nc, vz tc, vR se, vz sta, vR stk, vz fo, vR q, vR s, vz hw, vz fy, vj stp]) f_TH_64 d_TH_turnRows_38 ha.2.2 rfl ?_
  refine ab_putf (fs := [vR sp, vR wk, vR tn, vR nw, vR tsp, vR nsp, vz nc, vz tc, vR se, vz sta, vR stk, vz fo, vR q, vR s, vz hw, vz fy, vj stp]) f_TH_91 (Or.inl rfl) d_TH_turnRows_41 ha.2.2 (Nat.le_of_ble_eq_true rfl) (fun _ => ⟨rfl, rfl⟩) (ha.2.1 (by decide)) ?_
  obtain ⟨G5, eG5⟩ : ∃ z : ab_G, z = List.set G4 a (ab_ob 11 [vR sp, vR wk, vR tn, vR nw, vR tsp, vR nsp, vz tc, vz tc, vR se, vz sta, vR stk, vz fo, vR q, vR s, vz hw, vz fy, vj stp]) := ⟨_, rfl⟩
  have hlen := (z_len eG5).trans hlen
  have hsl := (z_sl ha eG5 rfl).trans hsl
  have hfr := hfr.wr ha eG5 (by decide)
  have ha := ha.kept eG5
  change ab_W _ _ _ (List.set G4 a (ab_ob 11 [vR sp, vR wk, vR tn, vR nw, vR tsp, vR nsp, vz tc, vz tc, vR se, vz sta, vR stk, vz fo, vR q, vR s, vz hw, vz fy, vj stp])) 44 [some (vR a), some (vR nw), some (vR nsp)] [] _
  rw [← eG5]
  refine ab_aload_n d_TH_turnRows_44 rfl ?_
  refine zz_iconst d_TH_turnRows_45 ?_
  refine ab_putf (fs := [vR sp, vR wk, vR tn, vR nw, vR tsp, vR nsp, vz tc, vz tc, vR se, vz sta, vR stk, vz fo, vR q, vR s, vz hw, vz fy, vj stp]) f_TH_64 (Or.inl rfl) d_TH_turnRows_46 ha.2.2 (Nat.le_of_ble_eq_true rfl) (fun _ => ⟨rfl, rfl⟩) (ha.2.1 (by decide)) ?_
  obtain ⟨G6, eG6⟩ : ∃ z : ab_G, z = List.set G5 a (ab_ob 11 [vR sp, vR wk, vR tn, vR nw, vR tsp, vR nsp, vz tc, vz 0, vR se, vz sta, vR stk, vz fo, vR q, vR s, vz hw, vz fy, vj stp]) := ⟨_, rfl⟩
  have hlen := (z_len eG6).trans hlen
  have hsl := (z_sl ha eG6 rfl).trans hsl
  have hfr := hfr.wr ha eG6 (by decide)
  have ha := ha.kept eG6
  change ab_W _ _ _ (List.set G5 a (ab_ob 11 [vR sp, vR wk, vR tn, vR nw, vR tsp, vR nsp, vz tc, vz 0, vR se, vz sta, vR stk, vz fo, vR q, vR s, vz hw, vz fy, vj stp])) 49 [some (vR a), some (vR nw), some (vR nsp)] [] _
  rw [← eG6]
  refine ab_aload_n d_TH_turnRows_49 rfl ?_
  refine ab_dup d_TH_turnRows_50 rfl ?_
  refine ab_getf (fs := [vR sp, vR wk, vR tn, vR nw, vR tsp, vR nsp, vz tc, vz 0, vR se, vz sta, vR stk, vz fo, vR q, vR s, vz hw, vz fy, vj stp]) f_TH_98 d_TH_turnRows_51 ha.2.2 rfl ?_
  refine zz_iconst d_TH_turnRows_54 ?_
  refine zz_iadd d_TH_turnRows_55 ?_
  refine ab_putf (fs := [vR sp, vR wk, vR tn, vR nw, vR tsp, vR nsp, vz tc, vz 0, vR se, vz sta, vR stk, vz fo, vR q, vR s, vz hw, vz fy, vj stp]) f_TH_98 (Or.inl rfl) d_TH_turnRows_56 ha.2.2 (Nat.le_of_ble_eq_true rfl) (fun _ => ⟨rfl, rfl⟩) (ha.2.1 (by decide)) ?_
  obtain ⟨G7, eG7⟩ : ∃ z : ab_G, z = List.set G6 a (ab_ob 11 [vR sp, vR wk, vR tn, vR nw, vR tsp, vR nsp, vz tc, vz 0, vR se, vz (sta + 1), vR stk, vz fo, vR q, vR s, vz hw, vz fy, vj stp]) := ⟨_, rfl⟩
  have hlen := (z_len eG7).trans hlen
  have hsl := (z_sl ha eG7 rfl).trans hsl
  have hfr := hfr.wr ha eG7 (by decide)
  have ha := ha.kept eG7
  change ab_W _ _ _ (List.set G6 a (ab_ob 11 [vR sp, vR wk, vR tn, vR nw, vR tsp, vR nsp, vz tc, vz 0, vR se, vz (sta + 1), vR stk, vz fo, vR q, vR s, vz hw, vz fy, vj stp])) 59 [some (vR a), some (vR nw), some (vR nsp)] [] _
  rw [← eG7]
  refine ab_vret rfl d_TH_turnRows_59 ?_
  rw [hQ]; exact ⟨rfl, hfr, hlen, hsl, ha⟩
set_option maxRecDepth 100000 in
set_option maxHeartbeats 4000000 in
theorem y_TH_walk_9 {X : ab_X} {d : Nat} {Q : Outcome → ab_G → Prop} {o : Nat → Nat} {G0 : ab_G} {q : Nat} {lq : Nat} {ki : Nat} {ne : Nat} {ot : Nat} {cnt : Int} {fi : Int} {la : Int} {ra : Nat} {ru : Int} {gr : Int} {wi : Int} {sz : Int} {fl : Int} {ve : Int} {mi : Int} {na : Nat} {nl : Nat} {K : Int → Int} {N : Int → Int} {O : Int → Int} {RR : Int → Int} {nr : Nat} {s : Nat} {by_ : Nat} {co : Nat} {re : Nat} {ho : Nat} {n : Int} {f : Int → Int} {C : Int → Int} {Rs : Int → Int} {H : Int → Int} {m : Nat} {mc : Nat} {a : Nat} {sp : Nat} {wk : Nat} {nw : Nat} {tn : Nat} {nsp : Nat} {tsp : Nat} {se : Nat} {stk : Nat} {nc : Int} {sta : Int} {fo : Int} {hw : Int} {fy : Int} {SP : Int → Int} {NW : Int → Int} {NS : Int → Int} {l1 : Nat} {l2 : Nat} {l3 : Nat} {l4 : Nat} {p : Int} {st : Int} {Mw : List Tw} {k0 : Int} {st0 : Int} {dp0 : Int} {SE0 : Int → Int} (cq : 100 ≤ lq ∧ 0 ≤ cnt ∧ cnt ≤ 808 ∧ ↑nr ≤ (100000 : Int)) (hp : prok K N O RR cnt ↑nr wi) (hr : ∀ k : Int, 0 ≤ k → k < ↑nr → 0 ≤ RR k ∧ RR k ≤ 1114111) (csu : 0 ≤ n ∧ n ≤ ↑m ∧ 32 ≤ m ∧ m ≤ 2000 ∧ mc = m + 1) (hsu : suok f C Rs H n) (cwi : 2 ≤ wi ∧ wi ≤ 20) (cl : l1 + l2 = 71 ∧ 35 ≤ l1 ∧ l1 ≤ 36 ∧ l3 + l4 = 75 ∧ 37 ≤ l3 ∧ l3 ≤ 38) (hkk : kkF K cnt) (ck0 : 0 ≤ k0) (hd : 2 ≤ d) : ∀ (mz : Nat) {G : ab_G} {tc : Int} {stp : Int} {WK : Int → Int} {TN : Int → Int} {TS : Int → Int} {SE : Int → Int} {SK : Int → Int} {x : Int} {dp : Int} {tu : Int}, (cc o G a 32 (ab_ob 11 [vR sp, vR wk, vR nw, vR tn, vR nsp, vR tsp, vz nc, vz tc, vR se, vz sta, vR stk, vz fo, vR q, vR s, vz hw, vz fy, vj stp])) → (cc o G sp 31 (za 20 SP)) → (cc o G wk 33 (za 20 WK)) → (cc o G nw l1 (za 801 NW)) → (cc o G tn l2 (za 801 TN)) → (cc o G nsp l3 (za 16020 NS)) → (cc o G tsp l4 (za 16020 TS)) → (cc o G se 39 (za 2048 SE)) → (cc o G stk 40 (za 809 SK)) → (cc o G q lq (ab_ob 5 [vR ki, vR ne, vR ot, vz cnt, vz fi, vz la, vR ra, vz ru, vz gr, vz wi, vz sz, vz fl, vz ve, vz mi, vR na, vR nl])) → (cc o G ki (lq + 1) (za 808 K)) → (cc o G ne (lq + 2) (za 808 N)) → (cc o G ot (lq + 3) (za 808 O)) → (cc o G ra (lq + 4) (za nr RR)) → (cc o G s 26 (ab_ob 9 [vR by_, vR co, vR re, vR ho, vz n])) → (cc o G co 28 (za mc C)) → (cc o G re 29 (za mc Rs)) → (cc o G ho 30 (za mc H)) → (0 ≤ x ∧ x < cnt ∧ 0 ≤ p ∧ p ≤ n) → (0 ≤ tu ∧ tu ≤ 808) → (0 ≤ sta ∧ sta ≤ 2100000000) → (0 ≤ tc ∧ tc ≤ 801) → (0 ≤ dp ∧ dp ≤ 809) → (rgs WK wi (-1) n) → (0 ≤ WK 0) → (rgs SE 2048 0 sta) → (thos K cnt TN tc) → (thr TS tc wi n) → (tkos SK dp cnt n wi) → (THW K N O RR cnt f n fy hw wi st p Rs SE sta SK dp WK TN TS tc x Mw) → (dp + k0 ≤ viN SE sta 807) → (tu ≤ viN SE sta 807) → (st0 ≤ stp ∧ stp + dp + 2 * scn SE0 sta ≤ st0 + dp0 + 2 * scn SE sta) → (fx o o [32, 33, 35, 36, 37, 38, 39, 40] G0 G) → (G.length = G0.length) → (ab_slots G = ab_slots G0) → (Int.toNat (808 - tu) < mz) → (∀ (G2 : ab_G) (dp2 : Int) (tc2 : Int) (st2 : Int) (SE2 : Int → Int) (TN2 : Int → Int) (TS2 : Int → Int) (SK2 : Int → Int) (WK2 : Int → Int), (cc o G2 a 32 (ab_ob 11 [vR sp, vR wk, vR nw, vR tn, vR nsp, vR tsp, vz nc, vz tc2, vR se, vz sta, vR stk, vz fo, vR q, vR s, vz hw, vz fy, vj st2])) → (cc o G2 sp 31 (za 20 SP)) → (cc o G2 wk 33 (za 20 WK2)) → (cc o G2 nw l1 (za 801 NW)) → (cc o G2 tn l2 (za 801 TN2)) → (cc o G2 nsp l3 (za 16020 NS)) → (cc o G2 tsp l4 (za 16020 TS2)) → (cc o G2 se 39 (za 2048 SE2)) → (cc o G2 stk 40 (za 809 SK2)) → (0 ≤ tc2 ∧ tc2 ≤ 801) → (rgs WK2 wi (-1) n) → (0 ≤ WK2 0) → (rgs SE2 2048 0 sta) → (thos K cnt TN2 tc2) → (thr TS2 tc2 wi n) → (0 ≤ dp2 ∧ dp2 ≤ 809) → (tkos SK2 dp2 cnt n wi) → (THY K N O RR cnt f n fy hw wi st p Rs SE2 sta SK2 dp2 WK2 TN2 TS2 tc2 Mw) → (dp2 + k0 ≤ viN SE2 sta 807) → (st0 ≤ st2 ∧ st2 + dp2 + 2 * scn SE0 sta ≤ st0 + dp0 + 1 + 2 * scn SE2 sta) → (fx o o [32, 33, 35, 36, 37, 38, 39, 40] G0 G2) → (G2.length = G0.length) → (ab_slots G2 = ab_slots G0) → Q (.returned (some (vz dp2))) G2) → ab_W X (ab_pl y_TH_walk b_TH_walk 9 (some (.int))) d G 9 [some (vR a), none, some (vz p), none, some (vz dp), some (vz x), some (vz tu), none, none] [] Q := by
  intro mz
  induction mz with
  | zero => intro G tc stp WK TN TS SE SK x dp tu ha hsp hwk hnw htn hnsp htsp hse hstk hq hki hne hot hra hs hco hre hho cx ct cst ctc cdp jwk c0k jse jtn jts jsk jth jvn jtu hst9 hfr hlen hsl hm hk0; exact absurd hm (Nat.not_lt_zero _)
  | succ mz ih =>
    intro G tc stp WK TN TS SE SK x dp tu ha hsp hwk hnw htn hnsp htsp hse hstk hq hki hne hot hra hs hco hre hho cx ct cst ctc cdp jwk c0k jse jtn jts jsk jth jvn jtu hst9 hfr hlen hsl hm hk0
    have hvb_ := viN_b (SE := SE) (sta := sta) 807
    refine ab_iload d_TH_walk_9 rfl ?_
    refine zz_sipush d_TH_walk_11 (by decide) ?_
    refine zz_icmp_ge (tgt := 221) d_TH_walk_14 (by decide) (by omega) (by decide) (fun c1 => absurd c1 (by omega)) (fun c1 => ?_)
    refine ab_aload_n d_TH_walk_17 rfl ?_
    refine ab_getf (fs := [vR sp, vR wk, vR nw, vR tn, vR nsp, vR tsp, vz nc, vz tc, vR se, vz sta, vR stk, vz fo, vR q, vR s, vz hw, vz fy, vj stp]) f_TH_30 d_TH_walk_18 ha.2.2 rfl ?_
    refine ab_iload d_TH_walk_21 rfl ?_
    refine zz_iald d_TH_walk_23 hse (by omega) ?_
    have hq2 := jse x (by omega) (by omega)
    refine ab_aload_n d_TH_walk_24 rfl ?_
    refine ab_getf (fs := [vR sp, vR wk, vR nw, vR tn, vR nsp, vR tsp, vz nc, vz tc, vR se, vz sta, vR stk, vz fo, vR q, vR s, vz hw, vz fy, vj stp]) f_TH_98 d_TH_walk_25 ha.2.2 rfl ?_
    refine zz_icmp_eq (tgt := 221) d_TH_walk_28 (by decide) (by omega) (by omega) (fun c3 => ?_) (fun c3 => ?_)
    · refine ab_iload d_TH_walk_221 rfl ?_
      refine zz_iret rfl d_TH_walk_223 ?_
      exact hk0 _ _ _ _ _ _ _ _ _ ha hsp hwk hnw htn hnsp htsp hse hstk (by omega) (by first | exact jwk | exact rgs_w jwk (by omega)) (by omega) (by first | exact jse | exact rgs_w jse (by omega)) (by exact jtn) (by exact jts) (by omega) (by exact jsk) (by exact tw_dead jth (by omega) (by omega)) (by omega) (by omega) hfr hlen hsl
    · refine ab_aload_n d_TH_walk_31 rfl ?_
      refine ab_dup d_TH_walk_32 rfl ?_
      refine ab_getf (fs := [vR sp, vR wk, vR nw, vR tn, vR nsp, vR tsp, vz nc, vz tc, vR se, vz sta, vR stk, vz fo, vR q, vR s, vz hw, vz fy, vj stp]) f_TH_105 d_TH_walk_33 ha.2.2 rfl ?_
      refine zz_lconst d_TH_walk_36 ?_
      change ab_W _ _ _ G 37 [some (vR a), none, some (vz p), none, some (vz dp), some (vz x), some (vz tu), none, none] [vj 1, vj stp, vR a] _
      refine zz_ladd d_TH_walk_37 ?_
      refine ab_putf (fs := [vR sp, vR wk, vR nw, vR tn, vR nsp, vR tsp, vz nc, vz tc, vR se, vz sta, vR stk, vz fo, vR q, vR s, vz hw, vz fy, vj stp]) f_TH_105 (Or.inl rfl) d_TH_walk_38 ha.2.2 (Nat.le_of_ble_eq_true rfl) (fun _ => ⟨rfl, rfl⟩) (ha.2.1 (by decide)) ?_
      obtain ⟨G4, eG4⟩ : ∃ z : ab_G, z = List.set G a (ab_ob 11 [vR sp, vR wk, vR nw, vR tn, vR nsp, vR tsp, vz nc, vz tc, vR se, vz sta, vR stk, vz fo, vR q, vR s, vz hw, vz fy, vj (stp + 1)]) := ⟨_, rfl⟩
      have hsp := hsp.keep ha eG4 (by decide)
      have hwk := hwk.keep ha eG4 (by decide)
      have hnw := hnw.keep ha eG4 (by omega)
      have htn := htn.keep ha eG4 (by omega)
      have hnsp := hnsp.keep ha eG4 (by omega)
      have htsp := htsp.keep ha eG4 (by omega)
      have hse := hse.keep ha eG4 (by decide)
      have hstk := hstk.keep ha eG4 (by decide)
      have hq := hq.keep ha eG4 (by omega)
      have hki := hki.keep ha eG4 (by omega)
      have hne := hne.keep ha eG4 (by omega)
      have hot := hot.keep ha eG4 (by omega)
      have hra := hra.keep ha eG4 (by omega)
      have hs := hs.keep ha eG4 (by decide)
      have hco := hco.keep ha eG4 (by decide)
      have hre := hre.keep ha eG4 (by decide)
      have hho := hho.keep ha eG4 (by decide)
      have hlen := (z_len eG4).trans hlen
      have hsl := (z_sl ha eG4 rfl).trans hsl
      have hfr := hfr.wr ha eG4 (by decide)
      have ha := ha.kept eG4
      change ab_W _ _ _ (List.set G a (ab_ob 11 [vR sp, vR wk, vR nw, vR tn, vR nsp, vR tsp, vz nc, vz tc, vR se, vz sta, vR stk, vz fo, vR q, vR s, vz hw, vz fy, vj (stp + 1)])) 41 [some (vR a), none, some (vz p), none, some (vz dp), some (vz x), some (vz tu), none, none] [] _
      rw [← eG4]
      refine ab_aload_n d_TH_walk_41 rfl ?_
      refine ab_getf (fs := [vR sp, vR wk, vR nw, vR tn, vR nsp, vR tsp, vz nc, vz tc, vR se, vz sta, vR stk, vz fo, vR q, vR s, vz hw, vz fy, vj (stp + 1)]) f_TH_36 d_TH_walk_42 ha.2.2 rfl ?_
      refine ab_getf (fs := [vR ki, vR ne, vR ot, vz cnt, vz fi, vz la, vR ra, vz ru, vz gr, vz wi, vz sz, vz fl, vz ve, vz mi, vR na, vR nl]) f_TH_115 d_TH_walk_45 hq.2.2 rfl ?_
      refine ab_iload d_TH_walk_48 rfl ?_
      refine zz_iald d_TH_walk_50 hki (by omega) ?_
      have hq5 := hp.k x (by omega) (by omega)
      refine ab_istore d_TH_walk_51 (Nat.le_of_ble_eq_true rfl) (Nat.le_of_ble_eq_true rfl) rfl ?_
      change ab_W _ _ _ G4 53 [some (vR a), none, some (vz p), none, some (vz dp), some (vz x), some (vz tu), some (vz (K x)), none] [] _
      refine ab_aload_n d_TH_walk_53 rfl ?_
      refine ab_getf (fs := [vR sp, vR wk, vR nw, vR tn, vR nsp, vR tsp, vz nc, vz tc, vR se, vz sta, vR stk, vz fo, vR q, vR s, vz hw, vz fy, vj (stp + 1)]) f_TH_36 d_TH_walk_54 ha.2.2 rfl ?_
      refine ab_getf (fs := [vR ki, vR ne, vR ot, vz cnt, vz fi, vz la, vR ra, vz ru, vz gr, vz wi, vz sz, vz fl, vz ve, vz mi, vR na, vR nl]) f_TH_138 d_TH_walk_57 hq.2.2 rfl ?_
      refine ab_iload d_TH_walk_60 rfl ?_
      refine zz_iald d_TH_walk_62 hot (by omega) ?_
      refine ab_istore d_TH_walk_63 (Nat.le_of_ble_eq_true rfl) (Nat.le_of_ble_eq_true rfl) rfl ?_
      change ab_W _ _ _ G4 65 [some (vR a), none, some (vz p), none, some (vz dp), some (vz x), some (vz tu), some (vz (K x)), some (vz (O x))] [] _
      refine ab_iload d_TH_walk_65 rfl ?_
      refine zz_iconst d_TH_walk_67 ?_
      refine zz_icmp_le (tgt := 78) d_TH_walk_68 (by decide) (by omega) (by decide) (fun c6 => ?_) (fun c6 => ?_)
      · refine ab_aload_n d_TH_walk_78 rfl ?_
        refine ab_iload d_TH_walk_79 rfl ?_
        refine ab_callV (d' := d - 1) (as := [vz x]) (st := []) (r := _) (z_TH_put (o := o) (q := q) (lq := lq) (ki := ki) (ne := ne) (ot := ot) (cnt := cnt) (fi := fi) (la := la) (ra := ra) (ru := ru) (gr := gr) (wi := wi) (sz := sz) (fl := fl) (ve := ve) (mi := mi) (na := na) (nl := nl) (s := s) (a := a) (sp := sp) (wk := wk) (nw := nw) (tn := tn) (nsp := nsp) (tsp := tsp) (se := se) (stk := stk) (nc := nc) (tc := tc) (sta := sta) (fo := fo) (hw := hw) (fy := fy) (stp := (stp + 1)) (WK := WK) (NW := NW) (TN := TN) (NS := NS) (TS := TS) (SE := SE) (l1 := l1) (l2 := l2) (l3 := l3) (l4 := l4) (e := x) ha hwk hnw hnsp htn htsp hse hq (by omega) (by omega) (by omega) jwk (by omega) jse (by omega) jtn jts (by omega) (tho_a (by omega) (by omega)) (by omega) (by omega)) (fun oc G2 h => by rcases h with ⟨h, _⟩ | ⟨h, _⟩ | ⟨_, _, _, _, h, _⟩ <;> exact ⟨_, h⟩) (by omega) m_TH_put ml_TH_128 im_TH_put se_TH_put c_TH ha.2.2 (Nat.le_of_ble_eq_true rfl) d_TH_walk_81 rfl ?_
        intro v G7 hq
        rcases hq with ⟨hv, hGe, hq8⟩ | ⟨hv, hGe, hq9, hq10⟩ | ⟨SE211, TN212, TS213, tc214, hv, hfk, hlk, hsk, hNa, hNwk, hNnw, hNnsp, hNtn, hNtsp, hNse, hq15, hq16, hq17, hq18, hq19, hq20⟩
        · cases hv
          rw [hGe]
          change ab_W _ _ _ G4 84 [some (vR a), none, some (vz p), none, some (vz dp), some (vz x), some (vz tu), some (vz (K x)), some (vz (O x))] [] _
          exfalso; omega
        · cases hv
          rw [hGe]
          change ab_W _ _ _ G4 84 [some (vR a), none, some (vz p), none, some (vz dp), some (vz x), some (vz tu), some (vz (K x)), some (vz (O x))] [] _
          exfalso
          have hrm_ := tw_room jth hkk (by omega) (by omega) (by omega)
          omega
        · cases hv
          have hsp := hfk.get hsp (by decide)
          have hstk := hfk.get hstk (by decide)
          have hq := hfk.get hq (by simp only [List.mem_cons, List.not_mem_nil, or_false]; omega)
          have hki := hfk.get hki (by simp only [List.mem_cons, List.not_mem_nil, or_false]; omega)
          have hne := hfk.get hne (by simp only [List.mem_cons, List.not_mem_nil, or_false]; omega)
          have hot := hfk.get hot (by simp only [List.mem_cons, List.not_mem_nil, or_false]; omega)
          have hra := hfk.get hra (by simp only [List.mem_cons, List.not_mem_nil, or_false]; omega)
          have hs := hfk.get hs (by decide)
          have hco := hfk.get hco (by decide)
          have hre := hfk.get hre (by decide)
          have hho := hfk.get hho (by decide)
          have hfr := hfr.tr hfk (by decide)
          have hlen := hlk.trans hlen
          have hsl := hsk.trans hsl
          have ha := hNa
          have hwk := hNwk
          have hnw := hNnw
          have hnsp := hNnsp
          have htn := hNtn
          have htsp := hNtsp
          have hse := hNse
          change ab_W _ _ _ G7 84 [some (vR a), none, some (vz p), none, some (vz dp), some (vz x), some (vz tu), some (vz (K x)), some (vz (O x))] [] _
          have hvp_ : viN SE sta 807 ≤ viN SE211 sta 807 := by rw [hq19.2.1]; exact viN_m (by omega)
          refine ab_iload d_TH_walk_84 rfl ?_
          refine zz_iret rfl d_TH_walk_86 ?_
          exact hk0 _ _ _ _ _ _ _ _ _ ha hsp hwk hnw htn hnsp htsp hse hstk (by omega) (by first | exact jwk | exact rgs_w jwk (by omega)) (by omega) (by first | exact hq16 | exact rgs_w hq16 (by omega)) (by exact hq17) (by exact hq18) (by omega) (by exact jsk) (by have hty_ := tw_put jth hq19 (by omega) (by omega) (by omega); rw [show tc + 1 = tc214 by omega] at hty_; exact hty_) (by omega) (by omega) hfr hlen hsl
      · refine ab_iload d_TH_walk_71 rfl ?_
        refine zz_bipush d_TH_walk_73 (by decide) ?_
        refine zz_icmp_ne (tgt := 87) d_TH_walk_75 (by decide) (by omega) (by decide) (fun c21 => ?_) (fun c21 => ?_)
        · refine ab_aload_n d_TH_walk_87 rfl ?_
          refine ab_getf (fs := [vR sp, vR wk, vR nw, vR tn, vR nsp, vR tsp, vz nc, vz tc, vR se, vz sta, vR stk, vz fo, vR q, vR s, vz hw, vz fy, vj (stp + 1)]) f_TH_30 d_TH_walk_88 ha.2.2 rfl ?_
          refine ab_iload d_TH_walk_91 rfl ?_
          refine ab_aload_n d_TH_walk_93 rfl ?_
          refine ab_getf (fs := [vR sp, vR wk, vR nw, vR tn, vR nsp, vR tsp, vz nc, vz tc, vR se, vz sta, vR stk, vz fo, vR q, vR s, vz hw, vz fy, vj (stp + 1)]) f_TH_98 d_TH_walk_94 ha.2.2 rfl ?_
          refine zz_iast d_TH_walk_97 hse (by omega) (hse.2.1 (by decide)) ?_
          obtain ⟨G22, eG22⟩ : ∃ z : ab_G, z = List.set G4 se (za 2048 (zu SE x sta)) := ⟨_, rfl⟩
          have ha := ha.keep hse eG22 (by decide)
          have hsp := hsp.keep hse eG22 (by decide)
          have hwk := hwk.keep hse eG22 (by decide)
          have hnw := hnw.keep hse eG22 (by omega)
          have htn := htn.keep hse eG22 (by omega)
          have hnsp := hnsp.keep hse eG22 (by omega)
          have htsp := htsp.keep hse eG22 (by omega)
          have hstk := hstk.keep hse eG22 (by decide)
          have hq := hq.keep hse eG22 (by omega)
          have hki := hki.keep hse eG22 (by omega)
          have hne := hne.keep hse eG22 (by omega)
          have hot := hot.keep hse eG22 (by omega)
          have hra := hra.keep hse eG22 (by omega)
          have hs := hs.keep hse eG22 (by decide)
          have hco := hco.keep hse eG22 (by decide)
          have hre := hre.keep hse eG22 (by decide)
          have hho := hho.keep hse eG22 (by decide)
          have hlen := (z_len eG22).trans hlen
          have hsl := (z_sl hse eG22 rfl).trans hsl
          have hfr := hfr.wr hse eG22 (by decide)
          have hse := hse.kept eG22
          change ab_W _ _ _ (List.set G4 se (za 2048 (zu SE x sta))) 98 [some (vR a), none, some (vz p), none, some (vz dp), some (vz x), some (vz tu), some (vz (K x)), some (vz (O x))] [] _
          rw [← eG22]
          have hsc_ := scn_zu (F := SE) (i := x) (v := sta) (by omega) (by omega)
          have hvm_ := viN_m (SE := SE) (sta := sta) (x := x) (by omega)
          have hvc_ := viN_b (SE := zu SE x sta) (sta := sta) 807
          refine ab_iload d_TH_walk_98 rfl ?_
          refine zz_bipush d_TH_walk_100 (by decide) ?_
          refine zz_icmp_eq (tgt := 124) d_TH_walk_102 (by decide) (by omega) (by decide) (fun c23 => ?_) (fun c23 => ?_)
          · refine ab_iload d_TH_walk_124 rfl ?_
            refine zz_iret rfl d_TH_walk_126 ?_
            exact hk0 _ _ _ _ _ _ _ _ _ ha hsp hwk hnw htn hnsp htsp hse hstk (by omega) (by first | exact jwk | exact rgs_w jwk (by omega)) (by omega) (by first | exact (rgs_zu jse (by omega)) | exact rgs_w (rgs_zu jse (by omega)) (by omega)) (by exact jtn) (by exact jts) (by omega) (by exact jsk) (by exact tw_no jth (Or.inl (by omega)) (by omega)) (by omega) (by omega) hfr hlen hsl
          · refine ab_iload d_TH_walk_105 rfl ?_
            refine zz_iconst d_TH_walk_107 ?_
            refine zz_icmp_ne (tgt := 127) d_TH_walk_108 (by decide) (by omega) (by decide) (fun c24 => ?_) (fun c24 => ?_)
            · have hk45_ := (hp x (by omega) (by omega)).1
              have hx1_ : 1 ≤ x := kx0 hkk.2.1 (by omega) (by omega)
              have hvy_ := viN_y (SE := SE) (sta := sta) (x := x) (by omega) (by omega)
              refine ab_iload d_TH_walk_127 rfl ?_
              refine zz_bipush d_TH_walk_129 (by decide) ?_
              refine zz_icmp_ne (tgt := 159) d_TH_walk_131 (by decide) (by omega) (by decide) (fun c25 => ?_) (fun c25 => ?_)
              · refine ab_iload d_TH_walk_159 rfl ?_
                refine zz_bipush d_TH_walk_161 (by decide) ?_
                refine zz_icmp_ne (tgt := 203) d_TH_walk_163 (by decide) (by omega) (by decide) (fun c26 => ?_) (fun c26 => ?_)
                · refine ab_aload_n d_TH_walk_203 rfl ?_
                  refine ab_getf (fs := [vR sp, vR wk, vR nw, vR tn, vR nsp, vR tsp, vz nc, vz tc, vR se, vz sta, vR stk, vz fo, vR q, vR s, vz hw, vz fy, vj (stp + 1)]) f_TH_36 d_TH_walk_204 ha.2.2 rfl ?_
                  refine ab_getf (fs := [vR ki, vR ne, vR ot, vz cnt, vz fi, vz la, vR ra, vz ru, vz gr, vz wi, vz sz, vz fl, vz ve, vz mi, vR na, vR nl]) f_TH_125 d_TH_walk_207 hq.2.2 rfl ?_
                  refine ab_iload d_TH_walk_210 rfl ?_
                  refine zz_iald d_TH_walk_212 hne (by omega) ?_
                  have hq27 := hp.n x (by omega) (by omega)
                  refine ab_istore d_TH_walk_213 (Nat.le_of_ble_eq_true rfl) (Nat.le_of_ble_eq_true rfl) rfl ?_
                  change ab_W _ _ _ G22 215 [some (vR a), none, some (vz p), none, some (vz dp), some (vz (N x)), some (vz tu), some (vz (K x)), some (vz (O x))] [] _
                  refine zz_iinc d_TH_walk_215 rfl (Nat.le_of_ble_eq_true rfl) (Nat.le_of_ble_eq_true rfl) rfl ?_
                  change ab_W _ _ _ G22 218 [some (vR a), none, some (vz p), none, some (vz dp), some (vz (N x)), some (vz (tu + 1)), some (vz (K x)), some (vz (O x))] [] _
                  refine ab_goto (tgt := 9) d_TH_walk_218 (by decide) ?_
                  refine ab_less (L' := [some (vR a), none, some (vz p), none, some (vz dp), some (vz (N x)), some (vz (tu + 1)), none, none]) (fun i v h => by rcases i with _ | _ | _ | _ | _ | _ | _ | _ | _ | i <;> first | exact h | (simp at h)) ?_
                  exact ih (tc := tc) (stp := (stp + 1)) (WK := WK) (TN := TN) (TS := TS) (SE := (zu SE x sta)) (SK := SK) (x := (N x)) (dp := dp) (tu := (tu + 1)) ha hsp hwk hnw htn hnsp htsp hse hstk hq hki hne hot hra hs hco hre hho (by omega) (by omega) (by omega) (by omega) (by omega) jwk (by omega) (rgs_zu jse (by omega)) jtn jts jsk (by exfalso; omega) (by omega) (by omega) (by omega) hfr hlen hsl (by omega) hk0
                · have jo := hp.o7 x (by omega) (by omega) (by omega)
                  have jwv := jwk (O x) (by omega) (by omega)
                  refine ab_iload d_TH_walk_166 rfl ?_
                  refine ab_aload_n d_TH_walk_168 rfl ?_
                  refine ab_getf (fs := [vR sp, vR wk, vR nw, vR tn, vR nsp, vR tsp, vz nc, vz tc, vR se, vz sta, vR stk, vz fo, vR q, vR s, vz hw, vz fy, vj (stp + 1)]) f_TH_33 d_TH_walk_169 ha.2.2 rfl ?_
                  refine zz_alen d_TH_walk_172 hstk ?_
                  change ab_W _ _ _ G22 173 [some (vR a), none, some (vz p), none, some (vz dp), some (vz x), some (vz tu), some (vz (K x)), some (vz (O x))] [vz 809, vz dp] _
                  refine zz_icmp_ge (tgt := 203) d_TH_walk_173 (by decide) (by omega) (by decide) (fun c28 => absurd c28 (by omega)) (fun c28 => ?_)
                  refine ab_aload_n d_TH_walk_176 rfl ?_
                  refine ab_getf (fs := [vR sp, vR wk, vR nw, vR tn, vR nsp, vR tsp, vz nc, vz tc, vR se, vz sta, vR stk, vz fo, vR q, vR s, vz hw, vz fy, vj (stp + 1)]) f_TH_33 d_TH_walk_177 ha.2.2 rfl ?_
                  refine ab_iload d_TH_walk_180 rfl ?_
                  refine ab_aload_n d_TH_walk_182 rfl ?_
                  refine ab_getf (fs := [vR sp, vR wk, vR nw, vR tn, vR nsp, vR tsp, vz nc, vz tc, vR se, vz sta, vR stk, vz fo, vR q, vR s, vz hw, vz fy, vj (stp + 1)]) f_TH_15 d_TH_walk_183 ha.2.2 rfl ?_
                  refine ab_iload d_TH_walk_186 rfl ?_
                  refine ab_callS (d' := d - 1) (as := [vR wk, vz (O x)]) (st := [vz dp, vR stk]) (z_PW_undoOf (o := o) (a := wk) (l := 33) (m := 20) (f := WK) (s := (O x)) hwk (by omega) (by omega)) (fun oc G2 h => by rcases h with ⟨h, _⟩ <;> exact ⟨_, h⟩) (by omega) m_PW_undoOf ml_TH_145 st_PW_undoOf (Nat.le_of_ble_eq_true rfl) d_TH_walk_188 rfl ?_
                  intro v G29 hq
                  rcases hq with ⟨hv, hGe⟩
                  cases hv
                  rw [hGe]
                  change ab_W _ _ _ G22 191 [some (vR a), none, some (vz p), none, some (vz dp), some (vz x), some (vz tu), some (vz (K x)), some (vz (O x))] [vz (-1 - ((O x) * 4096 + (WK (O x) + 1))), vz dp, vR stk] _
                  refine zz_iast d_TH_walk_191 hstk (by omega) (hstk.2.1 (by decide)) ?_
                  obtain ⟨G30, eG30⟩ : ∃ z : ab_G, z = List.set G22 stk (za 809 (zu SK dp (-1 - ((O x) * 4096 + (WK (O x) + 1))))) := ⟨_, rfl⟩
                  have ha := ha.keep hstk eG30 (by decide)
                  have hsp := hsp.keep hstk eG30 (by decide)
                  have hwk := hwk.keep hstk eG30 (by decide)
                  have hnw := hnw.keep hstk eG30 (by omega)
                  have htn := htn.keep hstk eG30 (by omega)
                  have hnsp := hnsp.keep hstk eG30 (by omega)
                  have htsp := htsp.keep hstk eG30 (by omega)
                  have hse := hse.keep hstk eG30 (by decide)
                  have hq := hq.keep hstk eG30 (by omega)
                  have hki := hki.keep hstk eG30 (by omega)
                  have hne := hne.keep hstk eG30 (by omega)
                  have hot := hot.keep hstk eG30 (by omega)
                  have hra := hra.keep hstk eG30 (by omega)
                  have hs := hs.keep hstk eG30 (by decide)
                  have hco := hco.keep hstk eG30 (by decide)
                  have hre := hre.keep hstk eG30 (by decide)
                  have hho := hho.keep hstk eG30 (by decide)
                  have hlen := (z_len eG30).trans hlen
                  have hsl := (z_sl hstk eG30 rfl).trans hsl
                  have hfr := hfr.wr hstk eG30 (by decide)
                  have hstk := hstk.kept eG30
                  change ab_W _ _ _ (List.set G22 stk (za 809 (zu SK dp (-1 - ((O x) * 4096 + (WK (O x) + 1)))))) 192 [some (vR a), none, some (vz p), none, some (vz dp), some (vz x), some (vz tu), some (vz (K x)), some (vz (O x))] [] _
                  rw [← eG30]
                  refine zz_iinc d_TH_walk_192 rfl (Nat.le_of_ble_eq_true rfl) (Nat.le_of_ble_eq_true rfl) rfl ?_
                  change ab_W _ _ _ G30 195 [some (vR a), none, some (vz p), none, some (vz (dp + 1)), some (vz x), some (vz tu), some (vz (K x)), some (vz (O x))] [] _
                  refine ab_aload_n d_TH_walk_195 rfl ?_
                  refine ab_getf (fs := [vR sp, vR wk, vR nw, vR tn, vR nsp, vR tsp, vz nc, vz tc, vR se, vz sta, vR stk, vz fo, vR q, vR s, vz hw, vz fy, vj (stp + 1)]) f_TH_15 d_TH_walk_196 ha.2.2 rfl ?_
                  refine ab_iload d_TH_walk_199 rfl ?_
                  refine ab_iload_n d_TH_walk_201 rfl ?_
                  refine zz_iast d_TH_walk_202 hwk (by omega) (hwk.2.1 (by decide)) ?_
                  obtain ⟨G31, eG31⟩ : ∃ z : ab_G, z = List.set G30 wk (za 20 (zu WK (O x) p)) := ⟨_, rfl⟩
                  have ha := ha.keep hwk eG31 (by decide)
                  have hsp := hsp.keep hwk eG31 (by decide)
                  have hnw := hnw.keep hwk eG31 (by omega)
                  have htn := htn.keep hwk eG31 (by omega)
                  have hnsp := hnsp.keep hwk eG31 (by omega)
                  have htsp := htsp.keep hwk eG31 (by omega)
                  have hse := hse.keep hwk eG31 (by decide)
                  have hstk := hstk.keep hwk eG31 (by decide)
                  have hq := hq.keep hwk eG31 (by omega)
                  have hki := hki.keep hwk eG31 (by omega)
                  have hne := hne.keep hwk eG31 (by omega)
                  have hot := hot.keep hwk eG31 (by omega)
                  have hra := hra.keep hwk eG31 (by omega)
                  have hs := hs.keep hwk eG31 (by decide)
                  have hco := hco.keep hwk eG31 (by decide)
                  have hre := hre.keep hwk eG31 (by decide)
                  have hho := hho.keep hwk eG31 (by decide)
                  have hlen := (z_len eG31).trans hlen
                  have hsl := (z_sl hwk eG31 rfl).trans hsl
                  have hfr := hfr.wr hwk eG31 (by decide)
                  have hwk := hwk.kept eG31
                  change ab_W _ _ _ (List.set G30 wk (za 20 (zu WK (O x) p))) 203 [some (vR a), none, some (vz p), none, some (vz (dp + 1)), some (vz x), some (vz tu), some (vz (K x)), some (vz (O x))] [] _
                  rw [← eG31]
                  refine ab_aload_n d_TH_walk_203 rfl ?_
                  refine ab_getf (fs := [vR sp, vR wk, vR nw, vR tn, vR nsp, vR tsp, vz nc, vz tc, vR se, vz sta, vR stk, vz fo, vR q, vR s, vz hw, vz fy, vj (stp + 1)]) f_TH_36 d_TH_walk_204 ha.2.2 rfl ?_
                  refine ab_getf (fs := [vR ki, vR ne, vR ot, vz cnt, vz fi, vz la, vR ra, vz ru, vz gr, vz wi, vz sz, vz fl, vz ve, vz mi, vR na, vR nl]) f_TH_125 d_TH_walk_207 hq.2.2 rfl ?_
                  refine ab_iload d_TH_walk_210 rfl ?_
                  refine zz_iald d_TH_walk_212 hne (by omega) ?_
                  have hq32 := hp.n x (by omega) (by omega)
                  refine ab_istore d_TH_walk_213 (Nat.le_of_ble_eq_true rfl) (Nat.le_of_ble_eq_true rfl) rfl ?_
                  change ab_W _ _ _ G31 215 [some (vR a), none, some (vz p), none, some (vz (dp + 1)), some (vz (N x)), some (vz tu), some (vz (K x)), some (vz (O x))] [] _
                  refine zz_iinc d_TH_walk_215 rfl (Nat.le_of_ble_eq_true rfl) (Nat.le_of_ble_eq_true rfl) rfl ?_
                  change ab_W _ _ _ G31 218 [some (vR a), none, some (vz p), none, some (vz (dp + 1)), some (vz (N x)), some (vz (tu + 1)), some (vz (K x)), some (vz (O x))] [] _
                  refine ab_goto (tgt := 9) d_TH_walk_218 (by decide) ?_
                  refine ab_less (L' := [some (vR a), none, some (vz p), none, some (vz (dp + 1)), some (vz (N x)), some (vz (tu + 1)), none, none]) (fun i v h => by rcases i with _ | _ | _ | _ | _ | _ | _ | _ | _ | i <;> first | exact h | (simp at h)) ?_
                  exact ih (tc := tc) (stp := (stp + 1)) (WK := (zu WK (O x) p)) (TN := TN) (TS := TS) (SE := (zu SE x sta)) (SK := (zu SK dp (-1 - ((O x) * 4096 + (WK (O x) + 1))))) (x := (N x)) (dp := (dp + 1)) (tu := (tu + 1)) ha hsp hwk hnw htn hnsp htsp hse hstk hq hki hne hot hra hs hco hre hho (by omega) (by omega) (by omega) (by omega) (by omega) (rgs_zu jwk (by omega)) (by rw [zu_ne (by omega)]; omega) (rgs_zu jse (by omega)) jtn jts (tkos_zu jsk (by first | exact tko_s (by omega) | exact tko_u (by omega))) (tw_save jth (by omega) (by omega) (by omega) (by omega)) (by omega) (by omega) (by omega) hfr hlen hsl (by omega) hk0
              · have jo := hp.o6 x (by omega) (by omega) (by omega)
                refine ab_iload d_TH_walk_134 rfl ?_
                refine ab_aload_n d_TH_walk_136 rfl ?_
                refine ab_getf (fs := [vR sp, vR wk, vR nw, vR tn, vR nsp, vR tsp, vz nc, vz tc, vR se, vz sta, vR stk, vz fo, vR q, vR s, vz hw, vz fy, vj (stp + 1)]) f_TH_33 d_TH_walk_137 ha.2.2 rfl ?_
                refine zz_alen d_TH_walk_140 hstk ?_
                change ab_W _ _ _ G22 141 [some (vR a), none, some (vz p), none, some (vz dp), some (vz x), some (vz tu), some (vz (K x)), some (vz (O x))] [vz 809, vz dp] _
                refine zz_icmp_ge (tgt := 159) d_TH_walk_141 (by decide) (by omega) (by decide) (fun c33 => absurd c33 (by omega)) (fun c33 => ?_)
                refine ab_aload_n d_TH_walk_144 rfl ?_
                refine ab_getf (fs := [vR sp, vR wk, vR nw, vR tn, vR nsp, vR tsp, vz nc, vz tc, vR se, vz sta, vR stk, vz fo, vR q, vR s, vz hw, vz fy, vj (stp + 1)]) f_TH_33 d_TH_walk_145 ha.2.2 rfl ?_
                refine ab_iload d_TH_walk_148 rfl ?_
                refine ab_iload d_TH_walk_150 rfl ?_
                refine zz_iast d_TH_walk_152 hstk (by omega) (hstk.2.1 (by decide)) ?_
                obtain ⟨G34, eG34⟩ : ∃ z : ab_G, z = List.set G22 stk (za 809 (zu SK dp (O x))) := ⟨_, rfl⟩
                have ha := ha.keep hstk eG34 (by decide)
                have hsp := hsp.keep hstk eG34 (by decide)
                have hwk := hwk.keep hstk eG34 (by decide)
                have hnw := hnw.keep hstk eG34 (by omega)
                have htn := htn.keep hstk eG34 (by omega)
                have hnsp := hnsp.keep hstk eG34 (by omega)
                have htsp := htsp.keep hstk eG34 (by omega)
                have hse := hse.keep hstk eG34 (by decide)
                have hq := hq.keep hstk eG34 (by omega)
                have hki := hki.keep hstk eG34 (by omega)
                have hne := hne.keep hstk eG34 (by omega)
                have hot := hot.keep hstk eG34 (by omega)
                have hra := hra.keep hstk eG34 (by omega)
                have hs := hs.keep hstk eG34 (by decide)
                have hco := hco.keep hstk eG34 (by decide)
                have hre := hre.keep hstk eG34 (by decide)
                have hho := hho.keep hstk eG34 (by decide)
                have hlen := (z_len eG34).trans hlen
                have hsl := (z_sl hstk eG34 rfl).trans hsl
                have hfr := hfr.wr hstk eG34 (by decide)
                have hstk := hstk.kept eG34
                change ab_W _ _ _ (List.set G22 stk (za 809 (zu SK dp (O x)))) 153 [some (vR a), none, some (vz p), none, some (vz dp), some (vz x), some (vz tu), some (vz (K x)), some (vz (O x))] [] _
                rw [← eG34]
                refine zz_iinc d_TH_walk_153 rfl (Nat.le_of_ble_eq_true rfl) (Nat.le_of_ble_eq_true rfl) rfl ?_
                change ab_W _ _ _ G34 156 [some (vR a), none, some (vz p), none, some (vz (dp + 1)), some (vz x), some (vz tu), some (vz (K x)), some (vz (O x))] [] _
                refine ab_goto (tgt := 203) d_TH_walk_156 (by decide) ?_
                refine ab_aload_n d_TH_walk_203 rfl ?_
                refine ab_getf (fs := [vR sp, vR wk, vR nw, vR tn, vR nsp, vR tsp, vz nc, vz tc, vR se, vz sta, vR stk, vz fo, vR q, vR s, vz hw, vz fy, vj (stp + 1)]) f_TH_36 d_TH_walk_204 ha.2.2 rfl ?_
                refine ab_getf (fs := [vR ki, vR ne, vR ot, vz cnt, vz fi, vz la, vR ra, vz ru, vz gr, vz wi, vz sz, vz fl, vz ve, vz mi, vR na, vR nl]) f_TH_125 d_TH_walk_207 hq.2.2 rfl ?_
                refine ab_iload d_TH_walk_210 rfl ?_
                refine zz_iald d_TH_walk_212 hne (by omega) ?_
                have hq35 := hp.n x (by omega) (by omega)
                refine ab_istore d_TH_walk_213 (Nat.le_of_ble_eq_true rfl) (Nat.le_of_ble_eq_true rfl) rfl ?_
                change ab_W _ _ _ G34 215 [some (vR a), none, some (vz p), none, some (vz (dp + 1)), some (vz (N x)), some (vz tu), some (vz (K x)), some (vz (O x))] [] _
                refine zz_iinc d_TH_walk_215 rfl (Nat.le_of_ble_eq_true rfl) (Nat.le_of_ble_eq_true rfl) rfl ?_
                change ab_W _ _ _ G34 218 [some (vR a), none, some (vz p), none, some (vz (dp + 1)), some (vz (N x)), some (vz (tu + 1)), some (vz (K x)), some (vz (O x))] [] _
                refine ab_goto (tgt := 9) d_TH_walk_218 (by decide) ?_
                refine ab_less (L' := [some (vR a), none, some (vz p), none, some (vz (dp + 1)), some (vz (N x)), some (vz (tu + 1)), none, none]) (fun i v h => by rcases i with _ | _ | _ | _ | _ | _ | _ | _ | _ | i <;> first | exact h | (simp at h)) ?_
                exact ih (tc := tc) (stp := (stp + 1)) (WK := WK) (TN := TN) (TS := TS) (SE := (zu SE x sta)) (SK := (zu SK dp (O x))) (x := (N x)) (dp := (dp + 1)) (tu := (tu + 1)) ha hsp hwk hnw htn hnsp htsp hse hstk hq hki hne hot hra hs hco hre hho (by omega) (by omega) (by omega) (by omega) (by omega) jwk (by omega) (rgs_zu jse (by omega)) jtn jts (tkos_zu jsk (by first | exact tko_s (by omega) | exact tko_u (by omega))) (tw_split jth (by omega) (by omega) (by omega)) (by omega) (by omega) (by omega) hfr hlen hsl (by omega) hk0
            · have jo := hp.o3 x (by omega) (by omega) (by omega)
              refine ab_aload_n d_TH_walk_111 rfl ?_
              refine ab_getf (fs := [vR sp, vR wk, vR nw, vR tn, vR nsp, vR tsp, vz nc, vz tc, vR se, vz sta, vR stk, vz fo, vR q, vR s, vz hw, vz fy, vj (stp + 1)]) f_TH_40 d_TH_walk_112 ha.2.2 rfl ?_
              refine ab_iload d_TH_walk_115 rfl ?_
              refine ab_iload_n d_TH_walk_117 rfl ?_
              refine ab_callV (d' := d - 1) (as := [vz (O x), vz p]) (st := []) (r := _) (z_SU_holds (o := o) (s := s) (by_ := by_) (co := co) (re := re) (ho := ho) (n := n) (H := H) (mc := mc) (p := p) (a := (O x)) hs hho (by omega) (by omega) (by omega) hsu) (fun oc G2 h => by rcases h with ⟨h, _⟩ | ⟨h, _⟩ <;> exact ⟨_, h⟩) (by omega) m_SU_holds ml_TH_141 im_SU_holds se_SU_holds c_SU hs.2.2 (Nat.le_of_ble_eq_true rfl) d_TH_walk_118 rfl ?_
              intro v G36 hq
              rcases hq with ⟨hv, hGe, hq37⟩ | ⟨hv, hGe, hq38⟩
              · cases hv
                rw [hGe]
                change ab_W _ _ _ G22 121 [some (vR a), none, some (vz p), none, some (vz dp), some (vz x), some (vz tu), some (vz (K x)), some (vz (O x))] [vz 1] _
                refine zz_if_ne (tgt := 127) d_TH_walk_121 (by decide) (by decide) (fun c39 => ?_) (fun c39 => absurd c39 (by decide))
                have hk45_ := (hp x (by omega) (by omega)).1
                have hx1_ : 1 ≤ x := kx0 hkk.2.1 (by omega) (by omega)
                have hvy_ := viN_y (SE := SE) (sta := sta) (x := x) (by omega) (by omega)
                refine ab_iload d_TH_walk_127 rfl ?_
                refine zz_bipush d_TH_walk_129 (by decide) ?_
                refine zz_icmp_ne (tgt := 159) d_TH_walk_131 (by decide) (by omega) (by decide) (fun c40 => ?_) (fun c40 => absurd c40 (by omega))
                refine ab_iload d_TH_walk_159 rfl ?_
                refine zz_bipush d_TH_walk_161 (by decide) ?_
                refine zz_icmp_ne (tgt := 203) d_TH_walk_163 (by decide) (by omega) (by decide) (fun c41 => ?_) (fun c41 => absurd c41 (by omega))
                refine ab_aload_n d_TH_walk_203 rfl ?_
                refine ab_getf (fs := [vR sp, vR wk, vR nw, vR tn, vR nsp, vR tsp, vz nc, vz tc, vR se, vz sta, vR stk, vz fo, vR q, vR s, vz hw, vz fy, vj (stp + 1)]) f_TH_36 d_TH_walk_204 ha.2.2 rfl ?_
                refine ab_getf (fs := [vR ki, vR ne, vR ot, vz cnt, vz fi, vz la, vR ra, vz ru, vz gr, vz wi, vz sz, vz fl, vz ve, vz mi, vR na, vR nl]) f_TH_125 d_TH_walk_207 hq.2.2 rfl ?_
                refine ab_iload d_TH_walk_210 rfl ?_
                refine zz_iald d_TH_walk_212 hne (by omega) ?_
                have hq42 := hp.n x (by omega) (by omega)
                refine ab_istore d_TH_walk_213 (Nat.le_of_ble_eq_true rfl) (Nat.le_of_ble_eq_true rfl) rfl ?_
                change ab_W _ _ _ G22 215 [some (vR a), none, some (vz p), none, some (vz dp), some (vz (N x)), some (vz tu), some (vz (K x)), some (vz (O x))] [] _
                refine zz_iinc d_TH_walk_215 rfl (Nat.le_of_ble_eq_true rfl) (Nat.le_of_ble_eq_true rfl) rfl ?_
                change ab_W _ _ _ G22 218 [some (vR a), none, some (vz p), none, some (vz dp), some (vz (N x)), some (vz (tu + 1)), some (vz (K x)), some (vz (O x))] [] _
                refine ab_goto (tgt := 9) d_TH_walk_218 (by decide) ?_
                refine ab_less (L' := [some (vR a), none, some (vz p), none, some (vz dp), some (vz (N x)), some (vz (tu + 1)), none, none]) (fun i v h => by rcases i with _ | _ | _ | _ | _ | _ | _ | _ | _ | i <;> first | exact h | (simp at h)) ?_
                exact ih (tc := tc) (stp := (stp + 1)) (WK := WK) (TN := TN) (TS := TS) (SE := (zu SE x sta)) (SK := SK) (x := (N x)) (dp := dp) (tu := (tu + 1)) ha hsp hwk hnw htn hnsp htsp hse hstk hq hki hne hot hra hs hco hre hho (by omega) (by omega) (by omega) (by omega) (by omega) jwk (by omega) (rgs_zu jse (by omega)) jtn jts jsk (tw_ask jth (by omega) hq37 (by omega)) (by omega) (by omega) (by omega) hfr hlen hsl (by omega) hk0
              · cases hv
                rw [hGe]
                change ab_W _ _ _ G22 121 [some (vR a), none, some (vz p), none, some (vz dp), some (vz x), some (vz tu), some (vz (K x)), some (vz (O x))] [vz 0] _
                refine zz_if_ne (tgt := 127) d_TH_walk_121 (by decide) (by decide) (fun c43 => absurd c43 (by decide)) (fun c43 => ?_)
                refine ab_iload d_TH_walk_124 rfl ?_
                refine zz_iret rfl d_TH_walk_126 ?_
                exact hk0 _ _ _ _ _ _ _ _ _ ha hsp hwk hnw htn hnsp htsp hse hstk (by omega) (by first | exact jwk | exact rgs_w jwk (by omega)) (by omega) (by first | exact (rgs_zu jse (by omega)) | exact rgs_w (rgs_zu jse (by omega)) (by omega)) (by exact jtn) (by exact jts) (by omega) (by exact jsk) (by exact tw_no jth (Or.inr ⟨by omega, hq38⟩) (by omega)) (by omega) (by omega) hfr hlen hsl
        · refine ab_aload_n d_TH_walk_78 rfl ?_
          refine ab_iload d_TH_walk_79 rfl ?_
          refine ab_callV (d' := d - 1) (as := [vz x]) (st := []) (r := _) (z_TH_put (o := o) (q := q) (lq := lq) (ki := ki) (ne := ne) (ot := ot) (cnt := cnt) (fi := fi) (la := la) (ra := ra) (ru := ru) (gr := gr) (wi := wi) (sz := sz) (fl := fl) (ve := ve) (mi := mi) (na := na) (nl := nl) (s := s) (a := a) (sp := sp) (wk := wk) (nw := nw) (tn := tn) (nsp := nsp) (tsp := tsp) (se := se) (stk := stk) (nc := nc) (tc := tc) (sta := sta) (fo := fo) (hw := hw) (fy := fy) (stp := (stp + 1)) (WK := WK) (NW := NW) (TN := TN) (NS := NS) (TS := TS) (SE := SE) (l1 := l1) (l2 := l2) (l3 := l3) (l4 := l4) (e := x) ha hwk hnw hnsp htn htsp hse hq (by omega) (by omega) (by omega) jwk (by omega) jse (by omega) jtn jts (by omega) (tho_a (by omega) (by omega)) (by omega) (by omega)) (fun oc G2 h => by rcases h with ⟨h, _⟩ | ⟨h, _⟩ | ⟨_, _, _, _, h, _⟩ <;> exact ⟨_, h⟩) (by omega) m_TH_put ml_TH_128 im_TH_put se_TH_put c_TH ha.2.2 (Nat.le_of_ble_eq_true rfl) d_TH_walk_81 rfl ?_
          intro v G44 hq
          rcases hq with ⟨hv, hGe, hq45⟩ | ⟨hv, hGe, hq46, hq47⟩ | ⟨SE248, TN249, TS250, tc251, hv, hfk, hlk, hsk, hNa, hNwk, hNnw, hNnsp, hNtn, hNtsp, hNse, hq52, hq53, hq54, hq55, hq56, hq57⟩
          · cases hv
            rw [hGe]
            change ab_W _ _ _ G4 84 [some (vR a), none, some (vz p), none, some (vz dp), some (vz x), some (vz tu), some (vz (K x)), some (vz (O x))] [] _
            exfalso; omega
          · cases hv
            rw [hGe]
            change ab_W _ _ _ G4 84 [some (vR a), none, some (vz p), none, some (vz dp), some (vz x), some (vz tu), some (vz (K x)), some (vz (O x))] [] _
            exfalso
            have hrm_ := tw_room jth hkk (by omega) (by omega) (by omega)
            omega
          · cases hv
            have hsp := hfk.get hsp (by decide)
            have hstk := hfk.get hstk (by decide)
            have hq := hfk.get hq (by simp only [List.mem_cons, List.not_mem_nil, or_false]; omega)
            have hki := hfk.get hki (by simp only [List.mem_cons, List.not_mem_nil, or_false]; omega)
            have hne := hfk.get hne (by simp only [List.mem_cons, List.not_mem_nil, or_false]; omega)
            have hot := hfk.get hot (by simp only [List.mem_cons, List.not_mem_nil, or_false]; omega)
            have hra := hfk.get hra (by simp only [List.mem_cons, List.not_mem_nil, or_false]; omega)
            have hs := hfk.get hs (by decide)
            have hco := hfk.get hco (by decide)
            have hre := hfk.get hre (by decide)
            have hho := hfk.get hho (by decide)
            have hfr := hfr.tr hfk (by decide)
            have hlen := hlk.trans hlen
            have hsl := hsk.trans hsl
            have ha := hNa
            have hwk := hNwk
            have hnw := hNnw
            have hnsp := hNnsp
            have htn := hNtn
            have htsp := hNtsp
            have hse := hNse
            change ab_W _ _ _ G44 84 [some (vR a), none, some (vz p), none, some (vz dp), some (vz x), some (vz tu), some (vz (K x)), some (vz (O x))] [] _
            have hvp_ : viN SE sta 807 ≤ viN SE248 sta 807 := by rw [hq56.2.1]; exact viN_m (by omega)
            refine ab_iload d_TH_walk_84 rfl ?_
            refine zz_iret rfl d_TH_walk_86 ?_
            exact hk0 _ _ _ _ _ _ _ _ _ ha hsp hwk hnw htn hnsp htsp hse hstk (by omega) (by first | exact jwk | exact rgs_w jwk (by omega)) (by omega) (by first | exact hq53 | exact rgs_w hq53 (by omega)) (by exact hq54) (by exact hq55) (by omega) (by exact jsk) (by have hty_ := tw_put jth hq56 (by omega) (by omega) (by omega); rw [show tc + 1 = tc251 by omega] at hty_; exact hty_) (by omega) (by omega) hfr hlen hsl
set_option maxRecDepth 100000 in
set_option maxHeartbeats 4000000 in
theorem z_TH_walk {X : ab_X} {d : Nat} {o : Nat → Nat} {G : ab_G} {q : Nat} {lq : Nat} {ki : Nat} {ne : Nat} {ot : Nat} {cnt : Int} {fi : Int} {la : Int} {ra : Nat} {ru : Int} {gr : Int} {wi : Int} {sz : Int} {fl : Int} {ve : Int} {mi : Int} {na : Nat} {nl : Nat} {K : Int → Int} {N : Int → Int} {O : Int → Int} {RR : Int → Int} {nr : Nat} {s : Nat} {by_ : Nat} {co : Nat} {re : Nat} {ho : Nat} {n : Int} {f : Int → Int} {C : Int → Int} {Rs : Int → Int} {H : Int → Int} {m : Nat} {mc : Nat} {a : Nat} {sp : Nat} {wk : Nat} {nw : Nat} {tn : Nat} {nsp : Nat} {tsp : Nat} {se : Nat} {stk : Nat} {nc : Int} {tc : Int} {sta : Int} {fo : Int} {hw : Int} {fy : Int} {stp : Int} {SP : Int → Int} {WK : Int → Int} {NW : Int → Int} {TN : Int → Int} {NS : Int → Int} {TS : Int → Int} {SE : Int → Int} {SK : Int → Int} {l1 : Nat} {l2 : Nat} {l3 : Nat} {l4 : Nat} {x : Int} {p : Int} {dp : Int} {st : Int} {Mw : List Tw} {k0 : Int} (ha : cc o G a 32 (ab_ob 11 [vR sp, vR wk, vR nw, vR tn, vR nsp, vR tsp, vz nc, vz tc, vR se, vz sta, vR stk, vz fo, vR q, vR s, vz hw, vz fy, vj stp])) (hsp : cc o G sp 31 (za 20 SP)) (hwk : cc o G wk 33 (za 20 WK)) (hnw : cc o G nw l1 (za 801 NW)) (htn : cc o G tn l2 (za 801 TN)) (hnsp : cc o G nsp l3 (za 16020 NS)) (htsp : cc o G tsp l4 (za 16020 TS)) (hse : cc o G se 39 (za 2048 SE)) (hstk : cc o G stk 40 (za 809 SK)) (hq : cc o G q lq (ab_ob 5 [vR ki, vR ne, vR ot, vz cnt, vz fi, vz la, vR ra, vz ru, vz gr, vz wi, vz sz, vz fl, vz ve, vz mi, vR na, vR nl])) (hki : cc o G ki (lq + 1) (za 808 K)) (hne : cc o G ne (lq + 2) (za 808 N)) (hot : cc o G ot (lq + 3) (za 808 O)) (hra : cc o G ra (lq + 4) (za nr RR)) (hs : cc o G s 26 (ab_ob 9 [vR by_, vR co, vR re, vR ho, vz n])) (hco : cc o G co 28 (za mc C)) (hre : cc o G re 29 (za mc Rs)) (hho : cc o G ho 30 (za mc H)) (cq : 100 ≤ lq ∧ 0 ≤ cnt ∧ cnt ≤ 808 ∧ ↑nr ≤ (100000 : Int)) (hp : prok K N O RR cnt ↑nr wi) (hr : ∀ k : Int, 0 ≤ k → k < ↑nr → 0 ≤ RR k ∧ RR k ≤ 1114111) (csu : 0 ≤ n ∧ n ≤ ↑m ∧ 32 ≤ m ∧ m ≤ 2000 ∧ mc = m + 1) (hsu : suok f C Rs H n) (cwi : 2 ≤ wi ∧ wi ≤ 20) (cl : l1 + l2 = 71 ∧ 35 ≤ l1 ∧ l1 ≤ 36 ∧ l3 + l4 = 75 ∧ 37 ≤ l3 ∧ l3 ≤ 38) (hkk : kkF K cnt) (ck0 : 0 ≤ k0) (cx : 0 ≤ x ∧ x < cnt ∧ 0 ≤ p ∧ p ≤ n) (cst : 0 ≤ sta ∧ sta ≤ 2100000000) (ctc : 0 ≤ tc ∧ tc ≤ 801) (cdp : 0 ≤ dp ∧ dp ≤ 809) (jwk : rgs WK wi (-1) n) (c0k : 0 ≤ WK 0) (jse : rgs SE 2048 0 sta) (jtn : thos K cnt TN tc) (jts : thr TS tc wi n) (jsk : tkos SK dp cnt n wi) (jth : THW K N O RR cnt f n fy hw wi st p Rs SE sta SK dp WK TN TS tc x Mw) (jvn : dp + k0 ≤ viN SE sta 807) (hd : 3 ≤ d) : ab_F X d y_TH_walk (.code y_TH_walk b_TH_walk 9 (some (.int))) [vR a, vz x, vz p, vz dp] G (fun oc G2 => ∃ dp2 : Int, ∃ tc2 : Int, ∃ st2 : Int, ∃ SE2 : Int → Int, ∃ TN2 : Int → Int, ∃ TS2 : Int → Int, ∃ SK2 : Int → Int, ∃ WK2 : Int → Int, oc = .returned (some (vz dp2)) ∧ fx o o [32, 33, 35, 36, 37, 38, 39, 40] G G2 ∧ G2.length = G.length ∧ ab_slots G2 = ab_slots G ∧ cc o G2 a 32 (ab_ob 11 [vR sp, vR wk, vR nw, vR tn, vR nsp, vR tsp, vz nc, vz tc2, vR se, vz sta, vR stk, vz fo, vR q, vR s, vz hw, vz fy, vj st2]) ∧ cc o G2 sp 31 (za 20 SP) ∧ cc o G2 wk 33 (za 20 WK2) ∧ cc o G2 nw l1 (za 801 NW) ∧ cc o G2 tn l2 (za 801 TN2) ∧ cc o G2 nsp l3 (za 16020 NS) ∧ cc o G2 tsp l4 (za 16020 TS2) ∧ cc o G2 se 39 (za 2048 SE2) ∧ cc o G2 stk 40 (za 809 SK2) ∧ (0 ≤ tc2 ∧ tc2 ≤ 801) ∧ (rgs WK2 wi (-1) n) ∧ (0 ≤ WK2 0) ∧ (rgs SE2 2048 0 sta) ∧ (thos K cnt TN2 tc2) ∧ (thr TS2 tc2 wi n) ∧ (0 ≤ dp2 ∧ dp2 ≤ 809) ∧ (tkos SK2 dp2 cnt n wi) ∧ (THY K N O RR cnt f n fy hw wi st p Rs SE2 sta SK2 dp2 WK2 TN2 TS2 tc2 Mw) ∧ (dp2 + k0 ≤ viN SE2 sta 807) ∧ (stp ≤ st2 ∧ st2 + dp2 + 2 * scn SE sta ≤ stp + dp + 1 + 2 * scn SE2 sta)) := by
  refine ab_F_of (by decide +kernel) (Nat.le_of_ble_eq_true rfl) ?_
  obtain ⟨Q, hQ⟩ : ∃ z : Outcome → ab_G → Prop, z = (fun oc G2 => ∃ dp2 : Int, ∃ tc2 : Int, ∃ st2 : Int, ∃ SE2 : Int → Int, ∃ TN2 : Int → Int, ∃ TS2 : Int → Int, ∃ SK2 : Int → Int, ∃ WK2 : Int → Int, oc = .returned (some (vz dp2)) ∧ fx o o [32, 33, 35, 36, 37, 38, 39, 40] G G2 ∧ G2.length = G.length ∧ ab_slots G2 = ab_slots G ∧ cc o G2 a 32 (ab_ob 11 [vR sp, vR wk, vR nw, vR tn, vR nsp, vR tsp, vz nc, vz tc2, vR se, vz sta, vR stk, vz fo, vR q, vR s, vz hw, vz fy, vj st2]) ∧ cc o G2 sp 31 (za 20 SP) ∧ cc o G2 wk 33 (za 20 WK2) ∧ cc o G2 nw l1 (za 801 NW) ∧ cc o G2 tn l2 (za 801 TN2) ∧ cc o G2 nsp l3 (za 16020 NS) ∧ cc o G2 tsp l4 (za 16020 TS2) ∧ cc o G2 se 39 (za 2048 SE2) ∧ cc o G2 stk 40 (za 809 SK2) ∧ (0 ≤ tc2 ∧ tc2 ≤ 801) ∧ (rgs WK2 wi (-1) n) ∧ (0 ≤ WK2 0) ∧ (rgs SE2 2048 0 sta) ∧ (thos K cnt TN2 tc2) ∧ (thr TS2 tc2 wi n) ∧ (0 ≤ dp2 ∧ dp2 ≤ 809) ∧ (tkos SK2 dp2 cnt n wi) ∧ (THY K N O RR cnt f n fy hw wi st p Rs SE2 sta SK2 dp2 WK2 TN2 TS2 tc2 Mw) ∧ (dp2 + k0 ≤ viN SE2 sta 807) ∧ (stp ≤ st2 ∧ st2 + dp2 + 2 * scn SE sta ≤ stp + dp + 1 + 2 * scn SE2 sta)) := ⟨_, rfl⟩
  rw [← hQ]
  change ab_W X (ab_pl y_TH_walk b_TH_walk 9 (some (.int))) d G 0 [some (vR a), some (vz x), some (vz p), some (vz dp), none, none, none, none, none] [] Q
  have hfr : fx o o [32, 33, 35, 36, 37, 38, 39, 40] G G := fx.rf
  have hlen : G.length = G.length := rfl
  have hsl : ab_slots G = ab_slots G := rfl
  have hvb_ := viN_b (SE := SE) (sta := sta) 807
  refine ab_iload_n d_TH_walk_0 rfl ?_
  refine ab_istore d_TH_walk_1 (Nat.le_of_ble_eq_true rfl) (Nat.le_of_ble_eq_true rfl) rfl ?_
  change ab_W _ _ _ G 3 [some (vR a), some (vz x), some (vz p), some (vz dp), some (vz dp), none, none, none, none] [] _
  refine ab_iload_n d_TH_walk_3 rfl ?_
  refine ab_istore d_TH_walk_4 (Nat.le_of_ble_eq_true rfl) (Nat.le_of_ble_eq_true rfl) rfl ?_
  change ab_W _ _ _ G 6 [some (vR a), some (vz x), some (vz p), some (vz dp), some (vz dp), some (vz x), none, none, none] [] _
  refine zz_iconst d_TH_walk_6 ?_
  refine ab_istore d_TH_walk_7 (Nat.le_of_ble_eq_true rfl) (Nat.le_of_ble_eq_true rfl) rfl ?_
  change ab_W _ _ _ G 9 [some (vR a), some (vz x), some (vz p), some (vz dp), some (vz dp), some (vz x), some (vz 0), none, none] [] _
  refine ab_less (L' := [some (vR a), none, some (vz p), none, some (vz dp), some (vz x), some (vz 0), none, none]) (fun i v h => by rcases i with _ | _ | _ | _ | _ | _ | _ | _ | _ | i <;> first | exact h | (simp at h)) ?_
  refine y_TH_walk_9 (q := q) (lq := lq) (ki := ki) (ne := ne) (ot := ot) (cnt := cnt) (fi := fi) (la := la) (ra := ra) (ru := ru) (gr := gr) (wi := wi) (sz := sz) (fl := fl) (ve := ve) (mi := mi) (na := na) (nl := nl) (K := K) (N := N) (O := O) (RR := RR) (nr := nr) (s := s) (by_ := by_) (co := co) (re := re) (ho := ho) (n := n) (C := C) (Rs := Rs) (H := H) (mc := mc) (a := a) (sp := sp) (wk := wk) (nw := nw) (tn := tn) (nsp := nsp) (tsp := tsp) (se := se) (stk := stk) (nc := nc) (sta := sta) (fo := fo) (hw := hw) (fy := fy) (SP := SP) (NW := NW) (NS := NS) (l1 := l1) (l2 := l2) (l3 := l3) (l4 := l4) (p := p) (st := st) (Mw := Mw) (k0 := k0) (st0 := stp) (dp0 := dp) (SE0 := SE) (G0 := G) (tc := tc) (stp := stp) (WK := WK) (TN := TN) (TS := TS) (SE := SE) (SK := SK) (x := x) (dp := dp) (tu := 0) (by omega) hp hr (by omega) hsu (by omega) (by omega) hkk (by omega) (by omega) (Int.toNat (808 - 0) + 1) ha hsp hwk hnw htn hnsp htsp hse hstk hq hki hne hot hra hs hco hre hho (by omega) (by omega) (by omega) (by omega) (by omega) jwk (by omega) jse jtn jts jsk jth (by omega) (by omega) (by omega) fx.rf rfl rfl (by omega) (fun G1 dp22 tc23 st24 SE25 TN26 TS27 SK28 WK29 hNa hNsp hNwk hNnw hNtn hNnsp hNtsp hNse hNstk hq10 hq11 hq12 hq13 hq14 hq15 hq16 hq17 hq18 hq19 hq20 hfk hlk hsk => ?_)
  · have hq := hfk.get hq (by simp only [List.mem_cons, List.not_mem_nil, or_false]; omega)
    have hki := hfk.get hki (by simp only [List.mem_cons, List.not_mem_nil, or_false]; omega)
    have hne := hfk.get hne (by simp only [List.mem_cons, List.not_mem_nil, or_false]; omega)
    have hot := hfk.get hot (by simp only [List.mem_cons, List.not_mem_nil, or_false]; omega)
    have hra := hfk.get hra (by simp only [List.mem_cons, List.not_mem_nil, or_false]; omega)
    have hs := hfk.get hs (by decide)
    have hco := hfk.get hco (by decide)
    have hre := hfk.get hre (by decide)
    have hho := hfk.get hho (by decide)
    have hfr := hfr.tr hfk (by decide)
    have hlen := hlk.trans hlen
    have hsl := hsk.trans hsl
    have ha := hNa
    have hsp := hNsp
    have hwk := hNwk
    have hnw := hNnw
    have htn := hNtn
    have hnsp := hNnsp
    have htsp := hNtsp
    have hse := hNse
    have hstk := hNstk
    rw [hQ]; exact ⟨_, _, _, _, _, _, _, _, rfl, hfr, hlen, hsl, ha, hsp, hwk, hnw, htn, hnsp, htsp, hse, hstk, (by omega), (by first | exact hq11 | exact rgs_w hq11 (by omega)), (by omega), (by first | exact hq13 | exact rgs_w hq13 (by omega)), (by exact hq14), (by exact hq15), (by omega), (by exact hq17), (by exact hq18), (by omega), (by omega)⟩
set_option maxRecDepth 100000 in
set_option maxHeartbeats 4000000 in
theorem y_TH_follow_12 {X : ab_X} {d : Nat} {Q : Outcome → ab_G → Prop} {o : Nat → Nat} {G0 : ab_G} {q : Nat} {lq : Nat} {ki : Nat} {ne : Nat} {ot : Nat} {cnt : Int} {fi : Int} {la : Int} {ra : Nat} {ru : Int} {gr : Int} {wi : Int} {sz : Int} {fl : Int} {ve : Int} {mi : Int} {na : Nat} {nl : Nat} {K : Int → Int} {N : Int → Int} {O : Int → Int} {RR : Int → Int} {nr : Nat} {s : Nat} {by_ : Nat} {co : Nat} {re : Nat} {ho : Nat} {n : Int} {f : Int → Int} {C : Int → Int} {Rs : Int → Int} {H : Int → Int} {m : Nat} {mc : Nat} {a : Nat} {sp : Nat} {wk : Nat} {nw : Nat} {tn : Nat} {nsp : Nat} {tsp : Nat} {se : Nat} {stk : Nat} {nc : Int} {sta : Int} {fo : Int} {hw : Int} {fy : Int} {SP : Int → Int} {NW : Int → Int} {NS : Int → Int} {l1 : Nat} {l2 : Nat} {l3 : Nat} {l4 : Nat} {p : Int} {st : Int} {Mw : List Tw} {st0 : Int} {SE0 : Int → Int} (cq : 100 ≤ lq ∧ 0 ≤ cnt ∧ cnt ≤ 808 ∧ ↑nr ≤ (100000 : Int)) (hp : prok K N O RR cnt ↑nr wi) (hr : ∀ k : Int, 0 ≤ k → k < ↑nr → 0 ≤ RR k ∧ RR k ≤ 1114111) (csu : 0 ≤ n ∧ n ≤ ↑m ∧ 32 ≤ m ∧ m ≤ 2000 ∧ mc = m + 1) (hsu : suok f C Rs H n) (cwi : 2 ≤ wi ∧ wi ≤ 20) (cl : l1 + l2 = 71 ∧ 35 ≤ l1 ∧ l1 ≤ 36 ∧ l3 + l4 = 75 ∧ 37 ≤ l3 ∧ l3 ≤ 38) (hkk : kkF K cnt) (cp : 0 ≤ p ∧ p ≤ n) (hd : 4 ≤ d) : ∀ (mz : Nat) {G : ab_G} {tc : Int} {stp : Int} {WK : Int → Int} {TN : Int → Int} {TS : Int → Int} {SE : Int → Int} {SK : Int → Int} {dp : Int} {tu : Int}, (cc o G a 32 (ab_ob 11 [vR sp, vR wk, vR nw, vR tn, vR nsp, vR tsp, vz nc, vz tc, vR se, vz sta, vR stk, vz fo, vR q, vR s, vz hw, vz fy, vj stp])) → (cc o G sp 31 (za 20 SP)) → (cc o G wk 33 (za 20 WK)) → (cc o G nw l1 (za 801 NW)) → (cc o G tn l2 (za 801 TN)) → (cc o G nsp l3 (za 16020 NS)) → (cc o G tsp l4 (za 16020 TS)) → (cc o G se 39 (za 2048 SE)) → (cc o G stk 40 (za 809 SK)) → (cc o G q lq (ab_ob 5 [vR ki, vR ne, vR ot, vz cnt, vz fi, vz la, vR ra, vz ru, vz gr, vz wi, vz sz, vz fl, vz ve, vz mi, vR na, vR nl])) → (cc o G ki (lq + 1) (za 808 K)) → (cc o G ne (lq + 2) (za 808 N)) → (cc o G ot (lq + 3) (za 808 O)) → (cc o G ra (lq + 4) (za nr RR)) → (cc o G s 26 (ab_ob 9 [vR by_, vR co, vR re, vR ho, vz n])) → (cc o G co 28 (za mc C)) → (cc o G re 29 (za mc Rs)) → (cc o G ho 30 (za mc H)) → (0 ≤ tu ∧ tu ≤ 1616) → (0 ≤ sta ∧ sta ≤ 2100000000) → (0 ≤ tc ∧ tc ≤ 801) → (0 ≤ dp ∧ dp ≤ 809) → (rgs WK wi (-1) n) → (0 ≤ WK 0) → (rgs SE 2048 0 sta) → (thos K cnt TN tc) → (thr TS tc wi n) → (tkos SK dp cnt n wi) → (THY K N O RR cnt f n fy hw wi st p Rs SE sta SK dp WK TN TS tc Mw) → (tu + dp ≤ 1 + viN SE sta 807) → (st0 ≤ stp ∧ stp + dp + 2 * scn SE0 sta ≤ st0 + 1 + 2 * scn SE sta) → (fx o o [32, 33, 35, 36, 37, 38, 39, 40] G0 G) → (G.length = G0.length) → (ab_slots G = ab_slots G0) → (Int.toNat (1616 - tu) < mz) → (∀ (G2 : ab_G) (tc2 : Int) (st2 : Int) (SE2 : Int → Int) (TN2 : Int → Int) (TS2 : Int → Int) (SK2 : Int → Int) (WK2 : Int → Int), (cc o G2 a 32 (ab_ob 11 [vR sp, vR wk, vR nw, vR tn, vR nsp, vR tsp, vz nc, vz tc2, vR se, vz sta, vR stk, vz fo, vR q, vR s, vz hw, vz fy, vj st2])) → (cc o G2 sp 31 (za 20 SP)) → (cc o G2 wk 33 (za 20 WK2)) → (cc o G2 nw l1 (za 801 NW)) → (cc o G2 tn l2 (za 801 TN2)) → (cc o G2 nsp l3 (za 16020 NS)) → (cc o G2 tsp l4 (za 16020 TS2)) → (cc o G2 se 39 (za 2048 SE2)) → (cc o G2 stk 40 (za 809 SK2)) → (0 ≤ tc2 ∧ tc2 ≤ 801) → (rgs WK2 wi (-1) n) → (0 ≤ WK2 0) → (rgs SE2 2048 0 sta) → (thos K cnt TN2 tc2) → (thr TS2 tc2 wi n) → (THF K N O RR cnt f n fy hw wi st p Rs SE2 sta TN2 TS2 tc2 Mw) → (st0 ≤ st2 ∧ st2 + 2 * scn SE0 sta ≤ st0 + 1 + 2 * scn SE2 sta) → (fx o o [32, 33, 35, 36, 37, 38, 39, 40] G0 G2) → (G2.length = G0.length) → (ab_slots G2 = ab_slots G0) → Q (.returned none) G2) → ab_W X (ab_pl y_TH_follow b_TH_follow 6 none) d G 12 [some (vR a), none, some (vz p), some (vz dp), some (vz tu), none] [] Q := by
  intro mz
  induction mz with
  | zero => intro G tc stp WK TN TS SE SK dp tu ha hsp hwk hnw htn hnsp htsp hse hstk hq hki hne hot hra hs hco hre hho ct cst ctc cdp jwk c0k jse jtn jts jsk jty jvn hst9 hfr hlen hsl hm hk0; exact absurd hm (Nat.not_lt_zero _)
  | succ mz ih =>
    intro G tc stp WK TN TS SE SK dp tu ha hsp hwk hnw htn hnsp htsp hse hstk hq hki hne hot hra hs hco hre hho ct cst ctc cdp jwk c0k jse jtn jts jsk jty jvn hst9 hfr hlen hsl hm hk0
    have hvb_ := viN_b (SE := SE) (sta := sta) 807
    refine ab_iload d_TH_follow_12 rfl ?_
    refine zz_sipush d_TH_follow_14 (by decide) ?_
    refine zz_icmp_ge (tgt := 67) d_TH_follow_17 (by decide) (by omega) (by decide) (fun c1 => absurd c1 (by omega)) (fun c1 => ?_)
    refine ab_iload_n d_TH_follow_20 rfl ?_
    refine zz_if_le (tgt := 67) d_TH_follow_21 (by decide) (by omega) (fun c2 => ?_) (fun c2 => ?_)
    · refine ab_vret rfl d_TH_follow_67 ?_
      exact hk0 _ _ _ _ _ _ _ _ ha hsp hwk hnw htn hnsp htsp hse hstk (by omega) (by first | exact jwk | exact rgs_w jwk (by omega)) (by omega) (by first | exact jse | exact rgs_w jse (by omega)) (by exact jtn) (by exact jts) (by exact ty_fin jty (by omega)) (by omega) hfr hlen hsl
    · refine zz_iinc d_TH_follow_24 rfl (Nat.le_of_ble_eq_true rfl) (Nat.le_of_ble_eq_true rfl) rfl ?_
      change ab_W _ _ _ G 27 [some (vR a), none, some (vz p), some (vz (dp + (-1))), some (vz tu), none] [] _
      refine ab_aload_n d_TH_follow_27 rfl ?_
      refine ab_getf (fs := [vR sp, vR wk, vR nw, vR tn, vR nsp, vR tsp, vz nc, vz tc, vR se, vz sta, vR stk, vz fo, vR q, vR s, vz hw, vz fy, vj stp]) f_TH_33 d_TH_follow_28 ha.2.2 rfl ?_
      refine ab_iload_n d_TH_follow_31 rfl ?_
      refine zz_iald d_TH_follow_32 hstk (by omega) ?_
      have hs0 := jsk (dp - 1) (by omega) (by omega)
      have hs1 := tko_in hs0 (by omega)
      have hs3 : dp + -1 = dp - 1 := by omega
      rw [← hs3] at hs0 hs1
      refine ab_istore d_TH_follow_33 (Nat.le_of_ble_eq_true rfl) (Nat.le_of_ble_eq_true rfl) rfl ?_
      change ab_W _ _ _ G 35 [some (vR a), none, some (vz p), some (vz (dp + (-1))), some (vz tu), some (vz (SK (dp + (-1))))] [] _
      refine ab_iload d_TH_follow_35 rfl ?_
      refine zz_if_ge (tgt := 52) d_TH_follow_37 (by decide) (by omega) (fun c3 => ?_) (fun c3 => ?_)
      · have hs2x := tko_pos hs0 (by omega)
        refine ab_aload_n d_TH_follow_52 rfl ?_
        refine ab_iload d_TH_follow_53 rfl ?_
        refine ab_iload_n d_TH_follow_55 rfl ?_
        refine ab_iload_n d_TH_follow_56 rfl ?_
        refine ab_callV (d' := d - 1) (as := [vz (SK (dp + (-1))), vz p, vz (dp + (-1))]) (st := []) (r := _) (z_TH_walk (o := o) (q := q) (lq := lq) (ki := ki) (ne := ne) (ot := ot) (cnt := cnt) (fi := fi) (la := la) (ra := ra) (ru := ru) (gr := gr) (wi := wi) (sz := sz) (fl := fl) (ve := ve) (mi := mi) (na := na) (nl := nl) (K := K) (N := N) (O := O) (RR := RR) (nr := nr) (s := s) (by_ := by_) (co := co) (re := re) (ho := ho) (n := n) (C := C) (Rs := Rs) (H := H) (mc := mc) (a := a) (sp := sp) (wk := wk) (nw := nw) (tn := tn) (nsp := nsp) (tsp := tsp) (se := se) (stk := stk) (nc := nc) (tc := tc) (sta := sta) (fo := fo) (hw := hw) (fy := fy) (stp := stp) (SP := SP) (WK := WK) (NW := NW) (TN := TN) (NS := NS) (TS := TS) (SE := SE) (SK := SK) (l1 := l1) (l2 := l2) (l3 := l3) (l4 := l4) (x := (SK (dp + (-1)))) (p := p) (dp := (dp + (-1))) (st := st) (Mw := Mw) (k0 := tu) ha hsp hwk hnw htn hnsp htsp hse hstk hq hki hne hot hra hs hco hre hho (by omega) hp hr (by omega) hsu (by omega) (by omega) hkk (by omega) (by omega) (by omega) (by omega) (by omega) jwk (by omega) jse jtn jts (tkos_p jsk (by omega)) (ty_pop jty (by omega) (by omega) (by omega) (by omega)) (by omega) (by omega)) (fun oc G2 h => by rcases h with ⟨_, _, _, _, _, _, _, _, h, _⟩ <;> exact ⟨_, h⟩) (by omega) m_TH_walk ml_TH_134 im_TH_walk se_TH_walk c_TH ha.2.2 (Nat.le_of_ble_eq_true rfl) d_TH_follow_57 rfl ?_
        intro v G4 hq
        rcases hq with ⟨dp25, tc26, st27, SE28, TN29, TS210, SK211, WK212, hv, hfk, hlk, hsk, hNa, hNsp, hNwk, hNnw, hNtn, hNnsp, hNtsp, hNse, hNstk, hq13, hq14, hq15, hq16, hq17, hq18, hq19, hq20, hq21, hq22, hq23⟩
        cases hv
        have hq := hfk.get hq (by simp only [List.mem_cons, List.not_mem_nil, or_false]; omega)
        have hki := hfk.get hki (by simp only [List.mem_cons, List.not_mem_nil, or_false]; omega)
        have hne := hfk.get hne (by simp only [List.mem_cons, List.not_mem_nil, or_false]; omega)
        have hot := hfk.get hot (by simp only [List.mem_cons, List.not_mem_nil, or_false]; omega)
        have hra := hfk.get hra (by simp only [List.mem_cons, List.not_mem_nil, or_false]; omega)
        have hs := hfk.get hs (by decide)
        have hco := hfk.get hco (by decide)
        have hre := hfk.get hre (by decide)
        have hho := hfk.get hho (by decide)
        have hfr := hfr.tr hfk (by decide)
        have hlen := hlk.trans hlen
        have hsl := hsk.trans hsl
        have ha := hNa
        have hsp := hNsp
        have hwk := hNwk
        have hnw := hNnw
        have htn := hNtn
        have hnsp := hNnsp
        have htsp := hNtsp
        have hse := hNse
        have hstk := hNstk
        change ab_W _ _ _ G4 60 [some (vR a), none, some (vz p), some (vz (dp + (-1))), some (vz tu), some (vz (SK (dp + (-1))))] [vz dp25] _
        refine ab_istore_n d_TH_follow_60 (Nat.le_of_ble_eq_true rfl) (Nat.le_of_ble_eq_true rfl) rfl ?_
        change ab_W _ _ _ G4 61 [some (vR a), none, some (vz p), some (vz dp25), some (vz tu), some (vz (SK (dp + (-1))))] [] _
        refine zz_iinc d_TH_follow_61 rfl (Nat.le_of_ble_eq_true rfl) (Nat.le_of_ble_eq_true rfl) rfl ?_
        change ab_W _ _ _ G4 64 [some (vR a), none, some (vz p), some (vz dp25), some (vz (tu + 1)), some (vz (SK (dp + (-1))))] [] _
        refine ab_goto (tgt := 12) d_TH_follow_64 (by decide) ?_
        refine ab_less (L' := [some (vR a), none, some (vz p), some (vz dp25), some (vz (tu + 1)), none]) (fun i v h => by rcases i with _ | _ | _ | _ | _ | _ | i <;> first | exact h | (simp at h)) ?_
        exact ih (tc := tc26) (stp := st27) (WK := WK212) (TN := TN29) (TS := TS210) (SE := SE28) (SK := SK211) (dp := dp25) (tu := (tu + 1)) ha hsp hwk hnw htn hnsp htsp hse hstk hq hki hne hot hra hs hco hre hho (by omega) (by omega) (by omega) (by omega) hq14 (by omega) hq16 hq17 hq18 hq20 hq21 (by omega) (by omega) hfr hlen hsl (by omega) hk0
      · have hs2x := tko_neg hs0 (by omega)
        refine ab_aload_n d_TH_follow_40 rfl ?_
        refine ab_getf (fs := [vR sp, vR wk, vR nw, vR tn, vR nsp, vR tsp, vz nc, vz tc, vR se, vz sta, vR stk, vz fo, vR q, vR s, vz hw, vz fy, vj stp]) f_TH_15 d_TH_follow_41 ha.2.2 rfl ?_
        refine ab_iload d_TH_follow_44 rfl ?_
        refine ab_callS (d' := d - 1) (as := [vR wk, vz (SK (dp + (-1)))]) (st := []) (z_PW_undo (o := o) (a := wk) (l := 33) (m := 20) (f := WK) (e := (SK (dp + (-1)))) hwk (by have h18 : ab_n0 = 18 := rfl; omega)) (fun oc G2 h => by rcases h with ⟨h, _⟩ <;> exact ⟨_, h⟩) (by omega) m_PW_undo ml_TH_131 st_PW_undo (Nat.le_of_ble_eq_true rfl) d_TH_follow_46 rfl ?_
        intro v G24 hq
        rcases hq with ⟨hv, hfk, hlk, hsk, hNwk⟩
        cases hv
        have ha := hfk.get ha (by decide)
        have hsp := hfk.get hsp (by decide)
        have hnw := hfk.get hnw (by simp only [List.mem_cons, List.not_mem_nil, or_false]; omega)
        have htn := hfk.get htn (by simp only [List.mem_cons, List.not_mem_nil, or_false]; omega)
        have hnsp := hfk.get hnsp (by simp only [List.mem_cons, List.not_mem_nil, or_false]; omega)
        have htsp := hfk.get htsp (by simp only [List.mem_cons, List.not_mem_nil, or_false]; omega)
        have hse := hfk.get hse (by decide)
        have hstk := hfk.get hstk (by decide)
        have hq := hfk.get hq (by simp only [List.mem_cons, List.not_mem_nil, or_false]; omega)
        have hki := hfk.get hki (by simp only [List.mem_cons, List.not_mem_nil, or_false]; omega)
        have hne := hfk.get hne (by simp only [List.mem_cons, List.not_mem_nil, or_false]; omega)
        have hot := hfk.get hot (by simp only [List.mem_cons, List.not_mem_nil, or_false]; omega)
        have hra := hfk.get hra (by simp only [List.mem_cons, List.not_mem_nil, or_false]; omega)
        have hs := hfk.get hs (by decide)
        have hco := hfk.get hco (by decide)
        have hre := hfk.get hre (by decide)
        have hho := hfk.get hho (by decide)
        have hfr := hfr.tr hfk (by decide)
        have hlen := hlk.trans hlen
        have hsl := hsk.trans hsl
        have hwk := hNwk
        change ab_W _ _ _ G24 49 [some (vR a), none, some (vz p), some (vz (dp + (-1))), some (vz tu), some (vz (SK (dp + (-1))))] [] _
        refine ab_goto (tgt := 61) d_TH_follow_49 (by decide) ?_
        refine zz_iinc d_TH_follow_61 rfl (Nat.le_of_ble_eq_true rfl) (Nat.le_of_ble_eq_true rfl) rfl ?_
        change ab_W _ _ _ G24 64 [some (vR a), none, some (vz p), some (vz (dp + (-1))), some (vz (tu + 1)), some (vz (SK (dp + (-1))))] [] _
        refine ab_goto (tgt := 12) d_TH_follow_64 (by decide) ?_
        refine ab_less (L' := [some (vR a), none, some (vz p), some (vz (dp + (-1))), some (vz (tu + 1)), none]) (fun i v h => by rcases i with _ | _ | _ | _ | _ | _ | i <;> first | exact h | (simp at h)) ?_
        exact ih (tc := tc) (stp := stp) (WK := (zu WK ((-1 - (SK (dp + (-1)))) / 4096) ((-1 - (SK (dp + (-1)))) % 4096 - 1))) (TN := TN) (TS := TS) (SE := SE) (SK := SK) (dp := (dp + (-1))) (tu := (tu + 1)) ha hsp hwk hnw htn hnsp htsp hse hstk hq hki hne hot hra hs hco hre hho (by omega) (by omega) (by omega) (by omega) (rgs_zu jwk (by omega)) (by rw [zu_ne (by omega)]; omega) jse jtn jts (tkos_p jsk (by omega)) (ty_undo jty (by omega) (by omega) (by omega) (by omega)) (by omega) (by omega) hfr hlen hsl (by omega) hk0
set_option maxRecDepth 100000 in
set_option maxHeartbeats 4000000 in
theorem z_TH_follow {X : ab_X} {d : Nat} {o : Nat → Nat} {G : ab_G} {q : Nat} {lq : Nat} {ki : Nat} {ne : Nat} {ot : Nat} {cnt : Int} {fi : Int} {la : Int} {ra : Nat} {ru : Int} {gr : Int} {wi : Int} {sz : Int} {fl : Int} {ve : Int} {mi : Int} {na : Nat} {nl : Nat} {K : Int → Int} {N : Int → Int} {O : Int → Int} {RR : Int → Int} {nr : Nat} {s : Nat} {by_ : Nat} {co : Nat} {re : Nat} {ho : Nat} {n : Int} {f : Int → Int} {C : Int → Int} {Rs : Int → Int} {H : Int → Int} {m : Nat} {mc : Nat} {a : Nat} {sp : Nat} {wk : Nat} {nw : Nat} {tn : Nat} {nsp : Nat} {tsp : Nat} {se : Nat} {stk : Nat} {nc : Int} {tc : Int} {sta : Int} {fo : Int} {hw : Int} {fy : Int} {stp : Int} {SP : Int → Int} {WK : Int → Int} {NW : Int → Int} {TN : Int → Int} {NS : Int → Int} {TS : Int → Int} {SE : Int → Int} {SK : Int → Int} {l1 : Nat} {l2 : Nat} {l3 : Nat} {l4 : Nat} {p : Int} {x : Int} {st : Int} {Mw : List Tw} {s0 : Int} {gw : Gr} {Lw : List (Int × Gr)} (ha : cc o G a 32 (ab_ob 11 [vR sp, vR wk, vR nw, vR tn, vR nsp, vR tsp, vz nc, vz tc, vR se, vz sta, vR stk, vz fo, vR q, vR s, vz hw, vz fy, vj stp])) (hsp : cc o G sp 31 (za 20 SP)) (hwk : cc o G wk 33 (za 20 WK)) (hnw : cc o G nw l1 (za 801 NW)) (htn : cc o G tn l2 (za 801 TN)) (hnsp : cc o G nsp l3 (za 16020 NS)) (htsp : cc o G tsp l4 (za 16020 TS)) (hse : cc o G se 39 (za 2048 SE)) (hstk : cc o G stk 40 (za 809 SK)) (hq : cc o G q lq (ab_ob 5 [vR ki, vR ne, vR ot, vz cnt, vz fi, vz la, vR ra, vz ru, vz gr, vz wi, vz sz, vz fl, vz ve, vz mi, vR na, vR nl])) (hki : cc o G ki (lq + 1) (za 808 K)) (hne : cc o G ne (lq + 2) (za 808 N)) (hot : cc o G ot (lq + 3) (za 808 O)) (hra : cc o G ra (lq + 4) (za nr RR)) (hs : cc o G s 26 (ab_ob 9 [vR by_, vR co, vR re, vR ho, vz n])) (hco : cc o G co 28 (za mc C)) (hre : cc o G re 29 (za mc Rs)) (hho : cc o G ho 30 (za mc H)) (cq : 100 ≤ lq ∧ 0 ≤ cnt ∧ cnt ≤ 808 ∧ ↑nr ≤ (100000 : Int)) (hp : prok K N O RR cnt ↑nr wi) (hr : ∀ k : Int, 0 ≤ k → k < ↑nr → 0 ≤ RR k ∧ RR k ≤ 1114111) (csu : 0 ≤ n ∧ n ≤ ↑m ∧ 32 ≤ m ∧ m ≤ 2000 ∧ mc = m + 1) (hsu : suok f C Rs H n) (cwi : 2 ≤ wi ∧ wi ≤ 20) (cl : l1 + l2 = 71 ∧ 35 ≤ l1 ∧ l1 ≤ 36 ∧ l3 + l4 = 75 ∧ 37 ≤ l3 ∧ l3 ≤ 38) (hkk : kkF K cnt) (cx : 0 ≤ x ∧ x < cnt ∧ 0 ≤ p ∧ p ≤ n) (cst : 0 ≤ sta ∧ sta ≤ 2100000000) (ctc : 0 ≤ tc ∧ tc ≤ 801) (jwk : rgs WK wi (-1) n) (c0k : 0 ≤ WK 0) (jse : rgs SE 2048 0 sta) (jtn : thos K cnt TN tc) (jts : thr TS tc wi n) (jtf : THF K N O RR cnt f n fy hw wi s0 p Rs SE sta TN TS tc Mw) (cst2 : s0 ≤ st) (jga : gA WK gw wi) (jk0 : WK 0 = st) (jww : WW (tgC K) N O (phas K O RR) f n x p gw Lw) (hd : 5 ≤ d) : ab_F X d y_TH_follow (.code y_TH_follow b_TH_follow 6 none) [vR a, vz x, vz p] G (fun oc G2 => ∃ tc2 : Int, ∃ st2 : Int, ∃ SE2 : Int → Int, ∃ TN2 : Int → Int, ∃ TS2 : Int → Int, ∃ SK2 : Int → Int, ∃ WK2 : Int → Int, oc = .returned none ∧ fx o o [32, 33, 35, 36, 37, 38, 39, 40] G G2 ∧ G2.length = G.length ∧ ab_slots G2 = ab_slots G ∧ cc o G2 a 32 (ab_ob 11 [vR sp, vR wk, vR nw, vR tn, vR nsp, vR tsp, vz nc, vz tc2, vR se, vz sta, vR stk, vz fo, vR q, vR s, vz hw, vz fy, vj st2]) ∧ cc o G2 sp 31 (za 20 SP) ∧ cc o G2 wk 33 (za 20 WK2) ∧ cc o G2 nw l1 (za 801 NW) ∧ cc o G2 tn l2 (za 801 TN2) ∧ cc o G2 nsp l3 (za 16020 NS) ∧ cc o G2 tsp l4 (za 16020 TS2) ∧ cc o G2 se 39 (za 2048 SE2) ∧ cc o G2 stk 40 (za 809 SK2) ∧ (0 ≤ tc2 ∧ tc2 ≤ 801) ∧ (rgs WK2 wi (-1) n) ∧ (0 ≤ WK2 0) ∧ (rgs SE2 2048 0 sta) ∧ (thos K cnt TN2 tc2) ∧ (thr TS2 tc2 wi n) ∧ (THF K N O RR cnt f n fy hw wi st p Rs SE2 sta TN2 TS2 tc2 (Mw ++ tgT st Lw)) ∧ (stp ≤ st2 ∧ st2 + 2 * scn SE sta ≤ stp + 1 + 2 * scn SE2 sta) ∧ (st2 ≤ stp + 4097)) := by
  refine ab_F_of (by decide +kernel) (Nat.le_of_ble_eq_true rfl) ?_
  obtain ⟨Q, hQ⟩ : ∃ z : Outcome → ab_G → Prop, z = (fun oc G2 => ∃ tc2 : Int, ∃ st2 : Int, ∃ SE2 : Int → Int, ∃ TN2 : Int → Int, ∃ TS2 : Int → Int, ∃ SK2 : Int → Int, ∃ WK2 : Int → Int, oc = .returned none ∧ fx o o [32, 33, 35, 36, 37, 38, 39, 40] G G2 ∧ G2.length = G.length ∧ ab_slots G2 = ab_slots G ∧ cc o G2 a 32 (ab_ob 11 [vR sp, vR wk, vR nw, vR tn, vR nsp, vR tsp, vz nc, vz tc2, vR se, vz sta, vR stk, vz fo, vR q, vR s, vz hw, vz fy, vj st2]) ∧ cc o G2 sp 31 (za 20 SP) ∧ cc o G2 wk 33 (za 20 WK2) ∧ cc o G2 nw l1 (za 801 NW) ∧ cc o G2 tn l2 (za 801 TN2) ∧ cc o G2 nsp l3 (za 16020 NS) ∧ cc o G2 tsp l4 (za 16020 TS2) ∧ cc o G2 se 39 (za 2048 SE2) ∧ cc o G2 stk 40 (za 809 SK2) ∧ (0 ≤ tc2 ∧ tc2 ≤ 801) ∧ (rgs WK2 wi (-1) n) ∧ (0 ≤ WK2 0) ∧ (rgs SE2 2048 0 sta) ∧ (thos K cnt TN2 tc2) ∧ (thr TS2 tc2 wi n) ∧ (THF K N O RR cnt f n fy hw wi st p Rs SE2 sta TN2 TS2 tc2 (Mw ++ tgT st Lw)) ∧ (stp ≤ st2 ∧ st2 + 2 * scn SE sta ≤ stp + 1 + 2 * scn SE2 sta) ∧ (st2 ≤ stp + 4097)) := ⟨_, rfl⟩
  rw [← hQ]
  change ab_W X (ab_pl y_TH_follow b_TH_follow 6 none) d G 0 [some (vR a), some (vz x), some (vz p), none, none, none] [] Q
  have hfr : fx o o [32, 33, 35, 36, 37, 38, 39, 40] G G := fx.rf
  have hlen : G.length = G.length := rfl
  have hsl : ab_slots G = ab_slots G := rfl
  have hvb_ := viN_b (SE := SE) (sta := sta) 807
  refine ab_aload_n d_TH_follow_0 rfl ?_
  refine ab_getf (fs := [vR sp, vR wk, vR nw, vR tn, vR nsp, vR tsp, vz nc, vz tc, vR se, vz sta, vR stk, vz fo, vR q, vR s, vz hw, vz fy, vj stp]) f_TH_33 d_TH_follow_1 ha.2.2 rfl ?_
  refine zz_iconst d_TH_follow_4 ?_
  refine ab_iload_n d_TH_follow_5 rfl ?_
  refine zz_iast d_TH_follow_6 hstk (by omega) (hstk.2.1 (by decide)) ?_
  obtain ⟨G1, eG1⟩ : ∃ z : ab_G, z = List.set G stk (za 809 (zu SK 0 x)) := ⟨_, rfl⟩
  have ha := ha.keep hstk eG1 (by decide)
  have hsp := hsp.keep hstk eG1 (by decide)
  have hwk := hwk.keep hstk eG1 (by decide)
  have hnw := hnw.keep hstk eG1 (by omega)
  have htn := htn.keep hstk eG1 (by omega)
  have hnsp := hnsp.keep hstk eG1 (by omega)
  have htsp := htsp.keep hstk eG1 (by omega)
  have hse := hse.keep hstk eG1 (by decide)
  have hq := hq.keep hstk eG1 (by omega)
  have hki := hki.keep hstk eG1 (by omega)
  have hne := hne.keep hstk eG1 (by omega)
  have hot := hot.keep hstk eG1 (by omega)
  have hra := hra.keep hstk eG1 (by omega)
  have hs := hs.keep hstk eG1 (by decide)
  have hco := hco.keep hstk eG1 (by decide)
  have hre := hre.keep hstk eG1 (by decide)
  have hho := hho.keep hstk eG1 (by decide)
  have hlen := (z_len eG1).trans hlen
  have hsl := (z_sl hstk eG1 rfl).trans hsl
  have hfr := hfr.wr hstk eG1 (by decide)
  have hstk := hstk.kept eG1
  change ab_W _ _ _ (List.set G stk (za 809 (zu SK 0 x))) 7 [some (vR a), some (vz x), some (vz p), none, none, none] [] _
  rw [← eG1]
  refine zz_iconst d_TH_follow_7 ?_
  refine ab_istore_n d_TH_follow_8 (Nat.le_of_ble_eq_true rfl) (Nat.le_of_ble_eq_true rfl) rfl ?_
  change ab_W _ _ _ G1 9 [some (vR a), some (vz x), some (vz p), some (vz 1), none, none] [] _
  refine zz_iconst d_TH_follow_9 ?_
  refine ab_istore d_TH_follow_10 (Nat.le_of_ble_eq_true rfl) (Nat.le_of_ble_eq_true rfl) rfl ?_
  change ab_W _ _ _ G1 12 [some (vR a), some (vz x), some (vz p), some (vz 1), some (vz 0), none] [] _
  refine ab_less (L' := [some (vR a), none, some (vz p), some (vz 1), some (vz 0), none]) (fun i v h => by rcases i with _ | _ | _ | _ | _ | _ | i <;> first | exact h | (simp at h)) ?_
  refine y_TH_follow_12 (q := q) (lq := lq) (ki := ki) (ne := ne) (ot := ot) (cnt := cnt) (fi := fi) (la := la) (ra := ra) (ru := ru) (gr := gr) (wi := wi) (sz := sz) (fl := fl) (ve := ve) (mi := mi) (na := na) (nl := nl) (K := K) (N := N) (O := O) (RR := RR) (nr := nr) (s := s) (by_ := by_) (co := co) (re := re) (ho := ho) (n := n) (C := C) (Rs := Rs) (H := H) (mc := mc) (a := a) (sp := sp) (wk := wk) (nw := nw) (tn := tn) (nsp := nsp) (tsp := tsp) (se := se) (stk := stk) (nc := nc) (sta := sta) (fo := fo) (hw := hw) (fy := fy) (SP := SP) (NW := NW) (NS := NS) (l1 := l1) (l2 := l2) (l3 := l3) (l4 := l4) (p := p) (st := st) (Mw := (Mw ++ tgT st Lw)) (st0 := stp) (SE0 := SE) (G0 := G1) (tc := tc) (stp := stp) (WK := WK) (TN := TN) (TS := TS) (SE := SE) (SK := (zu SK 0 x)) (dp := 1) (tu := 0) (by omega) hp hr (by omega) hsu (by omega) (by omega) hkk (by omega) (by omega) (Int.toNat (1616 - 0) + 1) ha hsp hwk hnw htn hnsp htsp hse hstk hq hki hne hot hra hs hco hre hho (by omega) (by omega) (by omega) (by omega) jwk (by omega) jse jtn jts (tkos_zu tkos_0 (tko_s (by omega))) (ty_new jtf cst2 jga jk0 (by omega) jww) (by omega) (by omega) fx.rf rfl rfl (by omega) (fun G2 tc23 st24 SE25 TN26 TS27 SK28 WK29 hNa hNsp hNwk hNnw hNtn hNnsp hNtsp hNse hNstk hq10 hq11 hq12 hq13 hq14 hq15 hq16 hq17 hfk hlk hsk => ?_)
  · have hq := hfk.get hq (by simp only [List.mem_cons, List.not_mem_nil, or_false]; omega)
    have hki := hfk.get hki (by simp only [List.mem_cons, List.not_mem_nil, or_false]; omega)
    have hne := hfk.get hne (by simp only [List.mem_cons, List.not_mem_nil, or_false]; omega)
    have hot := hfk.get hot (by simp only [List.mem_cons, List.not_mem_nil, or_false]; omega)
    have hra := hfk.get hra (by simp only [List.mem_cons, List.not_mem_nil, or_false]; omega)
    have hs := hfk.get hs (by decide)
    have hco := hfk.get hco (by decide)
    have hre := hfk.get hre (by decide)
    have hho := hfk.get hho (by decide)
    have hfr := hfr.tr hfk (by decide)
    have hlen := hlk.trans hlen
    have hsl := hsk.trans hsl
    have ha := hNa
    have hsp := hNsp
    have hwk := hNwk
    have hnw := hNnw
    have htn := hNtn
    have hnsp := hNnsp
    have htsp := hNtsp
    have hse := hNse
    have hstk := hNstk
    rw [hQ]; exact ⟨_, _, _, _, _, _, _, rfl, hfr, hlen, hsl, ha, hsp, hwk, hnw, htn, hnsp, htsp, hse, hstk, (by omega), (by first | exact hq11 | exact rgs_w hq11 (by omega)), (by omega), (by first | exact hq13 | exact rgs_w hq13 (by omega)), (by exact hq14), (by exact hq15), (by exact hq16), (by omega), (by have b1 := scn_b SE sta; have b2 := scn_b SE25 sta; omega)⟩
set_option maxRecDepth 100000 in
set_option maxHeartbeats 4000000 in
theorem y_TH_step_10 {X : ab_X} {d : Nat} {Q : Outcome → ab_G → Prop} {o : Nat → Nat} {G0 : ab_G} {q : Nat} {lq : Nat} {ki : Nat} {ne : Nat} {ot : Nat} {cnt : Int} {fi : Int} {la : Int} {ra : Nat} {ru : Int} {gr : Int} {wi : Int} {sz : Int} {fl : Int} {ve : Int} {mi : Int} {na : Nat} {nl : Nat} {K : Int → Int} {N : Int → Int} {O : Int → Int} {RR : Int → Int} {nr : Nat} {s : Nat} {by_ : Nat} {co : Nat} {re : Nat} {ho : Nat} {n : Int} {f : Int → Int} {C : Int → Int} {Rs : Int → Int} {H : Int → Int} {m : Nat} {mc : Nat} {a : Nat} {sp : Nat} {wk : Nat} {nw : Nat} {tn : Nat} {nsp : Nat} {tsp : Nat} {se : Nat} {stk : Nat} {nc : Int} {sta : Int} {hw : Int} {fy : Int} {NW : Int → Int} {NS : Int → Int} {l1 : Nat} {l2 : Nat} {l3 : Nat} {l4 : Nat} {p : Int} {u9 : Sn} {lz : Int} {S9 : Option Tw} {st0 : Int} {SE0 : Int → Int} (cq : 100 ≤ lq ∧ 0 ≤ cnt ∧ cnt ≤ 808 ∧ ↑nr ≤ (100000 : Int)) (hp : prok K N O RR cnt ↑nr wi) (hr : ∀ k : Int, 0 ≤ k → k < ↑nr → 0 ≤ RR k ∧ RR k ≤ 1114111) (csu : 0 ≤ n ∧ n ≤ ↑m ∧ 32 ≤ m ∧ m ≤ 2000 ∧ mc = m + 1) (hsu : suok f C Rs H n) (cwi : 2 ≤ wi ∧ wi ≤ 20) (cl : l1 + l2 = 71 ∧ 35 ≤ l1 ∧ l1 ≤ 36 ∧ l3 + l4 = 75 ∧ 37 ≤ l3 ∧ l3 ≤ 38) (hkk : kkF K cnt) (cp : 0 ≤ p ∧ p ≤ n) (jnw : thos K cnt NW nc) (jns : thr NS nc wi n) (cnc : 0 ≤ nc ∧ nc ≤ 801) (cst : 0 ≤ sta ∧ sta ≤ 2100000000) (chw : 0 ≤ hw ∧ hw ≤ 2 ∧ 0 ≤ fy ∧ fy ≤ 1) (jro : roW Rs n p wi p NW NS nc) (hd : 6 ≤ d) : ∀ (mz : Nat) {G : ab_G} {tc : Int} {fo : Int} {stp : Int} {SP : Int → Int} {WK : Int → Int} {TN : Int → Int} {TS : Int → Int} {SE : Int → Int} {SK : Int → Int} {i : Int}, (cc o G a 32 (ab_ob 11 [vR sp, vR wk, vR nw, vR tn, vR nsp, vR tsp, vz nc, vz tc, vR se, vz sta, vR stk, vz fo, vR q, vR s, vz hw, vz fy, vj stp])) → (cc o G sp 31 (za 20 SP)) → (cc o G wk 33 (za 20 WK)) → (cc o G nw l1 (za 801 NW)) → (cc o G tn l2 (za 801 TN)) → (cc o G nsp l3 (za 16020 NS)) → (cc o G tsp l4 (za 16020 TS)) → (cc o G se 39 (za 2048 SE)) → (cc o G stk 40 (za 809 SK)) → (cc o G q lq (ab_ob 5 [vR ki, vR ne, vR ot, vz cnt, vz fi, vz la, vR ra, vz ru, vz gr, vz wi, vz sz, vz fl, vz ve, vz mi, vR na, vR nl])) → (cc o G ki (lq + 1) (za 808 K)) → (cc o G ne (lq + 2) (za 808 N)) → (cc o G ot (lq + 3) (za 808 O)) → (cc o G ra (lq + 4) (za nr RR)) → (cc o G s 26 (ab_ob 9 [vR by_, vR co, vR re, vR ho, vz n])) → (cc o G co 28 (za mc C)) → (cc o G re 29 (za mc Rs)) → (cc o G ho 30 (za mc H)) → (0 ≤ i ∧ i ≤ nc) → (0 ≤ tc ∧ tc ≤ 801) → (rgs SE 2048 0 sta) → (thos K cnt TN tc) → (thr TS tc wi n) → (rgs SP 20 (-1) 2000) → (spo fo SP wi n) → (0 ≤ fo ∧ fo ≤ 1) → (stJ K N O RR cnt u9 f n fy hw wi lz p Rs SE sta NW NS nc i TN TS tc fo SP S9) → (st0 ≤ stp ∧ stp + 2 * scn SE0 sta ≤ st0 + 2 * i + 2 * scn SE sta) → (fx o o [31, 32, 33, 35, 36, 37, 38, 39, 40] G0 G) → (G.length = G0.length) → (ab_slots G = ab_slots G0) → (Int.toNat (nc - i) < mz) → (∀ (G2 : ab_G) (tc2 : Int) (st2 : Int) (fo2 : Int) (SE2 : Int → Int) (TN2 : Int → Int) (TS2 : Int → Int) (SK2 : Int → Int) (WK2 : Int → Int) (SP2 : Int → Int), (cc o G2 a 32 (ab_ob 11 [vR sp, vR wk, vR nw, vR tn, vR nsp, vR tsp, vz nc, vz tc2, vR se, vz sta, vR stk, vz fo2, vR q, vR s, vz hw, vz fy, vj st2])) → (cc o G2 sp 31 (za 20 SP2)) → (cc o G2 wk 33 (za 20 WK2)) → (cc o G2 nw l1 (za 801 NW)) → (cc o G2 tn l2 (za 801 TN2)) → (cc o G2 nsp l3 (za 16020 NS)) → (cc o G2 tsp l4 (za 16020 TS2)) → (cc o G2 se 39 (za 2048 SE2)) → (cc o G2 stk 40 (za 809 SK2)) → (0 ≤ tc2 ∧ tc2 ≤ 801) → (0 ≤ fo2 ∧ fo2 ≤ 1) → (rgs SP2 20 (-1) 2000) → (rgs SE2 2048 0 sta) → (thos K cnt TN2 tc2) → (thr TS2 tc2 wi n) → (spo fo2 SP2 wi n) → (stE K N O RR cnt u9 f n fy hw wi lz (p + 1) Rs SE2 sta TN2 TS2 tc2 fo2 SP2 S9) → (st0 ≤ st2 ∧ st2 + 2 * scn SE0 sta ≤ st0 + 2 * nc + 2 * scn SE2 sta) → (fx o o [31, 32, 33, 35, 36, 37, 38, 39, 40] G0 G2) → (G2.length = G0.length) → (ab_slots G2 = ab_slots G0) → Q (.returned none) G2) → ab_W X (ab_pl y_TH_step b_TH_step 7 none) d G 10 [some (vR a), some (vz p), some (vz wi), some (vz i), none, none, none] [] Q := by
  intro mz
  induction mz with
  | zero => intro G tc fo stp SP WK TN TS SE SK i ha hsp hwk hnw htn hnsp htsp hse hstk hq hki hne hot hra hs hco hre hho ci ctc jse jtn jts jsp jspo cfo jst hst9 hfr hlen hsl hm hk0; exact absurd hm (Nat.not_lt_zero _)
  | succ mz ih =>
    intro G tc fo stp SP WK TN TS SE SK i ha hsp hwk hnw htn hnsp htsp hse hstk hq hki hne hot hra hs hco hre hho ci ctc jse jtn jts jsp jspo cfo jst hst9 hfr hlen hsl hm hk0
    refine ab_iload_n d_TH_step_10 rfl ?_
    refine ab_aload_n d_TH_step_11 rfl ?_
    refine ab_getf (fs := [vR sp, vR wk, vR nw, vR tn, vR nsp, vR tsp, vz nc, vz tc, vR se, vz sta, vR stk, vz fo, vR q, vR s, vz hw, vz fy, vj stp]) f_TH_91 d_TH_step_12 ha.2.2 rfl ?_
    refine zz_icmp_ge (tgt := 264) d_TH_step_15 (by decide) (by omega) (by omega) (fun c1 => ?_) (fun c1 => ?_)
    · refine ab_vret rfl d_TH_step_264 ?_
      exact hk0 _ _ _ _ _ _ _ _ _ _ ha hsp hwk hnw htn hnsp htsp hse hstk (by omega) (by omega) (by first | exact jsp | exact rgs_w jsp (by omega)) (by first | exact jse | exact rgs_w jse (by omega)) (by exact jtn) (by exact jts) (by exact jspo) (by exact jst.fin (by omega)) (by omega) hfr hlen hsl
    · obtain ⟨W_, c_, s_, L_, V_, g_, y_, z_, jso⟩ := jst.o (by omega)
      refine ab_aload_n d_TH_step_18 rfl ?_
      refine ab_dup d_TH_step_19 rfl ?_
      refine ab_getf (fs := [vR sp, vR wk, vR nw, vR tn, vR nsp, vR tsp, vz nc, vz tc, vR se, vz sta, vR stk, vz fo, vR q, vR s, vz hw, vz fy, vj stp]) f_TH_105 d_TH_step_20 ha.2.2 rfl ?_
      refine zz_lconst d_TH_step_23 ?_
      change ab_W _ _ _ G 24 [some (vR a), some (vz p), some (vz wi), some (vz i), none, none, none] [vj 1, vj stp, vR a] _
      refine zz_ladd d_TH_step_24 ?_
      refine ab_putf (fs := [vR sp, vR wk, vR nw, vR tn, vR nsp, vR tsp, vz nc, vz tc, vR se, vz sta, vR stk, vz fo, vR q, vR s, vz hw, vz fy, vj stp]) f_TH_105 (Or.inl rfl) d_TH_step_25 ha.2.2 (Nat.le_of_ble_eq_true rfl) (fun _ => ⟨rfl, rfl⟩) (ha.2.1 (by decide)) ?_
      obtain ⟨G2, eG2⟩ : ∃ z : ab_G, z = List.set G a (ab_ob 11 [vR sp, vR wk, vR nw, vR tn, vR nsp, vR tsp, vz nc, vz tc, vR se, vz sta, vR stk, vz fo, vR q, vR s, vz hw, vz fy, vj (stp + 1)]) := ⟨_, rfl⟩
      have hsp := hsp.keep ha eG2 (by decide)
      have hwk := hwk.keep ha eG2 (by decide)
      have hnw := hnw.keep ha eG2 (by omega)
      have htn := htn.keep ha eG2 (by omega)
      have hnsp := hnsp.keep ha eG2 (by omega)
      have htsp := htsp.keep ha eG2 (by omega)
      have hse := hse.keep ha eG2 (by decide)
      have hstk := hstk.keep ha eG2 (by decide)
      have hq := hq.keep ha eG2 (by omega)
      have hki := hki.keep ha eG2 (by omega)
      have hne := hne.keep ha eG2 (by omega)
      have hot := hot.keep ha eG2 (by omega)
      have hra := hra.keep ha eG2 (by omega)
      have hs := hs.keep ha eG2 (by decide)
      have hco := hco.keep ha eG2 (by decide)
      have hre := hre.keep ha eG2 (by decide)
      have hho := hho.keep ha eG2 (by decide)
      have hlen := (z_len eG2).trans hlen
      have hsl := (z_sl ha eG2 rfl).trans hsl
      have hfr := hfr.wr ha eG2 (by decide)
      have ha := ha.kept eG2
      change ab_W _ _ _ (List.set G a (ab_ob 11 [vR sp, vR wk, vR nw, vR tn, vR nsp, vR tsp, vz nc, vz tc, vR se, vz sta, vR stk, vz fo, vR q, vR s, vz hw, vz fy, vj (stp + 1)])) 28 [some (vR a), some (vz p), some (vz wi), some (vz i), none, none, none] [] _
      rw [← eG2]
      refine ab_aload_n d_TH_step_28 rfl ?_
      refine ab_getf (fs := [vR sp, vR wk, vR nw, vR tn, vR nsp, vR tsp, vz nc, vz tc, vR se, vz sta, vR stk, vz fo, vR q, vR s, vz hw, vz fy, vj (stp + 1)]) f_TH_61 d_TH_step_29 ha.2.2 rfl ?_
      refine zz_if_eq (tgt := 53) d_TH_step_32 (by decide) (by omega) (fun c3 => ?_) (fun c3 => ?_)
      · refine ab_aload_n d_TH_step_53 rfl ?_
        refine ab_getf (fs := [vR sp, vR wk, vR nw, vR tn, vR nsp, vR tsp, vz nc, vz tc, vR se, vz sta, vR stk, vz fo, vR q, vR s, vz hw, vz fy, vj (stp + 1)]) f_TH_24 d_TH_step_54 ha.2.2 rfl ?_
        refine ab_iload_n d_TH_step_57 rfl ?_
        refine ab_iload_n d_TH_step_58 rfl ?_
        refine zz_imul d_TH_step_59 ?_
        obtain ⟨v4, hv4⟩ : ∃ z : Int, z = i * wi := ⟨_, rfl⟩
        rw [← hv4]
        have hv4b := z_mulb (a := i) (b := wi) (A := 801) (B := 20) (by omega) (by omega)
        rw [← hv4] at hv4b
        change ab_W _ _ _ G2 60 [some (vR a), some (vz p), some (vz wi), some (vz i), none, none, none] [vz v4, vR nsp] _
        have jiw : (i + 1) * wi ≤ 801 * 20 := Int.mul_le_mul (by omega) (by omega) (by omega) (by omega)
        have jiw2 : (i + 1) * wi = i * wi + wi := by rw [Int.add_mul, Int.one_mul]
        refine ab_aload_n d_TH_step_60 rfl ?_
        refine ab_getf (fs := [vR sp, vR wk, vR nw, vR tn, vR nsp, vR tsp, vz nc, vz tc, vR se, vz sta, vR stk, vz fo, vR q, vR s, vz hw, vz fy, vj (stp + 1)]) f_TH_15 d_TH_step_61 ha.2.2 rfl ?_
        refine zz_iconst d_TH_step_64 ?_
        refine ab_iload_n d_TH_step_65 rfl ?_
        refine zz_copy mj_TH_109 d_TH_step_66 hnsp hwk (hwk.2.1 (by decide)) (by omega) (Nat.le_of_ble_eq_true rfl) (by omega) ?_
        obtain ⟨G5, eG5⟩ : ∃ z : ab_G, z = List.set G2 wk (za 20 (zcpy NS WK v4 0 wi)) := ⟨_, rfl⟩
        have ha := ha.keep hwk eG5 (by decide)
        have hsp := hsp.keep hwk eG5 (by decide)
        have hnw := hnw.keep hwk eG5 (by omega)
        have htn := htn.keep hwk eG5 (by omega)
        have hnsp := hnsp.keep hwk eG5 (by omega)
        have htsp := htsp.keep hwk eG5 (by omega)
        have hse := hse.keep hwk eG5 (by decide)
        have hstk := hstk.keep hwk eG5 (by decide)
        have hq := hq.keep hwk eG5 (by omega)
        have hki := hki.keep hwk eG5 (by omega)
        have hne := hne.keep hwk eG5 (by omega)
        have hot := hot.keep hwk eG5 (by omega)
        have hra := hra.keep hwk eG5 (by omega)
        have hs := hs.keep hwk eG5 (by decide)
        have hco := hco.keep hwk eG5 (by decide)
        have hre := hre.keep hwk eG5 (by decide)
        have hho := hho.keep hwk eG5 (by decide)
        have hlen := (z_len eG5).trans hlen
        have hsl := (z_sl hwk eG5 rfl).trans hsl
        have hfr := hfr.wr hwk eG5 (by decide)
        have hwk := hwk.kept eG5
        change ab_W _ _ _ (List.set G2 wk (za 20 (zcpy NS WK v4 0 wi))) 69 [some (vR a), some (vz p), some (vz wi), some (vz i), none, none, none] [] _
        rw [← eG5]
        have hc_ : fo = 0 ∨ NS (i * wi) ≤ SP 0 := by first | (left; omega) | (right; rw [← hv4]; omega)
        have jg := thr_g jns (i := i) ⟨by omega, by omega⟩ (by omega) (WK := WK)
        rw [← hv4] at jg
        obtain ⟨W6, eW6⟩ : ∃ z : Int → Int, z = zcpy NS WK v4 0 wi := ⟨_, rfl⟩
        rw [← eW6] at jg
        have hk_ : wkO W6 NS (i * wi) wi := by rw [eW6, hv4]; exact wkO_c (by omega)
        have hwk : cc o G5 wk 33 (za 20 W6) := by rw [← eW6.symm]; exact hwk
        obtain ⟨jg1, jg2⟩ := jg
        have jt := jnw i (by omega) (by omega)
        have jti := tho_in jt
        refine ab_aload_n d_TH_step_69 rfl ?_
        refine ab_getf (fs := [vR sp, vR wk, vR nw, vR tn, vR nsp, vR tsp, vz nc, vz tc, vR se, vz sta, vR stk, vz fo, vR q, vR s, vz hw, vz fy, vj (stp + 1)]) f_TH_18 d_TH_step_70 ha.2.2 rfl ?_
        refine ab_iload_n d_TH_step_73 rfl ?_
        refine zz_iald d_TH_step_74 hnw (by omega) ?_
        refine zz_sipush d_TH_step_75 (by decide) ?_
        refine zz_iand 10 1024 d_TH_step_78 (by decide) (by decide) (by decide) (by decide) ?_
        refine ab_istore d_TH_step_79 (Nat.le_of_ble_eq_true rfl) (Nat.le_of_ble_eq_true rfl) rfl ?_
        change ab_W _ _ _ G5 81 [some (vR a), some (vz p), some (vz wi), some (vz i), some (vz ((NW i) % 1024)), none, none] [] _
        refine ab_aload_n d_TH_step_81 rfl ?_
        refine ab_getf (fs := [vR sp, vR wk, vR nw, vR tn, vR nsp, vR tsp, vz nc, vz tc, vR se, vz sta, vR stk, vz fo, vR q, vR s, vz hw, vz fy, vj (stp + 1)]) f_TH_18 d_TH_step_82 ha.2.2 rfl ?_
        refine ab_iload_n d_TH_step_85 rfl ?_
        refine zz_iald d_TH_step_86 hnw (by omega) ?_
        refine zz_sipush d_TH_step_87 (by decide) ?_
        refine zz_icmp_ge (tgt := 108) d_TH_step_90 (by decide) (by omega) (by decide) (fun c7 => ?_) (fun c7 => ?_)
        · have jk := tho_t jt (by omega)
          have jk0_ := (hp (NW i % 1024) (by omega) (by omega)).1
          refine ab_aload_n d_TH_step_108 rfl ?_
          refine ab_getf (fs := [vR sp, vR wk, vR nw, vR tn, vR nsp, vR tsp, vz nc, vz tc, vR se, vz sta, vR stk, vz fo, vR q, vR s, vz hw, vz fy, vj (stp + 1)]) f_TH_18 d_TH_step_109 ha.2.2 rfl ?_
          refine ab_iload_n d_TH_step_112 rfl ?_
          refine zz_iald d_TH_step_113 hnw (by omega) ?_
          refine zz_sipush d_TH_step_114 (by decide) ?_
          refine zz_icmp_lt (tgt := 124) d_TH_step_117 (by decide) (by omega) (by decide) (fun c8 => absurd c8 (by omega)) (fun c8 => ?_)
          refine zz_iconst d_TH_step_120 ?_
          refine ab_goto (tgt := 125) d_TH_step_121 (by decide) ?_
          refine ab_istore d_TH_step_125 (Nat.le_of_ble_eq_true rfl) (Nat.le_of_ble_eq_true rfl) rfl ?_
          change ab_W _ _ _ G5 127 [some (vR a), some (vz p), some (vz wi), some (vz i), some (vz ((NW i) % 1024)), some (vz 1), none] [] _
          refine ab_iload d_TH_step_127 rfl ?_
          refine zz_if_eq (tgt := 144) d_TH_step_129 (by decide) (by decide) (fun c9 => absurd c9 (by decide)) (fun c9 => ?_)
          refine ab_aload_n d_TH_step_132 rfl ?_
          refine ab_getf (fs := [vR sp, vR wk, vR nw, vR tn, vR nsp, vR tsp, vz nc, vz tc, vR se, vz sta, vR stk, vz fo, vR q, vR s, vz hw, vz fy, vj (stp + 1)]) f_TH_40 d_TH_step_133 ha.2.2 rfl ?_
          refine ab_getf (fs := [vR by_, vR co, vR re, vR ho, vz n]) f_TH_118 d_TH_step_136 hs.2.2 rfl ?_
          refine ab_iload_n d_TH_step_139 rfl ?_
          refine zz_iald d_TH_step_140 hre (by omega) ?_
          have hq10 := hsu.r p (by omega) (by omega)
          refine ab_goto (tgt := 158) d_TH_step_141 (by decide) ?_
          refine ab_istore d_TH_step_158 (Nat.le_of_ble_eq_true rfl) (Nat.le_of_ble_eq_true rfl) rfl ?_
          change ab_W _ _ _ G5 160 [some (vR a), some (vz p), some (vz wi), some (vz i), some (vz ((NW i) % 1024)), some (vz 1), some (vz (Rs p))] [] _
          have jv_ := jso.vv (vb := (Rs p)) jro (by omega) hsu (by omega) (Or.inr ⟨by omega, rfl⟩)
          refine ab_iload d_TH_step_160 rfl ?_
          refine zz_iconst d_TH_step_162 ?_
          refine zz_icmp_ne (tgt := 186) d_TH_step_163 (by decide) (by omega) (by decide) (fun c11 => ?_) (fun c11 => ?_)
          · refine ab_iload d_TH_step_186 rfl ?_
            refine zz_iconst d_TH_step_188 ?_
            refine zz_icmp_le (tgt := 202) d_TH_step_189 (by decide) (by omega) (by decide) (fun c12 => ?_) (fun c12 => ?_)
            · refine ab_goto (tgt := 258) d_TH_step_202 (by decide) ?_
              refine zz_iinc d_TH_step_258 rfl (Nat.le_of_ble_eq_true rfl) (Nat.le_of_ble_eq_true rfl) rfl ?_
              change ab_W _ _ _ G5 261 [some (vR a), some (vz p), some (vz wi), some (vz (i + 1)), some (vz ((NW i) % 1024)), some (vz 1), some (vz (Rs p))] [] _
              refine ab_goto (tgt := 10) d_TH_step_261 (by decide) ?_
              refine ab_less (L' := [some (vR a), some (vz p), some (vz wi), some (vz (i + 1)), none, none, none]) (fun i v h => by rcases i with _ | _ | _ | _ | _ | _ | _ | i <;> first | exact h | (simp at h)) ?_
              exact ih (tc := tc) (fo := fo) (stp := (stp + 1)) (SP := SP) (WK := W6) (TN := TN) (TS := TS) (SE := SE) (SK := SK) (i := (i + 1)) ha hsp hwk hnw htn hnsp htsp hse hstk hq hki hne hot hra hs hco hre hho (by omega) (by omega) jse jtn jts jsp jspo (by omega) (jso.skip jro (by omega) (jv_.1 (by omega))) (by omega) hfr hlen hsl (by omega) hk0
            · refine ab_aload_n d_TH_step_192 rfl ?_
              refine ab_iload d_TH_step_193 rfl ?_
              refine zz_sipush d_TH_step_195 (by decide) ?_
              refine zz_iadd d_TH_step_198 ?_
              refine ab_callV (d' := d - 1) (as := [vz (((NW i) % 1024) + 1024)]) (st := []) (r := _) (z_TH_put (o := o) (q := q) (lq := lq) (ki := ki) (ne := ne) (ot := ot) (cnt := cnt) (fi := fi) (la := la) (ra := ra) (ru := ru) (gr := gr) (wi := wi) (sz := sz) (fl := fl) (ve := ve) (mi := mi) (na := na) (nl := nl) (s := s) (a := a) (sp := sp) (wk := wk) (nw := nw) (tn := tn) (nsp := nsp) (tsp := tsp) (se := se) (stk := stk) (nc := nc) (tc := tc) (sta := sta) (fo := fo) (hw := hw) (fy := fy) (stp := (stp + 1)) (WK := W6) (NW := NW) (TN := TN) (NS := NS) (TS := TS) (SE := SE) (l1 := l1) (l2 := l2) (l3 := l3) (l4 := l4) (e := (((NW i) % 1024) + 1024)) ha hwk hnw hnsp htn htsp hse hq (by omega) (by omega) (by omega) jg1 (by omega) jse (by omega) jtn jts (by omega) (tho_w (by omega) jk) (by omega) (by omega)) (fun oc G2 h => by rcases h with ⟨h, _⟩ | ⟨h, _⟩ | ⟨_, _, _, _, h, _⟩ <;> exact ⟨_, h⟩) (by omega) m_TH_put ml_TH_128 im_TH_put se_TH_put c_TH ha.2.2 (Nat.le_of_ble_eq_true rfl) d_TH_step_199 rfl ?_
              intro v G13 hq
              rcases hq with ⟨hv, hGe, hq14⟩ | ⟨hv, hGe, hq15, hq16⟩ | ⟨SE217, TN218, TS219, tc220, hv, hfk, hlk, hsk, hNa, hNwk, hNnw, hNnsp, hNtn, hNtsp, hNse, hq21, hq22, hq23, hq24, hq25, hq26⟩
              · cases hv
                rw [hGe]
                change ab_W _ _ _ G5 202 [some (vR a), some (vz p), some (vz wi), some (vz i), some (vz ((NW i) % 1024)), some (vz 1), some (vz (Rs p))] [] _
                refine ab_goto (tgt := 258) d_TH_step_202 (by decide) ?_
                refine zz_iinc d_TH_step_258 rfl (Nat.le_of_ble_eq_true rfl) (Nat.le_of_ble_eq_true rfl) rfl ?_
                change ab_W _ _ _ G5 261 [some (vR a), some (vz p), some (vz wi), some (vz (i + 1)), some (vz ((NW i) % 1024)), some (vz 1), some (vz (Rs p))] [] _
                refine ab_goto (tgt := 10) d_TH_step_261 (by decide) ?_
                refine ab_less (L' := [some (vR a), some (vz p), some (vz wi), some (vz (i + 1)), none, none, none]) (fun i v h => by rcases i with _ | _ | _ | _ | _ | _ | _ | i <;> first | exact h | (simp at h)) ?_
                exact ih (tc := tc) (fo := fo) (stp := (stp + 1)) (SP := SP) (WK := W6) (TN := TN) (TS := TS) (SE := SE) (SK := SK) (i := (i + 1)) ha hsp hwk hnw htn hnsp htsp hse hstk hq hki hne hot hra hs hco hre hho (by omega) (by omega) jse jtn jts jsp jspo (by omega) (jso.wait jro (by omega) hsu (by omega) (jv_.2 (by omega)) (by omega) (by omega) hk_ (by omega) hc_ (Or.inl ⟨hq14, rfl, rfl, rfl, rfl⟩)) (by omega) hfr hlen hsl (by omega) hk0
              · cases hv
                rw [hGe]
                change ab_W _ _ _ G5 202 [some (vR a), some (vz p), some (vz wi), some (vz i), some (vz ((NW i) % 1024)), some (vz 1), some (vz (Rs p))] [] _
                exfalso
                have hrm_ := jso.room hkk (x := NW i % 1024) (by omega) hq15
                omega
              · cases hv
                have hsp := hfk.get hsp (by decide)
                have hstk := hfk.get hstk (by decide)
                have hq := hfk.get hq (by simp only [List.mem_cons, List.not_mem_nil, or_false]; omega)
                have hki := hfk.get hki (by simp only [List.mem_cons, List.not_mem_nil, or_false]; omega)
                have hne := hfk.get hne (by simp only [List.mem_cons, List.not_mem_nil, or_false]; omega)
                have hot := hfk.get hot (by simp only [List.mem_cons, List.not_mem_nil, or_false]; omega)
                have hra := hfk.get hra (by simp only [List.mem_cons, List.not_mem_nil, or_false]; omega)
                have hs := hfk.get hs (by decide)
                have hco := hfk.get hco (by decide)
                have hre := hfk.get hre (by decide)
                have hho := hfk.get hho (by decide)
                have hfr := hfr.tr hfk (by decide)
                have hlen := hlk.trans hlen
                have hsl := hsk.trans hsl
                have ha := hNa
                have hwk := hNwk
                have hnw := hNnw
                have hnsp := hNnsp
                have htn := hNtn
                have htsp := hNtsp
                have hse := hNse
                change ab_W _ _ _ G13 202 [some (vR a), some (vz p), some (vz wi), some (vz i), some (vz ((NW i) % 1024)), some (vz 1), some (vz (Rs p))] [] _
                refine ab_goto (tgt := 258) d_TH_step_202 (by decide) ?_
                refine zz_iinc d_TH_step_258 rfl (Nat.le_of_ble_eq_true rfl) (Nat.le_of_ble_eq_true rfl) rfl ?_
                change ab_W _ _ _ G13 261 [some (vR a), some (vz p), some (vz wi), some (vz (i + 1)), some (vz ((NW i) % 1024)), some (vz 1), some (vz (Rs p))] [] _
                refine ab_goto (tgt := 10) d_TH_step_261 (by decide) ?_
                refine ab_less (L' := [some (vR a), some (vz p), some (vz wi), some (vz (i + 1)), none, none, none]) (fun i v h => by rcases i with _ | _ | _ | _ | _ | _ | _ | i <;> first | exact h | (simp at h)) ?_
                exact ih (tc := tc220) (fo := fo) (stp := (stp + 1)) (SP := SP) (WK := W6) (TN := TN218) (TS := TS219) (SE := SE217) (SK := SK) (i := (i + 1)) ha hsp hwk hnw htn hnsp htsp hse hstk hq hki hne hot hra hs hco hre hho (by omega) (by omega) hq22 hq23 hq24 jsp jspo (by omega) (jso.wait jro (by omega) hsu (by omega) (jv_.2 (by omega)) (by omega) (by omega) hk_ (by omega) hc_ (Or.inr ⟨hq25, by omega⟩)) (by omega) hfr hlen hsl (by omega) hk0
          · have jw_ := jv_.2 (by omega)
            have jwn_ := jw_.2.1
            have jw1_ := jw_.1
            rw [show (Rs p) = 1 by omega] at jw1_ jwn_
            refine ab_aload_n d_TH_step_166 rfl ?_
            refine ab_aload_n d_TH_step_167 rfl ?_
            refine ab_getf (fs := [vR sp, vR wk, vR nw, vR tn, vR nsp, vR tsp, vz nc, vz tc, vR se, vz sta, vR stk, vz fo, vR q, vR s, vz hw, vz fy, vj (stp + 1)]) f_TH_36 d_TH_step_168 ha.2.2 rfl ?_
            refine ab_getf (fs := [vR ki, vR ne, vR ot, vz cnt, vz fi, vz la, vR ra, vz ru, vz gr, vz wi, vz sz, vz fl, vz ve, vz mi, vR na, vR nl]) f_TH_125 d_TH_step_171 hq.2.2 rfl ?_
            refine ab_iload d_TH_step_174 rfl ?_
            refine zz_iald d_TH_step_176 hne (by omega) ?_
            have hq27 := hp.n ((NW i) % 1024) (by omega) (by omega)
            refine ab_iload_n d_TH_step_177 rfl ?_
            refine zz_iconst d_TH_step_178 ?_
            refine zz_iadd d_TH_step_179 ?_
            refine ab_callV (d' := d - 1) (as := [vz (N ((NW i) % 1024)), vz (p + 1)]) (st := []) (r := _) (z_TH_follow (o := o) (q := q) (lq := lq) (ki := ki) (ne := ne) (ot := ot) (cnt := cnt) (fi := fi) (la := la) (ra := ra) (ru := ru) (gr := gr) (wi := wi) (sz := sz) (fl := fl) (ve := ve) (mi := mi) (na := na) (nl := nl) (K := K) (N := N) (O := O) (RR := RR) (nr := nr) (s := s) (by_ := by_) (co := co) (re := re) (ho := ho) (n := n) (C := C) (Rs := Rs) (H := H) (mc := mc) (a := a) (sp := sp) (wk := wk) (nw := nw) (tn := tn) (nsp := nsp) (tsp := tsp) (se := se) (stk := stk) (nc := nc) (tc := tc) (sta := sta) (fo := fo) (hw := hw) (fy := fy) (stp := (stp + 1)) (SP := SP) (WK := W6) (NW := NW) (TN := TN) (NS := NS) (TS := TS) (SE := SE) (SK := SK) (l1 := l1) (l2 := l2) (l3 := l3) (l4 := l4) (p := (p + 1)) (x := (N ((NW i) % 1024))) (st := (NS (i * wi))) (Mw := W_) (s0 := s_) (gw := g_) (Lw := L_) ha hsp hwk hnw htn hnsp htsp hse hstk hq hki hne hot hra hs hco hre hho (by omega) hp hr (by omega) hsu (by omega) (by omega) hkk (by omega) (by omega) (by omega) jg1 (by omega) jse jtn jts jso.ff jso.2.2.2.2.2.2.2 (jso.gA hk_) hk_.1 jw1_ (by omega)) (fun oc G2 h => by rcases h with ⟨_, _, _, _, _, _, _, h, _⟩ <;> exact ⟨_, h⟩) (by omega) m_TH_follow ml_TH_84 im_TH_follow se_TH_follow c_TH ha.2.2 (Nat.le_of_ble_eq_true rfl) d_TH_step_180 rfl ?_
            intro v G28 hq
            rcases hq with ⟨tc229, st230, SE231, TN232, TS233, SK234, WK235, hv, hfk, hlk, hsk, hNa, hNsp, hNwk, hNnw, hNtn, hNnsp, hNtsp, hNse, hNstk, hq36, hq37, hq38, hq39, hq40, hq41, hq42, hq43, hq44⟩
            cases hv
            have hq := hfk.get hq (by simp only [List.mem_cons, List.not_mem_nil, or_false]; omega)
            have hki := hfk.get hki (by simp only [List.mem_cons, List.not_mem_nil, or_false]; omega)
            have hne := hfk.get hne (by simp only [List.mem_cons, List.not_mem_nil, or_false]; omega)
            have hot := hfk.get hot (by simp only [List.mem_cons, List.not_mem_nil, or_false]; omega)
            have hra := hfk.get hra (by simp only [List.mem_cons, List.not_mem_nil, or_false]; omega)
            have hs := hfk.get hs (by decide)
            have hco := hfk.get hco (by decide)
            have hre := hfk.get hre (by decide)
            have hho := hfk.get hho (by decide)
            have hfr := hfr.tr hfk (by decide)
            have hlen := hlk.trans hlen
            have hsl := hsk.trans hsl
            have ha := hNa
            have hsp := hNsp
            have hwk := hNwk
            have hnw := hNnw
            have htn := hNtn
            have hnsp := hNnsp
            have htsp := hNtsp
            have hse := hNse
            have hstk := hNstk
            change ab_W _ _ _ G28 183 [some (vR a), some (vz p), some (vz wi), some (vz i), some (vz ((NW i) % 1024)), some (vz 1), some (vz (Rs p))] [] _
            refine ab_goto (tgt := 202) d_TH_step_183 (by decide) ?_
            refine ab_goto (tgt := 258) d_TH_step_202 (by decide) ?_
            refine zz_iinc d_TH_step_258 rfl (Nat.le_of_ble_eq_true rfl) (Nat.le_of_ble_eq_true rfl) rfl ?_
            change ab_W _ _ _ G28 261 [some (vR a), some (vz p), some (vz wi), some (vz (i + 1)), some (vz ((NW i) % 1024)), some (vz 1), some (vz (Rs p))] [] _
            refine ab_goto (tgt := 10) d_TH_step_261 (by decide) ?_
            refine ab_less (L' := [some (vR a), some (vz p), some (vz wi), some (vz (i + 1)), none, none, none]) (fun i v h => by rcases i with _ | _ | _ | _ | _ | _ | _ | i <;> first | exact h | (simp at h)) ?_
            exact ih (tc := tc229) (fo := fo) (stp := st230) (SP := SP) (WK := WK235) (TN := TN232) (TS := TS233) (SE := SE231) (SK := SK234) (i := (i + 1)) ha hsp hwk hnw htn hnsp htsp hse hstk hq hki hne hot hra hs hco hre hho (by omega) (by omega) hq39 hq40 hq41 jsp jspo (by omega) (jso.move jro (by omega) hq42 hc_ hsu (by omega)) (by omega) hfr hlen hsl (by omega) hk0
        · refine ab_aload_n d_TH_step_93 rfl ?_
          refine ab_getf (fs := [vR sp, vR wk, vR nw, vR tn, vR nsp, vR tsp, vz nc, vz tc, vR se, vz sta, vR stk, vz fo, vR q, vR s, vz hw, vz fy, vj (stp + 1)]) f_TH_36 d_TH_step_94 ha.2.2 rfl ?_
          refine ab_getf (fs := [vR ki, vR ne, vR ot, vz cnt, vz fi, vz la, vR ra, vz ru, vz gr, vz wi, vz sz, vz fl, vz ve, vz mi, vR na, vR nl]) f_TH_115 d_TH_step_97 hq.2.2 rfl ?_
          refine ab_iload d_TH_step_100 rfl ?_
          refine zz_iald d_TH_step_102 hki (by omega) ?_
          have hq45 := hp.k ((NW i) % 1024) (by omega) (by omega)
          refine zz_bipush d_TH_step_103 (by decide) ?_
          refine zz_icmp_eq (tgt := 205) d_TH_step_105 (by decide) (by omega) (by decide) (fun c46 => ?_) (fun c46 => ?_)
          · refine ab_aload_n d_TH_step_205 rfl ?_
            refine ab_getf (fs := [vR sp, vR wk, vR nw, vR tn, vR nsp, vR tsp, vz nc, vz tc, vR se, vz sta, vR stk, vz fo, vR q, vR s, vz hw, vz fy, vj (stp + 1)]) f_TH_44 d_TH_step_206 ha.2.2 rfl ?_
            refine zz_iconst d_TH_step_209 ?_
            refine zz_icmp_ne (tgt := 224) d_TH_step_210 (by decide) (by omega) (by decide) (fun c47 => ?_) (fun c47 => ?_)
            · refine ab_aload_n d_TH_step_224 rfl ?_
              refine ab_getf (fs := [vR sp, vR wk, vR nw, vR tn, vR nsp, vR tsp, vz nc, vz tc, vR se, vz sta, vR stk, vz fo, vR q, vR s, vz hw, vz fy, vj (stp + 1)]) f_TH_15 d_TH_step_225 ha.2.2 rfl ?_
              refine zz_iconst d_TH_step_228 ?_
              refine ab_aload_n d_TH_step_229 rfl ?_
              refine ab_getf (fs := [vR sp, vR wk, vR nw, vR tn, vR nsp, vR tsp, vz nc, vz tc, vR se, vz sta, vR stk, vz fo, vR q, vR s, vz hw, vz fy, vj (stp + 1)]) f_TH_9 d_TH_step_230 ha.2.2 rfl ?_
              refine zz_iconst d_TH_step_233 ?_
              refine ab_iload_n d_TH_step_234 rfl ?_
              refine zz_copy mj_TH_109 d_TH_step_235 hwk hsp (hsp.2.1 (by decide)) (by omega) (Nat.le_of_ble_eq_true rfl) (by omega) ?_
              obtain ⟨G48, eG48⟩ : ∃ z : ab_G, z = List.set G5 sp (za 20 (zcpy W6 SP 0 0 wi)) := ⟨_, rfl⟩
              have ha := ha.keep hsp eG48 (by decide)
              have hwk := hwk.keep hsp eG48 (by decide)
              have hnw := hnw.keep hsp eG48 (by omega)
              have htn := htn.keep hsp eG48 (by omega)
              have hnsp := hnsp.keep hsp eG48 (by omega)
              have htsp := htsp.keep hsp eG48 (by omega)
              have hse := hse.keep hsp eG48 (by decide)
              have hstk := hstk.keep hsp eG48 (by decide)
              have hq := hq.keep hsp eG48 (by omega)
              have hki := hki.keep hsp eG48 (by omega)
              have hne := hne.keep hsp eG48 (by omega)
              have hot := hot.keep hsp eG48 (by omega)
              have hra := hra.keep hsp eG48 (by omega)
              have hs := hs.keep hsp eG48 (by decide)
              have hco := hco.keep hsp eG48 (by decide)
              have hre := hre.keep hsp eG48 (by decide)
              have hho := hho.keep hsp eG48 (by decide)
              have hlen := (z_len eG48).trans hlen
              have hsl := (z_sl hsp eG48 rfl).trans hsl
              have hfr := hfr.wr hsp eG48 (by decide)
              have hsp := hsp.kept eG48
              change ab_W _ _ _ (List.set G5 sp (za 20 (zcpy W6 SP 0 0 wi))) 238 [some (vR a), some (vz p), some (vz wi), some (vz i), some (vz ((NW i) % 1024)), none, none] [] _
              rw [← eG48]
              refine ab_aload_n d_TH_step_238 rfl ?_
              refine ab_getf (fs := [vR sp, vR wk, vR nw, vR tn, vR nsp, vR tsp, vz nc, vz tc, vR se, vz sta, vR stk, vz fo, vR q, vR s, vz hw, vz fy, vj (stp + 1)]) f_TH_9 d_TH_step_239 ha.2.2 rfl ?_
              refine zz_iconst d_TH_step_242 ?_
              refine ab_iload_n d_TH_step_243 rfl ?_
              refine zz_iast d_TH_step_244 hsp (by omega) (hsp.2.1 (by decide)) ?_
              obtain ⟨G49, eG49⟩ : ∃ z : ab_G, z = List.set G48 sp (za 20 (zu (zcpy W6 SP 0 0 wi) 1 p)) := ⟨_, rfl⟩
              have ha := ha.keep hsp eG49 (by decide)
              have hwk := hwk.keep hsp eG49 (by decide)
              have hnw := hnw.keep hsp eG49 (by omega)
              have htn := htn.keep hsp eG49 (by omega)
              have hnsp := hnsp.keep hsp eG49 (by omega)
              have htsp := htsp.keep hsp eG49 (by omega)
              have hse := hse.keep hsp eG49 (by decide)
              have hstk := hstk.keep hsp eG49 (by decide)
              have hq := hq.keep hsp eG49 (by omega)
              have hki := hki.keep hsp eG49 (by omega)
              have hne := hne.keep hsp eG49 (by omega)
              have hot := hot.keep hsp eG49 (by omega)
              have hra := hra.keep hsp eG49 (by omega)
              have hs := hs.keep hsp eG49 (by decide)
              have hco := hco.keep hsp eG49 (by decide)
              have hre := hre.keep hsp eG49 (by decide)
              have hho := hho.keep hsp eG49 (by decide)
              have hlen := (z_len eG49).trans hlen
              have hsl := (z_sl hsp eG49 rfl).trans hsl
              have hfr := hfr.wr hsp eG49 (by decide)
              have hsp := hsp.kept eG49
              change ab_W _ _ _ (List.set G48 sp (za 20 (zu (zcpy W6 SP 0 0 wi) 1 p))) 245 [some (vR a), some (vz p), some (vz wi), some (vz i), some (vz ((NW i) % 1024)), none, none] [] _
              rw [← eG49]
              refine ab_aload_n d_TH_step_245 rfl ?_
              refine zz_iconst d_TH_step_246 ?_
              refine ab_putf (fs := [vR sp, vR wk, vR nw, vR tn, vR nsp, vR tsp, vz nc, vz tc, vR se, vz sta, vR stk, vz fo, vR q, vR s, vz hw, vz fy, vj (stp + 1)]) f_TH_61 (Or.inl rfl) d_TH_step_247 ha.2.2 (Nat.le_of_ble_eq_true rfl) (ab_fbz (by decide)) (ha.2.1 (by decide)) ?_
              obtain ⟨G50, eG50⟩ : ∃ z : ab_G, z = List.set G49 a (ab_ob 11 [vR sp, vR wk, vR nw, vR tn, vR nsp, vR tsp, vz nc, vz tc, vR se, vz sta, vR stk, vz 1, vR q, vR s, vz hw, vz fy, vj (stp + 1)]) := ⟨_, rfl⟩
              have hsp := hsp.keep ha eG50 (by decide)
              have hwk := hwk.keep ha eG50 (by decide)
              have hnw := hnw.keep ha eG50 (by omega)
              have htn := htn.keep ha eG50 (by omega)
              have hnsp := hnsp.keep ha eG50 (by omega)
              have htsp := htsp.keep ha eG50 (by omega)
              have hse := hse.keep ha eG50 (by decide)
              have hstk := hstk.keep ha eG50 (by decide)
              have hq := hq.keep ha eG50 (by omega)
              have hki := hki.keep ha eG50 (by omega)
              have hne := hne.keep ha eG50 (by omega)
              have hot := hot.keep ha eG50 (by omega)
              have hra := hra.keep ha eG50 (by omega)
              have hs := hs.keep ha eG50 (by decide)
              have hco := hco.keep ha eG50 (by decide)
              have hre := hre.keep ha eG50 (by decide)
              have hho := hho.keep ha eG50 (by decide)
              have hlen := (z_len eG50).trans hlen
              have hsl := (z_sl ha eG50 rfl).trans hsl
              have hfr := hfr.wr ha eG50 (by decide)
              have ha := ha.kept eG50
              change ab_W _ _ _ (List.set G49 a (ab_ob 11 [vR sp, vR wk, vR nw, vR tn, vR nsp, vR tsp, vz nc, vz tc, vR se, vz sta, vR stk, vz 1, vR q, vR s, vz hw, vz fy, vj (stp + 1)])) 250 [some (vR a), some (vz p), some (vz wi), some (vz i), some (vz ((NW i) % 1024)), none, none] [] _
              rw [← eG50]
              refine ab_aload_n d_TH_step_250 rfl ?_
              refine ab_getf (fs := [vR sp, vR wk, vR nw, vR tn, vR nsp, vR tsp, vz nc, vz tc, vR se, vz sta, vR stk, vz 1, vR q, vR s, vz hw, vz fy, vj (stp + 1)]) f_TH_54 d_TH_step_251 ha.2.2 rfl ?_
              refine zz_if_eq (tgt := 258) d_TH_step_254 (by decide) (by omega) (fun c51 => ?_) (fun c51 => ?_)
              · refine zz_iinc d_TH_step_258 rfl (Nat.le_of_ble_eq_true rfl) (Nat.le_of_ble_eq_true rfl) rfl ?_
                change ab_W _ _ _ G50 261 [some (vR a), some (vz p), some (vz wi), some (vz (i + 1)), some (vz ((NW i) % 1024)), none, none] [] _
                refine ab_goto (tgt := 10) d_TH_step_261 (by decide) ?_
                refine ab_less (L' := [some (vR a), some (vz p), some (vz wi), some (vz (i + 1)), none, none, none]) (fun i v h => by rcases i with _ | _ | _ | _ | _ | _ | _ | i <;> first | exact h | (simp at h)) ?_
                exact ih (tc := tc) (fo := 1) (stp := (stp + 1)) (SP := (zu (zcpy W6 SP 0 0 wi) 1 p)) (WK := W6) (TN := TN) (TS := TS) (SE := SE) (SK := SK) (i := (i + 1)) ha hsp hwk hnw htn hnsp htsp hse hstk hq hki hne hot hra hs hco hre hho (by omega) (by omega) jse jtn jts (rgs_zu (rgs_cpy jg1 jsp (by omega)) (by omega)) (spo_arr jg1 jg2 (by omega) (by omega)) (by omega) (jso.long jro (by omega) (by omega) (by omega) (by omega) (by omega) hc_ hk_ (by omega) hsu (by omega) hkk jnw (fun z a b => (hp.k z a b).1)) (by omega) hfr hlen hsl (by omega) hk0
              · refine ab_vret rfl d_TH_step_257 ?_
                exact hk0 _ _ _ _ _ _ _ _ _ _ ha hsp hwk hnw htn hnsp htsp hse hstk (by omega) (by omega) (by first | exact (rgs_zu (rgs_cpy jg1 jsp (by omega)) (by omega)) | exact rgs_w (rgs_zu (rgs_cpy jg1 jsp (by omega)) (by omega)) (by omega)) (by first | exact jse | exact rgs_w jse (by omega)) (by exact jtn) (by exact jts) (by exact (spo_arr jg1 jg2 (by omega) (by omega))) (by exact jso.first jro (by omega) (by omega) (by omega) (by omega) (by omega) hc_ hk_ (by omega)) (by omega) hfr hlen hsl
            · refine ab_iload_n d_TH_step_213 rfl ?_
              refine ab_aload_n d_TH_step_214 rfl ?_
              refine ab_getf (fs := [vR sp, vR wk, vR nw, vR tn, vR nsp, vR tsp, vz nc, vz tc, vR se, vz sta, vR stk, vz fo, vR q, vR s, vz hw, vz fy, vj (stp + 1)]) f_TH_40 d_TH_step_215 ha.2.2 rfl ?_
              refine ab_getf (fs := [vR by_, vR co, vR re, vR ho, vz n]) f_TH_67 d_TH_step_218 hs.2.2 rfl ?_
              refine zz_icmp_ne (tgt := 258) d_TH_step_221 (by decide) (by omega) (by omega) (fun c52 => ?_) (fun c52 => ?_)
              · refine zz_iinc d_TH_step_258 rfl (Nat.le_of_ble_eq_true rfl) (Nat.le_of_ble_eq_true rfl) rfl ?_
                change ab_W _ _ _ G5 261 [some (vR a), some (vz p), some (vz wi), some (vz (i + 1)), some (vz ((NW i) % 1024)), none, none] [] _
                refine ab_goto (tgt := 10) d_TH_step_261 (by decide) ?_
                refine ab_less (L' := [some (vR a), some (vz p), some (vz wi), some (vz (i + 1)), none, none, none]) (fun i v h => by rcases i with _ | _ | _ | _ | _ | _ | _ | i <;> first | exact h | (simp at h)) ?_
                exact ih (tc := tc) (fo := fo) (stp := (stp + 1)) (SP := SP) (WK := W6) (TN := TN) (TS := TS) (SE := SE) (SK := SK) (i := (i + 1)) ha hsp hwk hnw htn hnsp htsp hse hstk hq hki hne hot hra hs hco hre hho (by omega) (by omega) jse jtn jts jsp jspo (by omega) (jso.miss jro (by omega) (by omega) (by omega) (by omega)) (by omega) hfr hlen hsl (by omega) hk0
              · refine ab_aload_n d_TH_step_224 rfl ?_
                refine ab_getf (fs := [vR sp, vR wk, vR nw, vR tn, vR nsp, vR tsp, vz nc, vz tc, vR se, vz sta, vR stk, vz fo, vR q, vR s, vz hw, vz fy, vj (stp + 1)]) f_TH_15 d_TH_step_225 ha.2.2 rfl ?_
                refine zz_iconst d_TH_step_228 ?_
                refine ab_aload_n d_TH_step_229 rfl ?_
                refine ab_getf (fs := [vR sp, vR wk, vR nw, vR tn, vR nsp, vR tsp, vz nc, vz tc, vR se, vz sta, vR stk, vz fo, vR q, vR s, vz hw, vz fy, vj (stp + 1)]) f_TH_9 d_TH_step_230 ha.2.2 rfl ?_
                refine zz_iconst d_TH_step_233 ?_
                refine ab_iload_n d_TH_step_234 rfl ?_
                refine zz_copy mj_TH_109 d_TH_step_235 hwk hsp (hsp.2.1 (by decide)) (by omega) (Nat.le_of_ble_eq_true rfl) (by omega) ?_
                obtain ⟨G53, eG53⟩ : ∃ z : ab_G, z = List.set G5 sp (za 20 (zcpy W6 SP 0 0 wi)) := ⟨_, rfl⟩
                have ha := ha.keep hsp eG53 (by decide)
                have hwk := hwk.keep hsp eG53 (by decide)
                have hnw := hnw.keep hsp eG53 (by omega)
                have htn := htn.keep hsp eG53 (by omega)
                have hnsp := hnsp.keep hsp eG53 (by omega)
                have htsp := htsp.keep hsp eG53 (by omega)
                have hse := hse.keep hsp eG53 (by decide)
                have hstk := hstk.keep hsp eG53 (by decide)
                have hq := hq.keep hsp eG53 (by omega)
                have hki := hki.keep hsp eG53 (by omega)
                have hne := hne.keep hsp eG53 (by omega)
                have hot := hot.keep hsp eG53 (by omega)
                have hra := hra.keep hsp eG53 (by omega)
                have hs := hs.keep hsp eG53 (by decide)
                have hco := hco.keep hsp eG53 (by decide)
                have hre := hre.keep hsp eG53 (by decide)
                have hho := hho.keep hsp eG53 (by decide)
                have hlen := (z_len eG53).trans hlen
                have hsl := (z_sl hsp eG53 rfl).trans hsl
                have hfr := hfr.wr hsp eG53 (by decide)
                have hsp := hsp.kept eG53
                change ab_W _ _ _ (List.set G5 sp (za 20 (zcpy W6 SP 0 0 wi))) 238 [some (vR a), some (vz p), some (vz wi), some (vz i), some (vz ((NW i) % 1024)), none, none] [] _
                rw [← eG53]
                refine ab_aload_n d_TH_step_238 rfl ?_
                refine ab_getf (fs := [vR sp, vR wk, vR nw, vR tn, vR nsp, vR tsp, vz nc, vz tc, vR se, vz sta, vR stk, vz fo, vR q, vR s, vz hw, vz fy, vj (stp + 1)]) f_TH_9 d_TH_step_239 ha.2.2 rfl ?_
                refine zz_iconst d_TH_step_242 ?_
                refine ab_iload_n d_TH_step_243 rfl ?_
                refine zz_iast d_TH_step_244 hsp (by omega) (hsp.2.1 (by decide)) ?_
                obtain ⟨G54, eG54⟩ : ∃ z : ab_G, z = List.set G53 sp (za 20 (zu (zcpy W6 SP 0 0 wi) 1 p)) := ⟨_, rfl⟩
                have ha := ha.keep hsp eG54 (by decide)
                have hwk := hwk.keep hsp eG54 (by decide)
                have hnw := hnw.keep hsp eG54 (by omega)
                have htn := htn.keep hsp eG54 (by omega)
                have hnsp := hnsp.keep hsp eG54 (by omega)
                have htsp := htsp.keep hsp eG54 (by omega)
                have hse := hse.keep hsp eG54 (by decide)
                have hstk := hstk.keep hsp eG54 (by decide)
                have hq := hq.keep hsp eG54 (by omega)
                have hki := hki.keep hsp eG54 (by omega)
                have hne := hne.keep hsp eG54 (by omega)
                have hot := hot.keep hsp eG54 (by omega)
                have hra := hra.keep hsp eG54 (by omega)
                have hs := hs.keep hsp eG54 (by decide)
                have hco := hco.keep hsp eG54 (by decide)
                have hre := hre.keep hsp eG54 (by decide)
                have hho := hho.keep hsp eG54 (by decide)
                have hlen := (z_len eG54).trans hlen
                have hsl := (z_sl hsp eG54 rfl).trans hsl
                have hfr := hfr.wr hsp eG54 (by decide)
                have hsp := hsp.kept eG54
                change ab_W _ _ _ (List.set G53 sp (za 20 (zu (zcpy W6 SP 0 0 wi) 1 p))) 245 [some (vR a), some (vz p), some (vz wi), some (vz i), some (vz ((NW i) % 1024)), none, none] [] _
                rw [← eG54]
                refine ab_aload_n d_TH_step_245 rfl ?_
                refine zz_iconst d_TH_step_246 ?_
                refine ab_putf (fs := [vR sp, vR wk, vR nw, vR tn, vR nsp, vR tsp, vz nc, vz tc, vR se, vz sta, vR stk, vz fo, vR q, vR s, vz hw, vz fy, vj (stp + 1)]) f_TH_61 (Or.inl rfl) d_TH_step_247 ha.2.2 (Nat.le_of_ble_eq_true rfl) (ab_fbz (by decide)) (ha.2.1 (by decide)) ?_
                obtain ⟨G55, eG55⟩ : ∃ z : ab_G, z = List.set G54 a (ab_ob 11 [vR sp, vR wk, vR nw, vR tn, vR nsp, vR tsp, vz nc, vz tc, vR se, vz sta, vR stk, vz 1, vR q, vR s, vz hw, vz fy, vj (stp + 1)]) := ⟨_, rfl⟩
                have hsp := hsp.keep ha eG55 (by decide)
                have hwk := hwk.keep ha eG55 (by decide)
                have hnw := hnw.keep ha eG55 (by omega)
                have htn := htn.keep ha eG55 (by omega)
                have hnsp := hnsp.keep ha eG55 (by omega)
                have htsp := htsp.keep ha eG55 (by omega)
                have hse := hse.keep ha eG55 (by decide)
                have hstk := hstk.keep ha eG55 (by decide)
                have hq := hq.keep ha eG55 (by omega)
                have hki := hki.keep ha eG55 (by omega)
                have hne := hne.keep ha eG55 (by omega)
                have hot := hot.keep ha eG55 (by omega)
                have hra := hra.keep ha eG55 (by omega)
                have hs := hs.keep ha eG55 (by decide)
                have hco := hco.keep ha eG55 (by decide)
                have hre := hre.keep ha eG55 (by decide)
                have hho := hho.keep ha eG55 (by decide)
                have hlen := (z_len eG55).trans hlen
                have hsl := (z_sl ha eG55 rfl).trans hsl
                have hfr := hfr.wr ha eG55 (by decide)
                have ha := ha.kept eG55
                change ab_W _ _ _ (List.set G54 a (ab_ob 11 [vR sp, vR wk, vR nw, vR tn, vR nsp, vR tsp, vz nc, vz tc, vR se, vz sta, vR stk, vz 1, vR q, vR s, vz hw, vz fy, vj (stp + 1)])) 250 [some (vR a), some (vz p), some (vz wi), some (vz i), some (vz ((NW i) % 1024)), none, none] [] _
                rw [← eG55]
                refine ab_aload_n d_TH_step_250 rfl ?_
                refine ab_getf (fs := [vR sp, vR wk, vR nw, vR tn, vR nsp, vR tsp, vz nc, vz tc, vR se, vz sta, vR stk, vz 1, vR q, vR s, vz hw, vz fy, vj (stp + 1)]) f_TH_54 d_TH_step_251 ha.2.2 rfl ?_
                refine zz_if_eq (tgt := 258) d_TH_step_254 (by decide) (by omega) (fun c56 => ?_) (fun c56 => ?_)
                · refine zz_iinc d_TH_step_258 rfl (Nat.le_of_ble_eq_true rfl) (Nat.le_of_ble_eq_true rfl) rfl ?_
                  change ab_W _ _ _ G55 261 [some (vR a), some (vz p), some (vz wi), some (vz (i + 1)), some (vz ((NW i) % 1024)), none, none] [] _
                  refine ab_goto (tgt := 10) d_TH_step_261 (by decide) ?_
                  refine ab_less (L' := [some (vR a), some (vz p), some (vz wi), some (vz (i + 1)), none, none, none]) (fun i v h => by rcases i with _ | _ | _ | _ | _ | _ | _ | i <;> first | exact h | (simp at h)) ?_
                  exact ih (tc := tc) (fo := 1) (stp := (stp + 1)) (SP := (zu (zcpy W6 SP 0 0 wi) 1 p)) (WK := W6) (TN := TN) (TS := TS) (SE := SE) (SK := SK) (i := (i + 1)) ha hsp hwk hnw htn hnsp htsp hse hstk hq hki hne hot hra hs hco hre hho (by omega) (by omega) jse jtn jts (rgs_zu (rgs_cpy jg1 jsp (by omega)) (by omega)) (spo_arr jg1 jg2 (by omega) (by omega)) (by omega) (jso.long jro (by omega) (by omega) (by omega) (by omega) (by omega) hc_ hk_ (by omega) hsu (by omega) hkk jnw (fun z a b => (hp.k z a b).1)) (by omega) hfr hlen hsl (by omega) hk0
                · refine ab_vret rfl d_TH_step_257 ?_
                  exact hk0 _ _ _ _ _ _ _ _ _ _ ha hsp hwk hnw htn hnsp htsp hse hstk (by omega) (by omega) (by first | exact (rgs_zu (rgs_cpy jg1 jsp (by omega)) (by omega)) | exact rgs_w (rgs_zu (rgs_cpy jg1 jsp (by omega)) (by omega)) (by omega)) (by first | exact jse | exact rgs_w jse (by omega)) (by exact jtn) (by exact jts) (by exact (spo_arr jg1 jg2 (by omega) (by omega))) (by exact jso.first jro (by omega) (by omega) (by omega) (by omega) (by omega) hc_ hk_ (by omega)) (by omega) hfr hlen hsl
          · have jk := tho_t jt (by omega)
            have jk0_ := (hp (NW i % 1024) (by omega) (by omega)).1
            refine ab_aload_n d_TH_step_108 rfl ?_
            refine ab_getf (fs := [vR sp, vR wk, vR nw, vR tn, vR nsp, vR tsp, vz nc, vz tc, vR se, vz sta, vR stk, vz fo, vR q, vR s, vz hw, vz fy, vj (stp + 1)]) f_TH_18 d_TH_step_109 ha.2.2 rfl ?_
            refine ab_iload_n d_TH_step_112 rfl ?_
            refine zz_iald d_TH_step_113 hnw (by omega) ?_
            refine zz_sipush d_TH_step_114 (by decide) ?_
            refine zz_icmp_lt (tgt := 124) d_TH_step_117 (by decide) (by omega) (by decide) (fun c57 => ?_) (fun c57 => absurd c57 (by omega))
            refine zz_iconst d_TH_step_124 ?_
            refine ab_istore d_TH_step_125 (Nat.le_of_ble_eq_true rfl) (Nat.le_of_ble_eq_true rfl) rfl ?_
            change ab_W _ _ _ G5 127 [some (vR a), some (vz p), some (vz wi), some (vz i), some (vz ((NW i) % 1024)), some (vz 0), none] [] _
            refine ab_iload d_TH_step_127 rfl ?_
            refine zz_if_eq (tgt := 144) d_TH_step_129 (by decide) (by decide) (fun c58 => ?_) (fun c58 => absurd c58 (by decide))
            refine ab_aload_n d_TH_step_144 rfl ?_
            refine ab_getf (fs := [vR sp, vR wk, vR nw, vR tn, vR nsp, vR tsp, vz nc, vz tc, vR se, vz sta, vR stk, vz fo, vR q, vR s, vz hw, vz fy, vj (stp + 1)]) f_TH_36 d_TH_step_145 ha.2.2 rfl ?_
            refine ab_iload d_TH_step_148 rfl ?_
            refine ab_aload_n d_TH_step_150 rfl ?_
            refine ab_getf (fs := [vR sp, vR wk, vR nw, vR tn, vR nsp, vR tsp, vz nc, vz tc, vR se, vz sta, vR stk, vz fo, vR q, vR s, vz hw, vz fy, vj (stp + 1)]) f_TH_40 d_TH_step_151 ha.2.2 rfl ?_
            refine ab_iload_n d_TH_step_154 rfl ?_
            refine ab_callV (d' := d - 1) (as := [vz ((NW i) % 1024), vR s, vz p]) (st := []) (r := _) (z_PR_bytesTaken (o := o) (q := q) (lq := lq) (ki := ki) (ne := ne) (ot := ot) (cnt := cnt) (fi := fi) (la := la) (ra := ra) (ru := ru) (gr := gr) (wi := wi) (sz := sz) (fl := fl) (ve := ve) (mi := mi) (na := na) (nl := nl) (K := K) (O := O) (RR := RR) (nr := nr) (s := s) (by_ := by_) (co := co) (re := re) (ho := ho) (n := n) (C := C) (Rs := Rs) (mc := mc) (x := ((NW i) % 1024)) (p := p) hq hki hot hra hs hco hre (by omega) (by omega) hp hr (by omega) hsu (by omega)) (fun oc G2 h => by rcases h with ⟨_, h, _⟩ <;> exact ⟨_, h⟩) (by omega) m_PR_bytesTaken ml_TH_121 im_PR_bytesTaken se_PR_bytesTaken c_PR hq.2.2 (Nat.le_of_ble_eq_true rfl) d_TH_step_155 rfl ?_
            intro v G59 hq
            rcases hq with ⟨v60, hv, hfk, hlk, hsk, hq61, hq62⟩
            cases hv
            have ha := hfk.get ha (by decide)
            have hsp := hfk.get hsp (by decide)
            have hwk := hfk.get hwk (by decide)
            have hnw := hfk.get hnw (by simp)
            have htn := hfk.get htn (by simp)
            have hnsp := hfk.get hnsp (by simp)
            have htsp := hfk.get htsp (by simp)
            have hse := hfk.get hse (by decide)
            have hstk := hfk.get hstk (by decide)
            have hq := hfk.get hq (by simp)
            have hki := hfk.get hki (by simp)
            have hne := hfk.get hne (by simp)
            have hot := hfk.get hot (by simp)
            have hra := hfk.get hra (by simp)
            have hs := hfk.get hs (by decide)
            have hco := hfk.get hco (by decide)
            have hre := hfk.get hre (by decide)
            have hho := hfk.get hho (by decide)
            have hfr := hfr.tr hfk (by decide)
            have hlen := hlk.trans hlen
            have hsl := hsk.trans hsl
            change ab_W _ _ _ G59 158 [some (vR a), some (vz p), some (vz wi), some (vz i), some (vz ((NW i) % 1024)), some (vz 0), none] [vz v60] _
            refine ab_istore d_TH_step_158 (Nat.le_of_ble_eq_true rfl) (Nat.le_of_ble_eq_true rfl) rfl ?_
            change ab_W _ _ _ G59 160 [some (vR a), some (vz p), some (vz wi), some (vz i), some (vz ((NW i) % 1024)), some (vz 0), some (vz v60)] [] _
            have jv_ := jso.vv (vb := v60) jro (by omega) hsu (by omega) (Or.inl ⟨by omega, by omega, hq61⟩)
            refine ab_iload d_TH_step_160 rfl ?_
            refine zz_iconst d_TH_step_162 ?_
            refine zz_icmp_ne (tgt := 186) d_TH_step_163 (by decide) (by omega) (by decide) (fun c63 => ?_) (fun c63 => ?_)
            · refine ab_iload d_TH_step_186 rfl ?_
              refine zz_iconst d_TH_step_188 ?_
              refine zz_icmp_le (tgt := 202) d_TH_step_189 (by decide) (by omega) (by decide) (fun c64 => ?_) (fun c64 => ?_)
              · refine ab_goto (tgt := 258) d_TH_step_202 (by decide) ?_
                refine zz_iinc d_TH_step_258 rfl (Nat.le_of_ble_eq_true rfl) (Nat.le_of_ble_eq_true rfl) rfl ?_
                change ab_W _ _ _ G59 261 [some (vR a), some (vz p), some (vz wi), some (vz (i + 1)), some (vz ((NW i) % 1024)), some (vz 0), some (vz v60)] [] _
                refine ab_goto (tgt := 10) d_TH_step_261 (by decide) ?_
                refine ab_less (L' := [some (vR a), some (vz p), some (vz wi), some (vz (i + 1)), none, none, none]) (fun i v h => by rcases i with _ | _ | _ | _ | _ | _ | _ | i <;> first | exact h | (simp at h)) ?_
                exact ih (tc := tc) (fo := fo) (stp := (stp + 1)) (SP := SP) (WK := W6) (TN := TN) (TS := TS) (SE := SE) (SK := SK) (i := (i + 1)) ha hsp hwk hnw htn hnsp htsp hse hstk hq hki hne hot hra hs hco hre hho (by omega) (by omega) jse jtn jts jsp jspo (by omega) (jso.skip jro (by omega) (jv_.1 (by omega))) (by omega) hfr hlen hsl (by omega) hk0
              · refine ab_aload_n d_TH_step_192 rfl ?_
                refine ab_iload d_TH_step_193 rfl ?_
                refine zz_sipush d_TH_step_195 (by decide) ?_
                refine zz_iadd d_TH_step_198 ?_
                refine ab_callV (d' := d - 1) (as := [vz (((NW i) % 1024) + 1024)]) (st := []) (r := _) (z_TH_put (o := o) (q := q) (lq := lq) (ki := ki) (ne := ne) (ot := ot) (cnt := cnt) (fi := fi) (la := la) (ra := ra) (ru := ru) (gr := gr) (wi := wi) (sz := sz) (fl := fl) (ve := ve) (mi := mi) (na := na) (nl := nl) (s := s) (a := a) (sp := sp) (wk := wk) (nw := nw) (tn := tn) (nsp := nsp) (tsp := tsp) (se := se) (stk := stk) (nc := nc) (tc := tc) (sta := sta) (fo := fo) (hw := hw) (fy := fy) (stp := (stp + 1)) (WK := W6) (NW := NW) (TN := TN) (NS := NS) (TS := TS) (SE := SE) (l1 := l1) (l2 := l2) (l3 := l3) (l4 := l4) (e := (((NW i) % 1024) + 1024)) ha hwk hnw hnsp htn htsp hse hq (by omega) (by omega) (by omega) jg1 (by omega) jse (by omega) jtn jts (by omega) (tho_w (by omega) jk) (by omega) (by omega)) (fun oc G2 h => by rcases h with ⟨h, _⟩ | ⟨h, _⟩ | ⟨_, _, _, _, h, _⟩ <;> exact ⟨_, h⟩) (by omega) m_TH_put ml_TH_128 im_TH_put se_TH_put c_TH ha.2.2 (Nat.le_of_ble_eq_true rfl) d_TH_step_199 rfl ?_
                intro v G65 hq
                rcases hq with ⟨hv, hGe, hq66⟩ | ⟨hv, hGe, hq67, hq68⟩ | ⟨SE269, TN270, TS271, tc272, hv, hfk, hlk, hsk, hNa, hNwk, hNnw, hNnsp, hNtn, hNtsp, hNse, hq73, hq74, hq75, hq76, hq77, hq78⟩
                · cases hv
                  rw [hGe]
                  change ab_W _ _ _ G59 202 [some (vR a), some (vz p), some (vz wi), some (vz i), some (vz ((NW i) % 1024)), some (vz 0), some (vz v60)] [] _
                  refine ab_goto (tgt := 258) d_TH_step_202 (by decide) ?_
                  refine zz_iinc d_TH_step_258 rfl (Nat.le_of_ble_eq_true rfl) (Nat.le_of_ble_eq_true rfl) rfl ?_
                  change ab_W _ _ _ G59 261 [some (vR a), some (vz p), some (vz wi), some (vz (i + 1)), some (vz ((NW i) % 1024)), some (vz 0), some (vz v60)] [] _
                  refine ab_goto (tgt := 10) d_TH_step_261 (by decide) ?_
                  refine ab_less (L' := [some (vR a), some (vz p), some (vz wi), some (vz (i + 1)), none, none, none]) (fun i v h => by rcases i with _ | _ | _ | _ | _ | _ | _ | i <;> first | exact h | (simp at h)) ?_
                  exact ih (tc := tc) (fo := fo) (stp := (stp + 1)) (SP := SP) (WK := W6) (TN := TN) (TS := TS) (SE := SE) (SK := SK) (i := (i + 1)) ha hsp hwk hnw htn hnsp htsp hse hstk hq hki hne hot hra hs hco hre hho (by omega) (by omega) jse jtn jts jsp jspo (by omega) (jso.wait jro (by omega) hsu (by omega) (jv_.2 (by omega)) (by omega) (by omega) hk_ (by omega) hc_ (Or.inl ⟨hq66, rfl, rfl, rfl, rfl⟩)) (by omega) hfr hlen hsl (by omega) hk0
                · cases hv
                  rw [hGe]
                  change ab_W _ _ _ G59 202 [some (vR a), some (vz p), some (vz wi), some (vz i), some (vz ((NW i) % 1024)), some (vz 0), some (vz v60)] [] _
                  exfalso
                  have hrm_ := jso.room hkk (x := NW i % 1024) (by omega) hq67
                  omega
                · cases hv
                  have hsp := hfk.get hsp (by decide)
                  have hstk := hfk.get hstk (by decide)
                  have hq := hfk.get hq (by simp only [List.mem_cons, List.not_mem_nil, or_false]; omega)
                  have hki := hfk.get hki (by simp only [List.mem_cons, List.not_mem_nil, or_false]; omega)
                  have hne := hfk.get hne (by simp only [List.mem_cons, List.not_mem_nil, or_false]; omega)
                  have hot := hfk.get hot (by simp only [List.mem_cons, List.not_mem_nil, or_false]; omega)
                  have hra := hfk.get hra (by simp only [List.mem_cons, List.not_mem_nil, or_false]; omega)
                  have hs := hfk.get hs (by decide)
                  have hco := hfk.get hco (by decide)
                  have hre := hfk.get hre (by decide)
                  have hho := hfk.get hho (by decide)
                  have hfr := hfr.tr hfk (by decide)
                  have hlen := hlk.trans hlen
                  have hsl := hsk.trans hsl
                  have ha := hNa
                  have hwk := hNwk
                  have hnw := hNnw
                  have hnsp := hNnsp
                  have htn := hNtn
                  have htsp := hNtsp
                  have hse := hNse
                  change ab_W _ _ _ G65 202 [some (vR a), some (vz p), some (vz wi), some (vz i), some (vz ((NW i) % 1024)), some (vz 0), some (vz v60)] [] _
                  refine ab_goto (tgt := 258) d_TH_step_202 (by decide) ?_
                  refine zz_iinc d_TH_step_258 rfl (Nat.le_of_ble_eq_true rfl) (Nat.le_of_ble_eq_true rfl) rfl ?_
                  change ab_W _ _ _ G65 261 [some (vR a), some (vz p), some (vz wi), some (vz (i + 1)), some (vz ((NW i) % 1024)), some (vz 0), some (vz v60)] [] _
                  refine ab_goto (tgt := 10) d_TH_step_261 (by decide) ?_
                  refine ab_less (L' := [some (vR a), some (vz p), some (vz wi), some (vz (i + 1)), none, none, none]) (fun i v h => by rcases i with _ | _ | _ | _ | _ | _ | _ | i <;> first | exact h | (simp at h)) ?_
                  exact ih (tc := tc272) (fo := fo) (stp := (stp + 1)) (SP := SP) (WK := W6) (TN := TN270) (TS := TS271) (SE := SE269) (SK := SK) (i := (i + 1)) ha hsp hwk hnw htn hnsp htsp hse hstk hq hki hne hot hra hs hco hre hho (by omega) (by omega) hq74 hq75 hq76 jsp jspo (by omega) (jso.wait jro (by omega) hsu (by omega) (jv_.2 (by omega)) (by omega) (by omega) hk_ (by omega) hc_ (Or.inr ⟨hq77, by omega⟩)) (by omega) hfr hlen hsl (by omega) hk0
            · have jw_ := jv_.2 (by omega)
              have jwn_ := jw_.2.1
              have jw1_ := jw_.1
              rw [show v60 = 1 by omega] at jw1_ jwn_
              refine ab_aload_n d_TH_step_166 rfl ?_
              refine ab_aload_n d_TH_step_167 rfl ?_
              refine ab_getf (fs := [vR sp, vR wk, vR nw, vR tn, vR nsp, vR tsp, vz nc, vz tc, vR se, vz sta, vR stk, vz fo, vR q, vR s, vz hw, vz fy, vj (stp + 1)]) f_TH_36 d_TH_step_168 ha.2.2 rfl ?_
              refine ab_getf (fs := [vR ki, vR ne, vR ot, vz cnt, vz fi, vz la, vR ra, vz ru, vz gr, vz wi, vz sz, vz fl, vz ve, vz mi, vR na, vR nl]) f_TH_125 d_TH_step_171 hq.2.2 rfl ?_
              refine ab_iload d_TH_step_174 rfl ?_
              refine zz_iald d_TH_step_176 hne (by omega) ?_
              have hq79 := hp.n ((NW i) % 1024) (by omega) (by omega)
              refine ab_iload_n d_TH_step_177 rfl ?_
              refine zz_iconst d_TH_step_178 ?_
              refine zz_iadd d_TH_step_179 ?_
              refine ab_callV (d' := d - 1) (as := [vz (N ((NW i) % 1024)), vz (p + 1)]) (st := []) (r := _) (z_TH_follow (o := o) (q := q) (lq := lq) (ki := ki) (ne := ne) (ot := ot) (cnt := cnt) (fi := fi) (la := la) (ra := ra) (ru := ru) (gr := gr) (wi := wi) (sz := sz) (fl := fl) (ve := ve) (mi := mi) (na := na) (nl := nl) (K := K) (N := N) (O := O) (RR := RR) (nr := nr) (s := s) (by_ := by_) (co := co) (re := re) (ho := ho) (n := n) (C := C) (Rs := Rs) (H := H) (mc := mc) (a := a) (sp := sp) (wk := wk) (nw := nw) (tn := tn) (nsp := nsp) (tsp := tsp) (se := se) (stk := stk) (nc := nc) (tc := tc) (sta := sta) (fo := fo) (hw := hw) (fy := fy) (stp := (stp + 1)) (SP := SP) (WK := W6) (NW := NW) (TN := TN) (NS := NS) (TS := TS) (SE := SE) (SK := SK) (l1 := l1) (l2 := l2) (l3 := l3) (l4 := l4) (p := (p + 1)) (x := (N ((NW i) % 1024))) (st := (NS (i * wi))) (Mw := W_) (s0 := s_) (gw := g_) (Lw := L_) ha hsp hwk hnw htn hnsp htsp hse hstk hq hki hne hot hra hs hco hre hho (by omega) hp hr (by omega) hsu (by omega) (by omega) hkk (by omega) (by omega) (by omega) jg1 (by omega) jse jtn jts jso.ff jso.2.2.2.2.2.2.2 (jso.gA hk_) hk_.1 jw1_ (by omega)) (fun oc G2 h => by rcases h with ⟨_, _, _, _, _, _, _, h, _⟩ <;> exact ⟨_, h⟩) (by omega) m_TH_follow ml_TH_84 im_TH_follow se_TH_follow c_TH ha.2.2 (Nat.le_of_ble_eq_true rfl) d_TH_step_180 rfl ?_
              intro v G80 hq
              rcases hq with ⟨tc281, st282, SE283, TN284, TS285, SK286, WK287, hv, hfk, hlk, hsk, hNa, hNsp, hNwk, hNnw, hNtn, hNnsp, hNtsp, hNse, hNstk, hq88, hq89, hq90, hq91, hq92, hq93, hq94, hq95, hq96⟩
              cases hv
              have hq := hfk.get hq (by simp only [List.mem_cons, List.not_mem_nil, or_false]; omega)
              have hki := hfk.get hki (by simp only [List.mem_cons, List.not_mem_nil, or_false]; omega)
              have hne := hfk.get hne (by simp only [List.mem_cons, List.not_mem_nil, or_false]; omega)
              have hot := hfk.get hot (by simp only [List.mem_cons, List.not_mem_nil, or_false]; omega)
              have hra := hfk.get hra (by simp only [List.mem_cons, List.not_mem_nil, or_false]; omega)
              have hs := hfk.get hs (by decide)
              have hco := hfk.get hco (by decide)
              have hre := hfk.get hre (by decide)
              have hho := hfk.get hho (by decide)
              have hfr := hfr.tr hfk (by decide)
              have hlen := hlk.trans hlen
              have hsl := hsk.trans hsl
              have ha := hNa
              have hsp := hNsp
              have hwk := hNwk
              have hnw := hNnw
              have htn := hNtn
              have hnsp := hNnsp
              have htsp := hNtsp
              have hse := hNse
              have hstk := hNstk
              change ab_W _ _ _ G80 183 [some (vR a), some (vz p), some (vz wi), some (vz i), some (vz ((NW i) % 1024)), some (vz 0), some (vz v60)] [] _
              refine ab_goto (tgt := 202) d_TH_step_183 (by decide) ?_
              refine ab_goto (tgt := 258) d_TH_step_202 (by decide) ?_
              refine zz_iinc d_TH_step_258 rfl (Nat.le_of_ble_eq_true rfl) (Nat.le_of_ble_eq_true rfl) rfl ?_
              change ab_W _ _ _ G80 261 [some (vR a), some (vz p), some (vz wi), some (vz (i + 1)), some (vz ((NW i) % 1024)), some (vz 0), some (vz v60)] [] _
              refine ab_goto (tgt := 10) d_TH_step_261 (by decide) ?_
              refine ab_less (L' := [some (vR a), some (vz p), some (vz wi), some (vz (i + 1)), none, none, none]) (fun i v h => by rcases i with _ | _ | _ | _ | _ | _ | _ | i <;> first | exact h | (simp at h)) ?_
              exact ih (tc := tc281) (fo := fo) (stp := st282) (SP := SP) (WK := WK287) (TN := TN284) (TS := TS285) (SE := SE283) (SK := SK286) (i := (i + 1)) ha hsp hwk hnw htn hnsp htsp hse hstk hq hki hne hot hra hs hco hre hho (by omega) (by omega) hq91 hq92 hq93 jsp jspo (by omega) (jso.move jro (by omega) hq94 hc_ hsu (by omega)) (by omega) hfr hlen hsl (by omega) hk0
      · refine ab_aload_n d_TH_step_35 rfl ?_
        refine ab_getf (fs := [vR sp, vR wk, vR nw, vR tn, vR nsp, vR tsp, vz nc, vz tc, vR se, vz sta, vR stk, vz fo, vR q, vR s, vz hw, vz fy, vj (stp + 1)]) f_TH_24 d_TH_step_36 ha.2.2 rfl ?_
        refine ab_iload_n d_TH_step_39 rfl ?_
        refine ab_iload_n d_TH_step_40 rfl ?_
        refine zz_imul d_TH_step_41 ?_
        obtain ⟨v97, hv97⟩ : ∃ z : Int, z = i * wi := ⟨_, rfl⟩
        rw [← hv97]
        have hv97b := z_mulb (a := i) (b := wi) (A := 801) (B := 20) (by omega) (by omega)
        rw [← hv97] at hv97b
        change ab_W _ _ _ G2 42 [some (vR a), some (vz p), some (vz wi), some (vz i), none, none, none] [vz v97, vR nsp] _
        have jiw : (i + 1) * wi ≤ 801 * 20 := Int.mul_le_mul (by omega) (by omega) (by omega) (by omega)
        have jiw2 : (i + 1) * wi = i * wi + wi := by rw [Int.add_mul, Int.one_mul]
        refine zz_iald d_TH_step_42 hnsp (by omega) ?_
        have jn0 := jns i (by omega) (by omega)
        have jn1 : 0 ≤ NS v97 ∧ NS v97 ≤ n := by rw [hv97]; exact ⟨jn0.1, by have := (jn0.2 0 (by omega) (by omega)).2; rw [Int.add_zero] at this; exact this⟩
        refine ab_aload_n d_TH_step_43 rfl ?_
        refine ab_getf (fs := [vR sp, vR wk, vR nw, vR tn, vR nsp, vR tsp, vz nc, vz tc, vR se, vz sta, vR stk, vz fo, vR q, vR s, vz hw, vz fy, vj (stp + 1)]) f_TH_9 d_TH_step_44 ha.2.2 rfl ?_
        refine zz_iconst d_TH_step_47 ?_
        refine zz_iald d_TH_step_48 hsp (by omega) ?_
        have hq98 := jsp 0 (by omega) (by omega)
        refine zz_icmp_le (tgt := 53) d_TH_step_49 (by decide) (by omega) (by omega) (fun c99 => ?_) (fun c99 => ?_)
        · refine ab_aload_n d_TH_step_53 rfl ?_
          refine ab_getf (fs := [vR sp, vR wk, vR nw, vR tn, vR nsp, vR tsp, vz nc, vz tc, vR se, vz sta, vR stk, vz fo, vR q, vR s, vz hw, vz fy, vj (stp + 1)]) f_TH_24 d_TH_step_54 ha.2.2 rfl ?_
          refine ab_iload_n d_TH_step_57 rfl ?_
          refine ab_iload_n d_TH_step_58 rfl ?_
          refine zz_imul d_TH_step_59 ?_
          obtain ⟨v100, hv100⟩ : ∃ z : Int, z = i * wi := ⟨_, rfl⟩
          rw [← hv100]
          have hv100b := z_mulb (a := i) (b := wi) (A := 801) (B := 20) (by omega) (by omega)
          rw [← hv100] at hv100b
          change ab_W _ _ _ G2 60 [some (vR a), some (vz p), some (vz wi), some (vz i), none, none, none] [vz v100, vR nsp] _
          have jiw : (i + 1) * wi ≤ 801 * 20 := Int.mul_le_mul (by omega) (by omega) (by omega) (by omega)
          have jiw2 : (i + 1) * wi = i * wi + wi := by rw [Int.add_mul, Int.one_mul]
          refine ab_aload_n d_TH_step_60 rfl ?_
          refine ab_getf (fs := [vR sp, vR wk, vR nw, vR tn, vR nsp, vR tsp, vz nc, vz tc, vR se, vz sta, vR stk, vz fo, vR q, vR s, vz hw, vz fy, vj (stp + 1)]) f_TH_15 d_TH_step_61 ha.2.2 rfl ?_
          refine zz_iconst d_TH_step_64 ?_
          refine ab_iload_n d_TH_step_65 rfl ?_
          refine zz_copy mj_TH_109 d_TH_step_66 hnsp hwk (hwk.2.1 (by decide)) (by omega) (Nat.le_of_ble_eq_true rfl) (by omega) ?_
          obtain ⟨G101, eG101⟩ : ∃ z : ab_G, z = List.set G2 wk (za 20 (zcpy NS WK v100 0 wi)) := ⟨_, rfl⟩
          have ha := ha.keep hwk eG101 (by decide)
          have hsp := hsp.keep hwk eG101 (by decide)
          have hnw := hnw.keep hwk eG101 (by omega)
          have htn := htn.keep hwk eG101 (by omega)
          have hnsp := hnsp.keep hwk eG101 (by omega)
          have htsp := htsp.keep hwk eG101 (by omega)
          have hse := hse.keep hwk eG101 (by decide)
          have hstk := hstk.keep hwk eG101 (by decide)
          have hq := hq.keep hwk eG101 (by omega)
          have hki := hki.keep hwk eG101 (by omega)
          have hne := hne.keep hwk eG101 (by omega)
          have hot := hot.keep hwk eG101 (by omega)
          have hra := hra.keep hwk eG101 (by omega)
          have hs := hs.keep hwk eG101 (by decide)
          have hco := hco.keep hwk eG101 (by decide)
          have hre := hre.keep hwk eG101 (by decide)
          have hho := hho.keep hwk eG101 (by decide)
          have hlen := (z_len eG101).trans hlen
          have hsl := (z_sl hwk eG101 rfl).trans hsl
          have hfr := hfr.wr hwk eG101 (by decide)
          have hwk := hwk.kept eG101
          change ab_W _ _ _ (List.set G2 wk (za 20 (zcpy NS WK v100 0 wi))) 69 [some (vR a), some (vz p), some (vz wi), some (vz i), none, none, none] [] _
          rw [← eG101]
          have hc_ : fo = 0 ∨ NS (i * wi) ≤ SP 0 := by first | (left; omega) | (right; rw [← hv97]; omega)
          have jg := thr_g jns (i := i) ⟨by omega, by omega⟩ (by omega) (WK := WK)
          rw [← hv100] at jg
          obtain ⟨W102, eW102⟩ : ∃ z : Int → Int, z = zcpy NS WK v100 0 wi := ⟨_, rfl⟩
          rw [← eW102] at jg
          have hk_ : wkO W102 NS (i * wi) wi := by rw [eW102, hv100]; exact wkO_c (by omega)
          have hwk : cc o G101 wk 33 (za 20 W102) := by rw [← eW102.symm]; exact hwk
          obtain ⟨jg1, jg2⟩ := jg
          have jt := jnw i (by omega) (by omega)
          have jti := tho_in jt
          refine ab_aload_n d_TH_step_69 rfl ?_
          refine ab_getf (fs := [vR sp, vR wk, vR nw, vR tn, vR nsp, vR tsp, vz nc, vz tc, vR se, vz sta, vR stk, vz fo, vR q, vR s, vz hw, vz fy, vj (stp + 1)]) f_TH_18 d_TH_step_70 ha.2.2 rfl ?_
          refine ab_iload_n d_TH_step_73 rfl ?_
          refine zz_iald d_TH_step_74 hnw (by omega) ?_
          refine zz_sipush d_TH_step_75 (by decide) ?_
          refine zz_iand 10 1024 d_TH_step_78 (by decide) (by decide) (by decide) (by decide) ?_
          refine ab_istore d_TH_step_79 (Nat.le_of_ble_eq_true rfl) (Nat.le_of_ble_eq_true rfl) rfl ?_
          change ab_W _ _ _ G101 81 [some (vR a), some (vz p), some (vz wi), some (vz i), some (vz ((NW i) % 1024)), none, none] [] _
          refine ab_aload_n d_TH_step_81 rfl ?_
          refine ab_getf (fs := [vR sp, vR wk, vR nw, vR tn, vR nsp, vR tsp, vz nc, vz tc, vR se, vz sta, vR stk, vz fo, vR q, vR s, vz hw, vz fy, vj (stp + 1)]) f_TH_18 d_TH_step_82 ha.2.2 rfl ?_
          refine ab_iload_n d_TH_step_85 rfl ?_
          refine zz_iald d_TH_step_86 hnw (by omega) ?_
          refine zz_sipush d_TH_step_87 (by decide) ?_
          refine zz_icmp_ge (tgt := 108) d_TH_step_90 (by decide) (by omega) (by decide) (fun c103 => ?_) (fun c103 => ?_)
          · have jk := tho_t jt (by omega)
            have jk0_ := (hp (NW i % 1024) (by omega) (by omega)).1
            refine ab_aload_n d_TH_step_108 rfl ?_
            refine ab_getf (fs := [vR sp, vR wk, vR nw, vR tn, vR nsp, vR tsp, vz nc, vz tc, vR se, vz sta, vR stk, vz fo, vR q, vR s, vz hw, vz fy, vj (stp + 1)]) f_TH_18 d_TH_step_109 ha.2.2 rfl ?_
            refine ab_iload_n d_TH_step_112 rfl ?_
            refine zz_iald d_TH_step_113 hnw (by omega) ?_
            refine zz_sipush d_TH_step_114 (by decide) ?_
            refine zz_icmp_lt (tgt := 124) d_TH_step_117 (by decide) (by omega) (by decide) (fun c104 => absurd c104 (by omega)) (fun c104 => ?_)
            refine zz_iconst d_TH_step_120 ?_
            refine ab_goto (tgt := 125) d_TH_step_121 (by decide) ?_
            refine ab_istore d_TH_step_125 (Nat.le_of_ble_eq_true rfl) (Nat.le_of_ble_eq_true rfl) rfl ?_
            change ab_W _ _ _ G101 127 [some (vR a), some (vz p), some (vz wi), some (vz i), some (vz ((NW i) % 1024)), some (vz 1), none] [] _
            refine ab_iload d_TH_step_127 rfl ?_
            refine zz_if_eq (tgt := 144) d_TH_step_129 (by decide) (by decide) (fun c105 => absurd c105 (by decide)) (fun c105 => ?_)
            refine ab_aload_n d_TH_step_132 rfl ?_
            refine ab_getf (fs := [vR sp, vR wk, vR nw, vR tn, vR nsp, vR tsp, vz nc, vz tc, vR se, vz sta, vR stk, vz fo, vR q, vR s, vz hw, vz fy, vj (stp + 1)]) f_TH_40 d_TH_step_133 ha.2.2 rfl ?_
            refine ab_getf (fs := [vR by_, vR co, vR re, vR ho, vz n]) f_TH_118 d_TH_step_136 hs.2.2 rfl ?_
            refine ab_iload_n d_TH_step_139 rfl ?_
            refine zz_iald d_TH_step_140 hre (by omega) ?_
            have hq106 := hsu.r p (by omega) (by omega)
            refine ab_goto (tgt := 158) d_TH_step_141 (by decide) ?_
            refine ab_istore d_TH_step_158 (Nat.le_of_ble_eq_true rfl) (Nat.le_of_ble_eq_true rfl) rfl ?_
            change ab_W _ _ _ G101 160 [some (vR a), some (vz p), some (vz wi), some (vz i), some (vz ((NW i) % 1024)), some (vz 1), some (vz (Rs p))] [] _
            have jv_ := jso.vv (vb := (Rs p)) jro (by omega) hsu (by omega) (Or.inr ⟨by omega, rfl⟩)
            refine ab_iload d_TH_step_160 rfl ?_
            refine zz_iconst d_TH_step_162 ?_
            refine zz_icmp_ne (tgt := 186) d_TH_step_163 (by decide) (by omega) (by decide) (fun c107 => ?_) (fun c107 => ?_)
            · refine ab_iload d_TH_step_186 rfl ?_
              refine zz_iconst d_TH_step_188 ?_
              refine zz_icmp_le (tgt := 202) d_TH_step_189 (by decide) (by omega) (by decide) (fun c108 => ?_) (fun c108 => ?_)
              · refine ab_goto (tgt := 258) d_TH_step_202 (by decide) ?_
                refine zz_iinc d_TH_step_258 rfl (Nat.le_of_ble_eq_true rfl) (Nat.le_of_ble_eq_true rfl) rfl ?_
                change ab_W _ _ _ G101 261 [some (vR a), some (vz p), some (vz wi), some (vz (i + 1)), some (vz ((NW i) % 1024)), some (vz 1), some (vz (Rs p))] [] _
                refine ab_goto (tgt := 10) d_TH_step_261 (by decide) ?_
                refine ab_less (L' := [some (vR a), some (vz p), some (vz wi), some (vz (i + 1)), none, none, none]) (fun i v h => by rcases i with _ | _ | _ | _ | _ | _ | _ | i <;> first | exact h | (simp at h)) ?_
                exact ih (tc := tc) (fo := fo) (stp := (stp + 1)) (SP := SP) (WK := W102) (TN := TN) (TS := TS) (SE := SE) (SK := SK) (i := (i + 1)) ha hsp hwk hnw htn hnsp htsp hse hstk hq hki hne hot hra hs hco hre hho (by omega) (by omega) jse jtn jts jsp jspo (by omega) (jso.skip jro (by omega) (jv_.1 (by omega))) (by omega) hfr hlen hsl (by omega) hk0
              · refine ab_aload_n d_TH_step_192 rfl ?_
                refine ab_iload d_TH_step_193 rfl ?_
                refine zz_sipush d_TH_step_195 (by decide) ?_
                refine zz_iadd d_TH_step_198 ?_
                refine ab_callV (d' := d - 1) (as := [vz (((NW i) % 1024) + 1024)]) (st := []) (r := _) (z_TH_put (o := o) (q := q) (lq := lq) (ki := ki) (ne := ne) (ot := ot) (cnt := cnt) (fi := fi) (la := la) (ra := ra) (ru := ru) (gr := gr) (wi := wi) (sz := sz) (fl := fl) (ve := ve) (mi := mi) (na := na) (nl := nl) (s := s) (a := a) (sp := sp) (wk := wk) (nw := nw) (tn := tn) (nsp := nsp) (tsp := tsp) (se := se) (stk := stk) (nc := nc) (tc := tc) (sta := sta) (fo := fo) (hw := hw) (fy := fy) (stp := (stp + 1)) (WK := W102) (NW := NW) (TN := TN) (NS := NS) (TS := TS) (SE := SE) (l1 := l1) (l2 := l2) (l3 := l3) (l4 := l4) (e := (((NW i) % 1024) + 1024)) ha hwk hnw hnsp htn htsp hse hq (by omega) (by omega) (by omega) jg1 (by omega) jse (by omega) jtn jts (by omega) (tho_w (by omega) jk) (by omega) (by omega)) (fun oc G2 h => by rcases h with ⟨h, _⟩ | ⟨h, _⟩ | ⟨_, _, _, _, h, _⟩ <;> exact ⟨_, h⟩) (by omega) m_TH_put ml_TH_128 im_TH_put se_TH_put c_TH ha.2.2 (Nat.le_of_ble_eq_true rfl) d_TH_step_199 rfl ?_
                intro v G109 hq
                rcases hq with ⟨hv, hGe, hq110⟩ | ⟨hv, hGe, hq111, hq112⟩ | ⟨SE2113, TN2114, TS2115, tc2116, hv, hfk, hlk, hsk, hNa, hNwk, hNnw, hNnsp, hNtn, hNtsp, hNse, hq117, hq118, hq119, hq120, hq121, hq122⟩
                · cases hv
                  rw [hGe]
                  change ab_W _ _ _ G101 202 [some (vR a), some (vz p), some (vz wi), some (vz i), some (vz ((NW i) % 1024)), some (vz 1), some (vz (Rs p))] [] _
                  refine ab_goto (tgt := 258) d_TH_step_202 (by decide) ?_
                  refine zz_iinc d_TH_step_258 rfl (Nat.le_of_ble_eq_true rfl) (Nat.le_of_ble_eq_true rfl) rfl ?_
                  change ab_W _ _ _ G101 261 [some (vR a), some (vz p), some (vz wi), some (vz (i + 1)), some (vz ((NW i) % 1024)), some (vz 1), some (vz (Rs p))] [] _
                  refine ab_goto (tgt := 10) d_TH_step_261 (by decide) ?_
                  refine ab_less (L' := [some (vR a), some (vz p), some (vz wi), some (vz (i + 1)), none, none, none]) (fun i v h => by rcases i with _ | _ | _ | _ | _ | _ | _ | i <;> first | exact h | (simp at h)) ?_
                  exact ih (tc := tc) (fo := fo) (stp := (stp + 1)) (SP := SP) (WK := W102) (TN := TN) (TS := TS) (SE := SE) (SK := SK) (i := (i + 1)) ha hsp hwk hnw htn hnsp htsp hse hstk hq hki hne hot hra hs hco hre hho (by omega) (by omega) jse jtn jts jsp jspo (by omega) (jso.wait jro (by omega) hsu (by omega) (jv_.2 (by omega)) (by omega) (by omega) hk_ (by omega) hc_ (Or.inl ⟨hq110, rfl, rfl, rfl, rfl⟩)) (by omega) hfr hlen hsl (by omega) hk0
                · cases hv
                  rw [hGe]
                  change ab_W _ _ _ G101 202 [some (vR a), some (vz p), some (vz wi), some (vz i), some (vz ((NW i) % 1024)), some (vz 1), some (vz (Rs p))] [] _
                  exfalso
                  have hrm_ := jso.room hkk (x := NW i % 1024) (by omega) hq111
                  omega
                · cases hv
                  have hsp := hfk.get hsp (by decide)
                  have hstk := hfk.get hstk (by decide)
                  have hq := hfk.get hq (by simp only [List.mem_cons, List.not_mem_nil, or_false]; omega)
                  have hki := hfk.get hki (by simp only [List.mem_cons, List.not_mem_nil, or_false]; omega)
                  have hne := hfk.get hne (by simp only [List.mem_cons, List.not_mem_nil, or_false]; omega)
                  have hot := hfk.get hot (by simp only [List.mem_cons, List.not_mem_nil, or_false]; omega)
                  have hra := hfk.get hra (by simp only [List.mem_cons, List.not_mem_nil, or_false]; omega)
                  have hs := hfk.get hs (by decide)
                  have hco := hfk.get hco (by decide)
                  have hre := hfk.get hre (by decide)
                  have hho := hfk.get hho (by decide)
                  have hfr := hfr.tr hfk (by decide)
                  have hlen := hlk.trans hlen
                  have hsl := hsk.trans hsl
                  have ha := hNa
                  have hwk := hNwk
                  have hnw := hNnw
                  have hnsp := hNnsp
                  have htn := hNtn
                  have htsp := hNtsp
                  have hse := hNse
                  change ab_W _ _ _ G109 202 [some (vR a), some (vz p), some (vz wi), some (vz i), some (vz ((NW i) % 1024)), some (vz 1), some (vz (Rs p))] [] _
                  refine ab_goto (tgt := 258) d_TH_step_202 (by decide) ?_
                  refine zz_iinc d_TH_step_258 rfl (Nat.le_of_ble_eq_true rfl) (Nat.le_of_ble_eq_true rfl) rfl ?_
                  change ab_W _ _ _ G109 261 [some (vR a), some (vz p), some (vz wi), some (vz (i + 1)), some (vz ((NW i) % 1024)), some (vz 1), some (vz (Rs p))] [] _
                  refine ab_goto (tgt := 10) d_TH_step_261 (by decide) ?_
                  refine ab_less (L' := [some (vR a), some (vz p), some (vz wi), some (vz (i + 1)), none, none, none]) (fun i v h => by rcases i with _ | _ | _ | _ | _ | _ | _ | i <;> first | exact h | (simp at h)) ?_
                  exact ih (tc := tc2116) (fo := fo) (stp := (stp + 1)) (SP := SP) (WK := W102) (TN := TN2114) (TS := TS2115) (SE := SE2113) (SK := SK) (i := (i + 1)) ha hsp hwk hnw htn hnsp htsp hse hstk hq hki hne hot hra hs hco hre hho (by omega) (by omega) hq118 hq119 hq120 jsp jspo (by omega) (jso.wait jro (by omega) hsu (by omega) (jv_.2 (by omega)) (by omega) (by omega) hk_ (by omega) hc_ (Or.inr ⟨hq121, by omega⟩)) (by omega) hfr hlen hsl (by omega) hk0
            · have jw_ := jv_.2 (by omega)
              have jwn_ := jw_.2.1
              have jw1_ := jw_.1
              rw [show (Rs p) = 1 by omega] at jw1_ jwn_
              refine ab_aload_n d_TH_step_166 rfl ?_
              refine ab_aload_n d_TH_step_167 rfl ?_
              refine ab_getf (fs := [vR sp, vR wk, vR nw, vR tn, vR nsp, vR tsp, vz nc, vz tc, vR se, vz sta, vR stk, vz fo, vR q, vR s, vz hw, vz fy, vj (stp + 1)]) f_TH_36 d_TH_step_168 ha.2.2 rfl ?_
              refine ab_getf (fs := [vR ki, vR ne, vR ot, vz cnt, vz fi, vz la, vR ra, vz ru, vz gr, vz wi, vz sz, vz fl, vz ve, vz mi, vR na, vR nl]) f_TH_125 d_TH_step_171 hq.2.2 rfl ?_
              refine ab_iload d_TH_step_174 rfl ?_
              refine zz_iald d_TH_step_176 hne (by omega) ?_
              have hq123 := hp.n ((NW i) % 1024) (by omega) (by omega)
              refine ab_iload_n d_TH_step_177 rfl ?_
              refine zz_iconst d_TH_step_178 ?_
              refine zz_iadd d_TH_step_179 ?_
              refine ab_callV (d' := d - 1) (as := [vz (N ((NW i) % 1024)), vz (p + 1)]) (st := []) (r := _) (z_TH_follow (o := o) (q := q) (lq := lq) (ki := ki) (ne := ne) (ot := ot) (cnt := cnt) (fi := fi) (la := la) (ra := ra) (ru := ru) (gr := gr) (wi := wi) (sz := sz) (fl := fl) (ve := ve) (mi := mi) (na := na) (nl := nl) (K := K) (N := N) (O := O) (RR := RR) (nr := nr) (s := s) (by_ := by_) (co := co) (re := re) (ho := ho) (n := n) (C := C) (Rs := Rs) (H := H) (mc := mc) (a := a) (sp := sp) (wk := wk) (nw := nw) (tn := tn) (nsp := nsp) (tsp := tsp) (se := se) (stk := stk) (nc := nc) (tc := tc) (sta := sta) (fo := fo) (hw := hw) (fy := fy) (stp := (stp + 1)) (SP := SP) (WK := W102) (NW := NW) (TN := TN) (NS := NS) (TS := TS) (SE := SE) (SK := SK) (l1 := l1) (l2 := l2) (l3 := l3) (l4 := l4) (p := (p + 1)) (x := (N ((NW i) % 1024))) (st := (NS (i * wi))) (Mw := W_) (s0 := s_) (gw := g_) (Lw := L_) ha hsp hwk hnw htn hnsp htsp hse hstk hq hki hne hot hra hs hco hre hho (by omega) hp hr (by omega) hsu (by omega) (by omega) hkk (by omega) (by omega) (by omega) jg1 (by omega) jse jtn jts jso.ff jso.2.2.2.2.2.2.2 (jso.gA hk_) hk_.1 jw1_ (by omega)) (fun oc G2 h => by rcases h with ⟨_, _, _, _, _, _, _, h, _⟩ <;> exact ⟨_, h⟩) (by omega) m_TH_follow ml_TH_84 im_TH_follow se_TH_follow c_TH ha.2.2 (Nat.le_of_ble_eq_true rfl) d_TH_step_180 rfl ?_
              intro v G124 hq
              rcases hq with ⟨tc2125, st2126, SE2127, TN2128, TS2129, SK2130, WK2131, hv, hfk, hlk, hsk, hNa, hNsp, hNwk, hNnw, hNtn, hNnsp, hNtsp, hNse, hNstk, hq132, hq133, hq134, hq135, hq136, hq137, hq138, hq139, hq140⟩
              cases hv
              have hq := hfk.get hq (by simp only [List.mem_cons, List.not_mem_nil, or_false]; omega)
              have hki := hfk.get hki (by simp only [List.mem_cons, List.not_mem_nil, or_false]; omega)
              have hne := hfk.get hne (by simp only [List.mem_cons, List.not_mem_nil, or_false]; omega)
              have hot := hfk.get hot (by simp only [List.mem_cons, List.not_mem_nil, or_false]; omega)
              have hra := hfk.get hra (by simp only [List.mem_cons, List.not_mem_nil, or_false]; omega)
              have hs := hfk.get hs (by decide)
              have hco := hfk.get hco (by decide)
              have hre := hfk.get hre (by decide)
              have hho := hfk.get hho (by decide)
              have hfr := hfr.tr hfk (by decide)
              have hlen := hlk.trans hlen
              have hsl := hsk.trans hsl
              have ha := hNa
              have hsp := hNsp
              have hwk := hNwk
              have hnw := hNnw
              have htn := hNtn
              have hnsp := hNnsp
              have htsp := hNtsp
              have hse := hNse
              have hstk := hNstk
              change ab_W _ _ _ G124 183 [some (vR a), some (vz p), some (vz wi), some (vz i), some (vz ((NW i) % 1024)), some (vz 1), some (vz (Rs p))] [] _
              refine ab_goto (tgt := 202) d_TH_step_183 (by decide) ?_
              refine ab_goto (tgt := 258) d_TH_step_202 (by decide) ?_
              refine zz_iinc d_TH_step_258 rfl (Nat.le_of_ble_eq_true rfl) (Nat.le_of_ble_eq_true rfl) rfl ?_
              change ab_W _ _ _ G124 261 [some (vR a), some (vz p), some (vz wi), some (vz (i + 1)), some (vz ((NW i) % 1024)), some (vz 1), some (vz (Rs p))] [] _
              refine ab_goto (tgt := 10) d_TH_step_261 (by decide) ?_
              refine ab_less (L' := [some (vR a), some (vz p), some (vz wi), some (vz (i + 1)), none, none, none]) (fun i v h => by rcases i with _ | _ | _ | _ | _ | _ | _ | i <;> first | exact h | (simp at h)) ?_
              exact ih (tc := tc2125) (fo := fo) (stp := st2126) (SP := SP) (WK := WK2131) (TN := TN2128) (TS := TS2129) (SE := SE2127) (SK := SK2130) (i := (i + 1)) ha hsp hwk hnw htn hnsp htsp hse hstk hq hki hne hot hra hs hco hre hho (by omega) (by omega) hq135 hq136 hq137 jsp jspo (by omega) (jso.move jro (by omega) hq138 hc_ hsu (by omega)) (by omega) hfr hlen hsl (by omega) hk0
          · refine ab_aload_n d_TH_step_93 rfl ?_
            refine ab_getf (fs := [vR sp, vR wk, vR nw, vR tn, vR nsp, vR tsp, vz nc, vz tc, vR se, vz sta, vR stk, vz fo, vR q, vR s, vz hw, vz fy, vj (stp + 1)]) f_TH_36 d_TH_step_94 ha.2.2 rfl ?_
            refine ab_getf (fs := [vR ki, vR ne, vR ot, vz cnt, vz fi, vz la, vR ra, vz ru, vz gr, vz wi, vz sz, vz fl, vz ve, vz mi, vR na, vR nl]) f_TH_115 d_TH_step_97 hq.2.2 rfl ?_
            refine ab_iload d_TH_step_100 rfl ?_
            refine zz_iald d_TH_step_102 hki (by omega) ?_
            have hq141 := hp.k ((NW i) % 1024) (by omega) (by omega)
            refine zz_bipush d_TH_step_103 (by decide) ?_
            refine zz_icmp_eq (tgt := 205) d_TH_step_105 (by decide) (by omega) (by decide) (fun c142 => ?_) (fun c142 => ?_)
            · refine ab_aload_n d_TH_step_205 rfl ?_
              refine ab_getf (fs := [vR sp, vR wk, vR nw, vR tn, vR nsp, vR tsp, vz nc, vz tc, vR se, vz sta, vR stk, vz fo, vR q, vR s, vz hw, vz fy, vj (stp + 1)]) f_TH_44 d_TH_step_206 ha.2.2 rfl ?_
              refine zz_iconst d_TH_step_209 ?_
              refine zz_icmp_ne (tgt := 224) d_TH_step_210 (by decide) (by omega) (by decide) (fun c143 => ?_) (fun c143 => ?_)
              · refine ab_aload_n d_TH_step_224 rfl ?_
                refine ab_getf (fs := [vR sp, vR wk, vR nw, vR tn, vR nsp, vR tsp, vz nc, vz tc, vR se, vz sta, vR stk, vz fo, vR q, vR s, vz hw, vz fy, vj (stp + 1)]) f_TH_15 d_TH_step_225 ha.2.2 rfl ?_
                refine zz_iconst d_TH_step_228 ?_
                refine ab_aload_n d_TH_step_229 rfl ?_
                refine ab_getf (fs := [vR sp, vR wk, vR nw, vR tn, vR nsp, vR tsp, vz nc, vz tc, vR se, vz sta, vR stk, vz fo, vR q, vR s, vz hw, vz fy, vj (stp + 1)]) f_TH_9 d_TH_step_230 ha.2.2 rfl ?_
                refine zz_iconst d_TH_step_233 ?_
                refine ab_iload_n d_TH_step_234 rfl ?_
                refine zz_copy mj_TH_109 d_TH_step_235 hwk hsp (hsp.2.1 (by decide)) (by omega) (Nat.le_of_ble_eq_true rfl) (by omega) ?_
                obtain ⟨G144, eG144⟩ : ∃ z : ab_G, z = List.set G101 sp (za 20 (zcpy W102 SP 0 0 wi)) := ⟨_, rfl⟩
                have ha := ha.keep hsp eG144 (by decide)
                have hwk := hwk.keep hsp eG144 (by decide)
                have hnw := hnw.keep hsp eG144 (by omega)
                have htn := htn.keep hsp eG144 (by omega)
                have hnsp := hnsp.keep hsp eG144 (by omega)
                have htsp := htsp.keep hsp eG144 (by omega)
                have hse := hse.keep hsp eG144 (by decide)
                have hstk := hstk.keep hsp eG144 (by decide)
                have hq := hq.keep hsp eG144 (by omega)
                have hki := hki.keep hsp eG144 (by omega)
                have hne := hne.keep hsp eG144 (by omega)
                have hot := hot.keep hsp eG144 (by omega)
                have hra := hra.keep hsp eG144 (by omega)
                have hs := hs.keep hsp eG144 (by decide)
                have hco := hco.keep hsp eG144 (by decide)
                have hre := hre.keep hsp eG144 (by decide)
                have hho := hho.keep hsp eG144 (by decide)
                have hlen := (z_len eG144).trans hlen
                have hsl := (z_sl hsp eG144 rfl).trans hsl
                have hfr := hfr.wr hsp eG144 (by decide)
                have hsp := hsp.kept eG144
                change ab_W _ _ _ (List.set G101 sp (za 20 (zcpy W102 SP 0 0 wi))) 238 [some (vR a), some (vz p), some (vz wi), some (vz i), some (vz ((NW i) % 1024)), none, none] [] _
                rw [← eG144]
                refine ab_aload_n d_TH_step_238 rfl ?_
                refine ab_getf (fs := [vR sp, vR wk, vR nw, vR tn, vR nsp, vR tsp, vz nc, vz tc, vR se, vz sta, vR stk, vz fo, vR q, vR s, vz hw, vz fy, vj (stp + 1)]) f_TH_9 d_TH_step_239 ha.2.2 rfl ?_
                refine zz_iconst d_TH_step_242 ?_
                refine ab_iload_n d_TH_step_243 rfl ?_
                refine zz_iast d_TH_step_244 hsp (by omega) (hsp.2.1 (by decide)) ?_
                obtain ⟨G145, eG145⟩ : ∃ z : ab_G, z = List.set G144 sp (za 20 (zu (zcpy W102 SP 0 0 wi) 1 p)) := ⟨_, rfl⟩
                have ha := ha.keep hsp eG145 (by decide)
                have hwk := hwk.keep hsp eG145 (by decide)
                have hnw := hnw.keep hsp eG145 (by omega)
                have htn := htn.keep hsp eG145 (by omega)
                have hnsp := hnsp.keep hsp eG145 (by omega)
                have htsp := htsp.keep hsp eG145 (by omega)
                have hse := hse.keep hsp eG145 (by decide)
                have hstk := hstk.keep hsp eG145 (by decide)
                have hq := hq.keep hsp eG145 (by omega)
                have hki := hki.keep hsp eG145 (by omega)
                have hne := hne.keep hsp eG145 (by omega)
                have hot := hot.keep hsp eG145 (by omega)
                have hra := hra.keep hsp eG145 (by omega)
                have hs := hs.keep hsp eG145 (by decide)
                have hco := hco.keep hsp eG145 (by decide)
                have hre := hre.keep hsp eG145 (by decide)
                have hho := hho.keep hsp eG145 (by decide)
                have hlen := (z_len eG145).trans hlen
                have hsl := (z_sl hsp eG145 rfl).trans hsl
                have hfr := hfr.wr hsp eG145 (by decide)
                have hsp := hsp.kept eG145
                change ab_W _ _ _ (List.set G144 sp (za 20 (zu (zcpy W102 SP 0 0 wi) 1 p))) 245 [some (vR a), some (vz p), some (vz wi), some (vz i), some (vz ((NW i) % 1024)), none, none] [] _
                rw [← eG145]
                refine ab_aload_n d_TH_step_245 rfl ?_
                refine zz_iconst d_TH_step_246 ?_
                refine ab_putf (fs := [vR sp, vR wk, vR nw, vR tn, vR nsp, vR tsp, vz nc, vz tc, vR se, vz sta, vR stk, vz fo, vR q, vR s, vz hw, vz fy, vj (stp + 1)]) f_TH_61 (Or.inl rfl) d_TH_step_247 ha.2.2 (Nat.le_of_ble_eq_true rfl) (ab_fbz (by decide)) (ha.2.1 (by decide)) ?_
                obtain ⟨G146, eG146⟩ : ∃ z : ab_G, z = List.set G145 a (ab_ob 11 [vR sp, vR wk, vR nw, vR tn, vR nsp, vR tsp, vz nc, vz tc, vR se, vz sta, vR stk, vz 1, vR q, vR s, vz hw, vz fy, vj (stp + 1)]) := ⟨_, rfl⟩
                have hsp := hsp.keep ha eG146 (by decide)
                have hwk := hwk.keep ha eG146 (by decide)
                have hnw := hnw.keep ha eG146 (by omega)
                have htn := htn.keep ha eG146 (by omega)
                have hnsp := hnsp.keep ha eG146 (by omega)
                have htsp := htsp.keep ha eG146 (by omega)
                have hse := hse.keep ha eG146 (by decide)
                have hstk := hstk.keep ha eG146 (by decide)
                have hq := hq.keep ha eG146 (by omega)
                have hki := hki.keep ha eG146 (by omega)
                have hne := hne.keep ha eG146 (by omega)
                have hot := hot.keep ha eG146 (by omega)
                have hra := hra.keep ha eG146 (by omega)
                have hs := hs.keep ha eG146 (by decide)
                have hco := hco.keep ha eG146 (by decide)
                have hre := hre.keep ha eG146 (by decide)
                have hho := hho.keep ha eG146 (by decide)
                have hlen := (z_len eG146).trans hlen
                have hsl := (z_sl ha eG146 rfl).trans hsl
                have hfr := hfr.wr ha eG146 (by decide)
                have ha := ha.kept eG146
                change ab_W _ _ _ (List.set G145 a (ab_ob 11 [vR sp, vR wk, vR nw, vR tn, vR nsp, vR tsp, vz nc, vz tc, vR se, vz sta, vR stk, vz 1, vR q, vR s, vz hw, vz fy, vj (stp + 1)])) 250 [some (vR a), some (vz p), some (vz wi), some (vz i), some (vz ((NW i) % 1024)), none, none] [] _
                rw [← eG146]
                refine ab_aload_n d_TH_step_250 rfl ?_
                refine ab_getf (fs := [vR sp, vR wk, vR nw, vR tn, vR nsp, vR tsp, vz nc, vz tc, vR se, vz sta, vR stk, vz 1, vR q, vR s, vz hw, vz fy, vj (stp + 1)]) f_TH_54 d_TH_step_251 ha.2.2 rfl ?_
                refine zz_if_eq (tgt := 258) d_TH_step_254 (by decide) (by omega) (fun c147 => ?_) (fun c147 => ?_)
                · refine zz_iinc d_TH_step_258 rfl (Nat.le_of_ble_eq_true rfl) (Nat.le_of_ble_eq_true rfl) rfl ?_
                  change ab_W _ _ _ G146 261 [some (vR a), some (vz p), some (vz wi), some (vz (i + 1)), some (vz ((NW i) % 1024)), none, none] [] _
                  refine ab_goto (tgt := 10) d_TH_step_261 (by decide) ?_
                  refine ab_less (L' := [some (vR a), some (vz p), some (vz wi), some (vz (i + 1)), none, none, none]) (fun i v h => by rcases i with _ | _ | _ | _ | _ | _ | _ | i <;> first | exact h | (simp at h)) ?_
                  exact ih (tc := tc) (fo := 1) (stp := (stp + 1)) (SP := (zu (zcpy W102 SP 0 0 wi) 1 p)) (WK := W102) (TN := TN) (TS := TS) (SE := SE) (SK := SK) (i := (i + 1)) ha hsp hwk hnw htn hnsp htsp hse hstk hq hki hne hot hra hs hco hre hho (by omega) (by omega) jse jtn jts (rgs_zu (rgs_cpy jg1 jsp (by omega)) (by omega)) (spo_arr jg1 jg2 (by omega) (by omega)) (by omega) (jso.long jro (by omega) (by omega) (by omega) (by omega) (by omega) hc_ hk_ (by omega) hsu (by omega) hkk jnw (fun z a b => (hp.k z a b).1)) (by omega) hfr hlen hsl (by omega) hk0
                · refine ab_vret rfl d_TH_step_257 ?_
                  exact hk0 _ _ _ _ _ _ _ _ _ _ ha hsp hwk hnw htn hnsp htsp hse hstk (by omega) (by omega) (by first | exact (rgs_zu (rgs_cpy jg1 jsp (by omega)) (by omega)) | exact rgs_w (rgs_zu (rgs_cpy jg1 jsp (by omega)) (by omega)) (by omega)) (by first | exact jse | exact rgs_w jse (by omega)) (by exact jtn) (by exact jts) (by exact (spo_arr jg1 jg2 (by omega) (by omega))) (by exact jso.first jro (by omega) (by omega) (by omega) (by omega) (by omega) hc_ hk_ (by omega)) (by omega) hfr hlen hsl
              · refine ab_iload_n d_TH_step_213 rfl ?_
                refine ab_aload_n d_TH_step_214 rfl ?_
                refine ab_getf (fs := [vR sp, vR wk, vR nw, vR tn, vR nsp, vR tsp, vz nc, vz tc, vR se, vz sta, vR stk, vz fo, vR q, vR s, vz hw, vz fy, vj (stp + 1)]) f_TH_40 d_TH_step_215 ha.2.2 rfl ?_
                refine ab_getf (fs := [vR by_, vR co, vR re, vR ho, vz n]) f_TH_67 d_TH_step_218 hs.2.2 rfl ?_
                refine zz_icmp_ne (tgt := 258) d_TH_step_221 (by decide) (by omega) (by omega) (fun c148 => ?_) (fun c148 => ?_)
                · refine zz_iinc d_TH_step_258 rfl (Nat.le_of_ble_eq_true rfl) (Nat.le_of_ble_eq_true rfl) rfl ?_
                  change ab_W _ _ _ G101 261 [some (vR a), some (vz p), some (vz wi), some (vz (i + 1)), some (vz ((NW i) % 1024)), none, none] [] _
                  refine ab_goto (tgt := 10) d_TH_step_261 (by decide) ?_
                  refine ab_less (L' := [some (vR a), some (vz p), some (vz wi), some (vz (i + 1)), none, none, none]) (fun i v h => by rcases i with _ | _ | _ | _ | _ | _ | _ | i <;> first | exact h | (simp at h)) ?_
                  exact ih (tc := tc) (fo := fo) (stp := (stp + 1)) (SP := SP) (WK := W102) (TN := TN) (TS := TS) (SE := SE) (SK := SK) (i := (i + 1)) ha hsp hwk hnw htn hnsp htsp hse hstk hq hki hne hot hra hs hco hre hho (by omega) (by omega) jse jtn jts jsp jspo (by omega) (jso.miss jro (by omega) (by omega) (by omega) (by omega)) (by omega) hfr hlen hsl (by omega) hk0
                · refine ab_aload_n d_TH_step_224 rfl ?_
                  refine ab_getf (fs := [vR sp, vR wk, vR nw, vR tn, vR nsp, vR tsp, vz nc, vz tc, vR se, vz sta, vR stk, vz fo, vR q, vR s, vz hw, vz fy, vj (stp + 1)]) f_TH_15 d_TH_step_225 ha.2.2 rfl ?_
                  refine zz_iconst d_TH_step_228 ?_
                  refine ab_aload_n d_TH_step_229 rfl ?_
                  refine ab_getf (fs := [vR sp, vR wk, vR nw, vR tn, vR nsp, vR tsp, vz nc, vz tc, vR se, vz sta, vR stk, vz fo, vR q, vR s, vz hw, vz fy, vj (stp + 1)]) f_TH_9 d_TH_step_230 ha.2.2 rfl ?_
                  refine zz_iconst d_TH_step_233 ?_
                  refine ab_iload_n d_TH_step_234 rfl ?_
                  refine zz_copy mj_TH_109 d_TH_step_235 hwk hsp (hsp.2.1 (by decide)) (by omega) (Nat.le_of_ble_eq_true rfl) (by omega) ?_
                  obtain ⟨G149, eG149⟩ : ∃ z : ab_G, z = List.set G101 sp (za 20 (zcpy W102 SP 0 0 wi)) := ⟨_, rfl⟩
                  have ha := ha.keep hsp eG149 (by decide)
                  have hwk := hwk.keep hsp eG149 (by decide)
                  have hnw := hnw.keep hsp eG149 (by omega)
                  have htn := htn.keep hsp eG149 (by omega)
                  have hnsp := hnsp.keep hsp eG149 (by omega)
                  have htsp := htsp.keep hsp eG149 (by omega)
                  have hse := hse.keep hsp eG149 (by decide)
                  have hstk := hstk.keep hsp eG149 (by decide)
                  have hq := hq.keep hsp eG149 (by omega)
                  have hki := hki.keep hsp eG149 (by omega)
                  have hne := hne.keep hsp eG149 (by omega)
                  have hot := hot.keep hsp eG149 (by omega)
                  have hra := hra.keep hsp eG149 (by omega)
                  have hs := hs.keep hsp eG149 (by decide)
                  have hco := hco.keep hsp eG149 (by decide)
                  have hre := hre.keep hsp eG149 (by decide)
                  have hho := hho.keep hsp eG149 (by decide)
                  have hlen := (z_len eG149).trans hlen
                  have hsl := (z_sl hsp eG149 rfl).trans hsl
                  have hfr := hfr.wr hsp eG149 (by decide)
                  have hsp := hsp.kept eG149
                  change ab_W _ _ _ (List.set G101 sp (za 20 (zcpy W102 SP 0 0 wi))) 238 [some (vR a), some (vz p), some (vz wi), some (vz i), some (vz ((NW i) % 1024)), none, none] [] _
                  rw [← eG149]
                  refine ab_aload_n d_TH_step_238 rfl ?_
                  refine ab_getf (fs := [vR sp, vR wk, vR nw, vR tn, vR nsp, vR tsp, vz nc, vz tc, vR se, vz sta, vR stk, vz fo, vR q, vR s, vz hw, vz fy, vj (stp + 1)]) f_TH_9 d_TH_step_239 ha.2.2 rfl ?_
                  refine zz_iconst d_TH_step_242 ?_
                  refine ab_iload_n d_TH_step_243 rfl ?_
                  refine zz_iast d_TH_step_244 hsp (by omega) (hsp.2.1 (by decide)) ?_
                  obtain ⟨G150, eG150⟩ : ∃ z : ab_G, z = List.set G149 sp (za 20 (zu (zcpy W102 SP 0 0 wi) 1 p)) := ⟨_, rfl⟩
                  have ha := ha.keep hsp eG150 (by decide)
                  have hwk := hwk.keep hsp eG150 (by decide)
                  have hnw := hnw.keep hsp eG150 (by omega)
                  have htn := htn.keep hsp eG150 (by omega)
                  have hnsp := hnsp.keep hsp eG150 (by omega)
                  have htsp := htsp.keep hsp eG150 (by omega)
                  have hse := hse.keep hsp eG150 (by decide)
                  have hstk := hstk.keep hsp eG150 (by decide)
                  have hq := hq.keep hsp eG150 (by omega)
                  have hki := hki.keep hsp eG150 (by omega)
                  have hne := hne.keep hsp eG150 (by omega)
                  have hot := hot.keep hsp eG150 (by omega)
                  have hra := hra.keep hsp eG150 (by omega)
                  have hs := hs.keep hsp eG150 (by decide)
                  have hco := hco.keep hsp eG150 (by decide)
                  have hre := hre.keep hsp eG150 (by decide)
                  have hho := hho.keep hsp eG150 (by decide)
                  have hlen := (z_len eG150).trans hlen
                  have hsl := (z_sl hsp eG150 rfl).trans hsl
                  have hfr := hfr.wr hsp eG150 (by decide)
                  have hsp := hsp.kept eG150
                  change ab_W _ _ _ (List.set G149 sp (za 20 (zu (zcpy W102 SP 0 0 wi) 1 p))) 245 [some (vR a), some (vz p), some (vz wi), some (vz i), some (vz ((NW i) % 1024)), none, none] [] _
                  rw [← eG150]
                  refine ab_aload_n d_TH_step_245 rfl ?_
                  refine zz_iconst d_TH_step_246 ?_
                  refine ab_putf (fs := [vR sp, vR wk, vR nw, vR tn, vR nsp, vR tsp, vz nc, vz tc, vR se, vz sta, vR stk, vz fo, vR q, vR s, vz hw, vz fy, vj (stp + 1)]) f_TH_61 (Or.inl rfl) d_TH_step_247 ha.2.2 (Nat.le_of_ble_eq_true rfl) (ab_fbz (by decide)) (ha.2.1 (by decide)) ?_
                  obtain ⟨G151, eG151⟩ : ∃ z : ab_G, z = List.set G150 a (ab_ob 11 [vR sp, vR wk, vR nw, vR tn, vR nsp, vR tsp, vz nc, vz tc, vR se, vz sta, vR stk, vz 1, vR q, vR s, vz hw, vz fy, vj (stp + 1)]) := ⟨_, rfl⟩
                  have hsp := hsp.keep ha eG151 (by decide)
                  have hwk := hwk.keep ha eG151 (by decide)
                  have hnw := hnw.keep ha eG151 (by omega)
                  have htn := htn.keep ha eG151 (by omega)
                  have hnsp := hnsp.keep ha eG151 (by omega)
                  have htsp := htsp.keep ha eG151 (by omega)
                  have hse := hse.keep ha eG151 (by decide)
                  have hstk := hstk.keep ha eG151 (by decide)
                  have hq := hq.keep ha eG151 (by omega)
                  have hki := hki.keep ha eG151 (by omega)
                  have hne := hne.keep ha eG151 (by omega)
                  have hot := hot.keep ha eG151 (by omega)
                  have hra := hra.keep ha eG151 (by omega)
                  have hs := hs.keep ha eG151 (by decide)
                  have hco := hco.keep ha eG151 (by decide)
                  have hre := hre.keep ha eG151 (by decide)
                  have hho := hho.keep ha eG151 (by decide)
                  have hlen := (z_len eG151).trans hlen
                  have hsl := (z_sl ha eG151 rfl).trans hsl
                  have hfr := hfr.wr ha eG151 (by decide)
                  have ha := ha.kept eG151
                  change ab_W _ _ _ (List.set G150 a (ab_ob 11 [vR sp, vR wk, vR nw, vR tn, vR nsp, vR tsp, vz nc, vz tc, vR se, vz sta, vR stk, vz 1, vR q, vR s, vz hw, vz fy, vj (stp + 1)])) 250 [some (vR a), some (vz p), some (vz wi), some (vz i), some (vz ((NW i) % 1024)), none, none] [] _
                  rw [← eG151]
                  refine ab_aload_n d_TH_step_250 rfl ?_
                  refine ab_getf (fs := [vR sp, vR wk, vR nw, vR tn, vR nsp, vR tsp, vz nc, vz tc, vR se, vz sta, vR stk, vz 1, vR q, vR s, vz hw, vz fy, vj (stp + 1)]) f_TH_54 d_TH_step_251 ha.2.2 rfl ?_
                  refine zz_if_eq (tgt := 258) d_TH_step_254 (by decide) (by omega) (fun c152 => ?_) (fun c152 => ?_)
                  · refine zz_iinc d_TH_step_258 rfl (Nat.le_of_ble_eq_true rfl) (Nat.le_of_ble_eq_true rfl) rfl ?_
                    change ab_W _ _ _ G151 261 [some (vR a), some (vz p), some (vz wi), some (vz (i + 1)), some (vz ((NW i) % 1024)), none, none] [] _
                    refine ab_goto (tgt := 10) d_TH_step_261 (by decide) ?_
                    refine ab_less (L' := [some (vR a), some (vz p), some (vz wi), some (vz (i + 1)), none, none, none]) (fun i v h => by rcases i with _ | _ | _ | _ | _ | _ | _ | i <;> first | exact h | (simp at h)) ?_
                    exact ih (tc := tc) (fo := 1) (stp := (stp + 1)) (SP := (zu (zcpy W102 SP 0 0 wi) 1 p)) (WK := W102) (TN := TN) (TS := TS) (SE := SE) (SK := SK) (i := (i + 1)) ha hsp hwk hnw htn hnsp htsp hse hstk hq hki hne hot hra hs hco hre hho (by omega) (by omega) jse jtn jts (rgs_zu (rgs_cpy jg1 jsp (by omega)) (by omega)) (spo_arr jg1 jg2 (by omega) (by omega)) (by omega) (jso.long jro (by omega) (by omega) (by omega) (by omega) (by omega) hc_ hk_ (by omega) hsu (by omega) hkk jnw (fun z a b => (hp.k z a b).1)) (by omega) hfr hlen hsl (by omega) hk0
                  · refine ab_vret rfl d_TH_step_257 ?_
                    exact hk0 _ _ _ _ _ _ _ _ _ _ ha hsp hwk hnw htn hnsp htsp hse hstk (by omega) (by omega) (by first | exact (rgs_zu (rgs_cpy jg1 jsp (by omega)) (by omega)) | exact rgs_w (rgs_zu (rgs_cpy jg1 jsp (by omega)) (by omega)) (by omega)) (by first | exact jse | exact rgs_w jse (by omega)) (by exact jtn) (by exact jts) (by exact (spo_arr jg1 jg2 (by omega) (by omega))) (by exact jso.first jro (by omega) (by omega) (by omega) (by omega) (by omega) hc_ hk_ (by omega)) (by omega) hfr hlen hsl
            · have jk := tho_t jt (by omega)
              have jk0_ := (hp (NW i % 1024) (by omega) (by omega)).1
              refine ab_aload_n d_TH_step_108 rfl ?_
              refine ab_getf (fs := [vR sp, vR wk, vR nw, vR tn, vR nsp, vR tsp, vz nc, vz tc, vR se, vz sta, vR stk, vz fo, vR q, vR s, vz hw, vz fy, vj (stp + 1)]) f_TH_18 d_TH_step_109 ha.2.2 rfl ?_
              refine ab_iload_n d_TH_step_112 rfl ?_
              refine zz_iald d_TH_step_113 hnw (by omega) ?_
              refine zz_sipush d_TH_step_114 (by decide) ?_
              refine zz_icmp_lt (tgt := 124) d_TH_step_117 (by decide) (by omega) (by decide) (fun c153 => ?_) (fun c153 => absurd c153 (by omega))
              refine zz_iconst d_TH_step_124 ?_
              refine ab_istore d_TH_step_125 (Nat.le_of_ble_eq_true rfl) (Nat.le_of_ble_eq_true rfl) rfl ?_
              change ab_W _ _ _ G101 127 [some (vR a), some (vz p), some (vz wi), some (vz i), some (vz ((NW i) % 1024)), some (vz 0), none] [] _
              refine ab_iload d_TH_step_127 rfl ?_
              refine zz_if_eq (tgt := 144) d_TH_step_129 (by decide) (by decide) (fun c154 => ?_) (fun c154 => absurd c154 (by decide))
              refine ab_aload_n d_TH_step_144 rfl ?_
              refine ab_getf (fs := [vR sp, vR wk, vR nw, vR tn, vR nsp, vR tsp, vz nc, vz tc, vR se, vz sta, vR stk, vz fo, vR q, vR s, vz hw, vz fy, vj (stp + 1)]) f_TH_36 d_TH_step_145 ha.2.2 rfl ?_
              refine ab_iload d_TH_step_148 rfl ?_
              refine ab_aload_n d_TH_step_150 rfl ?_
              refine ab_getf (fs := [vR sp, vR wk, vR nw, vR tn, vR nsp, vR tsp, vz nc, vz tc, vR se, vz sta, vR stk, vz fo, vR q, vR s, vz hw, vz fy, vj (stp + 1)]) f_TH_40 d_TH_step_151 ha.2.2 rfl ?_
              refine ab_iload_n d_TH_step_154 rfl ?_
              refine ab_callV (d' := d - 1) (as := [vz ((NW i) % 1024), vR s, vz p]) (st := []) (r := _) (z_PR_bytesTaken (o := o) (q := q) (lq := lq) (ki := ki) (ne := ne) (ot := ot) (cnt := cnt) (fi := fi) (la := la) (ra := ra) (ru := ru) (gr := gr) (wi := wi) (sz := sz) (fl := fl) (ve := ve) (mi := mi) (na := na) (nl := nl) (K := K) (O := O) (RR := RR) (nr := nr) (s := s) (by_ := by_) (co := co) (re := re) (ho := ho) (n := n) (C := C) (Rs := Rs) (mc := mc) (x := ((NW i) % 1024)) (p := p) hq hki hot hra hs hco hre (by omega) (by omega) hp hr (by omega) hsu (by omega)) (fun oc G2 h => by rcases h with ⟨_, h, _⟩ <;> exact ⟨_, h⟩) (by omega) m_PR_bytesTaken ml_TH_121 im_PR_bytesTaken se_PR_bytesTaken c_PR hq.2.2 (Nat.le_of_ble_eq_true rfl) d_TH_step_155 rfl ?_
              intro v G155 hq
              rcases hq with ⟨v156, hv, hfk, hlk, hsk, hq157, hq158⟩
              cases hv
              have ha := hfk.get ha (by decide)
              have hsp := hfk.get hsp (by decide)
              have hwk := hfk.get hwk (by decide)
              have hnw := hfk.get hnw (by simp)
              have htn := hfk.get htn (by simp)
              have hnsp := hfk.get hnsp (by simp)
              have htsp := hfk.get htsp (by simp)
              have hse := hfk.get hse (by decide)
              have hstk := hfk.get hstk (by decide)
              have hq := hfk.get hq (by simp)
              have hki := hfk.get hki (by simp)
              have hne := hfk.get hne (by simp)
              have hot := hfk.get hot (by simp)
              have hra := hfk.get hra (by simp)
              have hs := hfk.get hs (by decide)
              have hco := hfk.get hco (by decide)
              have hre := hfk.get hre (by decide)
              have hho := hfk.get hho (by decide)
              have hfr := hfr.tr hfk (by decide)
              have hlen := hlk.trans hlen
              have hsl := hsk.trans hsl
              change ab_W _ _ _ G155 158 [some (vR a), some (vz p), some (vz wi), some (vz i), some (vz ((NW i) % 1024)), some (vz 0), none] [vz v156] _
              refine ab_istore d_TH_step_158 (Nat.le_of_ble_eq_true rfl) (Nat.le_of_ble_eq_true rfl) rfl ?_
              change ab_W _ _ _ G155 160 [some (vR a), some (vz p), some (vz wi), some (vz i), some (vz ((NW i) % 1024)), some (vz 0), some (vz v156)] [] _
              have jv_ := jso.vv (vb := v156) jro (by omega) hsu (by omega) (Or.inl ⟨by omega, by omega, hq157⟩)
              refine ab_iload d_TH_step_160 rfl ?_
              refine zz_iconst d_TH_step_162 ?_
              refine zz_icmp_ne (tgt := 186) d_TH_step_163 (by decide) (by omega) (by decide) (fun c159 => ?_) (fun c159 => ?_)
              · refine ab_iload d_TH_step_186 rfl ?_
                refine zz_iconst d_TH_step_188 ?_
                refine zz_icmp_le (tgt := 202) d_TH_step_189 (by decide) (by omega) (by decide) (fun c160 => ?_) (fun c160 => ?_)
                · refine ab_goto (tgt := 258) d_TH_step_202 (by decide) ?_
                  refine zz_iinc d_TH_step_258 rfl (Nat.le_of_ble_eq_true rfl) (Nat.le_of_ble_eq_true rfl) rfl ?_
                  change ab_W _ _ _ G155 261 [some (vR a), some (vz p), some (vz wi), some (vz (i + 1)), some (vz ((NW i) % 1024)), some (vz 0), some (vz v156)] [] _
                  refine ab_goto (tgt := 10) d_TH_step_261 (by decide) ?_
                  refine ab_less (L' := [some (vR a), some (vz p), some (vz wi), some (vz (i + 1)), none, none, none]) (fun i v h => by rcases i with _ | _ | _ | _ | _ | _ | _ | i <;> first | exact h | (simp at h)) ?_
                  exact ih (tc := tc) (fo := fo) (stp := (stp + 1)) (SP := SP) (WK := W102) (TN := TN) (TS := TS) (SE := SE) (SK := SK) (i := (i + 1)) ha hsp hwk hnw htn hnsp htsp hse hstk hq hki hne hot hra hs hco hre hho (by omega) (by omega) jse jtn jts jsp jspo (by omega) (jso.skip jro (by omega) (jv_.1 (by omega))) (by omega) hfr hlen hsl (by omega) hk0
                · refine ab_aload_n d_TH_step_192 rfl ?_
                  refine ab_iload d_TH_step_193 rfl ?_
                  refine zz_sipush d_TH_step_195 (by decide) ?_
                  refine zz_iadd d_TH_step_198 ?_
                  refine ab_callV (d' := d - 1) (as := [vz (((NW i) % 1024) + 1024)]) (st := []) (r := _) (z_TH_put (o := o) (q := q) (lq := lq) (ki := ki) (ne := ne) (ot := ot) (cnt := cnt) (fi := fi) (la := la) (ra := ra) (ru := ru) (gr := gr) (wi := wi) (sz := sz) (fl := fl) (ve := ve) (mi := mi) (na := na) (nl := nl) (s := s) (a := a) (sp := sp) (wk := wk) (nw := nw) (tn := tn) (nsp := nsp) (tsp := tsp) (se := se) (stk := stk) (nc := nc) (tc := tc) (sta := sta) (fo := fo) (hw := hw) (fy := fy) (stp := (stp + 1)) (WK := W102) (NW := NW) (TN := TN) (NS := NS) (TS := TS) (SE := SE) (l1 := l1) (l2 := l2) (l3 := l3) (l4 := l4) (e := (((NW i) % 1024) + 1024)) ha hwk hnw hnsp htn htsp hse hq (by omega) (by omega) (by omega) jg1 (by omega) jse (by omega) jtn jts (by omega) (tho_w (by omega) jk) (by omega) (by omega)) (fun oc G2 h => by rcases h with ⟨h, _⟩ | ⟨h, _⟩ | ⟨_, _, _, _, h, _⟩ <;> exact ⟨_, h⟩) (by omega) m_TH_put ml_TH_128 im_TH_put se_TH_put c_TH ha.2.2 (Nat.le_of_ble_eq_true rfl) d_TH_step_199 rfl ?_
                  intro v G161 hq
                  rcases hq with ⟨hv, hGe, hq162⟩ | ⟨hv, hGe, hq163, hq164⟩ | ⟨SE2165, TN2166, TS2167, tc2168, hv, hfk, hlk, hsk, hNa, hNwk, hNnw, hNnsp, hNtn, hNtsp, hNse, hq169, hq170, hq171, hq172, hq173, hq174⟩
                  · cases hv
                    rw [hGe]
                    change ab_W _ _ _ G155 202 [some (vR a), some (vz p), some (vz wi), some (vz i), some (vz ((NW i) % 1024)), some (vz 0), some (vz v156)] [] _
                    refine ab_goto (tgt := 258) d_TH_step_202 (by decide) ?_
                    refine zz_iinc d_TH_step_258 rfl (Nat.le_of_ble_eq_true rfl) (Nat.le_of_ble_eq_true rfl) rfl ?_
                    change ab_W _ _ _ G155 261 [some (vR a), some (vz p), some (vz wi), some (vz (i + 1)), some (vz ((NW i) % 1024)), some (vz 0), some (vz v156)] [] _
                    refine ab_goto (tgt := 10) d_TH_step_261 (by decide) ?_
                    refine ab_less (L' := [some (vR a), some (vz p), some (vz wi), some (vz (i + 1)), none, none, none]) (fun i v h => by rcases i with _ | _ | _ | _ | _ | _ | _ | i <;> first | exact h | (simp at h)) ?_
                    exact ih (tc := tc) (fo := fo) (stp := (stp + 1)) (SP := SP) (WK := W102) (TN := TN) (TS := TS) (SE := SE) (SK := SK) (i := (i + 1)) ha hsp hwk hnw htn hnsp htsp hse hstk hq hki hne hot hra hs hco hre hho (by omega) (by omega) jse jtn jts jsp jspo (by omega) (jso.wait jro (by omega) hsu (by omega) (jv_.2 (by omega)) (by omega) (by omega) hk_ (by omega) hc_ (Or.inl ⟨hq162, rfl, rfl, rfl, rfl⟩)) (by omega) hfr hlen hsl (by omega) hk0
                  · cases hv
                    rw [hGe]
                    change ab_W _ _ _ G155 202 [some (vR a), some (vz p), some (vz wi), some (vz i), some (vz ((NW i) % 1024)), some (vz 0), some (vz v156)] [] _
                    exfalso
                    have hrm_ := jso.room hkk (x := NW i % 1024) (by omega) hq163
                    omega
                  · cases hv
                    have hsp := hfk.get hsp (by decide)
                    have hstk := hfk.get hstk (by decide)
                    have hq := hfk.get hq (by simp only [List.mem_cons, List.not_mem_nil, or_false]; omega)
                    have hki := hfk.get hki (by simp only [List.mem_cons, List.not_mem_nil, or_false]; omega)
                    have hne := hfk.get hne (by simp only [List.mem_cons, List.not_mem_nil, or_false]; omega)
                    have hot := hfk.get hot (by simp only [List.mem_cons, List.not_mem_nil, or_false]; omega)
                    have hra := hfk.get hra (by simp only [List.mem_cons, List.not_mem_nil, or_false]; omega)
                    have hs := hfk.get hs (by decide)
                    have hco := hfk.get hco (by decide)
                    have hre := hfk.get hre (by decide)
                    have hho := hfk.get hho (by decide)
                    have hfr := hfr.tr hfk (by decide)
                    have hlen := hlk.trans hlen
                    have hsl := hsk.trans hsl
                    have ha := hNa
                    have hwk := hNwk
                    have hnw := hNnw
                    have hnsp := hNnsp
                    have htn := hNtn
                    have htsp := hNtsp
                    have hse := hNse
                    change ab_W _ _ _ G161 202 [some (vR a), some (vz p), some (vz wi), some (vz i), some (vz ((NW i) % 1024)), some (vz 0), some (vz v156)] [] _
                    refine ab_goto (tgt := 258) d_TH_step_202 (by decide) ?_
                    refine zz_iinc d_TH_step_258 rfl (Nat.le_of_ble_eq_true rfl) (Nat.le_of_ble_eq_true rfl) rfl ?_
                    change ab_W _ _ _ G161 261 [some (vR a), some (vz p), some (vz wi), some (vz (i + 1)), some (vz ((NW i) % 1024)), some (vz 0), some (vz v156)] [] _
                    refine ab_goto (tgt := 10) d_TH_step_261 (by decide) ?_
                    refine ab_less (L' := [some (vR a), some (vz p), some (vz wi), some (vz (i + 1)), none, none, none]) (fun i v h => by rcases i with _ | _ | _ | _ | _ | _ | _ | i <;> first | exact h | (simp at h)) ?_
                    exact ih (tc := tc2168) (fo := fo) (stp := (stp + 1)) (SP := SP) (WK := W102) (TN := TN2166) (TS := TS2167) (SE := SE2165) (SK := SK) (i := (i + 1)) ha hsp hwk hnw htn hnsp htsp hse hstk hq hki hne hot hra hs hco hre hho (by omega) (by omega) hq170 hq171 hq172 jsp jspo (by omega) (jso.wait jro (by omega) hsu (by omega) (jv_.2 (by omega)) (by omega) (by omega) hk_ (by omega) hc_ (Or.inr ⟨hq173, by omega⟩)) (by omega) hfr hlen hsl (by omega) hk0
              · have jw_ := jv_.2 (by omega)
                have jwn_ := jw_.2.1
                have jw1_ := jw_.1
                rw [show v156 = 1 by omega] at jw1_ jwn_
                refine ab_aload_n d_TH_step_166 rfl ?_
                refine ab_aload_n d_TH_step_167 rfl ?_
                refine ab_getf (fs := [vR sp, vR wk, vR nw, vR tn, vR nsp, vR tsp, vz nc, vz tc, vR se, vz sta, vR stk, vz fo, vR q, vR s, vz hw, vz fy, vj (stp + 1)]) f_TH_36 d_TH_step_168 ha.2.2 rfl ?_
                refine ab_getf (fs := [vR ki, vR ne, vR ot, vz cnt, vz fi, vz la, vR ra, vz ru, vz gr, vz wi, vz sz, vz fl, vz ve, vz mi, vR na, vR nl]) f_TH_125 d_TH_step_171 hq.2.2 rfl ?_
                refine ab_iload d_TH_step_174 rfl ?_
                refine zz_iald d_TH_step_176 hne (by omega) ?_
                have hq175 := hp.n ((NW i) % 1024) (by omega) (by omega)
                refine ab_iload_n d_TH_step_177 rfl ?_
                refine zz_iconst d_TH_step_178 ?_
                refine zz_iadd d_TH_step_179 ?_
                refine ab_callV (d' := d - 1) (as := [vz (N ((NW i) % 1024)), vz (p + 1)]) (st := []) (r := _) (z_TH_follow (o := o) (q := q) (lq := lq) (ki := ki) (ne := ne) (ot := ot) (cnt := cnt) (fi := fi) (la := la) (ra := ra) (ru := ru) (gr := gr) (wi := wi) (sz := sz) (fl := fl) (ve := ve) (mi := mi) (na := na) (nl := nl) (K := K) (N := N) (O := O) (RR := RR) (nr := nr) (s := s) (by_ := by_) (co := co) (re := re) (ho := ho) (n := n) (C := C) (Rs := Rs) (H := H) (mc := mc) (a := a) (sp := sp) (wk := wk) (nw := nw) (tn := tn) (nsp := nsp) (tsp := tsp) (se := se) (stk := stk) (nc := nc) (tc := tc) (sta := sta) (fo := fo) (hw := hw) (fy := fy) (stp := (stp + 1)) (SP := SP) (WK := W102) (NW := NW) (TN := TN) (NS := NS) (TS := TS) (SE := SE) (SK := SK) (l1 := l1) (l2 := l2) (l3 := l3) (l4 := l4) (p := (p + 1)) (x := (N ((NW i) % 1024))) (st := (NS (i * wi))) (Mw := W_) (s0 := s_) (gw := g_) (Lw := L_) ha hsp hwk hnw htn hnsp htsp hse hstk hq hki hne hot hra hs hco hre hho (by omega) hp hr (by omega) hsu (by omega) (by omega) hkk (by omega) (by omega) (by omega) jg1 (by omega) jse jtn jts jso.ff jso.2.2.2.2.2.2.2 (jso.gA hk_) hk_.1 jw1_ (by omega)) (fun oc G2 h => by rcases h with ⟨_, _, _, _, _, _, _, h, _⟩ <;> exact ⟨_, h⟩) (by omega) m_TH_follow ml_TH_84 im_TH_follow se_TH_follow c_TH ha.2.2 (Nat.le_of_ble_eq_true rfl) d_TH_step_180 rfl ?_
                intro v G176 hq
                rcases hq with ⟨tc2177, st2178, SE2179, TN2180, TS2181, SK2182, WK2183, hv, hfk, hlk, hsk, hNa, hNsp, hNwk, hNnw, hNtn, hNnsp, hNtsp, hNse, hNstk, hq184, hq185, hq186, hq187, hq188, hq189, hq190, hq191, hq192⟩
                cases hv
                have hq := hfk.get hq (by simp only [List.mem_cons, List.not_mem_nil, or_false]; omega)
                have hki := hfk.get hki (by simp only [List.mem_cons, List.not_mem_nil, or_false]; omega)
                have hne := hfk.get hne (by simp only [List.mem_cons, List.not_mem_nil, or_false]; omega)
                have hot := hfk.get hot (by simp only [List.mem_cons, List.not_mem_nil, or_false]; omega)
                have hra := hfk.get hra (by simp only [List.mem_cons, List.not_mem_nil, or_false]; omega)
                have hs := hfk.get hs (by decide)
                have hco := hfk.get hco (by decide)
                have hre := hfk.get hre (by decide)
                have hho := hfk.get hho (by decide)
                have hfr := hfr.tr hfk (by decide)
                have hlen := hlk.trans hlen
                have hsl := hsk.trans hsl
                have ha := hNa
                have hsp := hNsp
                have hwk := hNwk
                have hnw := hNnw
                have htn := hNtn
                have hnsp := hNnsp
                have htsp := hNtsp
                have hse := hNse
                have hstk := hNstk
                change ab_W _ _ _ G176 183 [some (vR a), some (vz p), some (vz wi), some (vz i), some (vz ((NW i) % 1024)), some (vz 0), some (vz v156)] [] _
                refine ab_goto (tgt := 202) d_TH_step_183 (by decide) ?_
                refine ab_goto (tgt := 258) d_TH_step_202 (by decide) ?_
                refine zz_iinc d_TH_step_258 rfl (Nat.le_of_ble_eq_true rfl) (Nat.le_of_ble_eq_true rfl) rfl ?_
                change ab_W _ _ _ G176 261 [some (vR a), some (vz p), some (vz wi), some (vz (i + 1)), some (vz ((NW i) % 1024)), some (vz 0), some (vz v156)] [] _
                refine ab_goto (tgt := 10) d_TH_step_261 (by decide) ?_
                refine ab_less (L' := [some (vR a), some (vz p), some (vz wi), some (vz (i + 1)), none, none, none]) (fun i v h => by rcases i with _ | _ | _ | _ | _ | _ | _ | i <;> first | exact h | (simp at h)) ?_
                exact ih (tc := tc2177) (fo := fo) (stp := st2178) (SP := SP) (WK := WK2183) (TN := TN2180) (TS := TS2181) (SE := SE2179) (SK := SK2182) (i := (i + 1)) ha hsp hwk hnw htn hnsp htsp hse hstk hq hki hne hot hra hs hco hre hho (by omega) (by omega) hq187 hq188 hq189 jsp jspo (by omega) (jso.move jro (by omega) hq190 hc_ hsu (by omega)) (by omega) hfr hlen hsl (by omega) hk0
        · refine ab_vret rfl d_TH_step_52 ?_
          exact hk0 _ _ _ _ _ _ _ _ _ _ ha hsp hwk hnw htn hnsp htsp hse hstk (by omega) (by omega) (by first | exact jsp | exact rgs_w jsp (by omega)) (by first | exact jse | exact rgs_w jse (by omega)) (by exact jtn) (by exact jts) (by exact jspo) (by exact jso.late jro (by omega) (by omega) (by rw [← hv97]; omega)) (by omega) hfr hlen hsl
set_option maxRecDepth 100000 in
set_option maxHeartbeats 4000000 in
theorem z_TH_step {X : ab_X} {d : Nat} {o : Nat → Nat} {G : ab_G} {q : Nat} {lq : Nat} {ki : Nat} {ne : Nat} {ot : Nat} {cnt : Int} {fi : Int} {la : Int} {ra : Nat} {ru : Int} {gr : Int} {wi : Int} {sz : Int} {fl : Int} {ve : Int} {mi : Int} {na : Nat} {nl : Nat} {K : Int → Int} {N : Int → Int} {O : Int → Int} {RR : Int → Int} {nr : Nat} {s : Nat} {by_ : Nat} {co : Nat} {re : Nat} {ho : Nat} {n : Int} {f : Int → Int} {C : Int → Int} {Rs : Int → Int} {H : Int → Int} {m : Nat} {mc : Nat} {a : Nat} {sp : Nat} {wk : Nat} {nw : Nat} {tn : Nat} {nsp : Nat} {tsp : Nat} {se : Nat} {stk : Nat} {nc : Int} {tc : Int} {sta : Int} {fo : Int} {hw : Int} {fy : Int} {stp : Int} {SP : Int → Int} {WK : Int → Int} {NW : Int → Int} {TN : Int → Int} {NS : Int → Int} {TS : Int → Int} {SE : Int → Int} {SK : Int → Int} {l1 : Nat} {l2 : Nat} {l3 : Nat} {l4 : Nat} {p : Int} {u9 : Sn} {lz : Int} {S9 : Option Tw} (ha : cc o G a 32 (ab_ob 11 [vR sp, vR wk, vR nw, vR tn, vR nsp, vR tsp, vz nc, vz tc, vR se, vz sta, vR stk, vz fo, vR q, vR s, vz hw, vz fy, vj stp])) (hsp : cc o G sp 31 (za 20 SP)) (hwk : cc o G wk 33 (za 20 WK)) (hnw : cc o G nw l1 (za 801 NW)) (htn : cc o G tn l2 (za 801 TN)) (hnsp : cc o G nsp l3 (za 16020 NS)) (htsp : cc o G tsp l4 (za 16020 TS)) (hse : cc o G se 39 (za 2048 SE)) (hstk : cc o G stk 40 (za 809 SK)) (hq : cc o G q lq (ab_ob 5 [vR ki, vR ne, vR ot, vz cnt, vz fi, vz la, vR ra, vz ru, vz gr, vz wi, vz sz, vz fl, vz ve, vz mi, vR na, vR nl])) (hki : cc o G ki (lq + 1) (za 808 K)) (hne : cc o G ne (lq + 2) (za 808 N)) (hot : cc o G ot (lq + 3) (za 808 O)) (hra : cc o G ra (lq + 4) (za nr RR)) (hs : cc o G s 26 (ab_ob 9 [vR by_, vR co, vR re, vR ho, vz n])) (hco : cc o G co 28 (za mc C)) (hre : cc o G re 29 (za mc Rs)) (hho : cc o G ho 30 (za mc H)) (cq : 100 ≤ lq ∧ 0 ≤ cnt ∧ cnt ≤ 808 ∧ ↑nr ≤ (100000 : Int)) (hp : prok K N O RR cnt ↑nr wi) (hr : ∀ k : Int, 0 ≤ k → k < ↑nr → 0 ≤ RR k ∧ RR k ≤ 1114111) (csu : 0 ≤ n ∧ n ≤ ↑m ∧ 32 ≤ m ∧ m ≤ 2000 ∧ mc = m + 1) (hsu : suok f C Rs H n) (cwi : 2 ≤ wi ∧ wi ≤ 20) (cl : l1 + l2 = 71 ∧ 35 ≤ l1 ∧ l1 ≤ 36 ∧ l3 + l4 = 75 ∧ 37 ≤ l3 ∧ l3 ≤ 38) (hkk : kkF K cnt) (cp : 0 ≤ p ∧ p ≤ n) (jnw : thos K cnt NW nc) (jns : thr NS nc wi n) (cnc : 0 ≤ nc ∧ nc ≤ 801) (cst : 0 ≤ sta ∧ sta ≤ 2100000000) (chw : 0 ≤ hw ∧ hw ≤ 2 ∧ 0 ≤ fy ∧ fy ≤ 1) (jro : roW Rs n p wi p NW NS nc) (ctc : 0 ≤ tc ∧ tc ≤ 801) (jse : rgs SE 2048 0 sta) (jtn : thos K cnt TN tc) (jts : thr TS tc wi n) (jsp : rgs SP 20 (-1) 2000) (jspo : spo fo SP wi n) (cfo : 0 ≤ fo ∧ fo ≤ 1) (jst : stJ K N O RR cnt u9 f n fy hw wi lz p Rs SE sta NW NS nc 0 TN TS tc fo SP S9) (hd : 7 ≤ d) : ab_F X d y_TH_step (.code y_TH_step b_TH_step 7 none) [vR a, vz p] G (fun oc G2 => ∃ tc2 : Int, ∃ st2 : Int, ∃ fo2 : Int, ∃ SE2 : Int → Int, ∃ TN2 : Int → Int, ∃ TS2 : Int → Int, ∃ SK2 : Int → Int, ∃ WK2 : Int → Int, ∃ SP2 : Int → Int, oc = .returned none ∧ fx o o [31, 32, 33, 35, 36, 37, 38, 39, 40] G G2 ∧ G2.length = G.length ∧ ab_slots G2 = ab_slots G ∧ cc o G2 a 32 (ab_ob 11 [vR sp, vR wk, vR nw, vR tn, vR nsp, vR tsp, vz nc, vz tc2, vR se, vz sta, vR stk, vz fo2, vR q, vR s, vz hw, vz fy, vj st2]) ∧ cc o G2 sp 31 (za 20 SP2) ∧ cc o G2 wk 33 (za 20 WK2) ∧ cc o G2 nw l1 (za 801 NW) ∧ cc o G2 tn l2 (za 801 TN2) ∧ cc o G2 nsp l3 (za 16020 NS) ∧ cc o G2 tsp l4 (za 16020 TS2) ∧ cc o G2 se 39 (za 2048 SE2) ∧ cc o G2 stk 40 (za 809 SK2) ∧ (0 ≤ tc2 ∧ tc2 ≤ 801) ∧ (0 ≤ fo2 ∧ fo2 ≤ 1) ∧ (rgs SP2 20 (-1) 2000) ∧ (rgs SE2 2048 0 sta) ∧ (thos K cnt TN2 tc2) ∧ (thr TS2 tc2 wi n) ∧ (spo fo2 SP2 wi n) ∧ (stE K N O RR cnt u9 f n fy hw wi lz (p + 1) Rs SE2 sta TN2 TS2 tc2 fo2 SP2 S9) ∧ (stp ≤ st2 ∧ st2 ≤ stp + 5698)) := by
  refine ab_F_of (by decide +kernel) (Nat.le_of_ble_eq_true rfl) ?_
  obtain ⟨Q, hQ⟩ : ∃ z : Outcome → ab_G → Prop, z = (fun oc G2 => ∃ tc2 : Int, ∃ st2 : Int, ∃ fo2 : Int, ∃ SE2 : Int → Int, ∃ TN2 : Int → Int, ∃ TS2 : Int → Int, ∃ SK2 : Int → Int, ∃ WK2 : Int → Int, ∃ SP2 : Int → Int, oc = .returned none ∧ fx o o [31, 32, 33, 35, 36, 37, 38, 39, 40] G G2 ∧ G2.length = G.length ∧ ab_slots G2 = ab_slots G ∧ cc o G2 a 32 (ab_ob 11 [vR sp, vR wk, vR nw, vR tn, vR nsp, vR tsp, vz nc, vz tc2, vR se, vz sta, vR stk, vz fo2, vR q, vR s, vz hw, vz fy, vj st2]) ∧ cc o G2 sp 31 (za 20 SP2) ∧ cc o G2 wk 33 (za 20 WK2) ∧ cc o G2 nw l1 (za 801 NW) ∧ cc o G2 tn l2 (za 801 TN2) ∧ cc o G2 nsp l3 (za 16020 NS) ∧ cc o G2 tsp l4 (za 16020 TS2) ∧ cc o G2 se 39 (za 2048 SE2) ∧ cc o G2 stk 40 (za 809 SK2) ∧ (0 ≤ tc2 ∧ tc2 ≤ 801) ∧ (0 ≤ fo2 ∧ fo2 ≤ 1) ∧ (rgs SP2 20 (-1) 2000) ∧ (rgs SE2 2048 0 sta) ∧ (thos K cnt TN2 tc2) ∧ (thr TS2 tc2 wi n) ∧ (spo fo2 SP2 wi n) ∧ (stE K N O RR cnt u9 f n fy hw wi lz (p + 1) Rs SE2 sta TN2 TS2 tc2 fo2 SP2 S9) ∧ (stp ≤ st2 ∧ st2 ≤ stp + 5698)) := ⟨_, rfl⟩
  rw [← hQ]
  change ab_W X (ab_pl y_TH_step b_TH_step 7 none) d G 0 [some (vR a), some (vz p), none, none, none, none, none] [] Q
  have hfr : fx o o [31, 32, 33, 35, 36, 37, 38, 39, 40] G G := fx.rf
  have hlen : G.length = G.length := rfl
  have hsl : ab_slots G = ab_slots G := rfl
  refine ab_aload_n d_TH_step_0 rfl ?_
  refine ab_getf (fs := [vR sp, vR wk, vR nw, vR tn, vR nsp, vR tsp, vz nc, vz tc, vR se, vz sta, vR stk, vz fo, vR q, vR s, vz hw, vz fy, vj stp]) f_TH_36 d_TH_step_1 ha.2.2 rfl ?_
  refine ab_getf (fs := [vR ki, vR ne, vR ot, vz cnt, vz fi, vz la, vR ra, vz ru, vz gr, vz wi, vz sz, vz fl, vz ve, vz mi, vR na, vR nl]) f_TH_72 d_TH_step_4 hq.2.2 rfl ?_
  refine ab_istore_n d_TH_step_7 (Nat.le_of_ble_eq_true rfl) (Nat.le_of_ble_eq_true rfl) rfl ?_
  change ab_W _ _ _ G 8 [some (vR a), some (vz p), some (vz wi), none, none, none, none] [] _
  refine zz_iconst d_TH_step_8 ?_
  refine ab_istore_n d_TH_step_9 (Nat.le_of_ble_eq_true rfl) (Nat.le_of_ble_eq_true rfl) rfl ?_
  change ab_W _ _ _ G 10 [some (vR a), some (vz p), some (vz wi), some (vz 0), none, none, none] [] _
  refine y_TH_step_10 (q := q) (lq := lq) (ki := ki) (ne := ne) (ot := ot) (cnt := cnt) (fi := fi) (la := la) (ra := ra) (ru := ru) (gr := gr) (wi := wi) (sz := sz) (fl := fl) (ve := ve) (mi := mi) (na := na) (nl := nl) (K := K) (N := N) (O := O) (RR := RR) (nr := nr) (s := s) (by_ := by_) (co := co) (re := re) (ho := ho) (n := n) (C := C) (Rs := Rs) (H := H) (mc := mc) (a := a) (sp := sp) (wk := wk) (nw := nw) (tn := tn) (nsp := nsp) (tsp := tsp) (se := se) (stk := stk) (nc := nc) (sta := sta) (hw := hw) (fy := fy) (NW := NW) (NS := NS) (l1 := l1) (l2 := l2) (l3 := l3) (l4 := l4) (p := p) (u9 := u9) (lz := lz) (S9 := S9) (st0 := stp) (SE0 := SE) (G0 := G) (tc := tc) (fo := fo) (stp := stp) (SP := SP) (WK := WK) (TN := TN) (TS := TS) (SE := SE) (SK := SK) (i := 0) (by omega) hp hr (by omega) hsu (by omega) (by omega) hkk (by omega) jnw jns (by omega) (by omega) (by omega) jro (by omega) (Int.toNat (nc - 0) + 1) ha hsp hwk hnw htn hnsp htsp hse hstk hq hki hne hot hra hs hco hre hho (by omega) (by omega) jse jtn jts jsp jspo (by omega) jst (by omega) fx.rf rfl rfl (by omega) (fun G1 tc22 st23 fo24 SE25 TN26 TS27 SK28 WK29 SP210 hNa hNsp hNwk hNnw hNtn hNnsp hNtsp hNse hNstk hq11 hq12 hq13 hq14 hq15 hq16 hq17 hq18 hq19 hfk hlk hsk => ?_)
  · have hq := hfk.get hq (by simp only [List.mem_cons, List.not_mem_nil, or_false]; omega)
    have hki := hfk.get hki (by simp only [List.mem_cons, List.not_mem_nil, or_false]; omega)
    have hne := hfk.get hne (by simp only [List.mem_cons, List.not_mem_nil, or_false]; omega)
    have hot := hfk.get hot (by simp only [List.mem_cons, List.not_mem_nil, or_false]; omega)
    have hra := hfk.get hra (by simp only [List.mem_cons, List.not_mem_nil, or_false]; omega)
    have hs := hfk.get hs (by decide)
    have hco := hfk.get hco (by decide)
    have hre := hfk.get hre (by decide)
    have hho := hfk.get hho (by decide)
    have hfr := hfr.tr hfk (by decide)
    have hlen := hlk.trans hlen
    have hsl := hsk.trans hsl
    have ha := hNa
    have hsp := hNsp
    have hwk := hNwk
    have hnw := hNnw
    have htn := hNtn
    have hnsp := hNnsp
    have htsp := hNtsp
    have hse := hNse
    have hstk := hNstk
    rw [hQ]; exact ⟨_, _, _, _, _, _, _, _, _, rfl, hfr, hlen, hsl, ha, hsp, hwk, hnw, htn, hnsp, htsp, hse, hstk, (by omega), (by omega), (by first | exact hq13 | exact rgs_w hq13 (by omega)), (by first | exact hq14 | exact rgs_w hq14 (by omega)), (by exact hq15), (by exact hq16), (by exact hq17), (by exact hq18), (by have b1 := scn_b SE sta; have b2 := scn_b SE25 sta; omega)⟩
set_option maxRecDepth 100000 in
set_option maxHeartbeats 4000000 in
theorem z_TH_renewStamp {X : ab_X} {d : Nat} {o : Nat → Nat} {G : ab_G} {a : Nat} {wk : Nat} {nw : Nat} {tn : Nat} {nsp : Nat} {tsp : Nat} {se : Nat} {stk : Nat} {nc : Int} {tc : Int} {sta : Int} {fo : Int} {hw : Int} {fy : Int} {stp : Int} {SE : Int → Int} {sp0 : Value} {q0 : Value} {s0 : Value} (ha : cc o G a 32 (ab_ob 11 [sp0, vR wk, vR nw, vR tn, vR nsp, vR tsp, vz nc, vz tc, vR se, vz sta, vR stk, vz fo, q0, s0, vz hw, vz fy, vj stp])) (hse : cc o G se 39 (za 2048 SE)) (jse : rgs SE 2048 0 sta) (cst : 0 ≤ sta ∧ sta ≤ 2100000000) (hd : 1 ≤ d) : ab_F X d y_TH_renewStamp (.code y_TH_renewStamp b_TH_renewStamp 1 none) [vR a] G (fun oc G2 => ∃ sta2 : Int, ∃ SE2 : Int → Int, oc = .returned none ∧ fx o o [32, 39] G G2 ∧ G2.length = G.length ∧ ab_slots G2 = ab_slots G ∧ cc o G2 a 32 (ab_ob 11 [sp0, vR wk, vR nw, vR tn, vR nsp, vR tsp, vz nc, vz tc, vR se, vz sta2, vR stk, vz fo, q0, s0, vz hw, vz fy, vj stp]) ∧ cc o G2 se 39 (za 2048 SE2) ∧ (1 ≤ sta2 ∧ sta2 ≤ 2000000001) ∧ (rgs SE2 2048 0 (sta2 - 1))) := by
  refine ab_F_of (by decide +kernel) (Nat.le_of_ble_eq_true rfl) ?_
  obtain ⟨Q, hQ⟩ : ∃ z : Outcome → ab_G → Prop, z = (fun oc G2 => ∃ sta2 : Int, ∃ SE2 : Int → Int, oc = .returned none ∧ fx o o [32, 39] G G2 ∧ G2.length = G.length ∧ ab_slots G2 = ab_slots G ∧ cc o G2 a 32 (ab_ob 11 [sp0, vR wk, vR nw, vR tn, vR nsp, vR tsp, vz nc, vz tc, vR se, vz sta2, vR stk, vz fo, q0, s0, vz hw, vz fy, vj stp]) ∧ cc o G2 se 39 (za 2048 SE2) ∧ (1 ≤ sta2 ∧ sta2 ≤ 2000000001) ∧ (rgs SE2 2048 0 (sta2 - 1))) := ⟨_, rfl⟩
  rw [← hQ]
  change ab_W X (ab_pl y_TH_renewStamp b_TH_renewStamp 1 none) d G 0 [some (vR a)] [] Q
  have hfr : fx o o [32, 39] G G := fx.rf
  have hlen : G.length = G.length := rfl
  have hsl : ab_slots G = ab_slots G := rfl
  refine ab_aload_n d_TH_renewStamp_0 rfl ?_
  refine ab_getf (fs := [sp0, vR wk, vR nw, vR tn, vR nsp, vR tsp, vz nc, vz tc, vR se, vz sta, vR stk, vz fo, q0, s0, vz hw, vz fy, vj stp]) f_TH_98 d_TH_renewStamp_1 ha.2.2 rfl ?_
  refine zz_ldc 2000000000 d_TH_renewStamp_4 cn_TH_101 (by decide) ?_
  refine zz_icmp_le (tgt := 22) d_TH_renewStamp_6 (by decide) (by omega) (by decide) (fun c1 => ?_) (fun c1 => ?_)
  · refine ab_aload_n d_TH_renewStamp_22 rfl ?_
    refine ab_dup d_TH_renewStamp_23 rfl ?_
    refine ab_getf (fs := [sp0, vR wk, vR nw, vR tn, vR nsp, vR tsp, vz nc, vz tc, vR se, vz sta, vR stk, vz fo, q0, s0, vz hw, vz fy, vj stp]) f_TH_98 d_TH_renewStamp_24 ha.2.2 rfl ?_
    refine zz_iconst d_TH_renewStamp_27 ?_
    refine zz_iadd d_TH_renewStamp_28 ?_
    refine ab_putf (fs := [sp0, vR wk, vR nw, vR tn, vR nsp, vR tsp, vz nc, vz tc, vR se, vz sta, vR stk, vz fo, q0, s0, vz hw, vz fy, vj stp]) f_TH_98 (Or.inl rfl) d_TH_renewStamp_29 ha.2.2 (Nat.le_of_ble_eq_true rfl) (fun _ => ⟨rfl, rfl⟩) (ha.2.1 (by decide)) ?_
    obtain ⟨G2, eG2⟩ : ∃ z : ab_G, z = List.set G a (ab_ob 11 [sp0, vR wk, vR nw, vR tn, vR nsp, vR tsp, vz nc, vz tc, vR se, vz (sta + 1), vR stk, vz fo, q0, s0, vz hw, vz fy, vj stp]) := ⟨_, rfl⟩
    have hse := hse.keep ha eG2 (by decide)
    have hlen := (z_len eG2).trans hlen
    have hsl := (z_sl ha eG2 rfl).trans hsl
    have hfr := hfr.wr ha eG2 (by decide)
    have ha := ha.kept eG2
    change ab_W _ _ _ (List.set G a (ab_ob 11 [sp0, vR wk, vR nw, vR tn, vR nsp, vR tsp, vz nc, vz tc, vR se, vz (sta + 1), vR stk, vz fo, q0, s0, vz hw, vz fy, vj stp])) 32 [some (vR a)] [] _
    rw [← eG2]
    refine ab_vret rfl d_TH_renewStamp_32 ?_
    rw [hQ]; exact ⟨_, _, rfl, hfr, hlen, hsl, ha, hse, (by omega), (by exact rgs_wd jse (by omega) (by omega))⟩
  · refine ab_aload_n d_TH_renewStamp_9 rfl ?_
    refine ab_getf (fs := [sp0, vR wk, vR nw, vR tn, vR nsp, vR tsp, vz nc, vz tc, vR se, vz sta, vR stk, vz fo, q0, s0, vz hw, vz fy, vj stp]) f_TH_30 d_TH_renewStamp_10 ha.2.2 rfl ?_
    refine zz_iconst d_TH_renewStamp_13 ?_
    refine ab_callS (d' := d - 1) (as := [vR se, vz 0]) (st := []) (z_AR_fill (o := o) (a := se) (l := 39) (n := 2048) (f := SE) (v := 0) hse (by have h18 : ab_n0 = 18 := rfl; omega)) (fun oc G2 h => by rcases h with ⟨h, _⟩ <;> exact ⟨_, h⟩) (by omega) m_AR_fill ml_TH_102 st_AR_fill (Nat.le_of_ble_eq_true rfl) d_TH_renewStamp_14 rfl ?_
    intro v G3 hq
    rcases hq with ⟨hv, hfk, hlk, hsk, hNse⟩
    cases hv
    have ha := hfk.get ha (by decide)
    have hfr := hfr.tr hfk (by decide)
    have hlen := hlk.trans hlen
    have hsl := hsk.trans hsl
    have hse := hNse
    change ab_W _ _ _ G3 17 [some (vR a)] [] _
    refine ab_aload_n d_TH_renewStamp_17 rfl ?_
    refine zz_iconst d_TH_renewStamp_18 ?_
    refine ab_putf (fs := [sp0, vR wk, vR nw, vR tn, vR nsp, vR tsp, vz nc, vz tc, vR se, vz sta, vR stk, vz fo, q0, s0, vz hw, vz fy, vj stp]) f_TH_98 (Or.inl rfl) d_TH_renewStamp_19 ha.2.2 (Nat.le_of_ble_eq_true rfl) (fun _ => ⟨rfl, rfl⟩) (ha.2.1 (by decide)) ?_
    obtain ⟨G4, eG4⟩ : ∃ z : ab_G, z = List.set G3 a (ab_ob 11 [sp0, vR wk, vR nw, vR tn, vR nsp, vR tsp, vz nc, vz tc, vR se, vz 0, vR stk, vz fo, q0, s0, vz hw, vz fy, vj stp]) := ⟨_, rfl⟩
    have hse := hse.keep ha eG4 (by decide)
    have hlen := (z_len eG4).trans hlen
    have hsl := (z_sl ha eG4 rfl).trans hsl
    have hfr := hfr.wr ha eG4 (by decide)
    have ha := ha.kept eG4
    change ab_W _ _ _ (List.set G3 a (ab_ob 11 [sp0, vR wk, vR nw, vR tn, vR nsp, vR tsp, vz nc, vz tc, vR se, vz 0, vR stk, vz fo, q0, s0, vz hw, vz fy, vj stp])) 22 [some (vR a)] [] _
    rw [← eG4]
    refine ab_aload_n d_TH_renewStamp_22 rfl ?_
    refine ab_dup d_TH_renewStamp_23 rfl ?_
    refine ab_getf (fs := [sp0, vR wk, vR nw, vR tn, vR nsp, vR tsp, vz nc, vz tc, vR se, vz 0, vR stk, vz fo, q0, s0, vz hw, vz fy, vj stp]) f_TH_98 d_TH_renewStamp_24 ha.2.2 rfl ?_
    refine zz_iconst d_TH_renewStamp_27 ?_
    refine zz_iadd d_TH_renewStamp_28 ?_
    refine zz_top (y := 1) (by decide) ?_
    refine ab_putf (fs := [sp0, vR wk, vR nw, vR tn, vR nsp, vR tsp, vz nc, vz tc, vR se, vz 0, vR stk, vz fo, q0, s0, vz hw, vz fy, vj stp]) f_TH_98 (Or.inl rfl) d_TH_renewStamp_29 ha.2.2 (Nat.le_of_ble_eq_true rfl) (fun _ => ⟨rfl, rfl⟩) (ha.2.1 (by decide)) ?_
    obtain ⟨G5, eG5⟩ : ∃ z : ab_G, z = List.set G4 a (ab_ob 11 [sp0, vR wk, vR nw, vR tn, vR nsp, vR tsp, vz nc, vz tc, vR se, vz 1, vR stk, vz fo, q0, s0, vz hw, vz fy, vj stp]) := ⟨_, rfl⟩
    have hse := hse.keep ha eG5 (by decide)
    have hlen := (z_len eG5).trans hlen
    have hsl := (z_sl ha eG5 rfl).trans hsl
    have hfr := hfr.wr ha eG5 (by decide)
    have ha := ha.kept eG5
    change ab_W _ _ _ (List.set G4 a (ab_ob 11 [sp0, vR wk, vR nw, vR tn, vR nsp, vR tsp, vz nc, vz tc, vR se, vz 1, vR stk, vz fo, q0, s0, vz hw, vz fy, vj stp])) 32 [some (vR a)] [] _
    rw [← eG5]
    refine ab_vret rfl d_TH_renewStamp_32 ?_
    rw [hQ]; exact ⟨_, _, rfl, hfr, hlen, hsl, ha, hse, (by omega), (by exact rgs_z0 (by omega))⟩
set_option maxRecDepth 100000 in
set_option maxHeartbeats 4000000 in
theorem y_TH_find_62 {X : ab_X} {d : Nat} {Q : Outcome → ab_G → Prop} {o : Nat → Nat} {G0 : ab_G} {q : Nat} {lq : Nat} {ki : Nat} {ne : Nat} {ot : Nat} {cnt : Int} {fi : Int} {la : Int} {ra : Nat} {ru : Int} {gr : Int} {wi : Int} {sz : Int} {fl : Int} {ve : Int} {mi : Int} {na : Nat} {nl : Nat} {K : Int → Int} {N : Int → Int} {O : Int → Int} {RR : Int → Int} {nr : Nat} {s : Nat} {by_ : Nat} {co : Nat} {re : Nat} {ho : Nat} {n : Int} {f : Int → Int} {C : Int → Int} {Rs : Int → Int} {H : Int → Int} {m : Nat} {mc : Nat} {a : Nat} {sp : Nat} {wk : Nat} {se : Nat} {stk : Nat} {hw : Int} {fy : Int} {p : Int} {u9 : Sn} {lz : Int} {S9 : Option Tw} {st0 : Int} (cq : 100 ≤ lq ∧ 0 ≤ cnt ∧ cnt ≤ 808 ∧ ↑nr ≤ (100000 : Int)) (hp : prok K N O RR cnt ↑nr wi) (hr : ∀ k : Int, 0 ≤ k → k < ↑nr → 0 ≤ RR k ∧ RR k ≤ 1114111) (csu : 0 ≤ n ∧ n ≤ ↑m ∧ 32 ≤ m ∧ m ≤ 2000 ∧ mc = m + 1) (hsu : suok f C Rs H n) (cwi : 2 ≤ wi ∧ wi ≤ 20) (hkk : kkF K cnt) (cfi : 0 ≤ fi ∧ fi < cnt) (cp : 0 ≤ p ∧ p ≤ n) (chw : 0 ≤ hw ∧ hw ≤ 2 ∧ 0 ≤ fy ∧ fy ≤ 1) (hpm : prM K N O RR fi u9) (hl2 : laZ hw n p lz) (hd : 8 ≤ d) : ∀ (mz : Nat) {G : ab_G} {nw : Nat} {tn : Nat} {nsp : Nat} {tsp : Nat} {nc : Int} {tc : Int} {sta : Int} {fo : Int} {stp : Int} {SP : Int → Int} {WK : Int → Int} {NW : Int → Int} {TN : Int → Int} {NS : Int → Int} {TS : Int → Int} {SE : Int → Int} {SK : Int → Int} {l1 : Nat} {l2 : Nat} {l3 : Nat} {l4 : Nat} {i : Int}, (cc o G a 32 (ab_ob 11 [vR sp, vR wk, vR nw, vR tn, vR nsp, vR tsp, vz nc, vz tc, vR se, vz sta, vR stk, vz fo, vR q, vR s, vz hw, vz fy, vj stp])) → (cc o G sp 31 (za 20 SP)) → (cc o G wk 33 (za 20 WK)) → (cc o G nw l1 (za 801 NW)) → (cc o G tn l2 (za 801 TN)) → (cc o G nsp l3 (za 16020 NS)) → (cc o G tsp l4 (za 16020 TS)) → (cc o G se 39 (za 2048 SE)) → (cc o G stk 40 (za 809 SK)) → (cc o G q lq (ab_ob 5 [vR ki, vR ne, vR ot, vz cnt, vz fi, vz la, vR ra, vz ru, vz gr, vz wi, vz sz, vz fl, vz ve, vz mi, vR na, vR nl])) → (cc o G ki (lq + 1) (za 808 K)) → (cc o G ne (lq + 2) (za 808 N)) → (cc o G ot (lq + 3) (za 808 O)) → (cc o G ra (lq + 4) (za nr RR)) → (cc o G s 26 (ab_ob 9 [vR by_, vR co, vR re, vR ho, vz n])) → (cc o G co 28 (za mc C)) → (cc o G re 29 (za mc Rs)) → (cc o G ho 30 (za mc H)) → (p ≤ i ∧ i ≤ n + 1) → (0 ≤ sta ∧ sta ≤ 2000000001 + (i - p)) → (l1 + l2 = 71 ∧ 35 ≤ l1 ∧ l1 ≤ 36 ∧ l3 + l4 = 75 ∧ 37 ≤ l3 ∧ l3 ≤ 38) → (0 ≤ tc ∧ tc ≤ 801) → (rgs SE 2048 0 sta) → (thos K cnt TN tc) → (thr TS tc wi n) → (rgs SP 20 (-1) 2000) → (spo fo SP wi n) → (0 ≤ fo ∧ fo ≤ 1) → (stE K N O RR cnt u9 f n fy hw wi lz i Rs SE sta TN TS tc fo SP S9) → (st0 ≤ stp ∧ stp ≤ st0 + 9795 * (i - p)) → (fx o o [31, 32, 33, 35, 36, 37, 38, 39, 40] G0 G) → (G.length = G0.length) → (ab_slots G = ab_slots G0) → (Int.toNat (n + 1 - i) < mz) → (∀ (G2 : ab_G) (nw2 : Nat) (tn2 : Nat) (nsp2 : Nat) (tsp2 : Nat) (m1 : Nat) (m2_ : Nat) (m3 : Nat) (m4 : Nat) (nc2 : Int) (tc2 : Int) (sta2 : Int) (fo2 : Int) (st2 : Int) (NW2 : Int → Int) (TN2 : Int → Int) (NS2 : Int → Int) (TS2 : Int → Int) (SE2 : Int → Int) (SK2 : Int → Int) (WK2 : Int → Int) (SP2 : Int → Int), (cc o G2 a 32 (ab_ob 11 [vR sp, vR wk, vR nw2, vR tn2, vR nsp2, vR tsp2, vz nc2, vz tc2, vR se, vz sta2, vR stk, vz fo2, vR q, vR s, vz hw, vz fy, vj st2])) → (cc o G2 sp 31 (za 20 SP2)) → (cc o G2 wk 33 (za 20 WK2)) → (cc o G2 nw2 m1 (za 801 NW2)) → (cc o G2 tn2 m2_ (za 801 TN2)) → (cc o G2 nsp2 m3 (za 16020 NS2)) → (cc o G2 tsp2 m4 (za 16020 TS2)) → (cc o G2 se 39 (za 2048 SE2)) → (cc o G2 stk 40 (za 809 SK2)) → (m1 + m2_ = 71 ∧ 35 ≤ m1 ∧ m1 ≤ 36 ∧ m3 + m4 = 75 ∧ 37 ≤ m3 ∧ m3 ≤ 38) → (0 ≤ sta2 ∧ sta2 ≤ 2100000000) → (0 ≤ fo2 ∧ fo2 ≤ 1) → (rgs SP2 20 (-1) 2000) → (rgs SE2 2048 0 sta2) → (spo fo2 SP2 wi n) → (mcT S9 fo2 SP2 wi) → (st0 ≤ st2 ∧ st2 ≤ st0 + 9795 * (n + 1 - p)) → (fx o o [31, 32, 33, 35, 36, 37, 38, 39, 40] G0 G2) → (G2.length = G0.length) → (ab_slots G2 = ab_slots G0) → ab_W X (ab_pl y_TH_find b_TH_find 7 (some (.int))) d G2 157 [some (vR a), none, none, none, none, some (vR sp), none] [] Q) → ab_W X (ab_pl y_TH_find b_TH_find 7 (some (.int))) d G 62 [some (vR a), some (vR q), some (vR s), some (vz hw), some (vz p), some (vR sp), some (vz i)] [] Q := by
  intro mz
  induction mz with
  | zero => intro G nw tn nsp tsp nc tc sta fo stp SP WK NW TN NS TS SE SK l1 l2 l3 l4 i ha hsp hwk hnw htn hnsp htsp hse hstk hq hki hne hot hra hs hco hre hho ci csi cl ctc jse jtn jts jsp jspo cfo jst hst9 hfr hlen hsl hm hk0; exact absurd hm (Nat.not_lt_zero _)
  | succ mz ih =>
    intro G nw tn nsp tsp nc tc sta fo stp SP WK NW TN NS TS SE SK l1 l2 l3 l4 i ha hsp hwk hnw htn hnsp htsp hse hstk hq hki hne hot hra hs hco hre hho ci csi cl ctc jse jtn jts jsp jspo cfo jst hst9 hfr hlen hsl hm hk0
    refine ab_iload d_TH_find_62 rfl ?_
    refine ab_aload_n d_TH_find_64 rfl ?_
    refine ab_getf (fs := [vR by_, vR co, vR re, vR ho, vz n]) f_TH_67 d_TH_find_65 hs.2.2 rfl ?_
    refine zz_icmp_gt (tgt := 157) d_TH_find_68 (by decide) (by omega) (by omega) (fun c1 => ?_) (fun c1 => ?_)
    · refine ab_less (L' := [some (vR a), none, none, none, none, some (vR sp), none]) (fun i v h => by rcases i with _ | _ | _ | _ | _ | _ | _ | i <;> first | exact h | (simp at h)) ?_
      exact hk0 _ _ _ _ _ _ _ _ _ _ _ _ _ _ _ _ _ _ _ _ _ _ ha hsp hwk hnw htn hnsp htsp hse hstk (by omega) (by omega) (by omega) (by first | exact jsp | exact rgs_w jsp (by omega)) (by exact jse) (by exact jspo) (by exact jst.fin (by omega) (laZ_n hl2 (by omega))) (by omega) hfr hlen hsl
    · refine ab_aload_n d_TH_find_71 rfl ?_
      refine ab_getf (fs := [vR sp, vR wk, vR nw, vR tn, vR nsp, vR tsp, vz nc, vz tc, vR se, vz sta, vR stk, vz fo, vR q, vR s, vz hw, vz fy, vj stp]) f_TH_61 d_TH_find_72 ha.2.2 rfl ?_
      refine zz_if_ne (tgt := 120) d_TH_find_75 (by decide) (by omega) (fun c2 => ?_) (fun c2 => ?_)
      · have jm_ := jst.no (laZ_no hl2 (by omega) (by omega))
        have jse_ := jse
        have jno_ : ∀ k : Int, 0 ≤ k → k < 2048 → ¬ SE k = sta + 1 := fun k a b => by have := (jse_ k a b).2; omega
        have jse2_ : rgs SE 2048 0 (sta + 1) := rgs_wd jse_ (by omega) (by omega)
        refine ab_aload_n d_TH_find_120 rfl ?_
        refine ab_callV (d' := d - 1) (as := []) (st := []) (r := _) (z_TH_turnRows (o := o) (q := q) (s := s) (a := a) (sp := sp) (wk := wk) (nw := nw) (tn := tn) (nsp := nsp) (tsp := tsp) (se := se) (stk := stk) (nc := nc) (tc := tc) (sta := sta) (fo := fo) (hw := hw) (fy := fy) (stp := stp) ha) (fun oc G2 h => by rcases h with ⟨h, _⟩ <;> exact ⟨_, h⟩) (by omega) m_TH_turnRows ml_TH_88 im_TH_turnRows se_TH_turnRows c_TH ha.2.2 (Nat.le_of_ble_eq_true rfl) d_TH_find_121 rfl ?_
        intro v G3 hq
        rcases hq with ⟨hv, hfk, hlk, hsk, hNa⟩
        cases hv
        have hsp := hfk.get hsp (by decide)
        have hwk := hfk.get hwk (by decide)
        have hnw := hfk.get hnw (by simp only [List.mem_cons, List.not_mem_nil, or_false]; omega)
        have htn := hfk.get htn (by simp only [List.mem_cons, List.not_mem_nil, or_false]; omega)
        have hnsp := hfk.get hnsp (by simp only [List.mem_cons, List.not_mem_nil, or_false]; omega)
        have htsp := hfk.get htsp (by simp only [List.mem_cons, List.not_mem_nil, or_false]; omega)
        have hse := hfk.get hse (by decide)
        have hstk := hfk.get hstk (by decide)
        have hq := hfk.get hq (by simp only [List.mem_cons, List.not_mem_nil, or_false]; omega)
        have hki := hfk.get hki (by simp only [List.mem_cons, List.not_mem_nil, or_false]; omega)
        have hne := hfk.get hne (by simp only [List.mem_cons, List.not_mem_nil, or_false]; omega)
        have hot := hfk.get hot (by simp only [List.mem_cons, List.not_mem_nil, or_false]; omega)
        have hra := hfk.get hra (by simp only [List.mem_cons, List.not_mem_nil, or_false]; omega)
        have hs := hfk.get hs (by decide)
        have hco := hfk.get hco (by decide)
        have hre := hfk.get hre (by decide)
        have hho := hfk.get hho (by decide)
        have hfr := hfr.tr hfk (by decide)
        have hlen := hlk.trans hlen
        have hsl := hsk.trans hsl
        have ha := hNa
        change ab_W _ _ _ G3 124 [some (vR a), some (vR q), some (vR s), some (vz hw), some (vz p), some (vR sp), some (vz i)] [] _
        have jj_ := jm_.turn (TN2 := NW) (TS2 := NS) (tc2 := 0) jno_ rfl
        obtain ⟨jj1_, jj2_⟩ := jj_
        refine ab_aload_n d_TH_find_124 rfl ?_
        refine ab_getf (fs := [vR sp, vR wk, vR tn, vR nw, vR tsp, vR nsp, vz tc, vz 0, vR se, vz (sta + 1), vR stk, vz fo, vR q, vR s, vz hw, vz fy, vj stp]) f_TH_91 d_TH_find_125 ha.2.2 rfl ?_
        refine zz_if_ne (tgt := 145) d_TH_find_128 (by decide) (by omega) (fun c4 => ?_) (fun c4 => ?_)
        · refine ab_aload_n d_TH_find_145 rfl ?_
          refine ab_iload d_TH_find_146 rfl ?_
          refine ab_callV (d' := d - 1) (as := [vz i]) (st := []) (r := _) (z_TH_step (o := o) (q := q) (lq := lq) (ki := ki) (ne := ne) (ot := ot) (cnt := cnt) (fi := fi) (la := la) (ra := ra) (ru := ru) (gr := gr) (wi := wi) (sz := sz) (fl := fl) (ve := ve) (mi := mi) (na := na) (nl := nl) (K := K) (N := N) (O := O) (RR := RR) (nr := nr) (s := s) (by_ := by_) (co := co) (re := re) (ho := ho) (n := n) (C := C) (Rs := Rs) (H := H) (mc := mc) (a := a) (sp := sp) (wk := wk) (nw := tn) (tn := nw) (nsp := tsp) (tsp := nsp) (se := se) (stk := stk) (nc := tc) (tc := 0) (sta := (sta + 1)) (fo := fo) (hw := hw) (fy := fy) (stp := stp) (SP := SP) (WK := WK) (NW := TN) (TN := NW) (NS := TS) (TS := NS) (SE := SE) (SK := SK) (l1 := l2) (l2 := l1) (l3 := l4) (l4 := l3) (p := i) (u9 := u9) (lz := lz) (S9 := S9) ha hsp hwk htn hnw htsp hnsp hse hstk hq hki hne hot hra hs hco hre hho (by omega) hp hr (by omega) hsu (by omega) (by omega) hkk (by omega) jtn jts (by omega) (by omega) (by omega) jj2_ (by omega) jse2_ thos_0 thr_0 jsp jspo (by omega) jj1_ (by omega)) (fun oc G2 h => by rcases h with ⟨_, _, _, _, _, _, _, _, _, h, _⟩ <;> exact ⟨_, h⟩) (by omega) m_TH_step ml_TH_94 im_TH_step se_TH_step c_TH ha.2.2 (Nat.le_of_ble_eq_true rfl) d_TH_find_148 rfl ?_
          intro v G5 hq
          rcases hq with ⟨tc26, st27, fo28, SE29, TN210, TS211, SK212, WK213, SP214, hv, hfk, hlk, hsk, hNa, hNsp, hNwk, hNtn, hNnw, hNtsp, hNnsp, hNse, hNstk, hq15, hq16, hq17, hq18, hq19, hq20, hq21, hq22, hq23⟩
          cases hv
          have hq := hfk.get hq (by simp only [List.mem_cons, List.not_mem_nil, or_false]; omega)
          have hki := hfk.get hki (by simp only [List.mem_cons, List.not_mem_nil, or_false]; omega)
          have hne := hfk.get hne (by simp only [List.mem_cons, List.not_mem_nil, or_false]; omega)
          have hot := hfk.get hot (by simp only [List.mem_cons, List.not_mem_nil, or_false]; omega)
          have hra := hfk.get hra (by simp only [List.mem_cons, List.not_mem_nil, or_false]; omega)
          have hs := hfk.get hs (by decide)
          have hco := hfk.get hco (by decide)
          have hre := hfk.get hre (by decide)
          have hho := hfk.get hho (by decide)
          have hfr := hfr.tr hfk (by decide)
          have hlen := hlk.trans hlen
          have hsl := hsk.trans hsl
          have ha := hNa
          have hsp := hNsp
          have hwk := hNwk
          have htn := hNtn
          have hnw := hNnw
          have htsp := hNtsp
          have hnsp := hNnsp
          have hse := hNse
          have hstk := hNstk
          change ab_W _ _ _ G5 151 [some (vR a), some (vR q), some (vR s), some (vz hw), some (vz p), some (vR sp), some (vz i)] [] _
          refine zz_iinc d_TH_find_151 rfl (Nat.le_of_ble_eq_true rfl) (Nat.le_of_ble_eq_true rfl) rfl ?_
          change ab_W _ _ _ G5 154 [some (vR a), some (vR q), some (vR s), some (vz hw), some (vz p), some (vR sp), some (vz (i + 1))] [] _
          refine ab_goto (tgt := 62) d_TH_find_154 (by decide) ?_
          exact ih (nw := tn) (tn := nw) (nsp := tsp) (tsp := nsp) (nc := tc) (tc := tc26) (sta := (sta + 1)) (fo := fo28) (stp := st27) (SP := SP214) (WK := WK213) (NW := TN) (TN := TN210) (NS := TS) (TS := TS211) (SE := SE29) (SK := SK212) (l1 := l2) (l2 := l1) (l3 := l4) (l4 := l3) (i := (i + 1)) ha hsp hwk htn hnw htsp hnsp hse hstk hq hki hne hot hra hs hco hre hho (by omega) (by omega) (by omega) (by omega) hq18 hq19 hq20 hq17 hq21 (by omega) hq22 (by omega) hfr hlen hsl (by omega) hk0
        · refine ab_aload_n d_TH_find_131 rfl ?_
          refine ab_getf (fs := [vR sp, vR wk, vR tn, vR nw, vR tsp, vR nsp, vz tc, vz 0, vR se, vz (sta + 1), vR stk, vz fo, vR q, vR s, vz hw, vz fy, vj stp]) f_TH_61 d_TH_find_132 ha.2.2 rfl ?_
          refine zz_if_ne (tgt := 157) d_TH_find_135 (by decide) (by omega) (fun c24 => ?_) (fun c24 => absurd c24 (by omega))
          refine ab_less (L' := [some (vR a), none, none, none, none, some (vR sp), none]) (fun i v h => by rcases i with _ | _ | _ | _ | _ | _ | _ | i <;> first | exact h | (simp at h)) ?_
          exact hk0 _ _ _ _ _ _ _ _ _ _ _ _ _ _ _ _ _ _ _ _ _ _ ha hsp hwk htn hnw htsp hnsp hse hstk (by omega) (by omega) (by omega) (by first | exact jsp | exact rgs_w jsp (by omega)) (by exact jse2_) (by exact jspo) (by exact jj1_.brk (by omega) rfl (laZ_br hl2 (by omega) (by omega))) (by omega) hfr hlen hsl
      · refine ab_iload d_TH_find_78 rfl ?_
        refine ab_iload d_TH_find_80 rfl ?_
        refine zz_icmp_eq (tgt := 89) d_TH_find_82 (by decide) (by omega) (by omega) (fun c25 => ?_) (fun c25 => ?_)
        · obtain ⟨W_, c_, jsP_⟩ := jst.pp (laZ_le hl2 (by omega) (by omega))
          refine ab_aload_n d_TH_find_89 rfl ?_
          refine ab_getf (fs := [vR sp, vR wk, vR nw, vR tn, vR nsp, vR tsp, vz nc, vz tc, vR se, vz sta, vR stk, vz fo, vR q, vR s, vz hw, vz fy, vj stp]) f_TH_15 d_TH_find_90 ha.2.2 rfl ?_
          refine zz_iconst d_TH_find_93 ?_
          refine ab_aload_n d_TH_find_94 rfl ?_
          refine ab_getf (fs := [vR ki, vR ne, vR ot, vz cnt, vz fi, vz la, vR ra, vz ru, vz gr, vz wi, vz sz, vz fl, vz ve, vz mi, vR na, vR nl]) f_TH_72 d_TH_find_95 hq.2.2 rfl ?_
          refine zz_iconst d_TH_find_98 ?_
          refine ab_callS (d' := d - 1) (as := [vR wk, vz 0, vz wi, vz (-1)]) (st := []) (z_AR_fillr (o := o) (a := wk) (l := 33) (n := 20) (f := WK) (v := (-1)) (x := 0) (y := wi) hwk (by have h18 : ab_n0 = 18 := rfl; omega) (by omega)) (fun oc G2 h => by rcases h with ⟨h, _⟩ <;> exact ⟨_, h⟩) (by omega) m_AR_fillr ml_TH_75 st_AR_fillr (Nat.le_of_ble_eq_true rfl) d_TH_find_99 rfl ?_
          intro v G26 hq
          rcases hq with ⟨hv, hfk, hlk, hsk, hNwk⟩
          cases hv
          have ha := hfk.get ha (by decide)
          have hsp := hfk.get hsp (by decide)
          have hnw := hfk.get hnw (by simp only [List.mem_cons, List.not_mem_nil, or_false]; omega)
          have htn := hfk.get htn (by simp only [List.mem_cons, List.not_mem_nil, or_false]; omega)
          have hnsp := hfk.get hnsp (by simp only [List.mem_cons, List.not_mem_nil, or_false]; omega)
          have htsp := hfk.get htsp (by simp only [List.mem_cons, List.not_mem_nil, or_false]; omega)
          have hse := hfk.get hse (by decide)
          have hstk := hfk.get hstk (by decide)
          have hq := hfk.get hq (by simp only [List.mem_cons, List.not_mem_nil, or_false]; omega)
          have hki := hfk.get hki (by simp only [List.mem_cons, List.not_mem_nil, or_false]; omega)
          have hne := hfk.get hne (by simp only [List.mem_cons, List.not_mem_nil, or_false]; omega)
          have hot := hfk.get hot (by simp only [List.mem_cons, List.not_mem_nil, or_false]; omega)
          have hra := hfk.get hra (by simp only [List.mem_cons, List.not_mem_nil, or_false]; omega)
          have hs := hfk.get hs (by decide)
          have hco := hfk.get hco (by decide)
          have hre := hfk.get hre (by decide)
          have hho := hfk.get hho (by decide)
          have hfr := hfr.tr hfk (by decide)
          have hlen := hlk.trans hlen
          have hsl := hsk.trans hsl
          have hwk := hNwk
          change ab_W _ _ _ G26 102 [some (vR a), some (vR q), some (vR s), some (vz hw), some (vz p), some (vR sp), some (vz i)] [] _
          refine ab_aload_n d_TH_find_102 rfl ?_
          refine ab_getf (fs := [vR sp, vR wk, vR nw, vR tn, vR nsp, vR tsp, vz nc, vz tc, vR se, vz sta, vR stk, vz fo, vR q, vR s, vz hw, vz fy, vj stp]) f_TH_15 d_TH_find_103 ha.2.2 rfl ?_
          refine zz_iconst d_TH_find_106 ?_
          refine ab_iload d_TH_find_107 rfl ?_
          refine zz_iast d_TH_find_109 hwk (by omega) (hwk.2.1 (by decide)) ?_
          obtain ⟨G27, eG27⟩ : ∃ z : ab_G, z = List.set G26 wk (za 20 (zu (zfill WK 0 wi (-1)) 0 i)) := ⟨_, rfl⟩
          have ha := ha.keep hwk eG27 (by decide)
          have hsp := hsp.keep hwk eG27 (by decide)
          have hnw := hnw.keep hwk eG27 (by omega)
          have htn := htn.keep hwk eG27 (by omega)
          have hnsp := hnsp.keep hwk eG27 (by omega)
          have htsp := htsp.keep hwk eG27 (by omega)
          have hse := hse.keep hwk eG27 (by decide)
          have hstk := hstk.keep hwk eG27 (by decide)
          have hq := hq.keep hwk eG27 (by omega)
          have hki := hki.keep hwk eG27 (by omega)
          have hne := hne.keep hwk eG27 (by omega)
          have hot := hot.keep hwk eG27 (by omega)
          have hra := hra.keep hwk eG27 (by omega)
          have hs := hs.keep hwk eG27 (by decide)
          have hco := hco.keep hwk eG27 (by decide)
          have hre := hre.keep hwk eG27 (by decide)
          have hho := hho.keep hwk eG27 (by decide)
          have hlen := (z_len eG27).trans hlen
          have hsl := (z_sl hwk eG27 rfl).trans hsl
          have hfr := hfr.wr hwk eG27 (by decide)
          have hwk := hwk.kept eG27
          change ab_W _ _ _ (List.set G26 wk (za 20 (zu (zfill WK 0 wi (-1)) 0 i))) 110 [some (vR a), some (vR q), some (vR s), some (vz hw), some (vz p), some (vR sp), some (vz i)] [] _
          rw [← eG27]
          refine ab_aload_n d_TH_find_110 rfl ?_
          refine ab_aload_n d_TH_find_111 rfl ?_
          refine ab_getf (fs := [vR ki, vR ne, vR ot, vz cnt, vz fi, vz la, vR ra, vz ru, vz gr, vz wi, vz sz, vz fl, vz ve, vz mi, vR na, vR nl]) f_TH_81 d_TH_find_112 hq.2.2 rfl ?_
          refine ab_iload d_TH_find_115 rfl ?_
          refine ab_callV (d' := d - 1) (as := [vz fi, vz i]) (st := []) (r := _) (z_TH_follow (o := o) (q := q) (lq := lq) (ki := ki) (ne := ne) (ot := ot) (cnt := cnt) (fi := fi) (la := la) (ra := ra) (ru := ru) (gr := gr) (wi := wi) (sz := sz) (fl := fl) (ve := ve) (mi := mi) (na := na) (nl := nl) (K := K) (N := N) (O := O) (RR := RR) (nr := nr) (s := s) (by_ := by_) (co := co) (re := re) (ho := ho) (n := n) (C := C) (Rs := Rs) (H := H) (mc := mc) (a := a) (sp := sp) (wk := wk) (nw := nw) (tn := tn) (nsp := nsp) (tsp := tsp) (se := se) (stk := stk) (nc := nc) (tc := tc) (sta := sta) (fo := fo) (hw := hw) (fy := fy) (stp := stp) (SP := SP) (WK := (zu (zfill WK 0 wi (-1)) 0 i)) (NW := NW) (TN := TN) (NS := NS) (TS := TS) (SE := SE) (SK := SK) (l1 := l1) (l2 := l2) (l3 := l3) (l4 := l4) (p := i) (x := fi) (st := i) (Mw := W_) (s0 := (i - 1)) (gw := (fun _ => -1)) (Lw := (wyR u9 f n i)) ha hsp hwk hnw htn hnsp htsp hse hstk hq hki hne hot hra hs hco hre hho (by omega) hp hr (by omega) hsu (by omega) (by omega) hkk (by omega) (by omega) (by omega) (rgs_zu (rgs_fl (by omega)) (by omega)) (by rw [zu_self]; omega) jse jtn jts jsP_.2.2.1.ff (by omega) gA_0 (zu_self _ _ _) (by rw [wyR_p (by omega) (by omega)]; exact hpm.ww hsu.1 (by omega) (by omega)) (by omega)) (fun oc G2 h => by rcases h with ⟨_, _, _, _, _, _, _, h, _⟩ <;> exact ⟨_, h⟩) (by omega) m_TH_follow ml_TH_84 im_TH_follow se_TH_follow c_TH ha.2.2 (Nat.le_of_ble_eq_true rfl) d_TH_find_117 rfl ?_
          intro v G28 hq
          rcases hq with ⟨tc229, st230, SE231, TN232, TS233, SK234, WK235, hv, hfk, hlk, hsk, hNa, hNsp, hNwk, hNnw, hNtn, hNnsp, hNtsp, hNse, hNstk, hq36, hq37, hq38, hq39, hq40, hq41, hq42, hq43, hq44⟩
          cases hv
          have hq := hfk.get hq (by simp only [List.mem_cons, List.not_mem_nil, or_false]; omega)
          have hki := hfk.get hki (by simp only [List.mem_cons, List.not_mem_nil, or_false]; omega)
          have hne := hfk.get hne (by simp only [List.mem_cons, List.not_mem_nil, or_false]; omega)
          have hot := hfk.get hot (by simp only [List.mem_cons, List.not_mem_nil, or_false]; omega)
          have hra := hfk.get hra (by simp only [List.mem_cons, List.not_mem_nil, or_false]; omega)
          have hs := hfk.get hs (by decide)
          have hco := hfk.get hco (by decide)
          have hre := hfk.get hre (by decide)
          have hho := hfk.get hho (by decide)
          have hfr := hfr.tr hfk (by decide)
          have hlen := hlk.trans hlen
          have hsl := hsk.trans hsl
          have ha := hNa
          have hsp := hNsp
          have hwk := hNwk
          have hnw := hNnw
          have htn := hNtn
          have hnsp := hNnsp
          have htsp := hNtsp
          have hse := hNse
          have hstk := hNstk
          change ab_W _ _ _ G28 120 [some (vR a), some (vR q), some (vR s), some (vz hw), some (vz p), some (vR sp), some (vz i)] [] _
          have jm_ := jsP_.mm hq42 (by omega) hsu (by omega)
          have jse_ := hq39
          have jno_ : ∀ k : Int, 0 ≤ k → k < 2048 → ¬ SE231 k = sta + 1 := fun k a b => by have := (jse_ k a b).2; omega
          have jse2_ : rgs SE231 2048 0 (sta + 1) := rgs_wd jse_ (by omega) (by omega)
          refine ab_aload_n d_TH_find_120 rfl ?_
          refine ab_callV (d' := d - 1) (as := []) (st := []) (r := _) (z_TH_turnRows (o := o) (q := q) (s := s) (a := a) (sp := sp) (wk := wk) (nw := nw) (tn := tn) (nsp := nsp) (tsp := tsp) (se := se) (stk := stk) (nc := nc) (tc := tc229) (sta := sta) (fo := fo) (hw := hw) (fy := fy) (stp := st230) ha) (fun oc G2 h => by rcases h with ⟨h, _⟩ <;> exact ⟨_, h⟩) (by omega) m_TH_turnRows ml_TH_88 im_TH_turnRows se_TH_turnRows c_TH ha.2.2 (Nat.le_of_ble_eq_true rfl) d_TH_find_121 rfl ?_
          intro v G45 hq
          rcases hq with ⟨hv, hfk, hlk, hsk, hNa⟩
          cases hv
          have hsp := hfk.get hsp (by decide)
          have hwk := hfk.get hwk (by decide)
          have hnw := hfk.get hnw (by simp only [List.mem_cons, List.not_mem_nil, or_false]; omega)
          have htn := hfk.get htn (by simp only [List.mem_cons, List.not_mem_nil, or_false]; omega)
          have hnsp := hfk.get hnsp (by simp only [List.mem_cons, List.not_mem_nil, or_false]; omega)
          have htsp := hfk.get htsp (by simp only [List.mem_cons, List.not_mem_nil, or_false]; omega)
          have hse := hfk.get hse (by decide)
          have hstk := hfk.get hstk (by decide)
          have hq := hfk.get hq (by simp only [List.mem_cons, List.not_mem_nil, or_false]; omega)
          have hki := hfk.get hki (by simp only [List.mem_cons, List.not_mem_nil, or_false]; omega)
          have hne := hfk.get hne (by simp only [List.mem_cons, List.not_mem_nil, or_false]; omega)
          have hot := hfk.get hot (by simp only [List.mem_cons, List.not_mem_nil, or_false]; omega)
          have hra := hfk.get hra (by simp only [List.mem_cons, List.not_mem_nil, or_false]; omega)
          have hs := hfk.get hs (by decide)
          have hco := hfk.get hco (by decide)
          have hre := hfk.get hre (by decide)
          have hho := hfk.get hho (by decide)
          have hfr := hfr.tr hfk (by decide)
          have hlen := hlk.trans hlen
          have hsl := hsk.trans hsl
          have ha := hNa
          change ab_W _ _ _ G45 124 [some (vR a), some (vR q), some (vR s), some (vz hw), some (vz p), some (vR sp), some (vz i)] [] _
          have jj_ := jm_.turn (TN2 := NW) (TS2 := NS) (tc2 := 0) jno_ rfl
          obtain ⟨jj1_, jj2_⟩ := jj_
          refine ab_aload_n d_TH_find_124 rfl ?_
          refine ab_getf (fs := [vR sp, vR wk, vR tn, vR nw, vR tsp, vR nsp, vz tc229, vz 0, vR se, vz (sta + 1), vR stk, vz fo, vR q, vR s, vz hw, vz fy, vj st230]) f_TH_91 d_TH_find_125 ha.2.2 rfl ?_
          refine zz_if_ne (tgt := 145) d_TH_find_128 (by decide) (by omega) (fun c46 => ?_) (fun c46 => ?_)
          · refine ab_aload_n d_TH_find_145 rfl ?_
            refine ab_iload d_TH_find_146 rfl ?_
            refine ab_callV (d' := d - 1) (as := [vz i]) (st := []) (r := _) (z_TH_step (o := o) (q := q) (lq := lq) (ki := ki) (ne := ne) (ot := ot) (cnt := cnt) (fi := fi) (la := la) (ra := ra) (ru := ru) (gr := gr) (wi := wi) (sz := sz) (fl := fl) (ve := ve) (mi := mi) (na := na) (nl := nl) (K := K) (N := N) (O := O) (RR := RR) (nr := nr) (s := s) (by_ := by_) (co := co) (re := re) (ho := ho) (n := n) (C := C) (Rs := Rs) (H := H) (mc := mc) (a := a) (sp := sp) (wk := wk) (nw := tn) (tn := nw) (nsp := tsp) (tsp := nsp) (se := se) (stk := stk) (nc := tc229) (tc := 0) (sta := (sta + 1)) (fo := fo) (hw := hw) (fy := fy) (stp := st230) (SP := SP) (WK := WK235) (NW := TN232) (TN := NW) (NS := TS233) (TS := NS) (SE := SE231) (SK := SK234) (l1 := l2) (l2 := l1) (l3 := l4) (l4 := l3) (p := i) (u9 := u9) (lz := lz) (S9 := S9) ha hsp hwk htn hnw htsp hnsp hse hstk hq hki hne hot hra hs hco hre hho (by omega) hp hr (by omega) hsu (by omega) (by omega) hkk (by omega) hq40 hq41 (by omega) (by omega) (by omega) jj2_ (by omega) jse2_ thos_0 thr_0 jsp jspo (by omega) jj1_ (by omega)) (fun oc G2 h => by rcases h with ⟨_, _, _, _, _, _, _, _, _, h, _⟩ <;> exact ⟨_, h⟩) (by omega) m_TH_step ml_TH_94 im_TH_step se_TH_step c_TH ha.2.2 (Nat.le_of_ble_eq_true rfl) d_TH_find_148 rfl ?_
            intro v G47 hq
            rcases hq with ⟨tc248, st249, fo250, SE251, TN252, TS253, SK254, WK255, SP256, hv, hfk, hlk, hsk, hNa, hNsp, hNwk, hNtn, hNnw, hNtsp, hNnsp, hNse, hNstk, hq57, hq58, hq59, hq60, hq61, hq62, hq63, hq64, hq65⟩
            cases hv
            have hq := hfk.get hq (by simp only [List.mem_cons, List.not_mem_nil, or_false]; omega)
            have hki := hfk.get hki (by simp only [List.mem_cons, List.not_mem_nil, or_false]; omega)
            have hne := hfk.get hne (by simp only [List.mem_cons, List.not_mem_nil, or_false]; omega)
            have hot := hfk.get hot (by simp only [List.mem_cons, List.not_mem_nil, or_false]; omega)
            have hra := hfk.get hra (by simp only [List.mem_cons, List.not_mem_nil, or_false]; omega)
            have hs := hfk.get hs (by decide)
            have hco := hfk.get hco (by decide)
            have hre := hfk.get hre (by decide)
            have hho := hfk.get hho (by decide)
            have hfr := hfr.tr hfk (by decide)
            have hlen := hlk.trans hlen
            have hsl := hsk.trans hsl
            have ha := hNa
            have hsp := hNsp
            have hwk := hNwk
            have htn := hNtn
            have hnw := hNnw
            have htsp := hNtsp
            have hnsp := hNnsp
            have hse := hNse
            have hstk := hNstk
            change ab_W _ _ _ G47 151 [some (vR a), some (vR q), some (vR s), some (vz hw), some (vz p), some (vR sp), some (vz i)] [] _
            refine zz_iinc d_TH_find_151 rfl (Nat.le_of_ble_eq_true rfl) (Nat.le_of_ble_eq_true rfl) rfl ?_
            change ab_W _ _ _ G47 154 [some (vR a), some (vR q), some (vR s), some (vz hw), some (vz p), some (vR sp), some (vz (i + 1))] [] _
            refine ab_goto (tgt := 62) d_TH_find_154 (by decide) ?_
            exact ih (nw := tn) (tn := nw) (nsp := tsp) (tsp := nsp) (nc := tc229) (tc := tc248) (sta := (sta + 1)) (fo := fo250) (stp := st249) (SP := SP256) (WK := WK255) (NW := TN232) (TN := TN252) (NS := TS233) (TS := TS253) (SE := SE251) (SK := SK254) (l1 := l2) (l2 := l1) (l3 := l4) (l4 := l3) (i := (i + 1)) ha hsp hwk htn hnw htsp hnsp hse hstk hq hki hne hot hra hs hco hre hho (by omega) (by omega) (by omega) (by omega) hq60 hq61 hq62 hq59 hq63 (by omega) hq64 (by omega) hfr hlen hsl (by omega) hk0
          · refine ab_aload_n d_TH_find_131 rfl ?_
            refine ab_getf (fs := [vR sp, vR wk, vR tn, vR nw, vR tsp, vR nsp, vz tc229, vz 0, vR se, vz (sta + 1), vR stk, vz fo, vR q, vR s, vz hw, vz fy, vj st230]) f_TH_61 d_TH_find_132 ha.2.2 rfl ?_
            refine zz_if_ne (tgt := 157) d_TH_find_135 (by decide) (by omega) (fun c66 => absurd c66 (by omega)) (fun c66 => ?_)
            refine ab_iload_n d_TH_find_138 rfl ?_
            refine zz_if_eq (tgt := 145) d_TH_find_139 (by decide) (by omega) (fun c67 => ?_) (fun c67 => ?_)
            · refine ab_aload_n d_TH_find_145 rfl ?_
              refine ab_iload d_TH_find_146 rfl ?_
              refine ab_callV (d' := d - 1) (as := [vz i]) (st := []) (r := _) (z_TH_step (o := o) (q := q) (lq := lq) (ki := ki) (ne := ne) (ot := ot) (cnt := cnt) (fi := fi) (la := la) (ra := ra) (ru := ru) (gr := gr) (wi := wi) (sz := sz) (fl := fl) (ve := ve) (mi := mi) (na := na) (nl := nl) (K := K) (N := N) (O := O) (RR := RR) (nr := nr) (s := s) (by_ := by_) (co := co) (re := re) (ho := ho) (n := n) (C := C) (Rs := Rs) (H := H) (mc := mc) (a := a) (sp := sp) (wk := wk) (nw := tn) (tn := nw) (nsp := tsp) (tsp := nsp) (se := se) (stk := stk) (nc := tc229) (tc := 0) (sta := (sta + 1)) (fo := fo) (hw := hw) (fy := fy) (stp := st230) (SP := SP) (WK := WK235) (NW := TN232) (TN := NW) (NS := TS233) (TS := NS) (SE := SE231) (SK := SK234) (l1 := l2) (l2 := l1) (l3 := l4) (l4 := l3) (p := i) (u9 := u9) (lz := lz) (S9 := S9) ha hsp hwk htn hnw htsp hnsp hse hstk hq hki hne hot hra hs hco hre hho (by omega) hp hr (by omega) hsu (by omega) (by omega) hkk (by omega) hq40 hq41 (by omega) (by omega) (by omega) jj2_ (by omega) jse2_ thos_0 thr_0 jsp jspo (by omega) jj1_ (by omega)) (fun oc G2 h => by rcases h with ⟨_, _, _, _, _, _, _, _, _, h, _⟩ <;> exact ⟨_, h⟩) (by omega) m_TH_step ml_TH_94 im_TH_step se_TH_step c_TH ha.2.2 (Nat.le_of_ble_eq_true rfl) d_TH_find_148 rfl ?_
              intro v G68 hq
              rcases hq with ⟨tc269, st270, fo271, SE272, TN273, TS274, SK275, WK276, SP277, hv, hfk, hlk, hsk, hNa, hNsp, hNwk, hNtn, hNnw, hNtsp, hNnsp, hNse, hNstk, hq78, hq79, hq80, hq81, hq82, hq83, hq84, hq85, hq86⟩
              cases hv
              have hq := hfk.get hq (by simp only [List.mem_cons, List.not_mem_nil, or_false]; omega)
              have hki := hfk.get hki (by simp only [List.mem_cons, List.not_mem_nil, or_false]; omega)
              have hne := hfk.get hne (by simp only [List.mem_cons, List.not_mem_nil, or_false]; omega)
              have hot := hfk.get hot (by simp only [List.mem_cons, List.not_mem_nil, or_false]; omega)
              have hra := hfk.get hra (by simp only [List.mem_cons, List.not_mem_nil, or_false]; omega)
              have hs := hfk.get hs (by decide)
              have hco := hfk.get hco (by decide)
              have hre := hfk.get hre (by decide)
              have hho := hfk.get hho (by decide)
              have hfr := hfr.tr hfk (by decide)
              have hlen := hlk.trans hlen
              have hsl := hsk.trans hsl
              have ha := hNa
              have hsp := hNsp
              have hwk := hNwk
              have htn := hNtn
              have hnw := hNnw
              have htsp := hNtsp
              have hnsp := hNnsp
              have hse := hNse
              have hstk := hNstk
              change ab_W _ _ _ G68 151 [some (vR a), some (vR q), some (vR s), some (vz hw), some (vz p), some (vR sp), some (vz i)] [] _
              refine zz_iinc d_TH_find_151 rfl (Nat.le_of_ble_eq_true rfl) (Nat.le_of_ble_eq_true rfl) rfl ?_
              change ab_W _ _ _ G68 154 [some (vR a), some (vR q), some (vR s), some (vz hw), some (vz p), some (vR sp), some (vz (i + 1))] [] _
              refine ab_goto (tgt := 62) d_TH_find_154 (by decide) ?_
              exact ih (nw := tn) (tn := nw) (nsp := tsp) (tsp := nsp) (nc := tc229) (tc := tc269) (sta := (sta + 1)) (fo := fo271) (stp := st270) (SP := SP277) (WK := WK276) (NW := TN232) (TN := TN273) (NS := TS233) (TS := TS274) (SE := SE272) (SK := SK275) (l1 := l2) (l2 := l1) (l3 := l4) (l4 := l3) (i := (i + 1)) ha hsp hwk htn hnw htsp hnsp hse hstk hq hki hne hot hra hs hco hre hho (by omega) (by omega) (by omega) (by omega) hq81 hq82 hq83 hq80 hq84 (by omega) hq85 (by omega) hfr hlen hsl (by omega) hk0
            · refine ab_goto (tgt := 157) d_TH_find_142 (by decide) ?_
              refine ab_less (L' := [some (vR a), none, none, none, none, some (vR sp), none]) (fun i v h => by rcases i with _ | _ | _ | _ | _ | _ | _ | i <;> first | exact h | (simp at h)) ?_
              exact hk0 _ _ _ _ _ _ _ _ _ _ _ _ _ _ _ _ _ _ _ _ _ _ ha hsp hwk htn hnw htsp hnsp hse hstk (by omega) (by omega) (by omega) (by first | exact jsp | exact rgs_w jsp (by omega)) (by exact jse2_) (by exact jspo) (by exact jj1_.brk (by omega) rfl (laZ_br hl2 (by omega) (by omega))) (by omega) hfr hlen hsl
        · refine ab_iload_n d_TH_find_85 rfl ?_
          refine zz_if_ne (tgt := 120) d_TH_find_86 (by decide) (by omega) (fun c87 => ?_) (fun c87 => ?_)
          · have jm_ := jst.no (laZ_no hl2 (by omega) (by omega))
            have jse_ := jse
            have jno_ : ∀ k : Int, 0 ≤ k → k < 2048 → ¬ SE k = sta + 1 := fun k a b => by have := (jse_ k a b).2; omega
            have jse2_ : rgs SE 2048 0 (sta + 1) := rgs_wd jse_ (by omega) (by omega)
            refine ab_aload_n d_TH_find_120 rfl ?_
            refine ab_callV (d' := d - 1) (as := []) (st := []) (r := _) (z_TH_turnRows (o := o) (q := q) (s := s) (a := a) (sp := sp) (wk := wk) (nw := nw) (tn := tn) (nsp := nsp) (tsp := tsp) (se := se) (stk := stk) (nc := nc) (tc := tc) (sta := sta) (fo := fo) (hw := hw) (fy := fy) (stp := stp) ha) (fun oc G2 h => by rcases h with ⟨h, _⟩ <;> exact ⟨_, h⟩) (by omega) m_TH_turnRows ml_TH_88 im_TH_turnRows se_TH_turnRows c_TH ha.2.2 (Nat.le_of_ble_eq_true rfl) d_TH_find_121 rfl ?_
            intro v G88 hq
            rcases hq with ⟨hv, hfk, hlk, hsk, hNa⟩
            cases hv
            have hsp := hfk.get hsp (by decide)
            have hwk := hfk.get hwk (by decide)
            have hnw := hfk.get hnw (by simp only [List.mem_cons, List.not_mem_nil, or_false]; omega)
            have htn := hfk.get htn (by simp only [List.mem_cons, List.not_mem_nil, or_false]; omega)
            have hnsp := hfk.get hnsp (by simp only [List.mem_cons, List.not_mem_nil, or_false]; omega)
            have htsp := hfk.get htsp (by simp only [List.mem_cons, List.not_mem_nil, or_false]; omega)
            have hse := hfk.get hse (by decide)
            have hstk := hfk.get hstk (by decide)
            have hq := hfk.get hq (by simp only [List.mem_cons, List.not_mem_nil, or_false]; omega)
            have hki := hfk.get hki (by simp only [List.mem_cons, List.not_mem_nil, or_false]; omega)
            have hne := hfk.get hne (by simp only [List.mem_cons, List.not_mem_nil, or_false]; omega)
            have hot := hfk.get hot (by simp only [List.mem_cons, List.not_mem_nil, or_false]; omega)
            have hra := hfk.get hra (by simp only [List.mem_cons, List.not_mem_nil, or_false]; omega)
            have hs := hfk.get hs (by decide)
            have hco := hfk.get hco (by decide)
            have hre := hfk.get hre (by decide)
            have hho := hfk.get hho (by decide)
            have hfr := hfr.tr hfk (by decide)
            have hlen := hlk.trans hlen
            have hsl := hsk.trans hsl
            have ha := hNa
            change ab_W _ _ _ G88 124 [some (vR a), some (vR q), some (vR s), some (vz hw), some (vz p), some (vR sp), some (vz i)] [] _
            have jj_ := jm_.turn (TN2 := NW) (TS2 := NS) (tc2 := 0) jno_ rfl
            obtain ⟨jj1_, jj2_⟩ := jj_
            refine ab_aload_n d_TH_find_124 rfl ?_
            refine ab_getf (fs := [vR sp, vR wk, vR tn, vR nw, vR tsp, vR nsp, vz tc, vz 0, vR se, vz (sta + 1), vR stk, vz fo, vR q, vR s, vz hw, vz fy, vj stp]) f_TH_91 d_TH_find_125 ha.2.2 rfl ?_
            refine zz_if_ne (tgt := 145) d_TH_find_128 (by decide) (by omega) (fun c89 => ?_) (fun c89 => ?_)
            · refine ab_aload_n d_TH_find_145 rfl ?_
              refine ab_iload d_TH_find_146 rfl ?_
              refine ab_callV (d' := d - 1) (as := [vz i]) (st := []) (r := _) (z_TH_step (o := o) (q := q) (lq := lq) (ki := ki) (ne := ne) (ot := ot) (cnt := cnt) (fi := fi) (la := la) (ra := ra) (ru := ru) (gr := gr) (wi := wi) (sz := sz) (fl := fl) (ve := ve) (mi := mi) (na := na) (nl := nl) (K := K) (N := N) (O := O) (RR := RR) (nr := nr) (s := s) (by_ := by_) (co := co) (re := re) (ho := ho) (n := n) (C := C) (Rs := Rs) (H := H) (mc := mc) (a := a) (sp := sp) (wk := wk) (nw := tn) (tn := nw) (nsp := tsp) (tsp := nsp) (se := se) (stk := stk) (nc := tc) (tc := 0) (sta := (sta + 1)) (fo := fo) (hw := hw) (fy := fy) (stp := stp) (SP := SP) (WK := WK) (NW := TN) (TN := NW) (NS := TS) (TS := NS) (SE := SE) (SK := SK) (l1 := l2) (l2 := l1) (l3 := l4) (l4 := l3) (p := i) (u9 := u9) (lz := lz) (S9 := S9) ha hsp hwk htn hnw htsp hnsp hse hstk hq hki hne hot hra hs hco hre hho (by omega) hp hr (by omega) hsu (by omega) (by omega) hkk (by omega) jtn jts (by omega) (by omega) (by omega) jj2_ (by omega) jse2_ thos_0 thr_0 jsp jspo (by omega) jj1_ (by omega)) (fun oc G2 h => by rcases h with ⟨_, _, _, _, _, _, _, _, _, h, _⟩ <;> exact ⟨_, h⟩) (by omega) m_TH_step ml_TH_94 im_TH_step se_TH_step c_TH ha.2.2 (Nat.le_of_ble_eq_true rfl) d_TH_find_148 rfl ?_
              intro v G90 hq
              rcases hq with ⟨tc291, st292, fo293, SE294, TN295, TS296, SK297, WK298, SP299, hv, hfk, hlk, hsk, hNa, hNsp, hNwk, hNtn, hNnw, hNtsp, hNnsp, hNse, hNstk, hq100, hq101, hq102, hq103, hq104, hq105, hq106, hq107, hq108⟩
              cases hv
              have hq := hfk.get hq (by simp only [List.mem_cons, List.not_mem_nil, or_false]; omega)
              have hki := hfk.get hki (by simp only [List.mem_cons, List.not_mem_nil, or_false]; omega)
              have hne := hfk.get hne (by simp only [List.mem_cons, List.not_mem_nil, or_false]; omega)
              have hot := hfk.get hot (by simp only [List.mem_cons, List.not_mem_nil, or_false]; omega)
              have hra := hfk.get hra (by simp only [List.mem_cons, List.not_mem_nil, or_false]; omega)
              have hs := hfk.get hs (by decide)
              have hco := hfk.get hco (by decide)
              have hre := hfk.get hre (by decide)
              have hho := hfk.get hho (by decide)
              have hfr := hfr.tr hfk (by decide)
              have hlen := hlk.trans hlen
              have hsl := hsk.trans hsl
              have ha := hNa
              have hsp := hNsp
              have hwk := hNwk
              have htn := hNtn
              have hnw := hNnw
              have htsp := hNtsp
              have hnsp := hNnsp
              have hse := hNse
              have hstk := hNstk
              change ab_W _ _ _ G90 151 [some (vR a), some (vR q), some (vR s), some (vz hw), some (vz p), some (vR sp), some (vz i)] [] _
              refine zz_iinc d_TH_find_151 rfl (Nat.le_of_ble_eq_true rfl) (Nat.le_of_ble_eq_true rfl) rfl ?_
              change ab_W _ _ _ G90 154 [some (vR a), some (vR q), some (vR s), some (vz hw), some (vz p), some (vR sp), some (vz (i + 1))] [] _
              refine ab_goto (tgt := 62) d_TH_find_154 (by decide) ?_
              exact ih (nw := tn) (tn := nw) (nsp := tsp) (tsp := nsp) (nc := tc) (tc := tc291) (sta := (sta + 1)) (fo := fo293) (stp := st292) (SP := SP299) (WK := WK298) (NW := TN) (TN := TN295) (NS := TS) (TS := TS296) (SE := SE294) (SK := SK297) (l1 := l2) (l2 := l1) (l3 := l4) (l4 := l3) (i := (i + 1)) ha hsp hwk htn hnw htsp hnsp hse hstk hq hki hne hot hra hs hco hre hho (by omega) (by omega) (by omega) (by omega) hq103 hq104 hq105 hq102 hq106 (by omega) hq107 (by omega) hfr hlen hsl (by omega) hk0
            · refine ab_aload_n d_TH_find_131 rfl ?_
              refine ab_getf (fs := [vR sp, vR wk, vR tn, vR nw, vR tsp, vR nsp, vz tc, vz 0, vR se, vz (sta + 1), vR stk, vz fo, vR q, vR s, vz hw, vz fy, vj stp]) f_TH_61 d_TH_find_132 ha.2.2 rfl ?_
              refine zz_if_ne (tgt := 157) d_TH_find_135 (by decide) (by omega) (fun c109 => absurd c109 (by omega)) (fun c109 => ?_)
              refine ab_iload_n d_TH_find_138 rfl ?_
              refine zz_if_eq (tgt := 145) d_TH_find_139 (by decide) (by omega) (fun c110 => absurd c110 (by omega)) (fun c110 => ?_)
              refine ab_goto (tgt := 157) d_TH_find_142 (by decide) ?_
              refine ab_less (L' := [some (vR a), none, none, none, none, some (vR sp), none]) (fun i v h => by rcases i with _ | _ | _ | _ | _ | _ | _ | i <;> first | exact h | (simp at h)) ?_
              exact hk0 _ _ _ _ _ _ _ _ _ _ _ _ _ _ _ _ _ _ _ _ _ _ ha hsp hwk htn hnw htsp hnsp hse hstk (by omega) (by omega) (by omega) (by first | exact jsp | exact rgs_w jsp (by omega)) (by exact jse2_) (by exact jspo) (by exact jj1_.brk (by omega) rfl (laZ_br hl2 (by omega) (by omega))) (by omega) hfr hlen hsl
          · obtain ⟨W_, c_, jsP_⟩ := jst.pp (laZ_le hl2 (by omega) (by omega))
            refine ab_aload_n d_TH_find_89 rfl ?_
            refine ab_getf (fs := [vR sp, vR wk, vR nw, vR tn, vR nsp, vR tsp, vz nc, vz tc, vR se, vz sta, vR stk, vz fo, vR q, vR s, vz hw, vz fy, vj stp]) f_TH_15 d_TH_find_90 ha.2.2 rfl ?_
            refine zz_iconst d_TH_find_93 ?_
            refine ab_aload_n d_TH_find_94 rfl ?_
            refine ab_getf (fs := [vR ki, vR ne, vR ot, vz cnt, vz fi, vz la, vR ra, vz ru, vz gr, vz wi, vz sz, vz fl, vz ve, vz mi, vR na, vR nl]) f_TH_72 d_TH_find_95 hq.2.2 rfl ?_
            refine zz_iconst d_TH_find_98 ?_
            refine ab_callS (d' := d - 1) (as := [vR wk, vz 0, vz wi, vz (-1)]) (st := []) (z_AR_fillr (o := o) (a := wk) (l := 33) (n := 20) (f := WK) (v := (-1)) (x := 0) (y := wi) hwk (by have h18 : ab_n0 = 18 := rfl; omega) (by omega)) (fun oc G2 h => by rcases h with ⟨h, _⟩ <;> exact ⟨_, h⟩) (by omega) m_AR_fillr ml_TH_75 st_AR_fillr (Nat.le_of_ble_eq_true rfl) d_TH_find_99 rfl ?_
            intro v G111 hq
            rcases hq with ⟨hv, hfk, hlk, hsk, hNwk⟩
            cases hv
            have ha := hfk.get ha (by decide)
            have hsp := hfk.get hsp (by decide)
            have hnw := hfk.get hnw (by simp only [List.mem_cons, List.not_mem_nil, or_false]; omega)
            have htn := hfk.get htn (by simp only [List.mem_cons, List.not_mem_nil, or_false]; omega)
            have hnsp := hfk.get hnsp (by simp only [List.mem_cons, List.not_mem_nil, or_false]; omega)
            have htsp := hfk.get htsp (by simp only [List.mem_cons, List.not_mem_nil, or_false]; omega)
            have hse := hfk.get hse (by decide)
            have hstk := hfk.get hstk (by decide)
            have hq := hfk.get hq (by simp only [List.mem_cons, List.not_mem_nil, or_false]; omega)
            have hki := hfk.get hki (by simp only [List.mem_cons, List.not_mem_nil, or_false]; omega)
            have hne := hfk.get hne (by simp only [List.mem_cons, List.not_mem_nil, or_false]; omega)
            have hot := hfk.get hot (by simp only [List.mem_cons, List.not_mem_nil, or_false]; omega)
            have hra := hfk.get hra (by simp only [List.mem_cons, List.not_mem_nil, or_false]; omega)
            have hs := hfk.get hs (by decide)
            have hco := hfk.get hco (by decide)
            have hre := hfk.get hre (by decide)
            have hho := hfk.get hho (by decide)
            have hfr := hfr.tr hfk (by decide)
            have hlen := hlk.trans hlen
            have hsl := hsk.trans hsl
            have hwk := hNwk
            change ab_W _ _ _ G111 102 [some (vR a), some (vR q), some (vR s), some (vz hw), some (vz p), some (vR sp), some (vz i)] [] _
            refine ab_aload_n d_TH_find_102 rfl ?_
            refine ab_getf (fs := [vR sp, vR wk, vR nw, vR tn, vR nsp, vR tsp, vz nc, vz tc, vR se, vz sta, vR stk, vz fo, vR q, vR s, vz hw, vz fy, vj stp]) f_TH_15 d_TH_find_103 ha.2.2 rfl ?_
            refine zz_iconst d_TH_find_106 ?_
            refine ab_iload d_TH_find_107 rfl ?_
            refine zz_iast d_TH_find_109 hwk (by omega) (hwk.2.1 (by decide)) ?_
            obtain ⟨G112, eG112⟩ : ∃ z : ab_G, z = List.set G111 wk (za 20 (zu (zfill WK 0 wi (-1)) 0 i)) := ⟨_, rfl⟩
            have ha := ha.keep hwk eG112 (by decide)
            have hsp := hsp.keep hwk eG112 (by decide)
            have hnw := hnw.keep hwk eG112 (by omega)
            have htn := htn.keep hwk eG112 (by omega)
            have hnsp := hnsp.keep hwk eG112 (by omega)
            have htsp := htsp.keep hwk eG112 (by omega)
            have hse := hse.keep hwk eG112 (by decide)
            have hstk := hstk.keep hwk eG112 (by decide)
            have hq := hq.keep hwk eG112 (by omega)
            have hki := hki.keep hwk eG112 (by omega)
            have hne := hne.keep hwk eG112 (by omega)
            have hot := hot.keep hwk eG112 (by omega)
            have hra := hra.keep hwk eG112 (by omega)
            have hs := hs.keep hwk eG112 (by decide)
            have hco := hco.keep hwk eG112 (by decide)
            have hre := hre.keep hwk eG112 (by decide)
            have hho := hho.keep hwk eG112 (by decide)
            have hlen := (z_len eG112).trans hlen
            have hsl := (z_sl hwk eG112 rfl).trans hsl
            have hfr := hfr.wr hwk eG112 (by decide)
            have hwk := hwk.kept eG112
            change ab_W _ _ _ (List.set G111 wk (za 20 (zu (zfill WK 0 wi (-1)) 0 i))) 110 [some (vR a), some (vR q), some (vR s), some (vz hw), some (vz p), some (vR sp), some (vz i)] [] _
            rw [← eG112]
            refine ab_aload_n d_TH_find_110 rfl ?_
            refine ab_aload_n d_TH_find_111 rfl ?_
            refine ab_getf (fs := [vR ki, vR ne, vR ot, vz cnt, vz fi, vz la, vR ra, vz ru, vz gr, vz wi, vz sz, vz fl, vz ve, vz mi, vR na, vR nl]) f_TH_81 d_TH_find_112 hq.2.2 rfl ?_
            refine ab_iload d_TH_find_115 rfl ?_
            refine ab_callV (d' := d - 1) (as := [vz fi, vz i]) (st := []) (r := _) (z_TH_follow (o := o) (q := q) (lq := lq) (ki := ki) (ne := ne) (ot := ot) (cnt := cnt) (fi := fi) (la := la) (ra := ra) (ru := ru) (gr := gr) (wi := wi) (sz := sz) (fl := fl) (ve := ve) (mi := mi) (na := na) (nl := nl) (K := K) (N := N) (O := O) (RR := RR) (nr := nr) (s := s) (by_ := by_) (co := co) (re := re) (ho := ho) (n := n) (C := C) (Rs := Rs) (H := H) (mc := mc) (a := a) (sp := sp) (wk := wk) (nw := nw) (tn := tn) (nsp := nsp) (tsp := tsp) (se := se) (stk := stk) (nc := nc) (tc := tc) (sta := sta) (fo := fo) (hw := hw) (fy := fy) (stp := stp) (SP := SP) (WK := (zu (zfill WK 0 wi (-1)) 0 i)) (NW := NW) (TN := TN) (NS := NS) (TS := TS) (SE := SE) (SK := SK) (l1 := l1) (l2 := l2) (l3 := l3) (l4 := l4) (p := i) (x := fi) (st := i) (Mw := W_) (s0 := (i - 1)) (gw := (fun _ => -1)) (Lw := (wyR u9 f n i)) ha hsp hwk hnw htn hnsp htsp hse hstk hq hki hne hot hra hs hco hre hho (by omega) hp hr (by omega) hsu (by omega) (by omega) hkk (by omega) (by omega) (by omega) (rgs_zu (rgs_fl (by omega)) (by omega)) (by rw [zu_self]; omega) jse jtn jts jsP_.2.2.1.ff (by omega) gA_0 (zu_self _ _ _) (by rw [wyR_p (by omega) (by omega)]; exact hpm.ww hsu.1 (by omega) (by omega)) (by omega)) (fun oc G2 h => by rcases h with ⟨_, _, _, _, _, _, _, h, _⟩ <;> exact ⟨_, h⟩) (by omega) m_TH_follow ml_TH_84 im_TH_follow se_TH_follow c_TH ha.2.2 (Nat.le_of_ble_eq_true rfl) d_TH_find_117 rfl ?_
            intro v G113 hq
            rcases hq with ⟨tc2114, st2115, SE2116, TN2117, TS2118, SK2119, WK2120, hv, hfk, hlk, hsk, hNa, hNsp, hNwk, hNnw, hNtn, hNnsp, hNtsp, hNse, hNstk, hq121, hq122, hq123, hq124, hq125, hq126, hq127, hq128, hq129⟩
            cases hv
            have hq := hfk.get hq (by simp only [List.mem_cons, List.not_mem_nil, or_false]; omega)
            have hki := hfk.get hki (by simp only [List.mem_cons, List.not_mem_nil, or_false]; omega)
            have hne := hfk.get hne (by simp only [List.mem_cons, List.not_mem_nil, or_false]; omega)
            have hot := hfk.get hot (by simp only [List.mem_cons, List.not_mem_nil, or_false]; omega)
            have hra := hfk.get hra (by simp only [List.mem_cons, List.not_mem_nil, or_false]; omega)
            have hs := hfk.get hs (by decide)
            have hco := hfk.get hco (by decide)
            have hre := hfk.get hre (by decide)
            have hho := hfk.get hho (by decide)
            have hfr := hfr.tr hfk (by decide)
            have hlen := hlk.trans hlen
            have hsl := hsk.trans hsl
            have ha := hNa
            have hsp := hNsp
            have hwk := hNwk
            have hnw := hNnw
            have htn := hNtn
            have hnsp := hNnsp
            have htsp := hNtsp
            have hse := hNse
            have hstk := hNstk
            change ab_W _ _ _ G113 120 [some (vR a), some (vR q), some (vR s), some (vz hw), some (vz p), some (vR sp), some (vz i)] [] _
            have jm_ := jsP_.mm hq127 (by omega) hsu (by omega)
            have jse_ := hq124
            have jno_ : ∀ k : Int, 0 ≤ k → k < 2048 → ¬ SE2116 k = sta + 1 := fun k a b => by have := (jse_ k a b).2; omega
            have jse2_ : rgs SE2116 2048 0 (sta + 1) := rgs_wd jse_ (by omega) (by omega)
            refine ab_aload_n d_TH_find_120 rfl ?_
            refine ab_callV (d' := d - 1) (as := []) (st := []) (r := _) (z_TH_turnRows (o := o) (q := q) (s := s) (a := a) (sp := sp) (wk := wk) (nw := nw) (tn := tn) (nsp := nsp) (tsp := tsp) (se := se) (stk := stk) (nc := nc) (tc := tc2114) (sta := sta) (fo := fo) (hw := hw) (fy := fy) (stp := st2115) ha) (fun oc G2 h => by rcases h with ⟨h, _⟩ <;> exact ⟨_, h⟩) (by omega) m_TH_turnRows ml_TH_88 im_TH_turnRows se_TH_turnRows c_TH ha.2.2 (Nat.le_of_ble_eq_true rfl) d_TH_find_121 rfl ?_
            intro v G130 hq
            rcases hq with ⟨hv, hfk, hlk, hsk, hNa⟩
            cases hv
            have hsp := hfk.get hsp (by decide)
            have hwk := hfk.get hwk (by decide)
            have hnw := hfk.get hnw (by simp only [List.mem_cons, List.not_mem_nil, or_false]; omega)
            have htn := hfk.get htn (by simp only [List.mem_cons, List.not_mem_nil, or_false]; omega)
            have hnsp := hfk.get hnsp (by simp only [List.mem_cons, List.not_mem_nil, or_false]; omega)
            have htsp := hfk.get htsp (by simp only [List.mem_cons, List.not_mem_nil, or_false]; omega)
            have hse := hfk.get hse (by decide)
            have hstk := hfk.get hstk (by decide)
            have hq := hfk.get hq (by simp only [List.mem_cons, List.not_mem_nil, or_false]; omega)
            have hki := hfk.get hki (by simp only [List.mem_cons, List.not_mem_nil, or_false]; omega)
            have hne := hfk.get hne (by simp only [List.mem_cons, List.not_mem_nil, or_false]; omega)
            have hot := hfk.get hot (by simp only [List.mem_cons, List.not_mem_nil, or_false]; omega)
            have hra := hfk.get hra (by simp only [List.mem_cons, List.not_mem_nil, or_false]; omega)
            have hs := hfk.get hs (by decide)
            have hco := hfk.get hco (by decide)
            have hre := hfk.get hre (by decide)
            have hho := hfk.get hho (by decide)
            have hfr := hfr.tr hfk (by decide)
            have hlen := hlk.trans hlen
            have hsl := hsk.trans hsl
            have ha := hNa
            change ab_W _ _ _ G130 124 [some (vR a), some (vR q), some (vR s), some (vz hw), some (vz p), some (vR sp), some (vz i)] [] _
            have jj_ := jm_.turn (TN2 := NW) (TS2 := NS) (tc2 := 0) jno_ rfl
            obtain ⟨jj1_, jj2_⟩ := jj_
            refine ab_aload_n d_TH_find_124 rfl ?_
            refine ab_getf (fs := [vR sp, vR wk, vR tn, vR nw, vR tsp, vR nsp, vz tc2114, vz 0, vR se, vz (sta + 1), vR stk, vz fo, vR q, vR s, vz hw, vz fy, vj st2115]) f_TH_91 d_TH_find_125 ha.2.2 rfl ?_
            refine zz_if_ne (tgt := 145) d_TH_find_128 (by decide) (by omega) (fun c131 => ?_) (fun c131 => ?_)
            · refine ab_aload_n d_TH_find_145 rfl ?_
              refine ab_iload d_TH_find_146 rfl ?_
              refine ab_callV (d' := d - 1) (as := [vz i]) (st := []) (r := _) (z_TH_step (o := o) (q := q) (lq := lq) (ki := ki) (ne := ne) (ot := ot) (cnt := cnt) (fi := fi) (la := la) (ra := ra) (ru := ru) (gr := gr) (wi := wi) (sz := sz) (fl := fl) (ve := ve) (mi := mi) (na := na) (nl := nl) (K := K) (N := N) (O := O) (RR := RR) (nr := nr) (s := s) (by_ := by_) (co := co) (re := re) (ho := ho) (n := n) (C := C) (Rs := Rs) (H := H) (mc := mc) (a := a) (sp := sp) (wk := wk) (nw := tn) (tn := nw) (nsp := tsp) (tsp := nsp) (se := se) (stk := stk) (nc := tc2114) (tc := 0) (sta := (sta + 1)) (fo := fo) (hw := hw) (fy := fy) (stp := st2115) (SP := SP) (WK := WK2120) (NW := TN2117) (TN := NW) (NS := TS2118) (TS := NS) (SE := SE2116) (SK := SK2119) (l1 := l2) (l2 := l1) (l3 := l4) (l4 := l3) (p := i) (u9 := u9) (lz := lz) (S9 := S9) ha hsp hwk htn hnw htsp hnsp hse hstk hq hki hne hot hra hs hco hre hho (by omega) hp hr (by omega) hsu (by omega) (by omega) hkk (by omega) hq125 hq126 (by omega) (by omega) (by omega) jj2_ (by omega) jse2_ thos_0 thr_0 jsp jspo (by omega) jj1_ (by omega)) (fun oc G2 h => by rcases h with ⟨_, _, _, _, _, _, _, _, _, h, _⟩ <;> exact ⟨_, h⟩) (by omega) m_TH_step ml_TH_94 im_TH_step se_TH_step c_TH ha.2.2 (Nat.le_of_ble_eq_true rfl) d_TH_find_148 rfl ?_
              intro v G132 hq
              rcases hq with ⟨tc2133, st2134, fo2135, SE2136, TN2137, TS2138, SK2139, WK2140, SP2141, hv, hfk, hlk, hsk, hNa, hNsp, hNwk, hNtn, hNnw, hNtsp, hNnsp, hNse, hNstk, hq142, hq143, hq144, hq145, hq146, hq147, hq148, hq149, hq150⟩
              cases hv
              have hq := hfk.get hq (by simp only [List.mem_cons, List.not_mem_nil, or_false]; omega)
              have hki := hfk.get hki (by simp only [List.mem_cons, List.not_mem_nil, or_false]; omega)
              have hne := hfk.get hne (by simp only [List.mem_cons, List.not_mem_nil, or_false]; omega)
              have hot := hfk.get hot (by simp only [List.mem_cons, List.not_mem_nil, or_false]; omega)
              have hra := hfk.get hra (by simp only [List.mem_cons, List.not_mem_nil, or_false]; omega)
              have hs := hfk.get hs (by decide)
              have hco := hfk.get hco (by decide)
              have hre := hfk.get hre (by decide)
              have hho := hfk.get hho (by decide)
              have hfr := hfr.tr hfk (by decide)
              have hlen := hlk.trans hlen
              have hsl := hsk.trans hsl
              have ha := hNa
              have hsp := hNsp
              have hwk := hNwk
              have htn := hNtn
              have hnw := hNnw
              have htsp := hNtsp
              have hnsp := hNnsp
              have hse := hNse
              have hstk := hNstk
              change ab_W _ _ _ G132 151 [some (vR a), some (vR q), some (vR s), some (vz hw), some (vz p), some (vR sp), some (vz i)] [] _
              refine zz_iinc d_TH_find_151 rfl (Nat.le_of_ble_eq_true rfl) (Nat.le_of_ble_eq_true rfl) rfl ?_
              change ab_W _ _ _ G132 154 [some (vR a), some (vR q), some (vR s), some (vz hw), some (vz p), some (vR sp), some (vz (i + 1))] [] _
              refine ab_goto (tgt := 62) d_TH_find_154 (by decide) ?_
              exact ih (nw := tn) (tn := nw) (nsp := tsp) (tsp := nsp) (nc := tc2114) (tc := tc2133) (sta := (sta + 1)) (fo := fo2135) (stp := st2134) (SP := SP2141) (WK := WK2140) (NW := TN2117) (TN := TN2137) (NS := TS2118) (TS := TS2138) (SE := SE2136) (SK := SK2139) (l1 := l2) (l2 := l1) (l3 := l4) (l4 := l3) (i := (i + 1)) ha hsp hwk htn hnw htsp hnsp hse hstk hq hki hne hot hra hs hco hre hho (by omega) (by omega) (by omega) (by omega) hq145 hq146 hq147 hq144 hq148 (by omega) hq149 (by omega) hfr hlen hsl (by omega) hk0
            · refine ab_aload_n d_TH_find_131 rfl ?_
              refine ab_getf (fs := [vR sp, vR wk, vR tn, vR nw, vR tsp, vR nsp, vz tc2114, vz 0, vR se, vz (sta + 1), vR stk, vz fo, vR q, vR s, vz hw, vz fy, vj st2115]) f_TH_61 d_TH_find_132 ha.2.2 rfl ?_
              refine zz_if_ne (tgt := 157) d_TH_find_135 (by decide) (by omega) (fun c151 => absurd c151 (by omega)) (fun c151 => ?_)
              refine ab_iload_n d_TH_find_138 rfl ?_
              refine zz_if_eq (tgt := 145) d_TH_find_139 (by decide) (by omega) (fun c152 => ?_) (fun c152 => absurd c152 (by omega))
              refine ab_aload_n d_TH_find_145 rfl ?_
              refine ab_iload d_TH_find_146 rfl ?_
              refine ab_callV (d' := d - 1) (as := [vz i]) (st := []) (r := _) (z_TH_step (o := o) (q := q) (lq := lq) (ki := ki) (ne := ne) (ot := ot) (cnt := cnt) (fi := fi) (la := la) (ra := ra) (ru := ru) (gr := gr) (wi := wi) (sz := sz) (fl := fl) (ve := ve) (mi := mi) (na := na) (nl := nl) (K := K) (N := N) (O := O) (RR := RR) (nr := nr) (s := s) (by_ := by_) (co := co) (re := re) (ho := ho) (n := n) (C := C) (Rs := Rs) (H := H) (mc := mc) (a := a) (sp := sp) (wk := wk) (nw := tn) (tn := nw) (nsp := tsp) (tsp := nsp) (se := se) (stk := stk) (nc := tc2114) (tc := 0) (sta := (sta + 1)) (fo := fo) (hw := hw) (fy := fy) (stp := st2115) (SP := SP) (WK := WK2120) (NW := TN2117) (TN := NW) (NS := TS2118) (TS := NS) (SE := SE2116) (SK := SK2119) (l1 := l2) (l2 := l1) (l3 := l4) (l4 := l3) (p := i) (u9 := u9) (lz := lz) (S9 := S9) ha hsp hwk htn hnw htsp hnsp hse hstk hq hki hne hot hra hs hco hre hho (by omega) hp hr (by omega) hsu (by omega) (by omega) hkk (by omega) hq125 hq126 (by omega) (by omega) (by omega) jj2_ (by omega) jse2_ thos_0 thr_0 jsp jspo (by omega) jj1_ (by omega)) (fun oc G2 h => by rcases h with ⟨_, _, _, _, _, _, _, _, _, h, _⟩ <;> exact ⟨_, h⟩) (by omega) m_TH_step ml_TH_94 im_TH_step se_TH_step c_TH ha.2.2 (Nat.le_of_ble_eq_true rfl) d_TH_find_148 rfl ?_
              intro v G153 hq
              rcases hq with ⟨tc2154, st2155, fo2156, SE2157, TN2158, TS2159, SK2160, WK2161, SP2162, hv, hfk, hlk, hsk, hNa, hNsp, hNwk, hNtn, hNnw, hNtsp, hNnsp, hNse, hNstk, hq163, hq164, hq165, hq166, hq167, hq168, hq169, hq170, hq171⟩
              cases hv
              have hq := hfk.get hq (by simp only [List.mem_cons, List.not_mem_nil, or_false]; omega)
              have hki := hfk.get hki (by simp only [List.mem_cons, List.not_mem_nil, or_false]; omega)
              have hne := hfk.get hne (by simp only [List.mem_cons, List.not_mem_nil, or_false]; omega)
              have hot := hfk.get hot (by simp only [List.mem_cons, List.not_mem_nil, or_false]; omega)
              have hra := hfk.get hra (by simp only [List.mem_cons, List.not_mem_nil, or_false]; omega)
              have hs := hfk.get hs (by decide)
              have hco := hfk.get hco (by decide)
              have hre := hfk.get hre (by decide)
              have hho := hfk.get hho (by decide)
              have hfr := hfr.tr hfk (by decide)
              have hlen := hlk.trans hlen
              have hsl := hsk.trans hsl
              have ha := hNa
              have hsp := hNsp
              have hwk := hNwk
              have htn := hNtn
              have hnw := hNnw
              have htsp := hNtsp
              have hnsp := hNnsp
              have hse := hNse
              have hstk := hNstk
              change ab_W _ _ _ G153 151 [some (vR a), some (vR q), some (vR s), some (vz hw), some (vz p), some (vR sp), some (vz i)] [] _
              refine zz_iinc d_TH_find_151 rfl (Nat.le_of_ble_eq_true rfl) (Nat.le_of_ble_eq_true rfl) rfl ?_
              change ab_W _ _ _ G153 154 [some (vR a), some (vR q), some (vR s), some (vz hw), some (vz p), some (vR sp), some (vz (i + 1))] [] _
              refine ab_goto (tgt := 62) d_TH_find_154 (by decide) ?_
              exact ih (nw := tn) (tn := nw) (nsp := tsp) (tsp := nsp) (nc := tc2114) (tc := tc2154) (sta := (sta + 1)) (fo := fo2156) (stp := st2155) (SP := SP2162) (WK := WK2161) (NW := TN2117) (TN := TN2158) (NS := TS2118) (TS := TS2159) (SE := SE2157) (SK := SK2160) (l1 := l2) (l2 := l1) (l3 := l4) (l4 := l3) (i := (i + 1)) ha hsp hwk htn hnw htsp hnsp hse hstk hq hki hne hot hra hs hco hre hho (by omega) (by omega) (by omega) (by omega) hq166 hq167 hq168 hq165 hq169 (by omega) hq170 (by omega) hfr hlen hsl (by omega) hk0
