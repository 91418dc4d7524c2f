set_option maxRecDepth 100000 in
set_option maxHeartbeats 4000000 in
theorem z_TH_find {X : ab_X} {d : Nat} {o : Nat → Nat} {G : ab_G} {q : Nat} {lq : Nat} {ki : Nat} {ne : Nat} {ot : Nat} {cnt : Int} {fi : Int} {la : Int} {ra : Nat} {ru : Int} {gr : Int} {wi : Int} {sz : Int} {fl : Int} {ve : Int} {mi : Int} {na : Nat} {nl : Nat} {K : Int → Int} {N : Int → Int} {O : Int → Int} {RR : Int → Int} {nr : Nat} {s : Nat} {by_ : Nat} {co : Nat} {re : Nat} {ho : Nat} {n : Int} {f : Int → Int} {C : Int → Int} {Rs : Int → Int} {H : Int → Int} {m : Nat} {mc : Nat} {a : Nat} {sp : Nat} {wk : Nat} {nw : Nat} {tn : Nat} {nsp : Nat} {tsp : Nat} {se : Nat} {stk : Nat} {nc : Int} {tc : Int} {sta : Int} {hw : Int} {stp : Int} {SP : Int → Int} {WK : Int → Int} {NW : Int → Int} {TN : Int → Int} {NS : Int → Int} {TS : Int → Int} {SE : Int → Int} {SK : Int → Int} {l1 : Nat} {l2 : Nat} {l3 : Nat} {l4 : Nat} {sp0 : Value} {q0 : Value} {s0 : Value} {hw0 : Int} {fy0 : Int} {fo0 : Int} {p : Int} {u9 : Sn} (ha : cc o G a 32 (ab_ob 11 [sp0, vR wk, vR nw, vR tn, vR nsp, vR tsp, vz nc, vz tc, vR se, vz sta, vR stk, vz fo0, q0, s0, vz hw0, vz fy0, vj stp])) (hsp : cc o G sp 31 (za 20 SP)) (hwk : cc o G wk 33 (za 20 WK)) (hnw : cc o G nw l1 (za 801 NW)) (htn : cc o G tn l2 (za 801 TN)) (hnsp : cc o G nsp l3 (za 16020 NS)) (htsp : cc o G tsp l4 (za 16020 TS)) (hse : cc o G se 39 (za 2048 SE)) (hstk : cc o G stk 40 (za 809 SK)) (hq : cc o G q lq (ab_ob 5 [vR ki, vR ne, vR ot, vz cnt, vz fi, vz la, vR ra, vz ru, vz gr, vz wi, vz sz, vz fl, vz ve, vz mi, vR na, vR nl])) (hki : cc o G ki (lq + 1) (za 808 K)) (hne : cc o G ne (lq + 2) (za 808 N)) (hot : cc o G ot (lq + 3) (za 808 O)) (hra : cc o G ra (lq + 4) (za nr RR)) (hs : cc o G s 26 (ab_ob 9 [vR by_, vR co, vR re, vR ho, vz n])) (hco : cc o G co 28 (za mc C)) (hre : cc o G re 29 (za mc Rs)) (hho : cc o G ho 30 (za mc H)) (cq : 100 ≤ lq ∧ 0 ≤ cnt ∧ cnt ≤ 808 ∧ ↑nr ≤ (100000 : Int)) (hp : prok K N O RR cnt ↑nr wi) (hr : ∀ k : Int, 0 ≤ k → k < ↑nr → 0 ≤ RR k ∧ RR k ≤ 1114111) (csu : 0 ≤ n ∧ n ≤ ↑m ∧ 32 ≤ m ∧ m ≤ 2000 ∧ mc = m + 1) (hsu : suok f C Rs H n) (cwi : 2 ≤ wi ∧ wi ≤ 20) (hkk : kkF K cnt) (cfi : 0 ≤ fi ∧ fi < cnt) (cp : 0 ≤ p ∧ p ≤ n) (chw : 0 ≤ hw ∧ hw ≤ 2 ∧ 0 ≤ fl ∧ fl ≤ 31) (cl : l1 + l2 = 71 ∧ 35 ≤ l1 ∧ l1 ≤ 36 ∧ l3 + l4 = 75 ∧ 37 ≤ l3 ∧ l3 ≤ 38) (jse : rgs SE 2048 0 sta) (cst : 0 ≤ sta ∧ sta ≤ 2100000000) (jsp : rgs SP 20 (-1) 2000) (hpm : prM K N O RR fi u9) (hd : 9 ≤ d) : ab_F X d y_TH_find (.code y_TH_find b_TH_find 7 (some (.int))) [vR a, vR q, vR s, vz hw, vz p, vR sp] G (fun oc G2 => (∃ nw2 : Nat, ∃ tn2 : Nat, ∃ nsp2 : Nat, ∃ tsp2 : Nat, ∃ m1 : Nat, ∃ m2_ : Nat, ∃ m3 : Nat, ∃ m4 : Nat, ∃ nc2 : Int, ∃ tc2 : Int, ∃ sta2 : Int, ∃ fo2 : Int, ∃ fy2 : Int, ∃ st2 : Int, ∃ NW2 : Int → Int, ∃ TN2 : Int → Int, ∃ NS2 : Int → Int, ∃ TS2 : Int → Int, ∃ SE2 : Int → Int, ∃ SK2 : Int → Int, ∃ WK2 : Int → Int, ∃ SP2 : Int → Int, oc = .returned (some (vz (-1))) ∧ fx o o [31, 32, 33, 35, 36, 37, 38, 39, 40] G G2 ∧ G2.length = G.length ∧ ab_slots G2 = ab_slots G ∧ cc o G2 a 32 (ab_ob 11 [vR sp, vR wk, vR nw2, vR tn2, vR nsp2, vR tsp2, vz nc2, vz tc2, vR se, vz sta2, vR stk, vz fo2, vR q, vR s, vz hw, vz fy2, vj st2]) ∧ cc o G2 sp 31 (za 20 SP2) ∧ cc o G2 wk 33 (za 20 WK2) ∧ cc o G2 nw2 m1 (za 801 NW2) ∧ cc o G2 tn2 m2_ (za 801 TN2) ∧ cc o G2 nsp2 m3 (za 16020 NS2) ∧ cc o G2 tsp2 m4 (za 16020 TS2) ∧ cc o G2 se 39 (za 2048 SE2) ∧ cc o G2 stk 40 (za 809 SK2) ∧ (m1 + m2_ = 71 ∧ 35 ≤ m1 ∧ m1 ≤ 36 ∧ m3 + m4 = 75 ∧ 37 ≤ m3 ∧ m3 ≤ 38) ∧ (0 ≤ sta2 ∧ sta2 ≤ 2100000000) ∧ (rgs SP2 20 (-1) 2000) ∧ (rgs SE2 2048 0 sta2) ∧ (fst1 hw fl fy2) ∧ (fdC u9 f n fy2 hw p wi fo2 SP2) ∧ (stp ≤ st2 ∧ st2 ≤ stp + 9795 * (n + 1)) ∧ (fo2 = 0)) ∨ (∃ nw2 : Nat, ∃ tn2 : Nat, ∃ nsp2 : Nat, ∃ tsp2 : Nat, ∃ m1 : Nat, ∃ m2_ : Nat, ∃ m3 : Nat, ∃ m4 : Nat, ∃ nc2 : Int, ∃ tc2 : Int, ∃ sta2 : Int, ∃ fo2 : Int, ∃ fy2 : Int, ∃ st2 : Int, ∃ NW2 : Int → Int, ∃ TN2 : Int → Int, ∃ NS2 : Int → Int, ∃ TS2 : Int → Int, ∃ SE2 : Int → Int, ∃ SK2 : Int → Int, ∃ WK2 : Int → Int, ∃ SP2 : Int → Int, ∃ r : Int, oc = .returned (some (vz r)) ∧ fx o o [31, 32, 33, 35, 36, 37, 38, 39, 40] G G2 ∧ G2.length = G.length ∧ ab_slots G2 = ab_slots G ∧ cc o G2 a 32 (ab_ob 11 [vR sp, vR wk, vR nw2, vR tn2, vR nsp2, vR tsp2, vz nc2, vz tc2, vR se, vz sta2, vR stk, vz fo2, vR q, vR s, vz hw, vz fy2, vj st2]) ∧ cc o G2 sp 31 (za 20 SP2) ∧ cc o G2 wk 33 (za 20 WK2) ∧ cc o G2 nw2 m1 (za 801 NW2) ∧ cc o G2 tn2 m2_ (za 801 TN2) ∧ cc o G2 nsp2 m3 (za 16020 NS2) ∧ cc o G2 tsp2 m4 (za 16020 TS2) ∧ cc o G2 se 39 (za 2048 SE2) ∧ cc o G2 stk 40 (za 809 SK2) ∧ (m1 + m2_ = 71 ∧ 35 ≤ m1 ∧ m1 ≤ 36 ∧ m3 + m4 = 75 ∧ 37 ≤ m3 ∧ m3 ≤ 38) ∧ (0 ≤ sta2 ∧ sta2 ≤ 2100000000) ∧ (rgs SP2 20 (-1) 2000) ∧ (rgs SE2 2048 0 sta2) ∧ (fst1 hw fl fy2) ∧ (fdC u9 f n fy2 hw p wi fo2 SP2) ∧ (stp ≤ st2 ∧ st2 ≤ stp + 9795 * (n + 1)) ∧ (fo2 = 1) ∧ (0 ≤ r ∧ r ≤ n) ∧ (r = SP2 1) ∧ (rgs SP2 wi (-1) n) ∧ (0 ≤ SP2 0))) := by
  refine ab_F_of (by decide +kernel) (Nat.le_of_ble_eq_true rfl) ?_
  obtain ⟨Q, hQ⟩ : ∃ z : Outcome → ab_G → Prop, z = (fun oc G2 => (∃ nw2 : Nat, ∃ tn2 : Nat, ∃ nsp2 : Nat, ∃ tsp2 : Nat, ∃ m1 : Nat, ∃ m2_ : Nat, ∃ m3 : Nat, ∃ m4 : Nat, ∃ nc2 : Int, ∃ tc2 : Int, ∃ sta2 : Int, ∃ fo2 : Int, ∃ fy2 : Int, ∃ st2 : Int, ∃ NW2 : Int → Int, ∃ TN2 : Int → Int, ∃ NS2 : Int → Int, ∃ TS2 : Int → Int, ∃ SE2 : Int → Int, ∃ SK2 : Int → Int, ∃ WK2 : Int → Int, ∃ SP2 : Int → Int, oc = .returned (some (vz (-1))) ∧ fx o o [31, 32, 33, 35, 36, 37, 38, 39, 40] G G2 ∧ G2.length = G.length ∧ ab_slots G2 = ab_slots G ∧ cc o G2 a 32 (ab_ob 11 [vR sp, vR wk, vR nw2, vR tn2, vR nsp2, vR tsp2, vz nc2, vz tc2, vR se, vz sta2, vR stk, vz fo2, vR q, vR s, vz hw, vz fy2, vj st2]) ∧ cc o G2 sp 31 (za 20 SP2) ∧ cc o G2 wk 33 (za 20 WK2) ∧ cc o G2 nw2 m1 (za 801 NW2) ∧ cc o G2 tn2 m2_ (za 801 TN2) ∧ cc o G2 nsp2 m3 (za 16020 NS2) ∧ cc o G2 tsp2 m4 (za 16020 TS2) ∧ cc o G2 se 39 (za 2048 SE2) ∧ cc o G2 stk 40 (za 809 SK2) ∧ (m1 + m2_ = 71 ∧ 35 ≤ m1 ∧ m1 ≤ 36 ∧ m3 + m4 = 75 ∧ 37 ≤ m3 ∧ m3 ≤ 38) ∧ (0 ≤ sta2 ∧ sta2 ≤ 2100000000) ∧ (rgs SP2 20 (-1) 2000) ∧ (rgs SE2 2048 0 sta2) ∧ (fst1 hw fl fy2) ∧ (fdC u9 f n fy2 hw p wi fo2 SP2) ∧ (stp ≤ st2 ∧ st2 ≤ stp + 9795 * (n + 1)) ∧ (fo2 = 0)) ∨ (∃ nw2 : Nat, ∃ tn2 : Nat, ∃ nsp2 : Nat, ∃ tsp2 : Nat, ∃ m1 : Nat, ∃ m2_ : Nat, ∃ m3 : Nat, ∃ m4 : Nat, ∃ nc2 : Int, ∃ tc2 : Int, ∃ sta2 : Int, ∃ fo2 : Int, ∃ fy2 : Int, ∃ st2 : Int, ∃ NW2 : Int → Int, ∃ TN2 : Int → Int, ∃ NS2 : Int → Int, ∃ TS2 : Int → Int, ∃ SE2 : Int → Int, ∃ SK2 : Int → Int, ∃ WK2 : Int → Int, ∃ SP2 : Int → Int, ∃ r : Int, oc = .returned (some (vz r)) ∧ fx o o [31, 32, 33, 35, 36, 37, 38, 39, 40] G G2 ∧ G2.length = G.length ∧ ab_slots G2 = ab_slots G ∧ cc o G2 a 32 (ab_ob 11 [vR sp, vR wk, vR nw2, vR tn2, vR nsp2, vR tsp2, vz nc2, vz tc2, vR se, vz sta2, vR stk, vz fo2, vR q, vR s, vz hw, vz fy2, vj st2]) ∧ cc o G2 sp 31 (za 20 SP2) ∧ cc o G2 wk 33 (za 20 WK2) ∧ cc o G2 nw2 m1 (za 801 NW2) ∧ cc o G2 tn2 m2_ (za 801 TN2) ∧ cc o G2 nsp2 m3 (za 16020 NS2) ∧ cc o G2 tsp2 m4 (za 16020 TS2) ∧ cc o G2 se 39 (za 2048 SE2) ∧ cc o G2 stk 40 (za 809 SK2) ∧ (m1 + m2_ = 71 ∧ 35 ≤ m1 ∧ m1 ≤ 36 ∧ m3 + m4 = 75 ∧ 37 ≤ m3 ∧ m3 ≤ 38) ∧ (0 ≤ sta2 ∧ sta2 ≤ 2100000000) ∧ (rgs SP2 20 (-1) 2000) ∧ (rgs SE2 2048 0 sta2) ∧ (fst1 hw fl fy2) ∧ (fdC u9 f n fy2 hw p wi fo2 SP2) ∧ (stp ≤ st2 ∧ st2 ≤ stp + 9795 * (n + 1)) ∧ (fo2 = 1) ∧ (0 ≤ r ∧ r ≤ n) ∧ (r = SP2 1) ∧ (rgs SP2 wi (-1) n) ∧ (0 ≤ SP2 0))) := ⟨_, rfl⟩
  rw [← hQ]
  change ab_W X (ab_pl y_TH_find b_TH_find 7 (some (.int))) d G 0 [some (vR a), some (vR q), some (vR s), some (vz hw), some (vz p), some (vR sp), none] [] Q
  have hfr : fx o o [31, 32, 33, 35, 36, 37, 38, 39, 40] G G := fx.rf
  have hlen : G.length = G.length := rfl
  have hsl : ab_slots G = ab_slots G := rfl
  refine ab_aload_n d_TH_find_0 rfl ?_
  refine ab_aload_n d_TH_find_1 rfl ?_
  refine ab_putf (fs := [sp0, vR wk, vR nw, vR tn, vR nsp, vR tsp, vz nc, vz tc, vR se, vz sta, vR stk, vz fo0, q0, s0, vz hw0, vz fy0, vj stp]) f_TH_36 (Or.inl rfl) d_TH_find_2 ha.2.2 (Nat.le_of_ble_eq_true rfl) (fun _ => ⟨rfl, rfl⟩) (ha.2.1 (by decide)) ?_
  obtain ⟨G1, eG1⟩ : ∃ z : ab_G, z = List.set G a (ab_ob 11 [sp0, vR wk, vR nw, vR tn, vR nsp, vR tsp, vz nc, vz tc, vR se, vz sta, vR stk, vz fo0, vR q, s0, vz hw0, vz fy0, vj stp]) := ⟨_, rfl⟩
  have hsp := hsp.keep ha eG1 (by decide)
  have hwk := hwk.keep ha eG1 (by decide)
  have hnw := hnw.keep ha eG1 (by omega)
  have htn := htn.keep ha eG1 (by omega)
  have hnsp := hnsp.keep ha eG1 (by omega)
  have htsp := htsp.keep ha eG1 (by omega)
  have hse := hse.keep ha eG1 (by decide)
  have hstk := hstk.keep ha eG1 (by decide)
  have hq := hq.keep ha eG1 (by omega)
  have hki := hki.keep ha eG1 (by omega)
  have hne := hne.keep ha eG1 (by omega)
  have hot := hot.keep ha eG1 (by omega)
  have hra := hra.keep ha eG1 (by omega)
  have hs := hs.keep ha eG1 (by decide)
  have hco := hco.keep ha eG1 (by decide)
  have hre := hre.keep ha eG1 (by decide)
  have hho := hho.keep ha eG1 (by decide)
  have hlen := (z_len eG1).trans hlen
  have hsl := (z_sl ha eG1 rfl).trans hsl
  have hfr := hfr.wr ha eG1 (by decide)
  have ha := ha.kept eG1
  change ab_W _ _ _ (List.set G a (ab_ob 11 [sp0, vR wk, vR nw, vR tn, vR nsp, vR tsp, vz nc, vz tc, vR se, vz sta, vR stk, vz fo0, vR q, s0, vz hw0, vz fy0, vj stp])) 5 [some (vR a), some (vR q), some (vR s), some (vz hw), some (vz p), some (vR sp), none] [] _
  rw [← eG1]
  refine ab_aload_n d_TH_find_5 rfl ?_
  refine ab_aload_n d_TH_find_6 rfl ?_
  refine ab_putf (fs := [sp0, vR wk, vR nw, vR tn, vR nsp, vR tsp, vz nc, vz tc, vR se, vz sta, vR stk, vz fo0, vR q, s0, vz hw0, vz fy0, vj stp]) f_TH_40 (Or.inl rfl) d_TH_find_7 ha.2.2 (Nat.le_of_ble_eq_true rfl) (fun _ => ⟨rfl, rfl⟩) (ha.2.1 (by decide)) ?_
  obtain ⟨G2, eG2⟩ : ∃ z : ab_G, z = List.set G1 a (ab_ob 11 [sp0, vR wk, vR nw, vR tn, vR nsp, vR tsp, vz nc, vz tc, vR se, vz sta, vR stk, vz fo0, vR q, vR s, vz hw0, vz fy0, vj stp]) := ⟨_, rfl⟩
  have hsp := hsp.keep ha eG2 (by decide)
  have hwk := hwk.keep ha eG2 (by decide)
  have hnw := hnw.keep ha eG2 (by omega)
  have htn := htn.keep ha eG2 (by omega)
  have hnsp := hnsp.keep ha eG2 (by omega)
  have htsp := htsp.keep ha eG2 (by omega)
  have hse := hse.keep ha eG2 (by decide)
  have hstk := hstk.keep ha eG2 (by decide)
  have hq := hq.keep ha eG2 (by omega)
  have hki := hki.keep ha eG2 (by omega)
  have hne := hne.keep ha eG2 (by omega)
  have hot := hot.keep ha eG2 (by omega)
  have hra := hra.keep ha eG2 (by omega)
  have hs := hs.keep ha eG2 (by decide)
  have hco := hco.keep ha eG2 (by decide)
  have hre := hre.keep ha eG2 (by decide)
  have hho := hho.keep ha eG2 (by decide)
  have hlen := (z_len eG2).trans hlen
  have hsl := (z_sl ha eG2 rfl).trans hsl
  have hfr := hfr.wr ha eG2 (by decide)
  have ha := ha.kept eG2
  change ab_W _ _ _ (List.set G1 a (ab_ob 11 [sp0, vR wk, vR nw, vR tn, vR nsp, vR tsp, vz nc, vz tc, vR se, vz sta, vR stk, vz fo0, vR q, vR s, vz hw0, vz fy0, vj stp])) 10 [some (vR a), some (vR q), some (vR s), some (vz hw), some (vz p), some (vR sp), none] [] _
  rw [← eG2]
  refine ab_aload_n d_TH_find_10 rfl ?_
  refine ab_iload_n d_TH_find_11 rfl ?_
  refine ab_putf (fs := [sp0, vR wk, vR nw, vR tn, vR nsp, vR tsp, vz nc, vz tc, vR se, vz sta, vR stk, vz fo0, vR q, vR s, vz hw0, vz fy0, vj stp]) f_TH_44 (Or.inl rfl) d_TH_find_12 ha.2.2 (Nat.le_of_ble_eq_true rfl) (fun _ => ⟨rfl, rfl⟩) (ha.2.1 (by decide)) ?_
  obtain ⟨G3, eG3⟩ : ∃ z : ab_G, z = List.set G2 a (ab_ob 11 [sp0, vR wk, vR nw, vR tn, vR nsp, vR tsp, vz nc, vz tc, vR se, vz sta, vR stk, vz fo0, vR q, vR s, vz hw, vz fy0, vj stp]) := ⟨_, rfl⟩
  have hsp := hsp.keep ha eG3 (by decide)
  have hwk := hwk.keep ha eG3 (by decide)
  have hnw := hnw.keep ha eG3 (by omega)
  have htn := htn.keep ha eG3 (by omega)
  have hnsp := hnsp.keep ha eG3 (by omega)
  have htsp := htsp.keep ha eG3 (by omega)
  have hse := hse.keep ha eG3 (by decide)
  have hstk := hstk.keep ha eG3 (by decide)
  have hq := hq.keep ha eG3 (by omega)
  have hki := hki.keep ha eG3 (by omega)
  have hne := hne.keep ha eG3 (by omega)
  have hot := hot.keep ha eG3 (by omega)
  have hra := hra.keep ha eG3 (by omega)
  have hs := hs.keep ha eG3 (by decide)
  have hco := hco.keep ha eG3 (by decide)
  have hre := hre.keep ha eG3 (by decide)
  have hho := hho.keep ha eG3 (by decide)
  have hlen := (z_len eG3).trans hlen
  have hsl := (z_sl ha eG3 rfl).trans hsl
  have hfr := hfr.wr ha eG3 (by decide)
  have ha := ha.kept eG3
  change ab_W _ _ _ (List.set G2 a (ab_ob 11 [sp0, vR wk, vR nw, vR tn, vR nsp, vR tsp, vz nc, vz tc, vR se, vz sta, vR stk, vz fo0, vR q, vR s, vz hw, vz fy0, vj stp])) 15 [some (vR a), some (vR q), some (vR s), some (vz hw), some (vz p), some (vR sp), none] [] _
  rw [← eG3]
  refine ab_aload_n d_TH_find_15 rfl ?_
  refine ab_aload d_TH_find_16 rfl ?_
  refine ab_putf (fs := [sp0, vR wk, vR nw, vR tn, vR nsp, vR tsp, vz nc, vz tc, vR se, vz sta, vR stk, vz fo0, vR q, vR s, vz hw, vz fy0, vj stp]) f_TH_9 (Or.inl rfl) d_TH_find_18 ha.2.2 (Nat.le_of_ble_eq_true rfl) (fun _ => ⟨rfl, rfl⟩) (ha.2.1 (by decide)) ?_
  obtain ⟨G4, eG4⟩ : ∃ z : ab_G, z = List.set G3 a (ab_ob 11 [vR sp, vR wk, vR nw, vR tn, vR nsp, vR tsp, vz nc, vz tc, vR se, vz sta, vR stk, vz fo0, vR q, vR s, vz hw, vz fy0, vj stp]) := ⟨_, rfl⟩
  have hsp := hsp.keep ha eG4 (by decide)
  have hwk := hwk.keep ha eG4 (by decide)
  have hnw := hnw.keep ha eG4 (by omega)
  have htn := htn.keep ha eG4 (by omega)
  have hnsp := hnsp.keep ha eG4 (by omega)
  have htsp := htsp.keep ha eG4 (by omega)
  have hse := hse.keep ha eG4 (by decide)
  have hstk := hstk.keep ha eG4 (by decide)
  have hq := hq.keep ha eG4 (by omega)
  have hki := hki.keep ha eG4 (by omega)
  have hne := hne.keep ha eG4 (by omega)
  have hot := hot.keep ha eG4 (by omega)
  have hra := hra.keep ha eG4 (by omega)
  have hs := hs.keep ha eG4 (by decide)
  have hco := hco.keep ha eG4 (by decide)
  have hre := hre.keep ha eG4 (by decide)
  have hho := hho.keep ha eG4 (by decide)
  have hlen := (z_len eG4).trans hlen
  have hsl := (z_sl ha eG4 rfl).trans hsl
  have hfr := hfr.wr ha eG4 (by decide)
  have ha := ha.kept eG4
  change ab_W _ _ _ (List.set G3 a (ab_ob 11 [vR sp, vR wk, vR nw, vR tn, vR nsp, vR tsp, vz nc, vz tc, vR se, vz sta, vR stk, vz fo0, vR q, vR s, vz hw, vz fy0, vj stp])) 21 [some (vR a), some (vR q), some (vR s), some (vz hw), some (vz p), some (vR sp), none] [] _
  rw [← eG4]
  refine ab_aload_n d_TH_find_21 rfl ?_
  refine ab_iload_n d_TH_find_22 rfl ?_
  refine zz_iconst d_TH_find_23 ?_
  refine zz_icmp_eq (tgt := 40) d_TH_find_24 (by decide) (by omega) (by decide) (fun c5 => ?_) (fun c5 => ?_)
  · refine zz_iconst d_TH_find_40 ?_
    refine ab_putf (fs := [vR sp, vR wk, vR nw, vR tn, vR nsp, vR tsp, vz nc, vz tc, vR se, vz sta, vR stk, vz fo0, vR q, vR s, vz hw, vz fy0, vj stp]) f_TH_54 (Or.inl rfl) d_TH_find_41 ha.2.2 (Nat.le_of_ble_eq_true rfl) (ab_fbz (by decide)) (ha.2.1 (by decide)) ?_
    obtain ⟨G6, eG6⟩ : ∃ z : ab_G, z = List.set G4 a (ab_ob 11 [vR sp, vR wk, vR nw, vR tn, vR nsp, vR tsp, vz nc, vz tc, vR se, vz sta, vR stk, vz fo0, vR q, vR s, vz hw, vz 0, vj stp]) := ⟨_, rfl⟩
    have hsp := hsp.keep ha eG6 (by decide)
    have hwk := hwk.keep ha eG6 (by decide)
    have hnw := hnw.keep ha eG6 (by omega)
    have htn := htn.keep ha eG6 (by omega)
    have hnsp := hnsp.keep ha eG6 (by omega)
    have htsp := htsp.keep ha eG6 (by omega)
    have hse := hse.keep ha eG6 (by decide)
    have hstk := hstk.keep ha eG6 (by decide)
    have hq := hq.keep ha eG6 (by omega)
    have hki := hki.keep ha eG6 (by omega)
    have hne := hne.keep ha eG6 (by omega)
    have hot := hot.keep ha eG6 (by omega)
    have hra := hra.keep ha eG6 (by omega)
    have hs := hs.keep ha eG6 (by decide)
    have hco := hco.keep ha eG6 (by decide)
    have hre := hre.keep ha eG6 (by decide)
    have hho := hho.keep ha eG6 (by decide)
    have hlen := (z_len eG6).trans hlen
    have hsl := (z_sl ha eG6 rfl).trans hsl
    have hfr := hfr.wr ha eG6 (by decide)
    have ha := ha.kept eG6
    change ab_W _ _ _ (List.set G4 a (ab_ob 11 [vR sp, vR wk, vR nw, vR tn, vR nsp, vR tsp, vz nc, vz tc, vR se, vz sta, vR stk, vz fo0, vR q, vR s, vz hw, vz 0, vj stp])) 44 [some (vR a), some (vR q), some (vR s), some (vz hw), some (vz p), some (vR sp), none] [] _
    rw [← eG6]
    refine ab_aload_n d_TH_find_44 rfl ?_
    refine ab_callV (d' := d - 1) (as := []) (st := []) (r := _) (z_TH_renewStamp (o := o) (a := a) (wk := wk) (nw := nw) (tn := tn) (nsp := nsp) (tsp := tsp) (se := se) (stk := stk) (nc := nc) (tc := tc) (sta := sta) (fo := fo0) (hw := hw) (fy := 0) (stp := stp) (SE := SE) (sp0 := vR sp) (q0 := vR q) (s0 := vR s) ha hse jse (by omega) (by omega)) (fun oc G2 h => by rcases h with ⟨_, _, h, _⟩ <;> exact ⟨_, h⟩) (by omega) m_TH_renewStamp ml_TH_58 im_TH_renewStamp se_TH_renewStamp c_TH ha.2.2 (Nat.le_of_ble_eq_true rfl) d_TH_find_45 rfl ?_
    intro v G7 hq
    rcases hq with ⟨sta28, SE29, hv, hfk, hlk, hsk, hNa, hNse, hq10, hq11⟩
    cases hv
    have hsp := hfk.get hsp (by decide)
    have hwk := hfk.get hwk (by decide)
    have hnw := hfk.get hnw (by simp only [List.mem_cons, List.not_mem_nil, or_false]; omega)
    have htn := hfk.get htn (by simp only [List.mem_cons, List.not_mem_nil, or_false]; omega)
    have hnsp := hfk.get hnsp (by simp only [List.mem_cons, List.not_mem_nil, or_false]; omega)
    have htsp := hfk.get htsp (by simp only [List.mem_cons, List.not_mem_nil, or_false]; omega)
    have hstk := hfk.get hstk (by decide)
    have hq := hfk.get hq (by simp only [List.mem_cons, List.not_mem_nil, or_false]; omega)
    have hki := hfk.get hki (by simp only [List.mem_cons, List.not_mem_nil, or_false]; omega)
    have hne := hfk.get hne (by simp only [List.mem_cons, List.not_mem_nil, or_false]; omega)
    have hot := hfk.get hot (by simp only [List.mem_cons, List.not_mem_nil, or_false]; omega)
    have hra := hfk.get hra (by simp only [List.mem_cons, List.not_mem_nil, or_false]; omega)
    have hs := hfk.get hs (by decide)
    have hco := hfk.get hco (by decide)
    have hre := hfk.get hre (by decide)
    have hho := hfk.get hho (by decide)
    have hfr := hfr.tr hfk (by decide)
    have hlen := hlk.trans hlen
    have hsl := hsk.trans hsl
    have ha := hNa
    have hse := hNse
    change ab_W _ _ _ G7 48 [some (vR a), some (vR q), some (vR s), some (vz hw), some (vz p), some (vR sp), none] [] _
    refine ab_aload_n d_TH_find_48 rfl ?_
    refine zz_iconst d_TH_find_49 ?_
    refine ab_putf (fs := [vR sp, vR wk, vR nw, vR tn, vR nsp, vR tsp, vz nc, vz tc, vR se, vz sta28, vR stk, vz fo0, vR q, vR s, vz hw, vz 0, vj stp]) f_TH_61 (Or.inl rfl) d_TH_find_50 ha.2.2 (Nat.le_of_ble_eq_true rfl) (ab_fbz (by decide)) (ha.2.1 (by decide)) ?_
    obtain ⟨G12, eG12⟩ : ∃ z : ab_G, z = List.set G7 a (ab_ob 11 [vR sp, vR wk, vR nw, vR tn, vR nsp, vR tsp, vz nc, vz tc, vR se, vz sta28, vR stk, vz 0, vR q, vR s, vz hw, vz 0, vj stp]) := ⟨_, rfl⟩
    have hsp := hsp.keep ha eG12 (by decide)
    have hwk := hwk.keep ha eG12 (by decide)
    have hnw := hnw.keep ha eG12 (by omega)
    have htn := htn.keep ha eG12 (by omega)
    have hnsp := hnsp.keep ha eG12 (by omega)
    have htsp := htsp.keep ha eG12 (by omega)
    have hse := hse.keep ha eG12 (by decide)
    have hstk := hstk.keep ha eG12 (by decide)
    have hq := hq.keep ha eG12 (by omega)
    have hki := hki.keep ha eG12 (by omega)
    have hne := hne.keep ha eG12 (by omega)
    have hot := hot.keep ha eG12 (by omega)
    have hra := hra.keep ha eG12 (by omega)
    have hs := hs.keep ha eG12 (by decide)
    have hco := hco.keep ha eG12 (by decide)
    have hre := hre.keep ha eG12 (by decide)
    have hho := hho.keep ha eG12 (by decide)
    have hlen := (z_len eG12).trans hlen
    have hsl := (z_sl ha eG12 rfl).trans hsl
    have hfr := hfr.wr ha eG12 (by decide)
    have ha := ha.kept eG12
    change ab_W _ _ _ (List.set G7 a (ab_ob 11 [vR sp, vR wk, vR nw, vR tn, vR nsp, vR tsp, vz nc, vz tc, vR se, vz sta28, vR stk, vz 0, vR q, vR s, vz hw, vz 0, vj stp])) 53 [some (vR a), some (vR q), some (vR s), some (vz hw), some (vz p), some (vR sp), none] [] _
    rw [← eG12]
    refine ab_aload_n d_TH_find_53 rfl ?_
    refine zz_iconst d_TH_find_54 ?_
    refine ab_putf (fs := [vR sp, vR wk, vR nw, vR tn, vR nsp, vR tsp, vz nc, vz tc, vR se, vz sta28, vR stk, vz 0, vR q, vR s, vz hw, vz 0, vj stp]) f_TH_64 (Or.inl rfl) d_TH_find_55 ha.2.2 (Nat.le_of_ble_eq_true rfl) (fun _ => ⟨rfl, rfl⟩) (ha.2.1 (by decide)) ?_
    obtain ⟨G13, eG13⟩ : ∃ z : ab_G, z = List.set G12 a (ab_ob 11 [vR sp, vR wk, vR nw, vR tn, vR nsp, vR tsp, vz nc, vz 0, vR se, vz sta28, vR stk, vz 0, vR q, vR s, vz hw, vz 0, vj stp]) := ⟨_, rfl⟩
    have hsp := hsp.keep ha eG13 (by decide)
    have hwk := hwk.keep ha eG13 (by decide)
    have hnw := hnw.keep ha eG13 (by omega)
    have htn := htn.keep ha eG13 (by omega)
    have hnsp := hnsp.keep ha eG13 (by omega)
    have htsp := htsp.keep ha eG13 (by omega)
    have hse := hse.keep ha eG13 (by decide)
    have hstk := hstk.keep ha eG13 (by decide)
    have hq := hq.keep ha eG13 (by omega)
    have hki := hki.keep ha eG13 (by omega)
    have hne := hne.keep ha eG13 (by omega)
    have hot := hot.keep ha eG13 (by omega)
    have hra := hra.keep ha eG13 (by omega)
    have hs := hs.keep ha eG13 (by decide)
    have hco := hco.keep ha eG13 (by decide)
    have hre := hre.keep ha eG13 (by decide)
    have hho := hho.keep ha eG13 (by decide)
    have hlen := (z_len eG13).trans hlen
    have hsl := (z_sl ha eG13 rfl).trans hsl
    have hfr := hfr.wr ha eG13 (by decide)
    have ha := ha.kept eG13
    change ab_W _ _ _ (List.set G12 a (ab_ob 11 [vR sp, vR wk, vR nw, vR tn, vR nsp, vR tsp, vz nc, vz 0, vR se, vz sta28, vR stk, vz 0, vR q, vR s, vz hw, vz 0, vj stp])) 58 [some (vR a), some (vR q), some (vR s), some (vz hw), some (vz p), some (vR sp), none] [] _
    rw [← eG13]
    have jno_ : ∀ k : Int, 0 ≤ k → k < 2048 → ¬ SE29 k = sta28 := fun k a b => by have := (hq11 k a b).2; omega
    have jse2_ : rgs SE29 2048 0 sta28 := rgs_wd hq11 (by omega) (by omega)
    refine ab_iload d_TH_find_58 rfl ?_
    refine ab_istore d_TH_find_60 (Nat.le_of_ble_eq_true rfl) (Nat.le_of_ble_eq_true rfl) rfl ?_
    change ab_W _ _ _ G13 62 [some (vR a), some (vR q), some (vR s), some (vz hw), some (vz p), some (vR sp), some (vz p)] [] _
    refine y_TH_find_62 (q := q) (lq := lq) (ki := ki) (ne := ne) (ot := ot) (cnt := cnt) (fi := fi) (la := la) (ra := ra) (ru := ru) (gr := gr) (wi := wi) (sz := sz) (fl := fl) (ve := ve) (mi := mi) (na := na) (nl := nl) (K := K) (N := N) (O := O) (RR := RR) (nr := nr) (s := s) (by_ := by_) (co := co) (re := re) (ho := ho) (n := n) (C := C) (Rs := Rs) (H := H) (mc := mc) (a := a) (sp := sp) (wk := wk) (se := se) (stk := stk) (hw := hw) (fy := 0) (p := p) (u9 := u9) (lz := (laR hw n p)) (S9 := (slT 0 hw n (fuN (wyR u9 f n) p (laR hw n p + 1 - p).toNat))) (st0 := stp) (G0 := G13) (nw := nw) (tn := tn) (nsp := nsp) (tsp := tsp) (nc := nc) (tc := 0) (sta := sta28) (fo := 0) (stp := stp) (SP := SP) (WK := WK) (NW := NW) (TN := TN) (NS := NS) (TS := TS) (SE := SE29) (SK := SK) (l1 := l1) (l2 := l2) (l3 := l3) (l4 := l4) (i := p) (by omega) hp hr (by omega) hsu (by omega) hkk (by omega) (by omega) (by omega) hpm laZ_of (by omega) (Int.toNat (n + 1 - p) + 1) ha hsp hwk hnw htn hnsp htsp hse hstk hq hki hne hot hra hs hco hre hho (by omega) (by omega) (by omega) (by omega) jse2_ thos_0 thr_0 jsp spo_0 (by omega) (stE_0 rfl rfl rfl jno_) (by omega) fx.rf rfl rfl (by omega) (fun G14 nw215 tn216 nsp217 tsp218 m119 m2_20 m321 m422 nc223 tc224 sta225 fo226 st227 NW228 TN229 NS230 TS231 SE232 SK233 WK234 SP235 hNa hNsp hNwk hNnw215 hNtn216 hNnsp217 hNtsp218 hNse hNstk hq36 hq37 hq38 hq39 hq40 hq41 hq42 hq43 hfk hlk hsk => ?_)
    · have hq := hfk.get hq (by simp only [List.mem_cons, List.not_mem_nil, or_false]; omega)
      have hki := hfk.get hki (by simp only [List.mem_cons, List.not_mem_nil, or_false]; omega)
      have hne := hfk.get hne (by simp only [List.mem_cons, List.not_mem_nil, or_false]; omega)
      have hot := hfk.get hot (by simp only [List.mem_cons, List.not_mem_nil, or_false]; omega)
      have hra := hfk.get hra (by simp only [List.mem_cons, List.not_mem_nil, or_false]; omega)
      have hs := hfk.get hs (by decide)
      have hco := hfk.get hco (by decide)
      have hre := hfk.get hre (by decide)
      have hho := hfk.get hho (by decide)
      have hfr := hfr.tr hfk (by decide)
      have hlen := hlk.trans hlen
      have hsl := hsk.trans hsl
      have ha := hNa
      have hsp := hNsp
      have hwk := hNwk
      have hnw215 := hNnw215
      have htn216 := hNtn216
      have hnsp217 := hNnsp217
      have htsp218 := hNtsp218
      have hse := hNse
      have hstk := hNstk
      change ab_W _ _ _ G14 157 [some (vR a), none, none, none, none, some (vR sp), none] [] _
      refine ab_aload_n d_TH_find_157 rfl ?_
      refine ab_getf (fs := [vR sp, vR wk, vR nw215, vR tn216, vR nsp217, vR tsp218, vz nc223, vz tc224, vR se, vz sta225, vR stk, vz fo226, vR q, vR s, vz hw, vz 0, vj st227]) f_TH_61 d_TH_find_158 ha.2.2 rfl ?_
      refine zz_if_eq (tgt := 171) d_TH_find_161 (by decide) (by omega) (fun c44 => ?_) (fun c44 => ?_)
      · refine zz_iconst d_TH_find_171 ?_
        refine zz_iret rfl d_TH_find_172 ?_
        rw [hQ]; exact (Or.inl ⟨_, _, _, _, _, _, _, _, _, _, _, _, _, _, _, _, _, _, _, _, _, _, rfl, hfr, hlen, hsl, ha, hsp, hwk, hnw215, htn216, hnsp217, htsp218, hse, hstk, (by omega), (by omega), (by first | exact hq39 | exact rgs_w hq39 (by omega)), (by first | exact hq40 | exact rgs_w hq40 (by omega)), (by unfold fst1; omega), (by exact th_res rfl hq42 (laR_ge (by omega))), (by omega), (by omega)⟩)
      · have jsq := hq41 (by omega)
        have js1 := jsq.1 1 (by omega) (by omega)
        have js2 := jsq.2.2
        refine ab_aload d_TH_find_164 rfl ?_
        refine zz_iconst d_TH_find_166 ?_
        refine zz_iald d_TH_find_167 hsp (by omega) ?_
        refine ab_goto (tgt := 172) d_TH_find_168 (by decide) ?_
        refine zz_iret rfl d_TH_find_172 ?_
        rw [hQ]; exact (Or.inr ⟨_, _, _, _, _, _, _, _, _, _, _, _, _, _, _, _, _, _, _, _, _, _, _, rfl, hfr, hlen, hsl, ha, hsp, hwk, hnw215, htn216, hnsp217, htsp218, hse, hstk, (by omega), (by omega), (by first | exact hq39 | exact rgs_w hq39 (by omega)), (by first | exact hq40 | exact rgs_w hq40 (by omega)), (by unfold fst1; omega), (by exact th_res rfl hq42 (laR_ge (by omega))), (by omega), (by omega), (by omega), (by rfl), (by exact jsq.1), (by exact jsq.2.1)⟩)
  · refine ab_aload_n d_TH_find_27 rfl ?_
    refine zz_bipush d_TH_find_28 (by decide) ?_
    refine ab_callV (d' := d - 1) (as := [vz 16]) (st := [vR a]) (r := _) (z_PR_isOn (o := o) (q := q) (lq := lq) (ki := ki) (ne := ne) (ot := ot) (cnt := cnt) (fi := fi) (la := la) (ra := ra) (ru := ru) (gr := gr) (wi := wi) (sz := sz) (fl := fl) (ve := ve) (mi := mi) (na := na) (nl := nl) hq (by omega)) (fun oc G2 h => by rcases h with ⟨h, _⟩ | ⟨h, _⟩ <;> exact ⟨_, h⟩) (by omega) m_PR_isOn ml_TH_48 im_PR_isOn se_PR_isOn c_PR hq.2.2 (Nat.le_of_ble_eq_true rfl) d_TH_find_30 rfl ?_
    intro v G45 hq
    rcases hq with ⟨hv, hGe, hq46⟩ | ⟨hv, hGe, hq47⟩
    · cases hv
      rw [hGe]
      change ab_W _ _ _ G4 33 [some (vR a), some (vR q), some (vR s), some (vz hw), some (vz p), some (vR sp), none] [vz 1, vR a] _
      refine zz_if_ne (tgt := 40) d_TH_find_33 (by decide) (by decide) (fun c48 => ?_) (fun c48 => absurd c48 (by decide))
      refine zz_iconst d_TH_find_40 ?_
      refine ab_putf (fs := [vR sp, vR wk, vR nw, vR tn, vR nsp, vR tsp, vz nc, vz tc, vR se, vz sta, vR stk, vz fo0, vR q, vR s, vz hw, vz fy0, vj stp]) f_TH_54 (Or.inl rfl) d_TH_find_41 ha.2.2 (Nat.le_of_ble_eq_true rfl) (ab_fbz (by decide)) (ha.2.1 (by decide)) ?_
      obtain ⟨G49, eG49⟩ : ∃ z : ab_G, z = List.set G4 a (ab_ob 11 [vR sp, vR wk, vR nw, vR tn, vR nsp, vR tsp, vz nc, vz tc, vR se, vz sta, vR stk, vz fo0, vR q, vR s, vz hw, vz 0, vj stp]) := ⟨_, rfl⟩
      have hsp := hsp.keep ha eG49 (by decide)
      have hwk := hwk.keep ha eG49 (by decide)
      have hnw := hnw.keep ha eG49 (by omega)
      have htn := htn.keep ha eG49 (by omega)
      have hnsp := hnsp.keep ha eG49 (by omega)
      have htsp := htsp.keep ha eG49 (by omega)
      have hse := hse.keep ha eG49 (by decide)
      have hstk := hstk.keep ha eG49 (by decide)
      have hq := hq.keep ha eG49 (by omega)
      have hki := hki.keep ha eG49 (by omega)
      have hne := hne.keep ha eG49 (by omega)
      have hot := hot.keep ha eG49 (by omega)
      have hra := hra.keep ha eG49 (by omega)
      have hs := hs.keep ha eG49 (by decide)
      have hco := hco.keep ha eG49 (by decide)
      have hre := hre.keep ha eG49 (by decide)
      have hho := hho.keep ha eG49 (by decide)
      have hlen := (z_len eG49).trans hlen
      have hsl := (z_sl ha eG49 rfl).trans hsl
      have hfr := hfr.wr ha eG49 (by decide)
      have ha := ha.kept eG49
      change ab_W _ _ _ (List.set G4 a (ab_ob 11 [vR sp, vR wk, vR nw, vR tn, vR nsp, vR tsp, vz nc, vz tc, vR se, vz sta, vR stk, vz fo0, vR q, vR s, vz hw, vz 0, vj stp])) 44 [some (vR a), some (vR q), some (vR s), some (vz hw), some (vz p), some (vR sp), none] [] _
      rw [← eG49]
      refine ab_aload_n d_TH_find_44 rfl ?_
      refine ab_callV (d' := d - 1) (as := []) (st := []) (r := _) (z_TH_renewStamp (o := o) (a := a) (wk := wk) (nw := nw) (tn := tn) (nsp := nsp) (tsp := tsp) (se := se) (stk := stk) (nc := nc) (tc := tc) (sta := sta) (fo := fo0) (hw := hw) (fy := 0) (stp := stp) (SE := SE) (sp0 := vR sp) (q0 := vR q) (s0 := vR s) ha hse jse (by omega) (by omega)) (fun oc G2 h => by rcases h with ⟨_, _, h, _⟩ <;> exact ⟨_, h⟩) (by omega) m_TH_renewStamp ml_TH_58 im_TH_renewStamp se_TH_renewStamp c_TH ha.2.2 (Nat.le_of_ble_eq_true rfl) d_TH_find_45 rfl ?_
      intro v G50 hq
      rcases hq with ⟨sta251, SE252, hv, hfk, hlk, hsk, hNa, hNse, hq53, hq54⟩
      cases hv
      have hsp := hfk.get hsp (by decide)
      have hwk := hfk.get hwk (by decide)
      have hnw := hfk.get hnw (by simp only [List.mem_cons, List.not_mem_nil, or_false]; omega)
      have htn := hfk.get htn (by simp only [List.mem_cons, List.not_mem_nil, or_false]; omega)
      have hnsp := hfk.get hnsp (by simp only [List.mem_cons, List.not_mem_nil, or_false]; omega)
      have htsp := hfk.get htsp (by simp only [List.mem_cons, List.not_mem_nil, or_false]; omega)
      have hstk := hfk.get hstk (by decide)
      have hq := hfk.get hq (by simp only [List.mem_cons, List.not_mem_nil, or_false]; omega)
      have hki := hfk.get hki (by simp only [List.mem_cons, List.not_mem_nil, or_false]; omega)
      have hne := hfk.get hne (by simp only [List.mem_cons, List.not_mem_nil, or_false]; omega)
      have hot := hfk.get hot (by simp only [List.mem_cons, List.not_mem_nil, or_false]; omega)
      have hra := hfk.get hra (by simp only [List.mem_cons, List.not_mem_nil, or_false]; omega)
      have hs := hfk.get hs (by decide)
      have hco := hfk.get hco (by decide)
      have hre := hfk.get hre (by decide)
      have hho := hfk.get hho (by decide)
      have hfr := hfr.tr hfk (by decide)
      have hlen := hlk.trans hlen
      have hsl := hsk.trans hsl
      have ha := hNa
      have hse := hNse
      change ab_W _ _ _ G50 48 [some (vR a), some (vR q), some (vR s), some (vz hw), some (vz p), some (vR sp), none] [] _
      refine ab_aload_n d_TH_find_48 rfl ?_
      refine zz_iconst d_TH_find_49 ?_
      refine ab_putf (fs := [vR sp, vR wk, vR nw, vR tn, vR nsp, vR tsp, vz nc, vz tc, vR se, vz sta251, vR stk, vz fo0, vR q, vR s, vz hw, vz 0, vj stp]) f_TH_61 (Or.inl rfl) d_TH_find_50 ha.2.2 (Nat.le_of_ble_eq_true rfl) (ab_fbz (by decide)) (ha.2.1 (by decide)) ?_
      obtain ⟨G55, eG55⟩ : ∃ z : ab_G, z = List.set G50 a (ab_ob 11 [vR sp, vR wk, vR nw, vR tn, vR nsp, vR tsp, vz nc, vz tc, vR se, vz sta251, vR stk, vz 0, vR q, vR s, vz hw, vz 0, vj stp]) := ⟨_, rfl⟩
      have hsp := hsp.keep ha eG55 (by decide)
      have hwk := hwk.keep ha eG55 (by decide)
      have hnw := hnw.keep ha eG55 (by omega)
      have htn := htn.keep ha eG55 (by omega)
      have hnsp := hnsp.keep ha eG55 (by omega)
      have htsp := htsp.keep ha eG55 (by omega)
      have hse := hse.keep ha eG55 (by decide)
      have hstk := hstk.keep ha eG55 (by decide)
      have hq := hq.keep ha eG55 (by omega)
      have hki := hki.keep ha eG55 (by omega)
      have hne := hne.keep ha eG55 (by omega)
      have hot := hot.keep ha eG55 (by omega)
      have hra := hra.keep ha eG55 (by omega)
      have hs := hs.keep ha eG55 (by decide)
      have hco := hco.keep ha eG55 (by decide)
      have hre := hre.keep ha eG55 (by decide)
      have hho := hho.keep ha eG55 (by decide)
      have hlen := (z_len eG55).trans hlen
      have hsl := (z_sl ha eG55 rfl).trans hsl
      have hfr := hfr.wr ha eG55 (by decide)
      have ha := ha.kept eG55
      change ab_W _ _ _ (List.set G50 a (ab_ob 11 [vR sp, vR wk, vR nw, vR tn, vR nsp, vR tsp, vz nc, vz tc, vR se, vz sta251, vR stk, vz 0, vR q, vR s, vz hw, vz 0, vj stp])) 53 [some (vR a), some (vR q), some (vR s), some (vz hw), some (vz p), some (vR sp), none] [] _
      rw [← eG55]
      refine ab_aload_n d_TH_find_53 rfl ?_
      refine zz_iconst d_TH_find_54 ?_
      refine ab_putf (fs := [vR sp, vR wk, vR nw, vR tn, vR nsp, vR tsp, vz nc, vz tc, vR se, vz sta251, vR stk, vz 0, vR q, vR s, vz hw, vz 0, vj stp]) f_TH_64 (Or.inl rfl) d_TH_find_55 ha.2.2 (Nat.le_of_ble_eq_true rfl) (fun _ => ⟨rfl, rfl⟩) (ha.2.1 (by decide)) ?_
      obtain ⟨G56, eG56⟩ : ∃ z : ab_G, z = List.set G55 a (ab_ob 11 [vR sp, vR wk, vR nw, vR tn, vR nsp, vR tsp, vz nc, vz 0, vR se, vz sta251, vR stk, vz 0, vR q, vR s, vz hw, vz 0, vj stp]) := ⟨_, rfl⟩
      have hsp := hsp.keep ha eG56 (by decide)
      have hwk := hwk.keep ha eG56 (by decide)
      have hnw := hnw.keep ha eG56 (by omega)
      have htn := htn.keep ha eG56 (by omega)
      have hnsp := hnsp.keep ha eG56 (by omega)
      have htsp := htsp.keep ha eG56 (by omega)
      have hse := hse.keep ha eG56 (by decide)
      have hstk := hstk.keep ha eG56 (by decide)
      have hq := hq.keep ha eG56 (by omega)
      have hki := hki.keep ha eG56 (by omega)
      have hne := hne.keep ha eG56 (by omega)
      have hot := hot.keep ha eG56 (by omega)
      have hra := hra.keep ha eG56 (by omega)
      have hs := hs.keep ha eG56 (by decide)
      have hco := hco.keep ha eG56 (by decide)
      have hre := hre.keep ha eG56 (by decide)
      have hho := hho.keep ha eG56 (by decide)
      have hlen := (z_len eG56).trans hlen
      have hsl := (z_sl ha eG56 rfl).trans hsl
      have hfr := hfr.wr ha eG56 (by decide)
      have ha := ha.kept eG56
      change ab_W _ _ _ (List.set G55 a (ab_ob 11 [vR sp, vR wk, vR nw, vR tn, vR nsp, vR tsp, vz nc, vz 0, vR se, vz sta251, vR stk, vz 0, vR q, vR s, vz hw, vz 0, vj stp])) 58 [some (vR a), some (vR q), some (vR s), some (vz hw), some (vz p), some (vR sp), none] [] _
      rw [← eG56]
      have jno_ : ∀ k : Int, 0 ≤ k → k < 2048 → ¬ SE252 k = sta251 := fun k a b => by have := (hq54 k a b).2; omega
      have jse2_ : rgs SE252 2048 0 sta251 := rgs_wd hq54 (by omega) (by omega)
      refine ab_iload d_TH_find_58 rfl ?_
      refine ab_istore d_TH_find_60 (Nat.le_of_ble_eq_true rfl) (Nat.le_of_ble_eq_true rfl) rfl ?_
      change ab_W _ _ _ G56 62 [some (vR a), some (vR q), some (vR s), some (vz hw), some (vz p), some (vR sp), some (vz p)] [] _
      refine y_TH_find_62 (q := q) (lq := lq) (ki := ki) (ne := ne) (ot := ot) (cnt := cnt) (fi := fi) (la := la) (ra := ra) (ru := ru) (gr := gr) (wi := wi) (sz := sz) (fl := fl) (ve := ve) (mi := mi) (na := na) (nl := nl) (K := K) (N := N) (O := O) (RR := RR) (nr := nr) (s := s) (by_ := by_) (co := co) (re := re) (ho := ho) (n := n) (C := C) (Rs := Rs) (H := H) (mc := mc) (a := a) (sp := sp) (wk := wk) (se := se) (stk := stk) (hw := hw) (fy := 0) (p := p) (u9 := u9) (lz := (laR hw n p)) (S9 := (slT 0 hw n (fuN (wyR u9 f n) p (laR hw n p + 1 - p).toNat))) (st0 := stp) (G0 := G56) (nw := nw) (tn := tn) (nsp := nsp) (tsp := tsp) (nc := nc) (tc := 0) (sta := sta251) (fo := 0) (stp := stp) (SP := SP) (WK := WK) (NW := NW) (TN := TN) (NS := NS) (TS := TS) (SE := SE252) (SK := SK) (l1 := l1) (l2 := l2) (l3 := l3) (l4 := l4) (i := p) (by omega) hp hr (by omega) hsu (by omega) hkk (by omega) (by omega) (by omega) hpm laZ_of (by omega) (Int.toNat (n + 1 - p) + 1) ha hsp hwk hnw htn hnsp htsp hse hstk hq hki hne hot hra hs hco hre hho (by omega) (by omega) (by omega) (by omega) jse2_ thos_0 thr_0 jsp spo_0 (by omega) (stE_0 rfl rfl rfl jno_) (by omega) fx.rf rfl rfl (by omega) (fun G57 nw258 tn259 nsp260 tsp261 m162 m2_63 m364 m465 nc266 tc267 sta268 fo269 st270 NW271 TN272 NS273 TS274 SE275 SK276 WK277 SP278 hNa hNsp hNwk hNnw258 hNtn259 hNnsp260 hNtsp261 hNse hNstk hq79 hq80 hq81 hq82 hq83 hq84 hq85 hq86 hfk hlk hsk => ?_)
      · have hq := hfk.get hq (by simp only [List.mem_cons, List.not_mem_nil, or_false]; omega)
        have hki := hfk.get hki (by simp only [List.mem_cons, List.not_mem_nil, or_false]; omega)
        have hne := hfk.get hne (by simp only [List.mem_cons, List.not_mem_nil, or_false]; omega)
        have hot := hfk.get hot (by simp only [List.mem_cons, List.not_mem_nil, or_false]; omega)
        have hra := hfk.get hra (by simp only [List.mem_cons, List.not_mem_nil, or_false]; omega)
        have hs := hfk.get hs (by decide)
        have hco := hfk.get hco (by decide)
        have hre := hfk.get hre (by decide)
        have hho := hfk.get hho (by decide)
        have hfr := hfr.tr hfk (by decide)
        have hlen := hlk.trans hlen
        have hsl := hsk.trans hsl
        have ha := hNa
        have hsp := hNsp
        have hwk := hNwk
        have hnw258 := hNnw258
        have htn259 := hNtn259
        have hnsp260 := hNnsp260
        have htsp261 := hNtsp261
        have hse := hNse
        have hstk := hNstk
        change ab_W _ _ _ G57 157 [some (vR a), none, none, none, none, some (vR sp), none] [] _
        refine ab_aload_n d_TH_find_157 rfl ?_
        refine ab_getf (fs := [vR sp, vR wk, vR nw258, vR tn259, vR nsp260, vR tsp261, vz nc266, vz tc267, vR se, vz sta268, vR stk, vz fo269, vR q, vR s, vz hw, vz 0, vj st270]) f_TH_61 d_TH_find_158 ha.2.2 rfl ?_
        refine zz_if_eq (tgt := 171) d_TH_find_161 (by decide) (by omega) (fun c87 => ?_) (fun c87 => ?_)
        · refine zz_iconst d_TH_find_171 ?_
          refine zz_iret rfl d_TH_find_172 ?_
          rw [hQ]; exact (Or.inl ⟨_, _, _, _, _, _, _, _, _, _, _, _, _, _, _, _, _, _, _, _, _, _, rfl, hfr, hlen, hsl, ha, hsp, hwk, hnw258, htn259, hnsp260, htsp261, hse, hstk, (by omega), (by omega), (by first | exact hq82 | exact rgs_w hq82 (by omega)), (by first | exact hq83 | exact rgs_w hq83 (by omega)), (by unfold fst1; omega), (by exact th_res rfl hq85 (laR_ge (by omega))), (by omega), (by omega)⟩)
        · have jsq := hq84 (by omega)
          have js1 := jsq.1 1 (by omega) (by omega)
          have js2 := jsq.2.2
          refine ab_aload d_TH_find_164 rfl ?_
          refine zz_iconst d_TH_find_166 ?_
          refine zz_iald d_TH_find_167 hsp (by omega) ?_
          refine ab_goto (tgt := 172) d_TH_find_168 (by decide) ?_
          refine zz_iret rfl d_TH_find_172 ?_
          rw [hQ]; exact (Or.inr ⟨_, _, _, _, _, _, _, _, _, _, _, _, _, _, _, _, _, _, _, _, _, _, _, rfl, hfr, hlen, hsl, ha, hsp, hwk, hnw258, htn259, hnsp260, htsp261, hse, hstk, (by omega), (by omega), (by first | exact hq82 | exact rgs_w hq82 (by omega)), (by first | exact hq83 | exact rgs_w hq83 (by omega)), (by unfold fst1; omega), (by exact th_res rfl hq85 (laR_ge (by omega))), (by omega), (by omega), (by omega), (by rfl), (by exact jsq.1), (by exact jsq.2.1)⟩)
    · cases hv
      rw [hGe]
      change ab_W _ _ _ G4 33 [some (vR a), some (vR q), some (vR s), some (vz hw), some (vz p), some (vR sp), none] [vz 0, vR a] _
      refine zz_if_ne (tgt := 40) d_TH_find_33 (by decide) (by decide) (fun c88 => absurd c88 (by decide)) (fun c88 => ?_)
      refine zz_iconst d_TH_find_36 ?_
      refine ab_goto (tgt := 41) d_TH_find_37 (by decide) ?_
      refine ab_putf (fs := [vR sp, vR wk, vR nw, vR tn, vR nsp, vR tsp, vz nc, vz tc, vR se, vz sta, vR stk, vz fo0, vR q, vR s, vz hw, vz fy0, vj stp]) f_TH_54 (Or.inl rfl) d_TH_find_41 ha.2.2 (Nat.le_of_ble_eq_true rfl) (ab_fbz (by decide)) (ha.2.1 (by decide)) ?_
      obtain ⟨G89, eG89⟩ : ∃ z : ab_G, z = List.set G4 a (ab_ob 11 [vR sp, vR wk, vR nw, vR tn, vR nsp, vR tsp, vz nc, vz tc, vR se, vz sta, vR stk, vz fo0, vR q, vR s, vz hw, vz 1, vj stp]) := ⟨_, rfl⟩
      have hsp := hsp.keep ha eG89 (by decide)
      have hwk := hwk.keep ha eG89 (by decide)
      have hnw := hnw.keep ha eG89 (by omega)
      have htn := htn.keep ha eG89 (by omega)
      have hnsp := hnsp.keep ha eG89 (by omega)
      have htsp := htsp.keep ha eG89 (by omega)
      have hse := hse.keep ha eG89 (by decide)
      have hstk := hstk.keep ha eG89 (by decide)
      have hq := hq.keep ha eG89 (by omega)
      have hki := hki.keep ha eG89 (by omega)
      have hne := hne.keep ha eG89 (by omega)
      have hot := hot.keep ha eG89 (by omega)
      have hra := hra.keep ha eG89 (by omega)
      have hs := hs.keep ha eG89 (by decide)
      have hco := hco.keep ha eG89 (by decide)
      have hre := hre.keep ha eG89 (by decide)
      have hho := hho.keep ha eG89 (by decide)
      have hlen := (z_len eG89).trans hlen
      have hsl := (z_sl ha eG89 rfl).trans hsl
      have hfr := hfr.wr ha eG89 (by decide)
      have ha := ha.kept eG89
      change ab_W _ _ _ (List.set G4 a (ab_ob 11 [vR sp, vR wk, vR nw, vR tn, vR nsp, vR tsp, vz nc, vz tc, vR se, vz sta, vR stk, vz fo0, vR q, vR s, vz hw, vz 1, vj stp])) 44 [some (vR a), some (vR q), some (vR s), some (vz hw), some (vz p), some (vR sp), none] [] _
      rw [← eG89]
      refine ab_aload_n d_TH_find_44 rfl ?_
      refine ab_callV (d' := d - 1) (as := []) (st := []) (r := _) (z_TH_renewStamp (o := o) (a := a) (wk := wk) (nw := nw) (tn := tn) (nsp := nsp) (tsp := tsp) (se := se) (stk := stk) (nc := nc) (tc := tc) (sta := sta) (fo := fo0) (hw := hw) (fy := 1) (stp := stp) (SE := SE) (sp0 := vR sp) (q0 := vR q) (s0 := vR s) ha hse jse (by omega) (by omega)) (fun oc G2 h => by rcases h with ⟨_, _, h, _⟩ <;> exact ⟨_, h⟩) (by omega) m_TH_renewStamp ml_TH_58 im_TH_renewStamp se_TH_renewStamp c_TH ha.2.2 (Nat.le_of_ble_eq_true rfl) d_TH_find_45 rfl ?_
      intro v G90 hq
      rcases hq with ⟨sta291, SE292, hv, hfk, hlk, hsk, hNa, hNse, hq93, hq94⟩
      cases hv
      have hsp := hfk.get hsp (by decide)
      have hwk := hfk.get hwk (by decide)
      have hnw := hfk.get hnw (by simp only [List.mem_cons, List.not_mem_nil, or_false]; omega)
      have htn := hfk.get htn (by simp only [List.mem_cons, List.not_mem_nil, or_false]; omega)
      have hnsp := hfk.get hnsp (by simp only [List.mem_cons, List.not_mem_nil, or_false]; omega)
      have htsp := hfk.get htsp (by simp only [List.mem_cons, List.not_mem_nil, or_false]; omega)
      have hstk := hfk.get hstk (by decide)
      have hq := hfk.get hq (by simp only [List.mem_cons, List.not_mem_nil, or_false]; omega)
      have hki := hfk.get hki (by simp only [List.mem_cons, List.not_mem_nil, or_false]; omega)
      have hne := hfk.get hne (by simp only [List.mem_cons, List.not_mem_nil, or_false]; omega)
      have hot := hfk.get hot (by simp only [List.mem_cons, List.not_mem_nil, or_false]; omega)
      have hra := hfk.get hra (by simp only [List.mem_cons, List.not_mem_nil, or_false]; omega)
      have hs := hfk.get hs (by decide)
      have hco := hfk.get hco (by decide)
      have hre := hfk.get hre (by decide)
      have hho := hfk.get hho (by decide)
      have hfr := hfr.tr hfk (by decide)
      have hlen := hlk.trans hlen
      have hsl := hsk.trans hsl
      have ha := hNa
      have hse := hNse
      change ab_W _ _ _ G90 48 [some (vR a), some (vR q), some (vR s), some (vz hw), some (vz p), some (vR sp), none] [] _
      refine ab_aload_n d_TH_find_48 rfl ?_
      refine zz_iconst d_TH_find_49 ?_
      refine ab_putf (fs := [vR sp, vR wk, vR nw, vR tn, vR nsp, vR tsp, vz nc, vz tc, vR se, vz sta291, vR stk, vz fo0, vR q, vR s, vz hw, vz 1, vj stp]) f_TH_61 (Or.inl rfl) d_TH_find_50 ha.2.2 (Nat.le_of_ble_eq_true rfl) (ab_fbz (by decide)) (ha.2.1 (by decide)) ?_
      obtain ⟨G95, eG95⟩ : ∃ z : ab_G, z = List.set G90 a (ab_ob 11 [vR sp, vR wk, vR nw, vR tn, vR nsp, vR tsp, vz nc, vz tc, vR se, vz sta291, vR stk, vz 0, vR q, vR s, vz hw, vz 1, vj stp]) := ⟨_, rfl⟩
      have hsp := hsp.keep ha eG95 (by decide)
      have hwk := hwk.keep ha eG95 (by decide)
      have hnw := hnw.keep ha eG95 (by omega)
      have htn := htn.keep ha eG95 (by omega)
      have hnsp := hnsp.keep ha eG95 (by omega)
      have htsp := htsp.keep ha eG95 (by omega)
      have hse := hse.keep ha eG95 (by decide)
      have hstk := hstk.keep ha eG95 (by decide)
      have hq := hq.keep ha eG95 (by omega)
      have hki := hki.keep ha eG95 (by omega)
      have hne := hne.keep ha eG95 (by omega)
      have hot := hot.keep ha eG95 (by omega)
      have hra := hra.keep ha eG95 (by omega)
      have hs := hs.keep ha eG95 (by decide)
      have hco := hco.keep ha eG95 (by decide)
      have hre := hre.keep ha eG95 (by decide)
      have hho := hho.keep ha eG95 (by decide)
      have hlen := (z_len eG95).trans hlen
      have hsl := (z_sl ha eG95 rfl).trans hsl
      have hfr := hfr.wr ha eG95 (by decide)
      have ha := ha.kept eG95
      change ab_W _ _ _ (List.set G90 a (ab_ob 11 [vR sp, vR wk, vR nw, vR tn, vR nsp, vR tsp, vz nc, vz tc, vR se, vz sta291, vR stk, vz 0, vR q, vR s, vz hw, vz 1, vj stp])) 53 [some (vR a), some (vR q), some (vR s), some (vz hw), some (vz p), some (vR sp), none] [] _
      rw [← eG95]
      refine ab_aload_n d_TH_find_53 rfl ?_
      refine zz_iconst d_TH_find_54 ?_
      refine ab_putf (fs := [vR sp, vR wk, vR nw, vR tn, vR nsp, vR tsp, vz nc, vz tc, vR se, vz sta291, vR stk, vz 0, vR q, vR s, vz hw, vz 1, vj stp]) f_TH_64 (Or.inl rfl) d_TH_find_55 ha.2.2 (Nat.le_of_ble_eq_true rfl) (fun _ => ⟨rfl, rfl⟩) (ha.2.1 (by decide)) ?_
      obtain ⟨G96, eG96⟩ : ∃ z : ab_G, z = List.set G95 a (ab_ob 11 [vR sp, vR wk, vR nw, vR tn, vR nsp, vR tsp, vz nc, vz 0, vR se, vz sta291, vR stk, vz 0, vR q, vR s, vz hw, vz 1, vj stp]) := ⟨_, rfl⟩
      have hsp := hsp.keep ha eG96 (by decide)
      have hwk := hwk.keep ha eG96 (by decide)
      have hnw := hnw.keep ha eG96 (by omega)
      have htn := htn.keep ha eG96 (by omega)
      have hnsp := hnsp.keep ha eG96 (by omega)
      have htsp := htsp.keep ha eG96 (by omega)
      have hse := hse.keep ha eG96 (by decide)
      have hstk := hstk.keep ha eG96 (by decide)
      have hq := hq.keep ha eG96 (by omega)
      have hki := hki.keep ha eG96 (by omega)
      have hne := hne.keep ha eG96 (by omega)
      have hot := hot.keep ha eG96 (by omega)
      have hra := hra.keep ha eG96 (by omega)
      have hs := hs.keep ha eG96 (by decide)
      have hco := hco.keep ha eG96 (by decide)
      have hre := hre.keep ha eG96 (by decide)
      have hho := hho.keep ha eG96 (by decide)
      have hlen := (z_len eG96).trans hlen
      have hsl := (z_sl ha eG96 rfl).trans hsl
      have hfr := hfr.wr ha eG96 (by decide)
      have ha := ha.kept eG96
      change ab_W _ _ _ (List.set G95 a (ab_ob 11 [vR sp, vR wk, vR nw, vR tn, vR nsp, vR tsp, vz nc, vz 0, vR se, vz sta291, vR stk, vz 0, vR q, vR s, vz hw, vz 1, vj stp])) 58 [some (vR a), some (vR q), some (vR s), some (vz hw), some (vz p), some (vR sp), none] [] _
      rw [← eG96]
      have jno_ : ∀ k : Int, 0 ≤ k → k < 2048 → ¬ SE292 k = sta291 := fun k a b => by have := (hq94 k a b).2; omega
      have jse2_ : rgs SE292 2048 0 sta291 := rgs_wd hq94 (by omega) (by omega)
      refine ab_iload d_TH_find_58 rfl ?_
      refine ab_istore d_TH_find_60 (Nat.le_of_ble_eq_true rfl) (Nat.le_of_ble_eq_true rfl) rfl ?_
      change ab_W _ _ _ G96 62 [some (vR a), some (vR q), some (vR s), some (vz hw), some (vz p), some (vR sp), some (vz p)] [] _
      refine y_TH_find_62 (q := q) (lq := lq) (ki := ki) (ne := ne) (ot := ot) (cnt := cnt) (fi := fi) (la := la) (ra := ra) (ru := ru) (gr := gr) (wi := wi) (sz := sz) (fl := fl) (ve := ve) (mi := mi) (na := na) (nl := nl) (K := K) (N := N) (O := O) (RR := RR) (nr := nr) (s := s) (by_ := by_) (co := co) (re := re) (ho := ho) (n := n) (C := C) (Rs := Rs) (H := H) (mc := mc) (a := a) (sp := sp) (wk := wk) (se := se) (stk := stk) (hw := hw) (fy := 1) (p := p) (u9 := u9) (lz := (laR hw n p)) (S9 := (slT 1 hw n (fuN (wyR u9 f n) p (laR hw n p + 1 - p).toNat))) (st0 := stp) (G0 := G96) (nw := nw) (tn := tn) (nsp := nsp) (tsp := tsp) (nc := nc) (tc := 0) (sta := sta291) (fo := 0) (stp := stp) (SP := SP) (WK := WK) (NW := NW) (TN := TN) (NS := NS) (TS := TS) (SE := SE292) (SK := SK) (l1 := l1) (l2 := l2) (l3 := l3) (l4 := l4) (i := p) (by omega) hp hr (by omega) hsu (by omega) hkk (by omega) (by omega) (by omega) hpm laZ_of (by omega) (Int.toNat (n + 1 - p) + 1) ha hsp hwk hnw htn hnsp htsp hse hstk hq hki hne hot hra hs hco hre hho (by omega) (by omega) (by omega) (by omega) jse2_ thos_0 thr_0 jsp spo_0 (by omega) (stE_0 rfl rfl rfl jno_) (by omega) fx.rf rfl rfl (by omega) (fun G97 nw298 tn299 nsp2100 tsp2101 m1102 m2_103 m3104 m4105 nc2106 tc2107 sta2108 fo2109 st2110 NW2111 TN2112 NS2113 TS2114 SE2115 SK2116 WK2117 SP2118 hNa hNsp hNwk hNnw298 hNtn299 hNnsp2100 hNtsp2101 hNse hNstk hq119 hq120 hq121 hq122 hq123 hq124 hq125 hq126 hfk hlk hsk => ?_)
      · have hq := hfk.get hq (by simp only [List.mem_cons, List.not_mem_nil, or_false]; omega)
        have hki := hfk.get hki (by simp only [List.mem_cons, List.not_mem_nil, or_false]; omega)
        have hne := hfk.get hne (by simp only [List.mem_cons, List.not_mem_nil, or_false]; omega)
        have hot := hfk.get hot (by simp only [List.mem_cons, List.not_mem_nil, or_false]; omega)
        have hra := hfk.get hra (by simp only [List.mem_cons, List.not_mem_nil, or_false]; omega)
        have hs := hfk.get hs (by decide)
        have hco := hfk.get hco (by decide)
        have hre := hfk.get hre (by decide)
        have hho := hfk.get hho (by decide)
        have hfr := hfr.tr hfk (by decide)
        have hlen := hlk.trans hlen
        have hsl := hsk.trans hsl
        have ha := hNa
        have hsp := hNsp
        have hwk := hNwk
        have hnw298 := hNnw298
        have htn299 := hNtn299
        have hnsp2100 := hNnsp2100
        have htsp2101 := hNtsp2101
        have hse := hNse
        have hstk := hNstk
        change ab_W _ _ _ G97 157 [some (vR a), none, none, none, none, some (vR sp), none] [] _
        refine ab_aload_n d_TH_find_157 rfl ?_
        refine ab_getf (fs := [vR sp, vR wk, vR nw298, vR tn299, vR nsp2100, vR tsp2101, vz nc2106, vz tc2107, vR se, vz sta2108, vR stk, vz fo2109, vR q, vR s, vz hw, vz 1, vj st2110]) f_TH_61 d_TH_find_158 ha.2.2 rfl ?_
        refine zz_if_eq (tgt := 171) d_TH_find_161 (by decide) (by omega) (fun c127 => ?_) (fun c127 => ?_)
        · refine zz_iconst d_TH_find_171 ?_
          refine zz_iret rfl d_TH_find_172 ?_
          rw [hQ]; exact (Or.inl ⟨_, _, _, _, _, _, _, _, _, _, _, _, _, _, _, _, _, _, _, _, _, _, rfl, hfr, hlen, hsl, ha, hsp, hwk, hnw298, htn299, hnsp2100, htsp2101, hse, hstk, (by omega), (by omega), (by first | exact hq122 | exact rgs_w hq122 (by omega)), (by first | exact hq123 | exact rgs_w hq123 (by omega)), (by unfold fst1; omega), (by exact th_res rfl hq125 (laR_ge (by omega))), (by omega), (by omega)⟩)
        · have jsq := hq124 (by omega)
          have js1 := jsq.1 1 (by omega) (by omega)
          have js2 := jsq.2.2
          refine ab_aload d_TH_find_164 rfl ?_
          refine zz_iconst d_TH_find_166 ?_
          refine zz_iald d_TH_find_167 hsp (by omega) ?_
          refine ab_goto (tgt := 172) d_TH_find_168 (by decide) ?_
          refine zz_iret rfl d_TH_find_172 ?_
          rw [hQ]; exact (Or.inr ⟨_, _, _, _, _, _, _, _, _, _, _, _, _, _, _, _, _, _, _, _, _, _, _, rfl, hfr, hlen, hsl, ha, hsp, hwk, hnw298, htn299, hnsp2100, htsp2101, hse, hstk, (by omega), (by omega), (by first | exact hq122 | exact rgs_w hq122 (by omega)), (by first | exact hq123 | exact rgs_w hq123 (by omega)), (by unfold fst1; omega), (by exact th_res rfl hq125 (laR_ge (by omega))), (by omega), (by omega), (by omega), (by rfl), (by exact jsq.1), (by exact jsq.2.1)⟩)
