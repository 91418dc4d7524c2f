set_option maxRecDepth 100000 in
set_option maxHeartbeats 4000000 in
theorem z_TH_find {X : ab_X} {d : Nat} {o : Nat → Nat} {G : ab_G} {q : Nat} {lq : Nat} {ki : Nat} {ne : Nat} {ot : Nat} {cnt : Int} {fi : Int} {la : Int} {ra : Nat} {ru : Int} {gr : Int} {wi : Int} {sz : Int} {fl : Int} {ve : Int} {mi : Int} {na : Nat} {nl : Nat} {K : Int → Int} {N : Int → Int} {O : Int → Int} {RR : Int → Int} {nr : Nat} {s : Nat} {by_ : Nat} {co : Nat} {re : Nat} {ho : Nat} {n : Int} {f : Int → Int} {C : Int → Int} {Rs : Int → Int} {H : Int → Int} {m : Nat} {mc : Nat} {a : Nat} {sp : Nat} {wk : Nat} {nw : Nat} {tn : Nat} {nsp : Nat} {tsp : Nat} {se : Nat} {stk : Nat} {nc : Int} {tc : Int} {sta : Int} {hw : Int} {stp : Int} {SP : Int → Int} {WK : Int → Int} {NW : Int → Int} {TN : Int → Int} {NS : Int → Int} {TS : Int → Int} {SE : Int → Int} {SK : Int → Int} {l1 : Nat} {l2 : Nat} {l3 : Nat} {l4 : Nat} {n1 : Nat} {n2 : Nat} {n3 : Nat} {n4 : Nat} {n5 : Nat} {n6 : Nat} {sp0 : Value} {q0 : Value} {s0 : Value} {hw0 : Int} {fy0 : Int} {fo0 : Int} {p : Int} (ha : cc o G a 32 (ab_ob 11 [sp0, vR wk, vR nw, vR tn, vR nsp, vR tsp, vz nc, vz tc, vR se, vz sta, vR stk, vz fo0, q0, s0, vz hw0, vz fy0, vj stp])) (hsp : cc o G sp 31 (za 20 SP)) (hwk : cc o G wk 33 (za 20 WK)) (hnw : cc o G nw l1 (za n1 NW)) (htn : cc o G tn l2 (za n2 TN)) (hnsp : cc o G nsp l3 (za n3 NS)) (htsp : cc o G tsp l4 (za n4 TS)) (hse : cc o G se 39 (za n5 SE)) (hstk : cc o G stk 40 (za n6 SK)) (hq : cc o G q lq (ab_ob 5 [vR ki, vR ne, vR ot, vz cnt, vz fi, vz la, vR ra, vz ru, vz gr, vz wi, vz sz, vz fl, vz ve, vz mi, vR na, vR nl])) (hki : cc o G ki (lq + 1) (za 808 K)) (hne : cc o G ne (lq + 2) (za 808 N)) (hot : cc o G ot (lq + 3) (za 808 O)) (hra : cc o G ra (lq + 4) (za nr RR)) (hs : cc o G s 26 (ab_ob 9 [vR by_, vR co, vR re, vR ho, vz n])) (hco : cc o G co 28 (za mc C)) (hre : cc o G re 29 (za mc Rs)) (hho : cc o G ho 30 (za mc H)) (cq : 100 ≤ lq ∧ 0 ≤ cnt ∧ cnt ≤ 808 ∧ ↑nr ≤ (100000 : Int)) (hp : prok K N O RR cnt ↑nr wi) (hr : ∀ k : Int, 0 ≤ k → k < ↑nr → 0 ≤ RR k ∧ RR k ≤ 1114111) (csu : 0 ≤ n ∧ n ≤ ↑m ∧ 32 ≤ m ∧ m ≤ 2000 ∧ mc = m + 1) (hsu : suok f C Rs H n) (cwi : 2 ≤ wi ∧ wi ≤ 20) (cfi : 0 ≤ fi ∧ fi < cnt) (cp : 0 ≤ p ∧ p ≤ n) (chw : 0 ≤ hw ∧ hw ≤ 2 ∧ 0 ≤ fl ∧ fl ≤ 31) (cl : l1 + l2 = 71 ∧ 35 ≤ l1 ∧ l1 ≤ 36 ∧ l3 + l4 = 75 ∧ 37 ≤ l3 ∧ l3 ≤ 38) (jl : thl n1 n2 n3 n4 n5 n6) (jse : rgs SE ↑n5 0 2100000000) (cn5 : n5 ≤ 2048) (cst : 0 ≤ sta ∧ sta ≤ 2100000000) (jsp : rgs SP 20 (-1) 2000) (rc : G.length + 6 ≤ ab_n0 + room_1.cells) (rs : ab_slots G + 36499 ≤ room_1.slots) (hd : 9 ≤ d) : ab_F X d y_TH_find (.code y_TH_find b_TH_find 7 (some (.int))) [vR a, vR q, vR s, vz hw, vz p, vR sp] G (fun oc G2 => (∃ o2 : Nat → Nat, ∃ nw2 : Nat, ∃ tn2 : Nat, ∃ nsp2 : Nat, ∃ tsp2 : Nat, ∃ se2 : Nat, ∃ stk2 : Nat, ∃ m1 : Nat, ∃ m2_ : Nat, ∃ m3 : Nat, ∃ m4 : Nat, ∃ nc2 : Int, ∃ tc2 : Int, ∃ sta2 : Int, ∃ fo2 : Int, ∃ fy2 : Int, ∃ st2 : Int, ∃ NW2 : Int → Int, ∃ TN2 : Int → Int, ∃ NS2 : Int → Int, ∃ TS2 : Int → Int, ∃ SE2 : Int → Int, ∃ SK2 : Int → Int, ∃ WK2 : Int → Int, ∃ SP2 : Int → Int, oc = .returned (some (vz (-1))) ∧ fx o o2 [31, 32, 33, 35, 36, 37, 38, 39, 40] G G2 ∧ cc o2 G2 a 32 (ab_ob 11 [vR sp, vR wk, vR nw2, vR tn2, vR nsp2, vR tsp2, vz nc2, vz tc2, vR se2, vz sta2, vR stk2, vz fo2, vR q, vR s, vz hw, vz fy2, vj st2]) ∧ cc o2 G2 sp 31 (za 20 SP2) ∧ cc o2 G2 wk 33 (za 20 WK2) ∧ cc o2 G2 nw2 m1 (za 801 NW2) ∧ cc o2 G2 tn2 m2_ (za 801 TN2) ∧ cc o2 G2 nsp2 m3 (za 16020 NS2) ∧ cc o2 G2 tsp2 m4 (za 16020 TS2) ∧ cc o2 G2 se2 39 (za 2048 SE2) ∧ cc o2 G2 stk2 40 (za 809 SK2) ∧ (m1 + m2_ = 71 ∧ 35 ≤ m1 ∧ m1 ≤ 36 ∧ m3 + m4 = 75 ∧ 37 ≤ m3 ∧ m3 ≤ 38) ∧ (0 ≤ sta2 ∧ sta2 ≤ 2100000000) ∧ (rgs SP2 20 (-1) 2000) ∧ (rgs SE2 2048 0 2100000000) ∧ (G2.length + n5 ≤ G.length + 2048) ∧ (ab_slots G2 + 18 * n5 ≤ ab_slots G + 36864) ∧ (fo2 = 0)) ∨ (∃ o2 : Nat → Nat, ∃ nw2 : Nat, ∃ tn2 : Nat, ∃ nsp2 : Nat, ∃ tsp2 : Nat, ∃ se2 : Nat, ∃ stk2 : Nat, ∃ m1 : Nat, ∃ m2_ : Nat, ∃ m3 : Nat, ∃ m4 : Nat, ∃ nc2 : Int, ∃ tc2 : Int, ∃ sta2 : Int, ∃ fo2 : Int, ∃ fy2 : Int, ∃ st2 : Int, ∃ NW2 : Int → Int, ∃ TN2 : Int → Int, ∃ NS2 : Int → Int, ∃ TS2 : Int → Int, ∃ SE2 : Int → Int, ∃ SK2 : Int → Int, ∃ WK2 : Int → Int, ∃ SP2 : Int → Int, ∃ r : Int, oc = .returned (some (vz r)) ∧ fx o o2 [31, 32, 33, 35, 36, 37, 38, 39, 40] G G2 ∧ cc o2 G2 a 32 (ab_ob 11 [vR sp, vR wk, vR nw2, vR tn2, vR nsp2, vR tsp2, vz nc2, vz tc2, vR se2, vz sta2, vR stk2, vz fo2, vR q, vR s, vz hw, vz fy2, vj st2]) ∧ cc o2 G2 sp 31 (za 20 SP2) ∧ cc o2 G2 wk 33 (za 20 WK2) ∧ cc o2 G2 nw2 m1 (za 801 NW2) ∧ cc o2 G2 tn2 m2_ (za 801 TN2) ∧ cc o2 G2 nsp2 m3 (za 16020 NS2) ∧ cc o2 G2 tsp2 m4 (za 16020 TS2) ∧ cc o2 G2 se2 39 (za 2048 SE2) ∧ cc o2 G2 stk2 40 (za 809 SK2) ∧ (m1 + m2_ = 71 ∧ 35 ≤ m1 ∧ m1 ≤ 36 ∧ m3 + m4 = 75 ∧ 37 ≤ m3 ∧ m3 ≤ 38) ∧ (0 ≤ sta2 ∧ sta2 ≤ 2100000000) ∧ (rgs SP2 20 (-1) 2000) ∧ (rgs SE2 2048 0 2100000000) ∧ (G2.length + n5 ≤ G.length + 2048) ∧ (ab_slots G2 + 18 * n5 ≤ ab_slots G + 36864) ∧ (fo2 = 1) ∧ (0 ≤ r ∧ r ≤ n) ∧ (r = SP2 1) ∧ (rgs SP2 wi (-1) n) ∧ (0 ≤ SP2 0))) := by
  refine ab_F_of (by decide +kernel) (Nat.le_of_ble_eq_true rfl) ?_
  obtain ⟨Q, hQ⟩ : ∃ z : Outcome → ab_G → Prop, z = (fun oc G2 => (∃ o2 : Nat → Nat, ∃ nw2 : Nat, ∃ tn2 : Nat, ∃ nsp2 : Nat, ∃ tsp2 : Nat, ∃ se2 : Nat, ∃ stk2 : Nat, ∃ m1 : Nat, ∃ m2_ : Nat, ∃ m3 : Nat, ∃ m4 : Nat, ∃ nc2 : Int, ∃ tc2 : Int, ∃ sta2 : Int, ∃ fo2 : Int, ∃ fy2 : Int, ∃ st2 : Int, ∃ NW2 : Int → Int, ∃ TN2 : Int → Int, ∃ NS2 : Int → Int, ∃ TS2 : Int → Int, ∃ SE2 : Int → Int, ∃ SK2 : Int → Int, ∃ WK2 : Int → Int, ∃ SP2 : Int → Int, oc = .returned (some (vz (-1))) ∧ fx o o2 [31, 32, 33, 35, 36, 37, 38, 39, 40] G G2 ∧ cc o2 G2 a 32 (ab_ob 11 [vR sp, vR wk, vR nw2, vR tn2, vR nsp2, vR tsp2, vz nc2, vz tc2, vR se2, vz sta2, vR stk2, vz fo2, vR q, vR s, vz hw, vz fy2, vj st2]) ∧ cc o2 G2 sp 31 (za 20 SP2) ∧ cc o2 G2 wk 33 (za 20 WK2) ∧ cc o2 G2 nw2 m1 (za 801 NW2) ∧ cc o2 G2 tn2 m2_ (za 801 TN2) ∧ cc o2 G2 nsp2 m3 (za 16020 NS2) ∧ cc o2 G2 tsp2 m4 (za 16020 TS2) ∧ cc o2 G2 se2 39 (za 2048 SE2) ∧ cc o2 G2 stk2 40 (za 809 SK2) ∧ (m1 + m2_ = 71 ∧ 35 ≤ m1 ∧ m1 ≤ 36 ∧ m3 + m4 = 75 ∧ 37 ≤ m3 ∧ m3 ≤ 38) ∧ (0 ≤ sta2 ∧ sta2 ≤ 2100000000) ∧ (rgs SP2 20 (-1) 2000) ∧ (rgs SE2 2048 0 2100000000) ∧ (G2.length + n5 ≤ G.length + 2048) ∧ (ab_slots G2 + 18 * n5 ≤ ab_slots G + 36864) ∧ (fo2 = 0)) ∨ (∃ o2 : Nat → Nat, ∃ nw2 : Nat, ∃ tn2 : Nat, ∃ nsp2 : Nat, ∃ tsp2 : Nat, ∃ se2 : Nat, ∃ stk2 : Nat, ∃ m1 : Nat, ∃ m2_ : Nat, ∃ m3 : Nat, ∃ m4 : Nat, ∃ nc2 : Int, ∃ tc2 : Int, ∃ sta2 : Int, ∃ fo2 : Int, ∃ fy2 : Int, ∃ st2 : Int, ∃ NW2 : Int → Int, ∃ TN2 : Int → Int, ∃ NS2 : Int → Int, ∃ TS2 : Int → Int, ∃ SE2 : Int → Int, ∃ SK2 : Int → Int, ∃ WK2 : Int → Int, ∃ SP2 : Int → Int, ∃ r : Int, oc = .returned (some (vz r)) ∧ fx o o2 [31, 32, 33, 35, 36, 37, 38, 39, 40] G G2 ∧ cc o2 G2 a 32 (ab_ob 11 [vR sp, vR wk, vR nw2, vR tn2, vR nsp2, vR tsp2, vz nc2, vz tc2, vR se2, vz sta2, vR stk2, vz fo2, vR q, vR s, vz hw, vz fy2, vj st2]) ∧ cc o2 G2 sp 31 (za 20 SP2) ∧ cc o2 G2 wk 33 (za 20 WK2) ∧ cc o2 G2 nw2 m1 (za 801 NW2) ∧ cc o2 G2 tn2 m2_ (za 801 TN2) ∧ cc o2 G2 nsp2 m3 (za 16020 NS2) ∧ cc o2 G2 tsp2 m4 (za 16020 TS2) ∧ cc o2 G2 se2 39 (za 2048 SE2) ∧ cc o2 G2 stk2 40 (za 809 SK2) ∧ (m1 + m2_ = 71 ∧ 35 ≤ m1 ∧ m1 ≤ 36 ∧ m3 + m4 = 75 ∧ 37 ≤ m3 ∧ m3 ≤ 38) ∧ (0 ≤ sta2 ∧ sta2 ≤ 2100000000) ∧ (rgs SP2 20 (-1) 2000) ∧ (rgs SE2 2048 0 2100000000) ∧ (G2.length + n5 ≤ G.length + 2048) ∧ (ab_slots G2 + 18 * n5 ≤ ab_slots G + 36864) ∧ (fo2 = 1) ∧ (0 ≤ r ∧ r ≤ n) ∧ (r = SP2 1) ∧ (rgs SP2 wi (-1) n) ∧ (0 ≤ SP2 0))) := ⟨_, rfl⟩
  rw [← hQ]
  change ab_W X (ab_pl y_TH_find b_TH_find 7 (some (.int))) d G 0 [some (vR a), some (vR q), some (vR s), some (vz hw), some (vz p), some (vR sp), none] [] Q
  have hfr : fx o o [31, 32, 33, 35, 36, 37, 38, 39, 40] G G := fx.rf
  refine ab_aload_n d_TH_find_0 rfl ?_
  refine ab_aload_n d_TH_find_1 rfl ?_
  refine ab_putf (fs := [sp0, vR wk, vR nw, vR tn, vR nsp, vR tsp, vz nc, vz tc, vR se, vz sta, vR stk, vz fo0, q0, s0, vz hw0, vz fy0, vj stp]) f_TH_36 (Or.inl rfl) d_TH_find_2 ha.2.2 (Nat.le_of_ble_eq_true rfl) (fun _ => ⟨rfl, rfl⟩) (ha.2.1 (by decide)) ?_
  obtain ⟨G1, eG1⟩ : ∃ z : ab_G, z = List.set G a (ab_ob 11 [sp0, vR wk, vR nw, vR tn, vR nsp, vR tsp, vz nc, vz tc, vR se, vz sta, vR stk, vz fo0, vR q, s0, vz hw0, vz fy0, vj stp]) := ⟨_, rfl⟩
  have hsp := hsp.keep ha eG1 (by decide)
  have hwk := hwk.keep ha eG1 (by decide)
  have hnw := hnw.keep ha eG1 (by omega)
  have htn := htn.keep ha eG1 (by omega)
  have hnsp := hnsp.keep ha eG1 (by omega)
  have htsp := htsp.keep ha eG1 (by omega)
  have hse := hse.keep ha eG1 (by decide)
  have hstk := hstk.keep ha eG1 (by decide)
  have hq := hq.keep ha eG1 (by omega)
  have hki := hki.keep ha eG1 (by omega)
  have hne := hne.keep ha eG1 (by omega)
  have hot := hot.keep ha eG1 (by omega)
  have hra := hra.keep ha eG1 (by omega)
  have hs := hs.keep ha eG1 (by decide)
  have hco := hco.keep ha eG1 (by decide)
  have hre := hre.keep ha eG1 (by decide)
  have hho := hho.keep ha eG1 (by decide)
  have hq2 := z_len eG1
  have hq3 := z_sl ha eG1 rfl
  have hfr := hfr.wr ha eG1 (by decide)
  have ha := ha.kept eG1
  change ab_W _ _ _ (List.set G a (ab_ob 11 [sp0, vR wk, vR nw, vR tn, vR nsp, vR tsp, vz nc, vz tc, vR se, vz sta, vR stk, vz fo0, vR q, s0, vz hw0, vz fy0, vj stp])) 5 [some (vR a), some (vR q), some (vR s), some (vz hw), some (vz p), some (vR sp), none] [] _
  rw [← eG1]
  refine ab_aload_n d_TH_find_5 rfl ?_
  refine ab_aload_n d_TH_find_6 rfl ?_
  refine ab_putf (fs := [sp0, vR wk, vR nw, vR tn, vR nsp, vR tsp, vz nc, vz tc, vR se, vz sta, vR stk, vz fo0, vR q, s0, vz hw0, vz fy0, vj stp]) f_TH_40 (Or.inl rfl) d_TH_find_7 ha.2.2 (Nat.le_of_ble_eq_true rfl) (fun _ => ⟨rfl, rfl⟩) (ha.2.1 (by decide)) ?_
  obtain ⟨G4, eG4⟩ : ∃ z : ab_G, z = List.set G1 a (ab_ob 11 [sp0, vR wk, vR nw, vR tn, vR nsp, vR tsp, vz nc, vz tc, vR se, vz sta, vR stk, vz fo0, vR q, vR s, vz hw0, vz fy0, vj stp]) := ⟨_, rfl⟩
  have hsp := hsp.keep ha eG4 (by decide)
  have hwk := hwk.keep ha eG4 (by decide)
  have hnw := hnw.keep ha eG4 (by omega)
  have htn := htn.keep ha eG4 (by omega)
  have hnsp := hnsp.keep ha eG4 (by omega)
  have htsp := htsp.keep ha eG4 (by omega)
  have hse := hse.keep ha eG4 (by decide)
  have hstk := hstk.keep ha eG4 (by decide)
  have hq := hq.keep ha eG4 (by omega)
  have hki := hki.keep ha eG4 (by omega)
  have hne := hne.keep ha eG4 (by omega)
  have hot := hot.keep ha eG4 (by omega)
  have hra := hra.keep ha eG4 (by omega)
  have hs := hs.keep ha eG4 (by decide)
  have hco := hco.keep ha eG4 (by decide)
  have hre := hre.keep ha eG4 (by decide)
  have hho := hho.keep ha eG4 (by decide)
  have hq5 := z_len eG4
  have hq6 := z_sl ha eG4 rfl
  have hfr := hfr.wr ha eG4 (by decide)
  have ha := ha.kept eG4
  change ab_W _ _ _ (List.set G1 a (ab_ob 11 [sp0, vR wk, vR nw, vR tn, vR nsp, vR tsp, vz nc, vz tc, vR se, vz sta, vR stk, vz fo0, vR q, vR s, vz hw0, vz fy0, vj stp])) 10 [some (vR a), some (vR q), some (vR s), some (vz hw), some (vz p), some (vR sp), none] [] _
  rw [← eG4]
  refine ab_aload_n d_TH_find_10 rfl ?_
  refine ab_iload_n d_TH_find_11 rfl ?_
  refine ab_putf (fs := [sp0, vR wk, vR nw, vR tn, vR nsp, vR tsp, vz nc, vz tc, vR se, vz sta, vR stk, vz fo0, vR q, vR s, vz hw0, vz fy0, vj stp]) f_TH_44 (Or.inl rfl) d_TH_find_12 ha.2.2 (Nat.le_of_ble_eq_true rfl) (fun _ => ⟨rfl, rfl⟩) (ha.2.1 (by decide)) ?_
  obtain ⟨G7, eG7⟩ : ∃ z : ab_G, z = List.set G4 a (ab_ob 11 [sp0, vR wk, vR nw, vR tn, vR nsp, vR tsp, vz nc, vz tc, vR se, vz sta, vR stk, vz fo0, vR q, vR s, vz hw, vz fy0, vj stp]) := ⟨_, rfl⟩
  have hsp := hsp.keep ha eG7 (by decide)
  have hwk := hwk.keep ha eG7 (by decide)
  have hnw := hnw.keep ha eG7 (by omega)
  have htn := htn.keep ha eG7 (by omega)
  have hnsp := hnsp.keep ha eG7 (by omega)
  have htsp := htsp.keep ha eG7 (by omega)
  have hse := hse.keep ha eG7 (by decide)
  have hstk := hstk.keep ha eG7 (by decide)
  have hq := hq.keep ha eG7 (by omega)
  have hki := hki.keep ha eG7 (by omega)
  have hne := hne.keep ha eG7 (by omega)
  have hot := hot.keep ha eG7 (by omega)
  have hra := hra.keep ha eG7 (by omega)
  have hs := hs.keep ha eG7 (by decide)
  have hco := hco.keep ha eG7 (by decide)
  have hre := hre.keep ha eG7 (by decide)
  have hho := hho.keep ha eG7 (by decide)
  have hq8 := z_len eG7
  have hq9 := z_sl ha eG7 rfl
  have hfr := hfr.wr ha eG7 (by decide)
  have ha := ha.kept eG7
  change ab_W _ _ _ (List.set G4 a (ab_ob 11 [sp0, vR wk, vR nw, vR tn, vR nsp, vR tsp, vz nc, vz tc, vR se, vz sta, vR stk, vz fo0, vR q, vR s, vz hw, vz fy0, vj stp])) 15 [some (vR a), some (vR q), some (vR s), some (vz hw), some (vz p), some (vR sp), none] [] _
  rw [← eG7]
  refine ab_aload_n d_TH_find_15 rfl ?_
  refine ab_aload d_TH_find_16 rfl ?_
  refine ab_putf (fs := [sp0, vR wk, vR nw, vR tn, vR nsp, vR tsp, vz nc, vz tc, vR se, vz sta, vR stk, vz fo0, vR q, vR s, vz hw, vz fy0, vj stp]) f_TH_9 (Or.inl rfl) d_TH_find_18 ha.2.2 (Nat.le_of_ble_eq_true rfl) (fun _ => ⟨rfl, rfl⟩) (ha.2.1 (by decide)) ?_
  obtain ⟨G10, eG10⟩ : ∃ z : ab_G, z = List.set G7 a (ab_ob 11 [vR sp, vR wk, vR nw, vR tn, vR nsp, vR tsp, vz nc, vz tc, vR se, vz sta, vR stk, vz fo0, vR q, vR s, vz hw, vz fy0, vj stp]) := ⟨_, rfl⟩
  have hsp := hsp.keep ha eG10 (by decide)
  have hwk := hwk.keep ha eG10 (by decide)
  have hnw := hnw.keep ha eG10 (by omega)
  have htn := htn.keep ha eG10 (by omega)
  have hnsp := hnsp.keep ha eG10 (by omega)
  have htsp := htsp.keep ha eG10 (by omega)
  have hse := hse.keep ha eG10 (by decide)
  have hstk := hstk.keep ha eG10 (by decide)
  have hq := hq.keep ha eG10 (by omega)
  have hki := hki.keep ha eG10 (by omega)
  have hne := hne.keep ha eG10 (by omega)
  have hot := hot.keep ha eG10 (by omega)
  have hra := hra.keep ha eG10 (by omega)
  have hs := hs.keep ha eG10 (by decide)
  have hco := hco.keep ha eG10 (by decide)
  have hre := hre.keep ha eG10 (by decide)
  have hho := hho.keep ha eG10 (by decide)
  have hq11 := z_len eG10
  have hq12 := z_sl ha eG10 rfl
  have hfr := hfr.wr ha eG10 (by decide)
  have ha := ha.kept eG10
  change ab_W _ _ _ (List.set G7 a (ab_ob 11 [vR sp, vR wk, vR nw, vR tn, vR nsp, vR tsp, vz nc, vz tc, vR se, vz sta, vR stk, vz fo0, vR q, vR s, vz hw, vz fy0, vj stp])) 21 [some (vR a), some (vR q), some (vR s), some (vz hw), some (vz p), some (vR sp), none] [] _
  rw [← eG10]
  refine ab_aload_n d_TH_find_21 rfl ?_
  refine ab_iload_n d_TH_find_22 rfl ?_
  refine zz_iconst d_TH_find_23 ?_
  refine zz_icmp_eq (tgt := 40) d_TH_find_24 (by decide) (by omega) (by decide) (fun c13 => ?_) (fun c13 => ?_)
  · refine zz_iconst d_TH_find_40 ?_
    refine ab_putf (fs := [vR sp, vR wk, vR nw, vR tn, vR nsp, vR tsp, vz nc, vz tc, vR se, vz sta, vR stk, vz fo0, vR q, vR s, vz hw, vz fy0, vj stp]) f_TH_54 (Or.inl rfl) d_TH_find_41 ha.2.2 (Nat.le_of_ble_eq_true rfl) (ab_fbz (by decide)) (ha.2.1 (by decide)) ?_
    obtain ⟨G14, eG14⟩ : ∃ z : ab_G, z = List.set G10 a (ab_ob 11 [vR sp, vR wk, vR nw, vR tn, vR nsp, vR tsp, vz nc, vz tc, vR se, vz sta, vR stk, vz fo0, vR q, vR s, vz hw, vz 0, vj stp]) := ⟨_, rfl⟩
    have hsp := hsp.keep ha eG14 (by decide)
    have hwk := hwk.keep ha eG14 (by decide)
    have hnw := hnw.keep ha eG14 (by omega)
    have htn := htn.keep ha eG14 (by omega)
    have hnsp := hnsp.keep ha eG14 (by omega)
    have htsp := htsp.keep ha eG14 (by omega)
    have hse := hse.keep ha eG14 (by decide)
    have hstk := hstk.keep ha eG14 (by decide)
    have hq := hq.keep ha eG14 (by omega)
    have hki := hki.keep ha eG14 (by omega)
    have hne := hne.keep ha eG14 (by omega)
    have hot := hot.keep ha eG14 (by omega)
    have hra := hra.keep ha eG14 (by omega)
    have hs := hs.keep ha eG14 (by decide)
    have hco := hco.keep ha eG14 (by decide)
    have hre := hre.keep ha eG14 (by decide)
    have hho := hho.keep ha eG14 (by decide)
    have hq15 := z_len eG14
    have hq16 := z_sl ha eG14 rfl
    have hfr := hfr.wr ha eG14 (by decide)
    have ha := ha.kept eG14
    change ab_W _ _ _ (List.set G10 a (ab_ob 11 [vR sp, vR wk, vR nw, vR tn, vR nsp, vR tsp, vz nc, vz tc, vR se, vz sta, vR stk, vz fo0, vR q, vR s, vz hw, vz 0, vj stp])) 44 [some (vR a), some (vR q), some (vR s), some (vz hw), some (vz p), some (vR sp), none] [] _
    rw [← eG14]
    refine ab_aload_n d_TH_find_44 rfl ?_
    refine ab_callV (d' := d - 1) (as := []) (st := []) (r := _) (z_TH_makeRows (o := o) (a := a) (wk := wk) (nw := nw) (tn := tn) (nsp := nsp) (tsp := tsp) (se := se) (stk := stk) (nc := nc) (tc := tc) (sta := sta) (fo := fo0) (hw := hw) (fy := 0) (stp := stp) (NW := NW) (TN := TN) (NS := NS) (TS := TS) (SE := SE) (SK := SK) (l1 := l1) (l2 := l2) (l3 := l3) (l4 := l4) (n1 := n1) (n2 := n2) (n3 := n3) (n4 := n4) (n5 := n5) (n6 := n6) (sp0 := vR sp) (q0 := vR q) (s0 := vR s) ha hnw htn hnsp htsp hse hstk (by omega) jl jse (by omega) (by omega) (by omega) (by omega) (by omega)) (fun oc G2 h => by rcases h with ⟨_, _, _, _, _, _, _, _, _, _, _, _, _, _, _, _, _, _, h, _⟩ <;> exact ⟨_, h⟩) (by omega) m_TH_makeRows ml_TH_58 im_TH_makeRows se_TH_makeRows c_TH ha.2.2 (Nat.le_of_ble_eq_true rfl) d_TH_find_45 rfl ?_
    intro v G17 hq
    rcases hq with ⟨o18, nw219, tn220, nsp221, tsp222, se223, stk224, m125, m2_26, m327, m428, sta229, NW230, TN231, NS232, TS233, SE234, SK235, hv, hfk, hNa, hNnw219, hNtn220, hNnsp221, hNtsp222, hNse223, hNstk224, hq36, hq37, hq38, hq39, hq40⟩
    cases hv
    have hsp := hfk.get hsp (by decide)
    have hwk := hfk.get hwk (by decide)
    have hq := hfk.get hq (by simp only [List.mem_cons, List.not_mem_nil, or_false]; omega)
    have hki := hfk.get hki (by simp only [List.mem_cons, List.not_mem_nil, or_false]; omega)
    have hne := hfk.get hne (by simp only [List.mem_cons, List.not_mem_nil, or_false]; omega)
    have hot := hfk.get hot (by simp only [List.mem_cons, List.not_mem_nil, or_false]; omega)
    have hra := hfk.get hra (by simp only [List.mem_cons, List.not_mem_nil, or_false]; omega)
    have hs := hfk.get hs (by decide)
    have hco := hfk.get hco (by decide)
    have hre := hfk.get hre (by decide)
    have hho := hfk.get hho (by decide)
    have hfr := hfr.tr hfk (by decide)
    have hq41 := hfk.1
    have ha := hNa
    have hnw219 := hNnw219
    have htn220 := hNtn220
    have hnsp221 := hNnsp221
    have htsp222 := hNtsp222
    have hse223 := hNse223
    have hstk224 := hNstk224
    change ab_W _ _ _ G17 48 [some (vR a), some (vR q), some (vR s), some (vz hw), some (vz p), some (vR sp), none] [] _
    refine ab_aload_n d_TH_find_48 rfl ?_
    refine zz_iconst d_TH_find_49 ?_
    refine ab_putf (fs := [vR sp, vR wk, vR nw219, vR tn220, vR nsp221, vR tsp222, vz nc, vz tc, vR se223, vz sta229, vR stk224, vz fo0, vR q, vR s, vz hw, vz 0, vj stp]) f_TH_61 (Or.inl rfl) d_TH_find_50 ha.2.2 (Nat.le_of_ble_eq_true rfl) (ab_fbz (by decide)) (ha.2.1 (by decide)) ?_
    obtain ⟨G42, eG42⟩ : ∃ z : ab_G, z = List.set G17 a (ab_ob 11 [vR sp, vR wk, vR nw219, vR tn220, vR nsp221, vR tsp222, vz nc, vz tc, vR se223, vz sta229, vR stk224, vz 0, vR q, vR s, vz hw, vz 0, vj stp]) := ⟨_, rfl⟩
    have hsp := hsp.keep ha eG42 (by decide)
    have hwk := hwk.keep ha eG42 (by decide)
    have hq := hq.keep ha eG42 (by omega)
    have hki := hki.keep ha eG42 (by omega)
    have hne := hne.keep ha eG42 (by omega)
    have hot := hot.keep ha eG42 (by omega)
    have hra := hra.keep ha eG42 (by omega)
    have hs := hs.keep ha eG42 (by decide)
    have hco := hco.keep ha eG42 (by decide)
    have hre := hre.keep ha eG42 (by decide)
    have hho := hho.keep ha eG42 (by decide)
    have hnw219 := hnw219.keep ha eG42 (by omega)
    have htn220 := htn220.keep ha eG42 (by omega)
    have hnsp221 := hnsp221.keep ha eG42 (by omega)
    have htsp222 := htsp222.keep ha eG42 (by omega)
    have hse223 := hse223.keep ha eG42 (by decide)
    have hstk224 := hstk224.keep ha eG42 (by decide)
    have hq43 := z_len eG42
    have hq44 := z_sl ha eG42 rfl
    have hfr := hfr.wr ha eG42 (by decide)
    have ha := ha.kept eG42
    change ab_W _ _ _ (List.set G17 a (ab_ob 11 [vR sp, vR wk, vR nw219, vR tn220, vR nsp221, vR tsp222, vz nc, vz tc, vR se223, vz sta229, vR stk224, vz 0, vR q, vR s, vz hw, vz 0, vj stp])) 53 [some (vR a), some (vR q), some (vR s), some (vz hw), some (vz p), some (vR sp), none] [] _
    rw [← eG42]
    refine ab_aload_n d_TH_find_53 rfl ?_
    refine zz_iconst d_TH_find_54 ?_
    refine ab_putf (fs := [vR sp, vR wk, vR nw219, vR tn220, vR nsp221, vR tsp222, vz nc, vz tc, vR se223, vz sta229, vR stk224, vz 0, vR q, vR s, vz hw, vz 0, vj stp]) f_TH_64 (Or.inl rfl) d_TH_find_55 ha.2.2 (Nat.le_of_ble_eq_true rfl) (fun _ => ⟨rfl, rfl⟩) (ha.2.1 (by decide)) ?_
    obtain ⟨G45, eG45⟩ : ∃ z : ab_G, z = List.set G42 a (ab_ob 11 [vR sp, vR wk, vR nw219, vR tn220, vR nsp221, vR tsp222, vz nc, vz 0, vR se223, vz sta229, vR stk224, vz 0, vR q, vR s, vz hw, vz 0, vj stp]) := ⟨_, rfl⟩
    have hsp := hsp.keep ha eG45 (by decide)
    have hwk := hwk.keep ha eG45 (by decide)
    have hq := hq.keep ha eG45 (by omega)
    have hki := hki.keep ha eG45 (by omega)
    have hne := hne.keep ha eG45 (by omega)
    have hot := hot.keep ha eG45 (by omega)
    have hra := hra.keep ha eG45 (by omega)
    have hs := hs.keep ha eG45 (by decide)
    have hco := hco.keep ha eG45 (by decide)
    have hre := hre.keep ha eG45 (by decide)
    have hho := hho.keep ha eG45 (by decide)
    have hnw219 := hnw219.keep ha eG45 (by omega)
    have htn220 := htn220.keep ha eG45 (by omega)
    have hnsp221 := hnsp221.keep ha eG45 (by omega)
    have htsp222 := htsp222.keep ha eG45 (by omega)
    have hse223 := hse223.keep ha eG45 (by decide)
    have hstk224 := hstk224.keep ha eG45 (by decide)
    have hq46 := z_len eG45
    have hq47 := z_sl ha eG45 rfl
    have hfr := hfr.wr ha eG45 (by decide)
    have ha := ha.kept eG45
    change ab_W _ _ _ (List.set G42 a (ab_ob 11 [vR sp, vR wk, vR nw219, vR tn220, vR nsp221, vR tsp222, vz nc, vz 0, vR se223, vz sta229, vR stk224, vz 0, vR q, vR s, vz hw, vz 0, vj stp])) 58 [some (vR a), some (vR q), some (vR s), some (vz hw), some (vz p), some (vR sp), none] [] _
    rw [← eG45]
    refine ab_iload d_TH_find_58 rfl ?_
    refine ab_istore d_TH_find_60 (Nat.le_of_ble_eq_true rfl) (Nat.le_of_ble_eq_true rfl) rfl ?_
    change ab_W _ _ _ G45 62 [some (vR a), some (vR q), some (vR s), some (vz hw), some (vz p), some (vR sp), some (vz p)] [] _
    refine y_TH_find_62 (q := q) (lq := lq) (ki := ki) (ne := ne) (ot := ot) (cnt := cnt) (fi := fi) (la := la) (ra := ra) (ru := ru) (gr := gr) (wi := wi) (sz := sz) (fl := fl) (ve := ve) (mi := mi) (na := na) (nl := nl) (K := K) (N := N) (O := O) (RR := RR) (nr := nr) (s := s) (by_ := by_) (co := co) (re := re) (ho := ho) (n := n) (C := C) (Rs := Rs) (H := H) (mc := mc) (a := a) (sp := sp) (wk := wk) (se := se223) (stk := stk224) (hw := hw) (fy := 0) (p := p) (G0 := G45) (nw := nw219) (tn := tn220) (nsp := nsp221) (tsp := tsp222) (nc := nc) (tc := 0) (sta := sta229) (fo := 0) (stp := stp) (SP := SP) (WK := WK) (NW := NW230) (TN := TN231) (NS := NS232) (TS := TS233) (SE := SE234) (SK := SK235) (l1 := m125) (l2 := m2_26) (l3 := m327) (l4 := m428) (i := p) (by omega) hp hr (by omega) hsu (by omega) (by omega) (by omega) (by omega) (by omega) (Int.toNat (n + 1 - p) + 1) ha hsp hwk hnw219 htn220 hnsp221 htsp222 hse223 hstk224 hq hki hne hot hra hs hco hre hho (by omega) (by omega) (by omega) (by omega) hq38 thos_0 thr_0 jsp spo_0 (by omega) fx.rf rfl rfl (by omega) (fun G48 nw249 tn250 nsp251 tsp252 m153 m2_54 m355 m456 nc257 tc258 sta259 fo260 st261 NW262 TN263 NS264 TS265 SE266 SK267 WK268 SP269 hNa hNsp hNwk hNnw249 hNtn250 hNnsp251 hNtsp252 hNse223 hNstk224 hq70 hq71 hq72 hq73 hq74 hq75 hfk hlk hsk => ?_)
    · have hq := hfk.get hq (by simp only [List.mem_cons, List.not_mem_nil, or_false]; omega)
      have hki := hfk.get hki (by simp only [List.mem_cons, List.not_mem_nil, or_false]; omega)
      have hne := hfk.get hne (by simp only [List.mem_cons, List.not_mem_nil, or_false]; omega)
      have hot := hfk.get hot (by simp only [List.mem_cons, List.not_mem_nil, or_false]; omega)
      have hra := hfk.get hra (by simp only [List.mem_cons, List.not_mem_nil, or_false]; omega)
      have hs := hfk.get hs (by decide)
      have hco := hfk.get hco (by decide)
      have hre := hfk.get hre (by decide)
      have hho := hfk.get hho (by decide)
      have hfr := hfr.tr hfk (by decide)
      have hq76 := hfk.1
      have hq77 := hlk
      have hq78 := hsk
      have ha := hNa
      have hsp := hNsp
      have hwk := hNwk
      have hnw249 := hNnw249
      have htn250 := hNtn250
      have hnsp251 := hNnsp251
      have htsp252 := hNtsp252
      have hse223 := hNse223
      have hstk224 := hNstk224
      change ab_W _ _ _ G48 157 [some (vR a), none, none, none, none, some (vR sp), none] [] _
      refine ab_aload_n d_TH_find_157 rfl ?_
      refine ab_getf (fs := [vR sp, vR wk, vR nw249, vR tn250, vR nsp251, vR tsp252, vz nc257, vz tc258, vR se223, vz sta259, vR stk224, vz fo260, vR q, vR s, vz hw, vz 0, vj st261]) f_TH_61 d_TH_find_158 ha.2.2 rfl ?_
      refine zz_if_eq (tgt := 171) d_TH_find_161 (by decide) (by omega) (fun c79 => ?_) (fun c79 => ?_)
      · refine zz_iconst d_TH_find_171 ?_
        refine zz_iret rfl d_TH_find_172 ?_
        rw [hQ]; exact (Or.inl ⟨_, _, _, _, _, _, _, _, _, _, _, _, _, _, _, _, _, _, _, _, _, _, _, _, _, rfl, hfr, ha, hsp, hwk, hnw249, htn250, hnsp251, htsp252, hse223, hstk224, (by omega), (by omega), (by first | exact hq73 | exact rgs_w hq73 (by omega)), (by first | exact hq74 | exact rgs_w hq74 (by omega)), (by omega), (by omega), (by omega)⟩)
      · have jsq := hq75 (by omega)
        have js1 := jsq.1 1 (by omega) (by omega)
        have js2 := jsq.2.2
        refine ab_aload d_TH_find_164 rfl ?_
        refine zz_iconst d_TH_find_166 ?_
        refine zz_iald d_TH_find_167 hsp (by omega) ?_
        refine ab_goto (tgt := 172) d_TH_find_168 (by decide) ?_
        refine zz_iret rfl d_TH_find_172 ?_
        rw [hQ]; exact (Or.inr ⟨_, _, _, _, _, _, _, _, _, _, _, _, _, _, _, _, _, _, _, _, _, _, _, _, _, _, rfl, hfr, ha, hsp, hwk, hnw249, htn250, hnsp251, htsp252, hse223, hstk224, (by omega), (by omega), (by first | exact hq73 | exact rgs_w hq73 (by omega)), (by first | exact hq74 | exact rgs_w hq74 (by omega)), (by omega), (by omega), (by omega), (by omega), (by rfl), (by exact jsq.1), (by exact jsq.2.1)⟩)
  · refine ab_aload_n d_TH_find_27 rfl ?_
    refine zz_bipush d_TH_find_28 (by decide) ?_
    refine ab_callV (d' := d - 1) (as := [vz 16]) (st := [vR a]) (r := _) (z_PR_isOn (o := o) (q := q) (lq := lq) (ki := ki) (ne := ne) (ot := ot) (cnt := cnt) (fi := fi) (la := la) (ra := ra) (ru := ru) (gr := gr) (wi := wi) (sz := sz) (fl := fl) (ve := ve) (mi := mi) (na := na) (nl := nl) hq (by omega)) (fun oc G2 h => by rcases h with ⟨h, _⟩ | ⟨h, _⟩ <;> exact ⟨_, h⟩) (by omega) m_PR_isOn ml_TH_48 im_PR_isOn se_PR_isOn c_PR hq.2.2 (Nat.le_of_ble_eq_true rfl) d_TH_find_30 rfl ?_
    intro v G80 hq
    rcases hq with ⟨hv, hGe, hq81⟩ | ⟨hv, hGe, hq82⟩
    · cases hv
      rw [hGe]
      change ab_W _ _ _ G10 33 [some (vR a), some (vR q), some (vR s), some (vz hw), some (vz p), some (vR sp), none] [vz 1, vR a] _
      refine zz_if_ne (tgt := 40) d_TH_find_33 (by decide) (by decide) (fun c83 => ?_) (fun c83 => absurd c83 (by decide))
      refine zz_iconst d_TH_find_40 ?_
      refine ab_putf (fs := [vR sp, vR wk, vR nw, vR tn, vR nsp, vR tsp, vz nc, vz tc, vR se, vz sta, vR stk, vz fo0, vR q, vR s, vz hw, vz fy0, vj stp]) f_TH_54 (Or.inl rfl) d_TH_find_41 ha.2.2 (Nat.le_of_ble_eq_true rfl) (ab_fbz (by decide)) (ha.2.1 (by decide)) ?_
      obtain ⟨G84, eG84⟩ : ∃ z : ab_G, z = List.set G10 a (ab_ob 11 [vR sp, vR wk, vR nw, vR tn, vR nsp, vR tsp, vz nc, vz tc, vR se, vz sta, vR stk, vz fo0, vR q, vR s, vz hw, vz 0, vj stp]) := ⟨_, rfl⟩
      have hsp := hsp.keep ha eG84 (by decide)
      have hwk := hwk.keep ha eG84 (by decide)
      have hnw := hnw.keep ha eG84 (by omega)
      have htn := htn.keep ha eG84 (by omega)
      have hnsp := hnsp.keep ha eG84 (by omega)
      have htsp := htsp.keep ha eG84 (by omega)
      have hse := hse.keep ha eG84 (by decide)
      have hstk := hstk.keep ha eG84 (by decide)
      have hq := hq.keep ha eG84 (by omega)
      have hki := hki.keep ha eG84 (by omega)
      have hne := hne.keep ha eG84 (by omega)
      have hot := hot.keep ha eG84 (by omega)
      have hra := hra.keep ha eG84 (by omega)
      have hs := hs.keep ha eG84 (by decide)
      have hco := hco.keep ha eG84 (by decide)
      have hre := hre.keep ha eG84 (by decide)
      have hho := hho.keep ha eG84 (by decide)
      have hq85 := z_len eG84
      have hq86 := z_sl ha eG84 rfl
      have hfr := hfr.wr ha eG84 (by decide)
      have ha := ha.kept eG84
      change ab_W _ _ _ (List.set G10 a (ab_ob 11 [vR sp, vR wk, vR nw, vR tn, vR nsp, vR tsp, vz nc, vz tc, vR se, vz sta, vR stk, vz fo0, vR q, vR s, vz hw, vz 0, vj stp])) 44 [some (vR a), some (vR q), some (vR s), some (vz hw), some (vz p), some (vR sp), none] [] _
      rw [← eG84]
      refine ab_aload_n d_TH_find_44 rfl ?_
      refine ab_callV (d' := d - 1) (as := []) (st := []) (r := _) (z_TH_makeRows (o := o) (a := a) (wk := wk) (nw := nw) (tn := tn) (nsp := nsp) (tsp := tsp) (se := se) (stk := stk) (nc := nc) (tc := tc) (sta := sta) (fo := fo0) (hw := hw) (fy := 0) (stp := stp) (NW := NW) (TN := TN) (NS := NS) (TS := TS) (SE := SE) (SK := SK) (l1 := l1) (l2 := l2) (l3 := l3) (l4 := l4) (n1 := n1) (n2 := n2) (n3 := n3) (n4 := n4) (n5 := n5) (n6 := n6) (sp0 := vR sp) (q0 := vR q) (s0 := vR s) ha hnw htn hnsp htsp hse hstk (by omega) jl jse (by omega) (by omega) (by omega) (by omega) (by omega)) (fun oc G2 h => by rcases h with ⟨_, _, _, _, _, _, _, _, _, _, _, _, _, _, _, _, _, _, h, _⟩ <;> exact ⟨_, h⟩) (by omega) m_TH_makeRows ml_TH_58 im_TH_makeRows se_TH_makeRows c_TH ha.2.2 (Nat.le_of_ble_eq_true rfl) d_TH_find_45 rfl ?_
      intro v G87 hq
      rcases hq with ⟨o88, nw289, tn290, nsp291, tsp292, se293, stk294, m195, m2_96, m397, m498, sta299, NW2100, TN2101, NS2102, TS2103, SE2104, SK2105, hv, hfk, hNa, hNnw289, hNtn290, hNnsp291, hNtsp292, hNse293, hNstk294, hq106, hq107, hq108, hq109, hq110⟩
      cases hv
      have hsp := hfk.get hsp (by decide)
      have hwk := hfk.get hwk (by decide)
      have hq := hfk.get hq (by simp only [List.mem_cons, List.not_mem_nil, or_false]; omega)
      have hki := hfk.get hki (by simp only [List.mem_cons, List.not_mem_nil, or_false]; omega)
      have hne := hfk.get hne (by simp only [List.mem_cons, List.not_mem_nil, or_false]; omega)
      have hot := hfk.get hot (by simp only [List.mem_cons, List.not_mem_nil, or_false]; omega)
      have hra := hfk.get hra (by simp only [List.mem_cons, List.not_mem_nil, or_false]; omega)
      have hs := hfk.get hs (by decide)
      have hco := hfk.get hco (by decide)
      have hre := hfk.get hre (by decide)
      have hho := hfk.get hho (by decide)
      have hfr := hfr.tr hfk (by decide)
      have hq111 := hfk.1
      have ha := hNa
      have hnw289 := hNnw289
      have htn290 := hNtn290
      have hnsp291 := hNnsp291
      have htsp292 := hNtsp292
      have hse293 := hNse293
      have hstk294 := hNstk294
      change ab_W _ _ _ G87 48 [some (vR a), some (vR q), some (vR s), some (vz hw), some (vz p), some (vR sp), none] [] _
      refine ab_aload_n d_TH_find_48 rfl ?_
      refine zz_iconst d_TH_find_49 ?_
      refine ab_putf (fs := [vR sp, vR wk, vR nw289, vR tn290, vR nsp291, vR tsp292, vz nc, vz tc, vR se293, vz sta299, vR stk294, vz fo0, vR q, vR s, vz hw, vz 0, vj stp]) f_TH_61 (Or.inl rfl) d_TH_find_50 ha.2.2 (Nat.le_of_ble_eq_true rfl) (ab_fbz (by decide)) (ha.2.1 (by decide)) ?_
      obtain ⟨G112, eG112⟩ : ∃ z : ab_G, z = List.set G87 a (ab_ob 11 [vR sp, vR wk, vR nw289, vR tn290, vR nsp291, vR tsp292, vz nc, vz tc, vR se293, vz sta299, vR stk294, vz 0, vR q, vR s, vz hw, vz 0, vj stp]) := ⟨_, rfl⟩
      have hsp := hsp.keep ha eG112 (by decide)
      have hwk := hwk.keep ha eG112 (by decide)
      have hq := hq.keep ha eG112 (by omega)
      have hki := hki.keep ha eG112 (by omega)
      have hne := hne.keep ha eG112 (by omega)
      have hot := hot.keep ha eG112 (by omega)
      have hra := hra.keep ha eG112 (by omega)
      have hs := hs.keep ha eG112 (by decide)
      have hco := hco.keep ha eG112 (by decide)
      have hre := hre.keep ha eG112 (by decide)
      have hho := hho.keep ha eG112 (by decide)
      have hnw289 := hnw289.keep ha eG112 (by omega)
      have htn290 := htn290.keep ha eG112 (by omega)
      have hnsp291 := hnsp291.keep ha eG112 (by omega)
      have htsp292 := htsp292.keep ha eG112 (by omega)
      have hse293 := hse293.keep ha eG112 (by decide)
      have hstk294 := hstk294.keep ha eG112 (by decide)
      have hq113 := z_len eG112
      have hq114 := z_sl ha eG112 rfl
      have hfr := hfr.wr ha eG112 (by decide)
      have ha := ha.kept eG112
      change ab_W _ _ _ (List.set G87 a (ab_ob 11 [vR sp, vR wk, vR nw289, vR tn290, vR nsp291, vR tsp292, vz nc, vz tc, vR se293, vz sta299, vR stk294, vz 0, vR q, vR s, vz hw, vz 0, vj stp])) 53 [some (vR a), some (vR q), some (vR s), some (vz hw), some (vz p), some (vR sp), none] [] _
      rw [← eG112]
      refine ab_aload_n d_TH_find_53 rfl ?_
      refine zz_iconst d_TH_find_54 ?_
      refine ab_putf (fs := [vR sp, vR wk, vR nw289, vR tn290, vR nsp291, vR tsp292, vz nc, vz tc, vR se293, vz sta299, vR stk294, vz 0, vR q, vR s, vz hw, vz 0, vj stp]) f_TH_64 (Or.inl rfl) d_TH_find_55 ha.2.2 (Nat.le_of_ble_eq_true rfl) (fun _ => ⟨rfl, rfl⟩) (ha.2.1 (by decide)) ?_
      obtain ⟨G115, eG115⟩ : ∃ z : ab_G, z = List.set G112 a (ab_ob 11 [vR sp, vR wk, vR nw289, vR tn290, vR nsp291, vR tsp292, vz nc, vz 0, vR se293, vz sta299, vR stk294, vz 0, vR q, vR s, vz hw, vz 0, vj stp]) := ⟨_, rfl⟩
      have hsp := hsp.keep ha eG115 (by decide)
      have hwk := hwk.keep ha eG115 (by decide)
      have hq := hq.keep ha eG115 (by omega)
      have hki := hki.keep ha eG115 (by omega)
      have hne := hne.keep ha eG115 (by omega)
      have hot := hot.keep ha eG115 (by omega)
      have hra := hra.keep ha eG115 (by omega)
      have hs := hs.keep ha eG115 (by decide)
      have hco := hco.keep ha eG115 (by decide)
      have hre := hre.keep ha eG115 (by decide)
      have hho := hho.keep ha eG115 (by decide)
      have hnw289 := hnw289.keep ha eG115 (by omega)
      have htn290 := htn290.keep ha eG115 (by omega)
      have hnsp291 := hnsp291.keep ha eG115 (by omega)
      have htsp292 := htsp292.keep ha eG115 (by omega)
      have hse293 := hse293.keep ha eG115 (by decide)
      have hstk294 := hstk294.keep ha eG115 (by decide)
      have hq116 := z_len eG115
      have hq117 := z_sl ha eG115 rfl
      have hfr := hfr.wr ha eG115 (by decide)
      have ha := ha.kept eG115
      change ab_W _ _ _ (List.set G112 a (ab_ob 11 [vR sp, vR wk, vR nw289, vR tn290, vR nsp291, vR tsp292, vz nc, vz 0, vR se293, vz sta299, vR stk294, vz 0, vR q, vR s, vz hw, vz 0, vj stp])) 58 [some (vR a), some (vR q), some (vR s), some (vz hw), some (vz p), some (vR sp), none] [] _
      rw [← eG115]
      refine ab_iload d_TH_find_58 rfl ?_
      refine ab_istore d_TH_find_60 (Nat.le_of_ble_eq_true rfl) (Nat.le_of_ble_eq_true rfl) rfl ?_
      change ab_W _ _ _ G115 62 [some (vR a), some (vR q), some (vR s), some (vz hw), some (vz p), some (vR sp), some (vz p)] [] _
      refine y_TH_find_62 (q := q) (lq := lq) (ki := ki) (ne := ne) (ot := ot) (cnt := cnt) (fi := fi) (la := la) (ra := ra) (ru := ru) (gr := gr) (wi := wi) (sz := sz) (fl := fl) (ve := ve) (mi := mi) (na := na) (nl := nl) (K := K) (N := N) (O := O) (RR := RR) (nr := nr) (s := s) (by_ := by_) (co := co) (re := re) (ho := ho) (n := n) (C := C) (Rs := Rs) (H := H) (mc := mc) (a := a) (sp := sp) (wk := wk) (se := se293) (stk := stk294) (hw := hw) (fy := 0) (p := p) (G0 := G115) (nw := nw289) (tn := tn290) (nsp := nsp291) (tsp := tsp292) (nc := nc) (tc := 0) (sta := sta299) (fo := 0) (stp := stp) (SP := SP) (WK := WK) (NW := NW2100) (TN := TN2101) (NS := NS2102) (TS := TS2103) (SE := SE2104) (SK := SK2105) (l1 := m195) (l2 := m2_96) (l3 := m397) (l4 := m498) (i := p) (by omega) hp hr (by omega) hsu (by omega) (by omega) (by omega) (by omega) (by omega) (Int.toNat (n + 1 - p) + 1) ha hsp hwk hnw289 htn290 hnsp291 htsp292 hse293 hstk294 hq hki hne hot hra hs hco hre hho (by omega) (by omega) (by omega) (by omega) hq108 thos_0 thr_0 jsp spo_0 (by omega) fx.rf rfl rfl (by omega) (fun G118 nw2119 tn2120 nsp2121 tsp2122 m1123 m2_124 m3125 m4126 nc2127 tc2128 sta2129 fo2130 st2131 NW2132 TN2133 NS2134 TS2135 SE2136 SK2137 WK2138 SP2139 hNa hNsp hNwk hNnw2119 hNtn2120 hNnsp2121 hNtsp2122 hNse293 hNstk294 hq140 hq141 hq142 hq143 hq144 hq145 hfk hlk hsk => ?_)
      · have hq := hfk.get hq (by simp only [List.mem_cons, List.not_mem_nil, or_false]; omega)
        have hki := hfk.get hki (by simp only [List.mem_cons, List.not_mem_nil, or_false]; omega)
        have hne := hfk.get hne (by simp only [List.mem_cons, List.not_mem_nil, or_false]; omega)
        have hot := hfk.get hot (by simp only [List.mem_cons, List.not_mem_nil, or_false]; omega)
        have hra := hfk.get hra (by simp only [List.mem_cons, List.not_mem_nil, or_false]; omega)
        have hs := hfk.get hs (by decide)
        have hco := hfk.get hco (by decide)
        have hre := hfk.get hre (by decide)
        have hho := hfk.get hho (by decide)
        have hfr := hfr.tr hfk (by decide)
        have hq146 := hfk.1
        have hq147 := hlk
        have hq148 := hsk
        have ha := hNa
        have hsp := hNsp
        have hwk := hNwk
        have hnw2119 := hNnw2119
        have htn2120 := hNtn2120
        have hnsp2121 := hNnsp2121
        have htsp2122 := hNtsp2122
        have hse293 := hNse293
        have hstk294 := hNstk294
        change ab_W _ _ _ G118 157 [some (vR a), none, none, none, none, some (vR sp), none] [] _
        refine ab_aload_n d_TH_find_157 rfl ?_
        refine ab_getf (fs := [vR sp, vR wk, vR nw2119, vR tn2120, vR nsp2121, vR tsp2122, vz nc2127, vz tc2128, vR se293, vz sta2129, vR stk294, vz fo2130, vR q, vR s, vz hw, vz 0, vj st2131]) f_TH_61 d_TH_find_158 ha.2.2 rfl ?_
        refine zz_if_eq (tgt := 171) d_TH_find_161 (by decide) (by omega) (fun c149 => ?_) (fun c149 => ?_)
        · refine zz_iconst d_TH_find_171 ?_
          refine zz_iret rfl d_TH_find_172 ?_
          rw [hQ]; exact (Or.inl ⟨_, _, _, _, _, _, _, _, _, _, _, _, _, _, _, _, _, _, _, _, _, _, _, _, _, rfl, hfr, ha, hsp, hwk, hnw2119, htn2120, hnsp2121, htsp2122, hse293, hstk294, (by omega), (by omega), (by first | exact hq143 | exact rgs_w hq143 (by omega)), (by first | exact hq144 | exact rgs_w hq144 (by omega)), (by omega), (by omega), (by omega)⟩)
        · have jsq := hq145 (by omega)
          have js1 := jsq.1 1 (by omega) (by omega)
          have js2 := jsq.2.2
          refine ab_aload d_TH_find_164 rfl ?_
          refine zz_iconst d_TH_find_166 ?_
          refine zz_iald d_TH_find_167 hsp (by omega) ?_
          refine ab_goto (tgt := 172) d_TH_find_168 (by decide) ?_
          refine zz_iret rfl d_TH_find_172 ?_
          rw [hQ]; exact (Or.inr ⟨_, _, _, _, _, _, _, _, _, _, _, _, _, _, _, _, _, _, _, _, _, _, _, _, _, _, rfl, hfr, ha, hsp, hwk, hnw2119, htn2120, hnsp2121, htsp2122, hse293, hstk294, (by omega), (by omega), (by first | exact hq143 | exact rgs_w hq143 (by omega)), (by first | exact hq144 | exact rgs_w hq144 (by omega)), (by omega), (by omega), (by omega), (by omega), (by rfl), (by exact jsq.1), (by exact jsq.2.1)⟩)
    · cases hv
      rw [hGe]
      change ab_W _ _ _ G10 33 [some (vR a), some (vR q), some (vR s), some (vz hw), some (vz p), some (vR sp), none] [vz 0, vR a] _
      refine zz_if_ne (tgt := 40) d_TH_find_33 (by decide) (by decide) (fun c150 => absurd c150 (by decide)) (fun c150 => ?_)
      refine zz_iconst d_TH_find_36 ?_
      refine ab_goto (tgt := 41) d_TH_find_37 (by decide) ?_
      refine ab_putf (fs := [vR sp, vR wk, vR nw, vR tn, vR nsp, vR tsp, vz nc, vz tc, vR se, vz sta, vR stk, vz fo0, vR q, vR s, vz hw, vz fy0, vj stp]) f_TH_54 (Or.inl rfl) d_TH_find_41 ha.2.2 (Nat.le_of_ble_eq_true rfl) (ab_fbz (by decide)) (ha.2.1 (by decide)) ?_
      obtain ⟨G151, eG151⟩ : ∃ z : ab_G, z = List.set G10 a (ab_ob 11 [vR sp, vR wk, vR nw, vR tn, vR nsp, vR tsp, vz nc, vz tc, vR se, vz sta, vR stk, vz fo0, vR q, vR s, vz hw, vz 1, vj stp]) := ⟨_, rfl⟩
      have hsp := hsp.keep ha eG151 (by decide)
      have hwk := hwk.keep ha eG151 (by decide)
      have hnw := hnw.keep ha eG151 (by omega)
      have htn := htn.keep ha eG151 (by omega)
      have hnsp := hnsp.keep ha eG151 (by omega)
      have htsp := htsp.keep ha eG151 (by omega)
      have hse := hse.keep ha eG151 (by decide)
      have hstk := hstk.keep ha eG151 (by decide)
      have hq := hq.keep ha eG151 (by omega)
      have hki := hki.keep ha eG151 (by omega)
      have hne := hne.keep ha eG151 (by omega)
      have hot := hot.keep ha eG151 (by omega)
      have hra := hra.keep ha eG151 (by omega)
      have hs := hs.keep ha eG151 (by decide)
      have hco := hco.keep ha eG151 (by decide)
      have hre := hre.keep ha eG151 (by decide)
      have hho := hho.keep ha eG151 (by decide)
      have hq152 := z_len eG151
      have hq153 := z_sl ha eG151 rfl
      have hfr := hfr.wr ha eG151 (by decide)
      have ha := ha.kept eG151
      change ab_W _ _ _ (List.set G10 a (ab_ob 11 [vR sp, vR wk, vR nw, vR tn, vR nsp, vR tsp, vz nc, vz tc, vR se, vz sta, vR stk, vz fo0, vR q, vR s, vz hw, vz 1, vj stp])) 44 [some (vR a), some (vR q), some (vR s), some (vz hw), some (vz p), some (vR sp), none] [] _
      rw [← eG151]
      refine ab_aload_n d_TH_find_44 rfl ?_
      refine ab_callV (d' := d - 1) (as := []) (st := []) (r := _) (z_TH_makeRows (o := o) (a := a) (wk := wk) (nw := nw) (tn := tn) (nsp := nsp) (tsp := tsp) (se := se) (stk := stk) (nc := nc) (tc := tc) (sta := sta) (fo := fo0) (hw := hw) (fy := 1) (stp := stp) (NW := NW) (TN := TN) (NS := NS) (TS := TS) (SE := SE) (SK := SK) (l1 := l1) (l2 := l2) (l3 := l3) (l4 := l4) (n1 := n1) (n2 := n2) (n3 := n3) (n4 := n4) (n5 := n5) (n6 := n6) (sp0 := vR sp) (q0 := vR q) (s0 := vR s) ha hnw htn hnsp htsp hse hstk (by omega) jl jse (by omega) (by omega) (by omega) (by omega) (by omega)) (fun oc G2 h => by rcases h with ⟨_, _, _, _, _, _, _, _, _, _, _, _, _, _, _, _, _, _, h, _⟩ <;> exact ⟨_, h⟩) (by omega) m_TH_makeRows ml_TH_58 im_TH_makeRows se_TH_makeRows c_TH ha.2.2 (Nat.le_of_ble_eq_true rfl) d_TH_find_45 rfl ?_
      intro v G154 hq
      rcases hq with ⟨o155, nw2156, tn2157, nsp2158, tsp2159, se2160, stk2161, m1162, m2_163, m3164, m4165, sta2166, NW2167, TN2168, NS2169, TS2170, SE2171, SK2172, hv, hfk, hNa, hNnw2156, hNtn2157, hNnsp2158, hNtsp2159, hNse2160, hNstk2161, hq173, hq174, hq175, hq176, hq177⟩
      cases hv
      have hsp := hfk.get hsp (by decide)
      have hwk := hfk.get hwk (by decide)
      have hq := hfk.get hq (by simp only [List.mem_cons, List.not_mem_nil, or_false]; omega)
      have hki := hfk.get hki (by simp only [List.mem_cons, List.not_mem_nil, or_false]; omega)
      have hne := hfk.get hne (by simp only [List.mem_cons, List.not_mem_nil, or_false]; omega)
      have hot := hfk.get hot (by simp only [List.mem_cons, List.not_mem_nil, or_false]; omega)
      have hra := hfk.get hra (by simp only [List.mem_cons, List.not_mem_nil, or_false]; omega)
      have hs := hfk.get hs (by decide)
      have hco := hfk.get hco (by decide)
      have hre := hfk.get hre (by decide)
      have hho := hfk.get hho (by decide)
      have hfr := hfr.tr hfk (by decide)
      have hq178 := hfk.1
      have ha := hNa
      have hnw2156 := hNnw2156
      have htn2157 := hNtn2157
      have hnsp2158 := hNnsp2158
      have htsp2159 := hNtsp2159
      have hse2160 := hNse2160
      have hstk2161 := hNstk2161
      change ab_W _ _ _ G154 48 [some (vR a), some (vR q), some (vR s), some (vz hw), some (vz p), some (vR sp), none] [] _
      refine ab_aload_n d_TH_find_48 rfl ?_
      refine zz_iconst d_TH_find_49 ?_
      refine ab_putf (fs := [vR sp, vR wk, vR nw2156, vR tn2157, vR nsp2158, vR tsp2159, vz nc, vz tc, vR se2160, vz sta2166, vR stk2161, vz fo0, vR q, vR s, vz hw, vz 1, vj stp]) f_TH_61 (Or.inl rfl) d_TH_find_50 ha.2.2 (Nat.le_of_ble_eq_true rfl) (ab_fbz (by decide)) (ha.2.1 (by decide)) ?_
      obtain ⟨G179, eG179⟩ : ∃ z : ab_G, z = List.set G154 a (ab_ob 11 [vR sp, vR wk, vR nw2156, vR tn2157, vR nsp2158, vR tsp2159, vz nc, vz tc, vR se2160, vz sta2166, vR stk2161, vz 0, vR q, vR s, vz hw, vz 1, vj stp]) := ⟨_, rfl⟩
      have hsp := hsp.keep ha eG179 (by decide)
      have hwk := hwk.keep ha eG179 (by decide)
      have hq := hq.keep ha eG179 (by omega)
      have hki := hki.keep ha eG179 (by omega)
      have hne := hne.keep ha eG179 (by omega)
      have hot := hot.keep ha eG179 (by omega)
      have hra := hra.keep ha eG179 (by omega)
      have hs := hs.keep ha eG179 (by decide)
      have hco := hco.keep ha eG179 (by decide)
      have hre := hre.keep ha eG179 (by decide)
      have hho := hho.keep ha eG179 (by decide)
      have hnw2156 := hnw2156.keep ha eG179 (by omega)
      have htn2157 := htn2157.keep ha eG179 (by omega)
      have hnsp2158 := hnsp2158.keep ha eG179 (by omega)
      have htsp2159 := htsp2159.keep ha eG179 (by omega)
      have hse2160 := hse2160.keep ha eG179 (by decide)
      have hstk2161 := hstk2161.keep ha eG179 (by decide)
      have hq180 := z_len eG179
      have hq181 := z_sl ha eG179 rfl
      have hfr := hfr.wr ha eG179 (by decide)
      have ha := ha.kept eG179
      change ab_W _ _ _ (List.set G154 a (ab_ob 11 [vR sp, vR wk, vR nw2156, vR tn2157, vR nsp2158, vR tsp2159, vz nc, vz tc, vR se2160, vz sta2166, vR stk2161, vz 0, vR q, vR s, vz hw, vz 1, vj stp])) 53 [some (vR a), some (vR q), some (vR s), some (vz hw), some (vz p), some (vR sp), none] [] _
      rw [← eG179]
      refine ab_aload_n d_TH_find_53 rfl ?_
      refine zz_iconst d_TH_find_54 ?_
      refine ab_putf (fs := [vR sp, vR wk, vR nw2156, vR tn2157, vR nsp2158, vR tsp2159, vz nc, vz tc, vR se2160, vz sta2166, vR stk2161, vz 0, vR q, vR s, vz hw, vz 1, vj stp]) f_TH_64 (Or.inl rfl) d_TH_find_55 ha.2.2 (Nat.le_of_ble_eq_true rfl) (fun _ => ⟨rfl, rfl⟩) (ha.2.1 (by decide)) ?_
      obtain ⟨G182, eG182⟩ : ∃ z : ab_G, z = List.set G179 a (ab_ob 11 [vR sp, vR wk, vR nw2156, vR tn2157, vR nsp2158, vR tsp2159, vz nc, vz 0, vR se2160, vz sta2166, vR stk2161, vz 0, vR q, vR s, vz hw, vz 1, vj stp]) := ⟨_, rfl⟩
      have hsp := hsp.keep ha eG182 (by decide)
      have hwk := hwk.keep ha eG182 (by decide)
      have hq := hq.keep ha eG182 (by omega)
      have hki := hki.keep ha eG182 (by omega)
      have hne := hne.keep ha eG182 (by omega)
      have hot := hot.keep ha eG182 (by omega)
      have hra := hra.keep ha eG182 (by omega)
      have hs := hs.keep ha eG182 (by decide)
      have hco := hco.keep ha eG182 (by decide)
      have hre := hre.keep ha eG182 (by decide)
      have hho := hho.keep ha eG182 (by decide)
      have hnw2156 := hnw2156.keep ha eG182 (by omega)
      have htn2157 := htn2157.keep ha eG182 (by omega)
      have hnsp2158 := hnsp2158.keep ha eG182 (by omega)
      have htsp2159 := htsp2159.keep ha eG182 (by omega)
      have hse2160 := hse2160.keep ha eG182 (by decide)
      have hstk2161 := hstk2161.keep ha eG182 (by decide)
      have hq183 := z_len eG182
      have hq184 := z_sl ha eG182 rfl
      have hfr := hfr.wr ha eG182 (by decide)
      have ha := ha.kept eG182
      change ab_W _ _ _ (List.set G179 a (ab_ob 11 [vR sp, vR wk, vR nw2156, vR tn2157, vR nsp2158, vR tsp2159, vz nc, vz 0, vR se2160, vz sta2166, vR stk2161, vz 0, vR q, vR s, vz hw, vz 1, vj stp])) 58 [some (vR a), some (vR q), some (vR s), some (vz hw), some (vz p), some (vR sp), none] [] _
      rw [← eG182]
      refine ab_iload d_TH_find_58 rfl ?_
      refine ab_istore d_TH_find_60 (Nat.le_of_ble_eq_true rfl) (Nat.le_of_ble_eq_true rfl) rfl ?_
      change ab_W _ _ _ G182 62 [some (vR a), some (vR q), some (vR s), some (vz hw), some (vz p), some (vR sp), some (vz p)] [] _
      refine y_TH_find_62 (q := q) (lq := lq) (ki := ki) (ne := ne) (ot := ot) (cnt := cnt) (fi := fi) (la := la) (ra := ra) (ru := ru) (gr := gr) (wi := wi) (sz := sz) (fl := fl) (ve := ve) (mi := mi) (na := na) (nl := nl) (K := K) (N := N) (O := O) (RR := RR) (nr := nr) (s := s) (by_ := by_) (co := co) (re := re) (ho := ho) (n := n) (C := C) (Rs := Rs) (H := H) (mc := mc) (a := a) (sp := sp) (wk := wk) (se := se2160) (stk := stk2161) (hw := hw) (fy := 1) (p := p) (G0 := G182) (nw := nw2156) (tn := tn2157) (nsp := nsp2158) (tsp := tsp2159) (nc := nc) (tc := 0) (sta := sta2166) (fo := 0) (stp := stp) (SP := SP) (WK := WK) (NW := NW2167) (TN := TN2168) (NS := NS2169) (TS := TS2170) (SE := SE2171) (SK := SK2172) (l1 := m1162) (l2 := m2_163) (l3 := m3164) (l4 := m4165) (i := p) (by omega) hp hr (by omega) hsu (by omega) (by omega) (by omega) (by omega) (by omega) (Int.toNat (n + 1 - p) + 1) ha hsp hwk hnw2156 htn2157 hnsp2158 htsp2159 hse2160 hstk2161 hq hki hne hot hra hs hco hre hho (by omega) (by omega) (by omega) (by omega) hq175 thos_0 thr_0 jsp spo_0 (by omega) fx.rf rfl rfl (by omega) (fun G185 nw2186 tn2187 nsp2188 tsp2189 m1190 m2_191 m3192 m4193 nc2194 tc2195 sta2196 fo2197 st2198 NW2199 TN2200 NS2201 TS2202 SE2203 SK2204 WK2205 SP2206 hNa hNsp hNwk hNnw2186 hNtn2187 hNnsp2188 hNtsp2189 hNse2160 hNstk2161 hq207 hq208 hq209 hq210 hq211 hq212 hfk hlk hsk => ?_)
      · have hq := hfk.get hq (by simp only [List.mem_cons, List.not_mem_nil, or_false]; omega)
        have hki := hfk.get hki (by simp only [List.mem_cons, List.not_mem_nil, or_false]; omega)
        have hne := hfk.get hne (by simp only [List.mem_cons, List.not_mem_nil, or_false]; omega)
        have hot := hfk.get hot (by simp only [List.mem_cons, List.not_mem_nil, or_false]; omega)
        have hra := hfk.get hra (by simp only [List.mem_cons, List.not_mem_nil, or_false]; omega)
        have hs := hfk.get hs (by decide)
        have hco := hfk.get hco (by decide)
        have hre := hfk.get hre (by decide)
        have hho := hfk.get hho (by decide)
        have hfr := hfr.tr hfk (by decide)
        have hq213 := hfk.1
        have hq214 := hlk
        have hq215 := hsk
        have ha := hNa
        have hsp := hNsp
        have hwk := hNwk
        have hnw2186 := hNnw2186
        have htn2187 := hNtn2187
        have hnsp2188 := hNnsp2188
        have htsp2189 := hNtsp2189
        have hse2160 := hNse2160
        have hstk2161 := hNstk2161
        change ab_W _ _ _ G185 157 [some (vR a), none, none, none, none, some (vR sp), none] [] _
        refine ab_aload_n d_TH_find_157 rfl ?_
        refine ab_getf (fs := [vR sp, vR wk, vR nw2186, vR tn2187, vR nsp2188, vR tsp2189, vz nc2194, vz tc2195, vR se2160, vz sta2196, vR stk2161, vz fo2197, vR q, vR s, vz hw, vz 1, vj st2198]) f_TH_61 d_TH_find_158 ha.2.2 rfl ?_
        refine zz_if_eq (tgt := 171) d_TH_find_161 (by decide) (by omega) (fun c216 => ?_) (fun c216 => ?_)
        · refine zz_iconst d_TH_find_171 ?_
          refine zz_iret rfl d_TH_find_172 ?_
          rw [hQ]; exact (Or.inl ⟨_, _, _, _, _, _, _, _, _, _, _, _, _, _, _, _, _, _, _, _, _, _, _, _, _, rfl, hfr, ha, hsp, hwk, hnw2186, htn2187, hnsp2188, htsp2189, hse2160, hstk2161, (by omega), (by omega), (by first | exact hq210 | exact rgs_w hq210 (by omega)), (by first | exact hq211 | exact rgs_w hq211 (by omega)), (by omega), (by omega), (by omega)⟩)
        · have jsq := hq212 (by omega)
          have js1 := jsq.1 1 (by omega) (by omega)
          have js2 := jsq.2.2
          refine ab_aload d_TH_find_164 rfl ?_
          refine zz_iconst d_TH_find_166 ?_
          refine zz_iald d_TH_find_167 hsp (by omega) ?_
          refine ab_goto (tgt := 172) d_TH_find_168 (by decide) ?_
          refine zz_iret rfl d_TH_find_172 ?_
          rw [hQ]; exact (Or.inr ⟨_, _, _, _, _, _, _, _, _, _, _, _, _, _, _, _, _, _, _, _, _, _, _, _, _, _, rfl, hfr, ha, hsp, hwk, hnw2186, htn2187, hnsp2188, htsp2189, hse2160, hstk2161, (by omega), (by omega), (by first | exact hq210 | exact rgs_w hq210 (by omega)), (by first | exact hq211 | exact rgs_w hq211 (by omega)), (by omega), (by omega), (by omega), (by omega), (by rfl), (by exact jsq.1), (by exact jsq.2.1)⟩)
