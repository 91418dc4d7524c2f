set_option maxRecDepth 100000 in
set_option maxHeartbeats 4000000 in
theorem z_TH_find {X : ab_X} {d : Nat} {o : Nat → Nat} {G : ab_G} {q : Nat} {lq : Nat} {ki : Nat} {ne : Nat} {ot : Nat} {cnt : Int} {fi : Int} {la : Int} {ra : Nat} {ru : Int} {gr : Int} {wi : Int} {sz : Int} {fl : Int} {ve : Int} {mi : Int} {na : Nat} {nl : Nat} {K : Int → Int} {N : Int → Int} {O : Int → Int} {RR : Int → Int} {nr : Nat} {s : Nat} {by_ : Nat} {co : Nat} {re : Nat} {ho : Nat} {n : Int} {f : Int → Int} {C : Int → Int} {Rs : Int → Int} {H : Int → Int} {m : Nat} {mc : Nat} {a : Nat} {sp : Nat} {wk : Nat} {nw : Nat} {tn : Nat} {nsp : Nat} {tsp : Nat} {se : Nat} {stk : Nat} {nc : Int} {tc : Int} {sta : Int} {hw : Int} {stp : Int} {SP : Int → Int} {WK : Int → Int} {NW : Int → Int} {TN : Int → Int} {NS : Int → Int} {TS : Int → Int} {SE : Int → Int} {SK : Int → Int} {l1 : Nat} {l2 : Nat} {l3 : Nat} {l4 : Nat} {sp0 : Value} {q0 : Value} {s0 : Value} {hw0 : Int} {fy0 : Int} {fo0 : Int} {p : Int} (ha : cc o G a 32 (ab_ob 11 [sp0, vR wk, vR nw, vR tn, vR nsp, vR tsp, vz nc, vz tc, vR se, vz sta, vR stk, vz fo0, q0, s0, vz hw0, vz fy0, vj stp])) (hsp : cc o G sp 31 (za 20 SP)) (hwk : cc o G wk 33 (za 20 WK)) (hnw : cc o G nw l1 (za 801 NW)) (htn : cc o G tn l2 (za 801 TN)) (hnsp : cc o G nsp l3 (za 16020 NS)) (htsp : cc o G tsp l4 (za 16020 TS)) (hse : cc o G se 39 (za 2048 SE)) (hstk : cc o G stk 40 (za 809 SK)) (hq : cc o G q lq (ab_ob 5 [vR ki, vR ne, vR ot, vz cnt, vz fi, vz la, vR ra, vz ru, vz gr, vz wi, vz sz, vz fl, vz ve, vz mi, vR na, vR nl])) (hki : cc o G ki (lq + 1) (za 808 K)) (hne : cc o G ne (lq + 2) (za 808 N)) (hot : cc o G ot (lq + 3) (za 808 O)) (hra : cc o G ra (lq + 4) (za nr RR)) (hs : cc o G s 26 (ab_ob 9 [vR by_, vR co, vR re, vR ho, vz n])) (hco : cc o G co 28 (za mc C)) (hre : cc o G re 29 (za mc Rs)) (hho : cc o G ho 30 (za mc H)) (cq : 100 ≤ lq ∧ 0 ≤ cnt ∧ cnt ≤ 808 ∧ ↑nr ≤ (100000 : Int)) (hp : prok K N O RR cnt ↑nr wi) (hr : ∀ k : Int, 0 ≤ k → k < ↑nr → 0 ≤ RR k ∧ RR k ≤ 1114111) (csu : 0 ≤ n ∧ n ≤ ↑m ∧ 32 ≤ m ∧ m ≤ 2000 ∧ mc = m + 1) (hsu : suok f C Rs H n) (cwi : 2 ≤ wi ∧ wi ≤ 20) (cfi : 0 ≤ fi ∧ fi < cnt) (cp : 0 ≤ p ∧ p ≤ n) (chw : 0 ≤ hw ∧ hw ≤ 2 ∧ 0 ≤ fl ∧ fl ≤ 31) (cl : l1 + l2 = 71 ∧ 35 ≤ l1 ∧ l1 ≤ 36 ∧ l3 + l4 = 75 ∧ 37 ≤ l3 ∧ l3 ≤ 38) (jse : rgs SE 2048 0 2100000000) (cst : 0 ≤ sta ∧ sta ≤ 2100000000) (jsp : rgs SP 20 (-1) 2000) (hd : 9 ≤ d) : ab_F X d y_TH_find (.code y_TH_find b_TH_find 7 (some (.int))) [vR a, vR q, vR s, vz hw, vz p, vR sp] G (fun oc G2 => (∃ nw2 : Nat, ∃ tn2 : Nat, ∃ nsp2 : Nat, ∃ tsp2 : Nat, ∃ m1 : Nat, ∃ m2_ : Nat, ∃ m3 : Nat, ∃ m4 : Nat, ∃ nc2 : Int, ∃ tc2 : Int, ∃ sta2 : Int, ∃ fo2 : Int, ∃ fy2 : Int, ∃ st2 : Int, ∃ NW2 : Int → Int, ∃ TN2 : Int → Int, ∃ NS2 : Int → Int, ∃ TS2 : Int → Int, ∃ SE2 : Int → Int, ∃ SK2 : Int → Int, ∃ WK2 : Int → Int, ∃ SP2 : Int → Int, oc = .returned (some (vz (-1))) ∧ fx o o [31, 32, 33, 35, 36, 37, 38, 39, 40] G G2 ∧ G2.length = G.length ∧ ab_slots G2 = ab_slots G ∧ cc o G2 a 32 (ab_ob 11 [vR sp, vR wk, vR nw2, vR tn2, vR nsp2, vR tsp2, vz nc2, vz tc2, vR se, vz sta2, vR stk, vz fo2, vR q, vR s, vz hw, vz fy2, vj st2]) ∧ cc o G2 sp 31 (za 20 SP2) ∧ cc o G2 wk 33 (za 20 WK2) ∧ cc o G2 nw2 m1 (za 801 NW2) ∧ cc o G2 tn2 m2_ (za 801 TN2) ∧ cc o G2 nsp2 m3 (za 16020 NS2) ∧ cc o G2 tsp2 m4 (za 16020 TS2) ∧ cc o G2 se 39 (za 2048 SE2) ∧ cc o G2 stk 40 (za 809 SK2) ∧ (m1 + m2_ = 71 ∧ 35 ≤ m1 ∧ m1 ≤ 36 ∧ m3 + m4 = 75 ∧ 37 ≤ m3 ∧ m3 ≤ 38) ∧ (0 ≤ sta2 ∧ sta2 ≤ 2100000000) ∧ (rgs SP2 20 (-1) 2000) ∧ (rgs SE2 2048 0 2100000000) ∧ (fo2 = 0)) ∨ (∃ nw2 : Nat, ∃ tn2 : Nat, ∃ nsp2 : Nat, ∃ tsp2 : Nat, ∃ m1 : Nat, ∃ m2_ : Nat, ∃ m3 : Nat, ∃ m4 : Nat, ∃ nc2 : Int, ∃ tc2 : Int, ∃ sta2 : Int, ∃ fo2 : Int, ∃ fy2 : Int, ∃ st2 : Int, ∃ NW2 : Int → Int, ∃ TN2 : Int → Int, ∃ NS2 : Int → Int, ∃ TS2 : Int → Int, ∃ SE2 : Int → Int, ∃ SK2 : Int → Int, ∃ WK2 : Int → Int, ∃ SP2 : Int → Int, ∃ r : Int, oc = .returned (some (vz r)) ∧ fx o o [31, 32, 33, 35, 36, 37, 38, 39, 40] G G2 ∧ G2.length = G.length ∧ ab_slots G2 = ab_slots G ∧ cc o G2 a 32 (ab_ob 11 [vR sp, vR wk, vR nw2, vR tn2, vR nsp2, vR tsp2, vz nc2, vz tc2, vR se, vz sta2, vR stk, vz fo2, vR q, vR s, vz hw, vz fy2, vj st2]) ∧ cc o G2 sp 31 (za 20 SP2) ∧ cc o G2 wk 33 (za 20 WK2) ∧ cc o G2 nw2 m1 (za 801 NW2) ∧ cc o G2 tn2 m2_ (za 801 TN2) ∧ cc o G2 nsp2 m3 (za 16020 NS2) ∧ cc o G2 tsp2 m4 (za 16020 TS2) ∧ cc o G2 se 39 (za 2048 SE2) ∧ cc o G2 stk 40 (za 809 SK2) ∧ (m1 + m2_ = 71 ∧ 35 ≤ m1 ∧ m1 ≤ 36 ∧ m3 + m4 = 75 ∧ 37 ≤ m3 ∧ m3 ≤ 38) ∧ (0 ≤ sta2 ∧ sta2 ≤ 2100000000) ∧ (rgs SP2 20 (-1) 2000) ∧ (rgs SE2 2048 0 2100000000) ∧ (fo2 = 1) ∧ (0 ≤ r ∧ r ≤ n) ∧ (r = SP2 1) ∧ (rgs SP2 wi (-1) n) ∧ (0 ≤ SP2 0))) := by
  refine ab_F_of (by decide +kernel) (Nat.le_of_ble_eq_true rfl) ?_
  obtain ⟨Q, hQ⟩ : ∃ z : Outcome → ab_G → Prop, z = (fun oc G2 => (∃ nw2 : Nat, ∃ tn2 : Nat, ∃ nsp2 : Nat, ∃ tsp2 : Nat, ∃ m1 : Nat, ∃ m2_ : Nat, ∃ m3 : Nat, ∃ m4 : Nat, ∃ nc2 : Int, ∃ tc2 : Int, ∃ sta2 : Int, ∃ fo2 : Int, ∃ fy2 : Int, ∃ st2 : Int, ∃ NW2 : Int → Int, ∃ TN2 : Int → Int, ∃ NS2 : Int → Int, ∃ TS2 : Int → Int, ∃ SE2 : Int → Int, ∃ SK2 : Int → Int, ∃ WK2 : Int → Int, ∃ SP2 : Int → Int, oc = .returned (some (vz (-1))) ∧ fx o o [31, 32, 33, 35, 36, 37, 38, 39, 40] G G2 ∧ G2.length = G.length ∧ ab_slots G2 = ab_slots G ∧ cc o G2 a 32 (ab_ob 11 [vR sp, vR wk, vR nw2, vR tn2, vR nsp2, vR tsp2, vz nc2, vz tc2, vR se, vz sta2, vR stk, vz fo2, vR q, vR s, vz hw, vz fy2, vj st2]) ∧ cc o G2 sp 31 (za 20 SP2) ∧ cc o G2 wk 33 (za 20 WK2) ∧ cc o G2 nw2 m1 (za 801 NW2) ∧ cc o G2 tn2 m2_ (za 801 TN2) ∧ cc o G2 nsp2 m3 (za 16020 NS2) ∧ cc o G2 tsp2 m4 (za 16020 TS2) ∧ cc o G2 se 39 (za 2048 SE2) ∧ cc o G2 stk 40 (za 809 SK2) ∧ (m1 + m2_ = 71 ∧ 35 ≤ m1 ∧ m1 ≤ 36 ∧ m3 + m4 = 75 ∧ 37 ≤ m3 ∧ m3 ≤ 38) ∧ (0 ≤ sta2 ∧ sta2 ≤ 2100000000) ∧ (rgs SP2 20 (-1) 2000) ∧ (rgs SE2 2048 0 2100000000) ∧ (fo2 = 0)) ∨ (∃ nw2 : Nat, ∃ tn2 : Nat, ∃ nsp2 : Nat, ∃ tsp2 : Nat, ∃ m1 : Nat, ∃ m2_ : Nat, ∃ m3 : Nat, ∃ m4 : Nat, ∃ nc2 : Int, ∃ tc2 : Int, ∃ sta2 : Int, ∃ fo2 : Int, ∃ fy2 : Int, ∃ st2 : Int, ∃ NW2 : Int → Int, ∃ TN2 : Int → Int, ∃ NS2 : Int → Int, ∃ TS2 : Int → Int, ∃ SE2 : Int → Int, ∃ SK2 : Int → Int, ∃ WK2 : Int → Int, ∃ SP2 : Int → Int, ∃ r : Int, oc = .returned (some (vz r)) ∧ fx o o [31, 32, 33, 35, 36, 37, 38, 39, 40] G G2 ∧ G2.length = G.length ∧ ab_slots G2 = ab_slots G ∧ cc o G2 a 32 (ab_ob 11 [vR sp, vR wk, vR nw2, vR tn2, vR nsp2, vR tsp2, vz nc2, vz tc2, vR se, vz sta2, vR stk, vz fo2, vR q, vR s, vz hw, vz fy2, vj st2]) ∧ cc o G2 sp 31 (za 20 SP2) ∧ cc o G2 wk 33 (za 20 WK2) ∧ cc o G2 nw2 m1 (za 801 NW2) ∧ cc o G2 tn2 m2_ (za 801 TN2) ∧ cc o G2 nsp2 m3 (za 16020 NS2) ∧ cc o G2 tsp2 m4 (za 16020 TS2) ∧ cc o G2 se 39 (za 2048 SE2) ∧ cc o G2 stk 40 (za 809 SK2) ∧ (m1 + m2_ = 71 ∧ 35 ≤ m1 ∧ m1 ≤ 36 ∧ m3 + m4 = 75 ∧ 37 ≤ m3 ∧ m3 ≤ 38) ∧ (0 ≤ sta2 ∧ sta2 ≤ 2100000000) ∧ (rgs SP2 20 (-1) 2000) ∧ (rgs SE2 2048 0 2100000000) ∧ (fo2 = 1) ∧ (0 ≤ r ∧ r ≤ n) ∧ (r = SP2 1) ∧ (rgs SP2 wi (-1) n) ∧ (0 ≤ SP2 0))) := ⟨_, rfl⟩
  rw [← hQ]
  change ab_W X (ab_pl y_TH_find b_TH_find 7 (some (.int))) d G 0 [some (vR a), some (vR q), some (vR s), some (vz hw), some (vz p), some (vR sp), none] [] Q
  have hfr : fx o o [31, 32, 33, 35, 36, 37, 38, 39, 40] G G := fx.rf
  have hlen : G.length = G.length := rfl
  have hsl : ab_slots G = ab_slots G := rfl
  refine ab_aload_n d_TH_find_0 rfl ?_
  refine ab_aload_n d_TH_find_1 rfl ?_
  refine ab_putf (fs := [sp0, vR wk, vR nw, vR tn, vR nsp, vR tsp, vz nc, vz tc, vR se, vz sta, vR stk, vz fo0, q0, s0, vz hw0, vz fy0, vj stp]) f_TH_36 (Or.inl rfl) d_TH_find_2 ha.2.2 (Nat.le_of_ble_eq_true rfl) (fun _ => ⟨rfl, rfl⟩) (ha.2.1 (by decide)) ?_
  obtain ⟨G1, eG1⟩ : ∃ z : ab_G, z = List.set G a (ab_ob 11 [sp0, vR wk, vR nw, vR tn, vR nsp, vR tsp, vz nc, vz tc, vR se, vz sta, vR stk, vz fo0, vR q, s0, vz hw0, vz fy0, vj stp]) := ⟨_, rfl⟩
  have hsp := hsp.keep ha eG1 (by decide)
  have hwk := hwk.keep ha eG1 (by decide)
  have hnw := hnw.keep ha eG1 (by omega)
  have htn := htn.keep ha eG1 (by omega)
  have hnsp := hnsp.keep ha eG1 (by omega)
  have htsp := htsp.keep ha eG1 (by omega)
  have hse := hse.keep ha eG1 (by decide)
  have hstk := hstk.keep ha eG1 (by decide)
  have hq := hq.keep ha eG1 (by omega)
  have hki := hki.keep ha eG1 (by omega)
  have hne := hne.keep ha eG1 (by omega)
  have hot := hot.keep ha eG1 (by omega)
  have hra := hra.keep ha eG1 (by omega)
  have hs := hs.keep ha eG1 (by decide)
  have hco := hco.keep ha eG1 (by decide)
  have hre := hre.keep ha eG1 (by decide)
  have hho := hho.keep ha eG1 (by decide)
  have hlen := (z_len eG1).trans hlen
  have hsl := (z_sl ha eG1 rfl).trans hsl
  have hfr := hfr.wr ha eG1 (by decide)
  have ha := ha.kept eG1
  change ab_W _ _ _ (List.set G a (ab_ob 11 [sp0, vR wk, vR nw, vR tn, vR nsp, vR tsp, vz nc, vz tc, vR se, vz sta, vR stk, vz fo0, vR q, s0, vz hw0, vz fy0, vj stp])) 5 [some (vR a), some (vR q), some (vR s), some (vz hw), some (vz p), some (vR sp), none] [] _
  rw [← eG1]
  refine ab_aload_n d_TH_find_5 rfl ?_
  refine ab_aload_n d_TH_find_6 rfl ?_
  refine ab_putf (fs := [sp0, vR wk, vR nw, vR tn, vR nsp, vR tsp, vz nc, vz tc, vR se, vz sta, vR stk, vz fo0, vR q, s0, vz hw0, vz fy0, vj stp]) f_TH_40 (Or.inl rfl) d_TH_find_7 ha.2.2 (Nat.le_of_ble_eq_true rfl) (fun _ => ⟨rfl, rfl⟩) (ha.2.1 (by decide)) ?_
  obtain ⟨G2, eG2⟩ : ∃ z : ab_G, z = List.set G1 a (ab_ob 11 [sp0, vR wk, vR nw, vR tn, vR nsp, vR tsp, vz nc, vz tc, vR se, vz sta, vR stk, vz fo0, vR q, vR s, vz hw0, vz fy0, vj stp]) := ⟨_, rfl⟩
  have hsp := hsp.keep ha eG2 (by decide)
  have hwk := hwk.keep ha eG2 (by decide)
  have hnw := hnw.keep ha eG2 (by omega)
  have htn := htn.keep ha eG2 (by omega)
  have hnsp := hnsp.keep ha eG2 (by omega)
  have htsp := htsp.keep ha eG2 (by omega)
  have hse := hse.keep ha eG2 (by decide)
  have hstk := hstk.keep ha eG2 (by decide)
  have hq := hq.keep ha eG2 (by omega)
  have hki := hki.keep ha eG2 (by omega)
  have hne := hne.keep ha eG2 (by omega)
  have hot := hot.keep ha eG2 (by omega)
  have hra := hra.keep ha eG2 (by omega)
  have hs := hs.keep ha eG2 (by decide)
  have hco := hco.keep ha eG2 (by decide)
  have hre := hre.keep ha eG2 (by decide)
  have hho := hho.keep ha eG2 (by decide)
  have hlen := (z_len eG2).trans hlen
  have hsl := (z_sl ha eG2 rfl).trans hsl
  have hfr := hfr.wr ha eG2 (by decide)
  have ha := ha.kept eG2
  change ab_W _ _ _ (List.set G1 a (ab_ob 11 [sp0, vR wk, vR nw, vR tn, vR nsp, vR tsp, vz nc, vz tc, vR se, vz sta, vR stk, vz fo0, vR q, vR s, vz hw0, vz fy0, vj stp])) 10 [some (vR a), some (vR q), some (vR s), some (vz hw), some (vz p), some (vR sp), none] [] _
  rw [← eG2]
  refine ab_aload_n d_TH_find_10 rfl ?_
  refine ab_iload_n d_TH_find_11 rfl ?_
  refine ab_putf (fs := [sp0, vR wk, vR nw, vR tn, vR nsp, vR tsp, vz nc, vz tc, vR se, vz sta, vR stk, vz fo0, vR q, vR s, vz hw0, vz fy0, vj stp]) f_TH_44 (Or.inl rfl) d_TH_find_12 ha.2.2 (Nat.le_of_ble_eq_true rfl) (fun _ => ⟨rfl, rfl⟩) (ha.2.1 (by decide)) ?_
  obtain ⟨G3, eG3⟩ : ∃ z : ab_G, z = List.set G2 a (ab_ob 11 [sp0, vR wk, vR nw, vR tn, vR nsp, vR tsp, vz nc, vz tc, vR se, vz sta, vR stk, vz fo0, vR q, vR s, vz hw, vz fy0, vj stp]) := ⟨_, rfl⟩
  have hsp := hsp.keep ha eG3 (by decide)
  have hwk := hwk.keep ha eG3 (by decide)
  have hnw := hnw.keep ha eG3 (by omega)
  have htn := htn.keep ha eG3 (by omega)
  have hnsp := hnsp.keep ha eG3 (by omega)
  have htsp := htsp.keep ha eG3 (by omega)
  have hse := hse.keep ha eG3 (by decide)
  have hstk := hstk.keep ha eG3 (by decide)
  have hq := hq.keep ha eG3 (by omega)
  have hki := hki.keep ha eG3 (by omega)
  have hne := hne.keep ha eG3 (by omega)
  have hot := hot.keep ha eG3 (by omega)
  have hra := hra.keep ha eG3 (by omega)
  have hs := hs.keep ha eG3 (by decide)
  have hco := hco.keep ha eG3 (by decide)
  have hre := hre.keep ha eG3 (by decide)
  have hho := hho.keep ha eG3 (by decide)
  have hlen := (z_len eG3).trans hlen
  have hsl := (z_sl ha eG3 rfl).trans hsl
  have hfr := hfr.wr ha eG3 (by decide)
  have ha := ha.kept eG3
  change ab_W _ _ _ (List.set G2 a (ab_ob 11 [sp0, vR wk, vR nw, vR tn, vR nsp, vR tsp, vz nc, vz tc, vR se, vz sta, vR stk, vz fo0, vR q, vR s, vz hw, vz fy0, vj stp])) 15 [some (vR a), some (vR q), some (vR s), some (vz hw), some (vz p), some (vR sp), none] [] _
  rw [← eG3]
  refine ab_aload_n d_TH_find_15 rfl ?_
  refine ab_aload d_TH_find_16 rfl ?_
  refine ab_putf (fs := [sp0, vR wk, vR nw, vR tn, vR nsp, vR tsp, vz nc, vz tc, vR se, vz sta, vR stk, vz fo0, vR q, vR s, vz hw, vz fy0, vj stp]) f_TH_9 (Or.inl rfl) d_TH_find_18 ha.2.2 (Nat.le_of_ble_eq_true rfl) (fun _ => ⟨rfl, rfl⟩) (ha.2.1 (by decide)) ?_
  obtain ⟨G4, eG4⟩ : ∃ z : ab_G, z = List.set G3 a (ab_ob 11 [vR sp, vR wk, vR nw, vR tn, vR nsp, vR tsp, vz nc, vz tc, vR se, vz sta, vR stk, vz fo0, vR q, vR s, vz hw, vz fy0, vj stp]) := ⟨_, rfl⟩
  have hsp := hsp.keep ha eG4 (by decide)
  have hwk := hwk.keep ha eG4 (by decide)
  have hnw := hnw.keep ha eG4 (by omega)
  have htn := htn.keep ha eG4 (by omega)
  have hnsp := hnsp.keep ha eG4 (by omega)
  have htsp := htsp.keep ha eG4 (by omega)
  have hse := hse.keep ha eG4 (by decide)
  have hstk := hstk.keep ha eG4 (by decide)
  have hq := hq.keep ha eG4 (by omega)
  have hki := hki.keep ha eG4 (by omega)
  have hne := hne.keep ha eG4 (by omega)
  have hot := hot.keep ha eG4 (by omega)
  have hra := hra.keep ha eG4 (by omega)
  have hs := hs.keep ha eG4 (by decide)
  have hco := hco.keep ha eG4 (by decide)
  have hre := hre.keep ha eG4 (by decide)
  have hho := hho.keep ha eG4 (by decide)
  have hlen := (z_len eG4).trans hlen
  have hsl := (z_sl ha eG4 rfl).trans hsl
  have hfr := hfr.wr ha eG4 (by decide)
  have ha := ha.kept eG4
  change ab_W _ _ _ (List.set G3 a (ab_ob 11 [vR sp, vR wk, vR nw, vR tn, vR nsp, vR tsp, vz nc, vz tc, vR se, vz sta, vR stk, vz fo0, vR q, vR s, vz hw, vz fy0, vj stp])) 21 [some (vR a), some (vR q), some (vR s), some (vz hw), some (vz p), some (vR sp), none] [] _
  rw [← eG4]
  refine ab_aload_n d_TH_find_21 rfl ?_
  refine ab_iload_n d_TH_find_22 rfl ?_
  refine zz_iconst d_TH_find_23 ?_
  refine zz_icmp_eq (tgt := 40) d_TH_find_24 (by decide) (by omega) (by decide) (fun c5 => ?_) (fun c5 => ?_)
  · refine zz_iconst d_TH_find_40 ?_
    refine ab_putf (fs := [vR sp, vR wk, vR nw, vR tn, vR nsp, vR tsp, vz nc, vz tc, vR se, vz sta, vR stk, vz fo0, vR q, vR s, vz hw, vz fy0, vj stp]) f_TH_54 (Or.inl rfl) d_TH_find_41 ha.2.2 (Nat.le_of_ble_eq_true rfl) (ab_fbz (by decide)) (ha.2.1 (by decide)) ?_
    obtain ⟨G6, eG6⟩ : ∃ z : ab_G, z = List.set G4 a (ab_ob 11 [vR sp, vR wk, vR nw, vR tn, vR nsp, vR tsp, vz nc, vz tc, vR se, vz sta, vR stk, vz fo0, vR q, vR s, vz hw, vz 0, vj stp]) := ⟨_, rfl⟩
    have hsp := hsp.keep ha eG6 (by decide)
    have hwk := hwk.keep ha eG6 (by decide)
    have hnw := hnw.keep ha eG6 (by omega)
    have htn := htn.keep ha eG6 (by omega)
    have hnsp := hnsp.keep ha eG6 (by omega)
    have htsp := htsp.keep ha eG6 (by omega)
    have hse := hse.keep ha eG6 (by decide)
    have hstk := hstk.keep ha eG6 (by decide)
    have hq := hq.keep ha eG6 (by omega)
    have hki := hki.keep ha eG6 (by omega)
    have hne := hne.keep ha eG6 (by omega)
    have hot := hot.keep ha eG6 (by omega)
    have hra := hra.keep ha eG6 (by omega)
    have hs := hs.keep ha eG6 (by decide)
    have hco := hco.keep ha eG6 (by decide)
    have hre := hre.keep ha eG6 (by decide)
    have hho := hho.keep ha eG6 (by decide)
    have hlen := (z_len eG6).trans hlen
    have hsl := (z_sl ha eG6 rfl).trans hsl
    have hfr := hfr.wr ha eG6 (by decide)
    have ha := ha.kept eG6
    change ab_W _ _ _ (List.set G4 a (ab_ob 11 [vR sp, vR wk, vR nw, vR tn, vR nsp, vR tsp, vz nc, vz tc, vR se, vz sta, vR stk, vz fo0, vR q, vR s, vz hw, vz 0, vj stp])) 44 [some (vR a), some (vR q), some (vR s), some (vz hw), some (vz p), some (vR sp), none] [] _
    rw [← eG6]
    refine ab_aload_n d_TH_find_44 rfl ?_
    refine ab_callV (d' := d - 1) (as := []) (st := []) (r := _) (z_TH_renewStamp (o := o) (a := a) (wk := wk) (nw := nw) (tn := tn) (nsp := nsp) (tsp := tsp) (se := se) (stk := stk) (nc := nc) (tc := tc) (sta := sta) (fo := fo0) (hw := hw) (fy := 0) (stp := stp) (SE := SE) (sp0 := vR sp) (q0 := vR q) (s0 := vR s) ha hse jse (by omega) (by omega)) (fun oc G2 h => by rcases h with ⟨_, _, h, _⟩ <;> exact ⟨_, h⟩) (by omega) m_TH_renewStamp ml_TH_58 im_TH_renewStamp se_TH_renewStamp c_TH ha.2.2 (Nat.le_of_ble_eq_true rfl) d_TH_find_45 rfl ?_
    intro v G7 hq
    rcases hq with ⟨sta28, SE29, hv, hfk, hlk, hsk, hNa, hNse, hq10, hq11⟩
    cases hv
    have hsp := hfk.get hsp (by decide)
    have hwk := hfk.get hwk (by decide)
    have hnw := hfk.get hnw (by simp only [List.mem_cons, List.not_mem_nil, or_false]; omega)
    have htn := hfk.get htn (by simp only [List.mem_cons, List.not_mem_nil, or_false]; omega)
    have hnsp := hfk.get hnsp (by simp only [List.mem_cons, List.not_mem_nil, or_false]; omega)
    have htsp := hfk.get htsp (by simp only [List.mem_cons, List.not_mem_nil, or_false]; omega)
    have hstk := hfk.get hstk (by decide)
    have hq := hfk.get hq (by simp only [List.mem_cons, List.not_mem_nil, or_false]; omega)
    have hki := hfk.get hki (by simp only [List.mem_cons, List.not_mem_nil, or_false]; omega)
    have hne := hfk.get hne (by simp only [List.mem_cons, List.not_mem_nil, or_false]; omega)
    have hot := hfk.get hot (by simp only [List.mem_cons, List.not_mem_nil, or_false]; omega)
    have hra := hfk.get hra (by simp only [List.mem_cons, List.not_mem_nil, or_false]; omega)
    have hs := hfk.get hs (by decide)
    have hco := hfk.get hco (by decide)
    have hre := hfk.get hre (by decide)
    have hho := hfk.get hho (by decide)
    have hfr := hfr.tr hfk (by decide)
    have hlen := hlk.trans hlen
    have hsl := hsk.trans hsl
    have ha := hNa
    have hse := hNse
    change ab_W _ _ _ G7 48 [some (vR a), some (vR q), some (vR s), some (vz hw), some (vz p), some (vR sp), none] [] _
    refine ab_aload_n d_TH_find_48 rfl ?_
    refine zz_iconst d_TH_find_49 ?_
    refine ab_putf (fs := [vR sp, vR wk, vR nw, vR tn, vR nsp, vR tsp, vz nc, vz tc, vR se, vz sta28, vR stk, vz fo0, vR q, vR s, vz hw, vz 0, vj stp]) f_TH_61 (Or.inl rfl) d_TH_find_50 ha.2.2 (Nat.le_of_ble_eq_true rfl) (ab_fbz (by decide)) (ha.2.1 (by decide)) ?_
    obtain ⟨G12, eG12⟩ : ∃ z : ab_G, z = List.set G7 a (ab_ob 11 [vR sp, vR wk, vR nw, vR tn, vR nsp, vR tsp, vz nc, vz tc, vR se, vz sta28, vR stk, vz 0, vR q, vR s, vz hw, vz 0, vj stp]) := ⟨_, rfl⟩
    have hsp := hsp.keep ha eG12 (by decide)
    have hwk := hwk.keep ha eG12 (by decide)
    have hnw := hnw.keep ha eG12 (by omega)
    have htn := htn.keep ha eG12 (by omega)
    have hnsp := hnsp.keep ha eG12 (by omega)
    have htsp := htsp.keep ha eG12 (by omega)
    have hse := hse.keep ha eG12 (by decide)
    have hstk := hstk.keep ha eG12 (by decide)
    have hq := hq.keep ha eG12 (by omega)
    have hki := hki.keep ha eG12 (by omega)
    have hne := hne.keep ha eG12 (by omega)
    have hot := hot.keep ha eG12 (by omega)
    have hra := hra.keep ha eG12 (by omega)
    have hs := hs.keep ha eG12 (by decide)
    have hco := hco.keep ha eG12 (by decide)
    have hre := hre.keep ha eG12 (by decide)
    have hho := hho.keep ha eG12 (by decide)
    have hlen := (z_len eG12).trans hlen
    have hsl := (z_sl ha eG12 rfl).trans hsl
    have hfr := hfr.wr ha eG12 (by decide)
    have ha := ha.kept eG12
    change ab_W _ _ _ (List.set G7 a (ab_ob 11 [vR sp, vR wk, vR nw, vR tn, vR nsp, vR tsp, vz nc, vz tc, vR se, vz sta28, vR stk, vz 0, vR q, vR s, vz hw, vz 0, vj stp])) 53 [some (vR a), some (vR q), some (vR s), some (vz hw), some (vz p), some (vR sp), none] [] _
    rw [← eG12]
    refine ab_aload_n d_TH_find_53 rfl ?_
    refine zz_iconst d_TH_find_54 ?_
    refine ab_putf (fs := [vR sp, vR wk, vR nw, vR tn, vR nsp, vR tsp, vz nc, vz tc, vR se, vz sta28, vR stk, vz 0, vR q, vR s, vz hw, vz 0, vj stp]) f_TH_64 (Or.inl rfl) d_TH_find_55 ha.2.2 (Nat.le_of_ble_eq_true rfl) (fun _ => ⟨rfl, rfl⟩) (ha.2.1 (by decide)) ?_
    obtain ⟨G13, eG13⟩ : ∃ z : ab_G, z = List.set G12 a (ab_ob 11 [vR sp, vR wk, vR nw, vR tn, vR nsp, vR tsp, vz nc, vz 0, vR se, vz sta28, vR stk, vz 0, vR q, vR s, vz hw, vz 0, vj stp]) := ⟨_, rfl⟩
    have hsp := hsp.keep ha eG13 (by decide)
    have hwk := hwk.keep ha eG13 (by decide)
    have hnw := hnw.keep ha eG13 (by omega)
    have htn := htn.keep ha eG13 (by omega)
    have hnsp := hnsp.keep ha eG13 (by omega)
    have htsp := htsp.keep ha eG13 (by omega)
    have hse := hse.keep ha eG13 (by decide)
    have hstk := hstk.keep ha eG13 (by decide)
    have hq := hq.keep ha eG13 (by omega)
    have hki := hki.keep ha eG13 (by omega)
    have hne := hne.keep ha eG13 (by omega)
    have hot := hot.keep ha eG13 (by omega)
    have hra := hra.keep ha eG13 (by omega)
    have hs := hs.keep ha eG13 (by decide)
    have hco := hco.keep ha eG13 (by decide)
    have hre := hre.keep ha eG13 (by decide)
    have hho := hho.keep ha eG13 (by decide)
    have hlen := (z_len eG13).trans hlen
    have hsl := (z_sl ha eG13 rfl).trans hsl
    have hfr := hfr.wr ha eG13 (by decide)
    have ha := ha.kept eG13
    change ab_W _ _ _ (List.set G12 a (ab_ob 11 [vR sp, vR wk, vR nw, vR tn, vR nsp, vR tsp, vz nc, vz 0, vR se, vz sta28, vR stk, vz 0, vR q, vR s, vz hw, vz 0, vj stp])) 58 [some (vR a), some (vR q), some (vR s), some (vz hw), some (vz p), some (vR sp), none] [] _
    rw [← eG13]
    refine ab_iload d_TH_find_58 rfl ?_
    refine ab_istore d_TH_find_60 (Nat.le_of_ble_eq_true rfl) (Nat.le_of_ble_eq_true rfl) rfl ?_
    change ab_W _ _ _ G13 62 [some (vR a), some (vR q), some (vR s), some (vz hw), some (vz p), some (vR sp), some (vz p)] [] _
    refine y_TH_find_62 (q := q) (lq := lq) (ki := ki) (ne := ne) (ot := ot) (cnt := cnt) (fi := fi) (la := la) (ra := ra) (ru := ru) (gr := gr) (wi := wi) (sz := sz) (fl := fl) (ve := ve) (mi := mi) (na := na) (nl := nl) (K := K) (N := N) (O := O) (RR := RR) (nr := nr) (s := s) (by_ := by_) (co := co) (re := re) (ho := ho) (n := n) (C := C) (Rs := Rs) (H := H) (mc := mc) (a := a) (sp := sp) (wk := wk) (se := se) (stk := stk) (hw := hw) (fy := 0) (p := p) (G0 := G13) (nw := nw) (tn := tn) (nsp := nsp) (tsp := tsp) (nc := nc) (tc := 0) (sta := sta28) (fo := 0) (stp := stp) (SP := SP) (WK := WK) (NW := NW) (TN := TN) (NS := NS) (TS := TS) (SE := SE29) (SK := SK) (l1 := l1) (l2 := l2) (l3 := l3) (l4 := l4) (i := p) (by omega) hp hr (by omega) hsu (by omega) (by omega) (by omega) (by omega) (by omega) (Int.toNat (n + 1 - p) + 1) ha hsp hwk hnw htn hnsp htsp hse hstk hq hki hne hot hra hs hco hre hho (by omega) (by omega) (by omega) (by omega) hq11 thos_0 thr_0 jsp spo_0 (by omega) fx.rf rfl rfl (by omega) (fun G14 nw215 tn216 nsp217 tsp218 m119 m2_20 m321 m422 nc223 tc224 sta225 fo226 st227 NW228 TN229 NS230 TS231 SE232 SK233 WK234 SP235 hNa hNsp hNwk hNnw215 hNtn216 hNnsp217 hNtsp218 hNse hNstk hq36 hq37 hq38 hq39 hq40 hq41 hfk hlk hsk => ?_)
    · have hq := hfk.get hq (by simp only [List.mem_cons, List.not_mem_nil, or_false]; omega)
      have hki := hfk.get hki (by simp only [List.mem_cons, List.not_mem_nil, or_false]; omega)
      have hne := hfk.get hne (by simp only [List.mem_cons, List.not_mem_nil, or_false]; omega)
      have hot := hfk.get hot (by simp only [List.mem_cons, List.not_mem_nil, or_false]; omega)
      have hra := hfk.get hra (by simp only [List.mem_cons, List.not_mem_nil, or_false]; omega)
      have hs := hfk.get hs (by decide)
      have hco := hfk.get hco (by decide)
      have hre := hfk.get hre (by decide)
      have hho := hfk.get hho (by decide)
      have hfr := hfr.tr hfk (by decide)
      have hlen := hlk.trans hlen
      have hsl := hsk.trans hsl
      have ha := hNa
      have hsp := hNsp
      have hwk := hNwk
      have hnw215 := hNnw215
      have htn216 := hNtn216
      have hnsp217 := hNnsp217
      have htsp218 := hNtsp218
      have hse := hNse
      have hstk := hNstk
      change ab_W _ _ _ G14 157 [some (vR a), none, none, none, none, some (vR sp), none] [] _
      refine ab_aload_n d_TH_find_157 rfl ?_
      refine ab_getf (fs := [vR sp, vR wk, vR nw215, vR tn216, vR nsp217, vR tsp218, vz nc223, vz tc224, vR se, vz sta225, vR stk, vz fo226, vR q, vR s, vz hw, vz 0, vj st227]) f_TH_61 d_TH_find_158 ha.2.2 rfl ?_
      refine zz_if_eq (tgt := 171) d_TH_find_161 (by decide) (by omega) (fun c42 => ?_) (fun c42 => ?_)
      · refine zz_iconst d_TH_find_171 ?_
        refine zz_iret rfl d_TH_find_172 ?_
        rw [hQ]; exact (Or.inl ⟨_, _, _, _, _, _, _, _, _, _, _, _, _, _, _, _, _, _, _, _, _, _, rfl, hfr, hlen, hsl, ha, hsp, hwk, hnw215, htn216, hnsp217, htsp218, hse, hstk, (by omega), (by omega), (by first | exact hq39 | exact rgs_w hq39 (by omega)), (by first | exact hq40 | exact rgs_w hq40 (by omega)), (by omega)⟩)
      · have jsq := hq41 (by omega)
        have js1 := jsq.1 1 (by omega) (by omega)
        have js2 := jsq.2.2
        refine ab_aload d_TH_find_164 rfl ?_
        refine zz_iconst d_TH_find_166 ?_
        refine zz_iald d_TH_find_167 hsp (by omega) ?_
        refine ab_goto (tgt := 172) d_TH_find_168 (by decide) ?_
        refine zz_iret rfl d_TH_find_172 ?_
        rw [hQ]; exact (Or.inr ⟨_, _, _, _, _, _, _, _, _, _, _, _, _, _, _, _, _, _, _, _, _, _, _, rfl, hfr, hlen, hsl, ha, hsp, hwk, hnw215, htn216, hnsp217, htsp218, hse, hstk, (by omega), (by omega), (by first | exact hq39 | exact rgs_w hq39 (by omega)), (by first | exact hq40 | exact rgs_w hq40 (by omega)), (by omega), (by omega), (by rfl), (by exact jsq.1), (by exact jsq.2.1)⟩)
  · refine ab_aload_n d_TH_find_27 rfl ?_
    refine zz_bipush d_TH_find_28 (by decide) ?_
    refine ab_callV (d' := d - 1) (as := [vz 16]) (st := [vR a]) (r := _) (z_PR_isOn (o := o) (q := q) (lq := lq) (ki := ki) (ne := ne) (ot := ot) (cnt := cnt) (fi := fi) (la := la) (ra := ra) (ru := ru) (gr := gr) (wi := wi) (sz := sz) (fl := fl) (ve := ve) (mi := mi) (na := na) (nl := nl) hq (by omega)) (fun oc G2 h => by rcases h with ⟨h, _⟩ | ⟨h, _⟩ <;> exact ⟨_, h⟩) (by omega) m_PR_isOn ml_TH_48 im_PR_isOn se_PR_isOn c_PR hq.2.2 (Nat.le_of_ble_eq_true rfl) d_TH_find_30 rfl ?_
    intro v G43 hq
    rcases hq with ⟨hv, hGe, hq44⟩ | ⟨hv, hGe, hq45⟩
    · cases hv
      rw [hGe]
      change ab_W _ _ _ G4 33 [some (vR a), some (vR q), some (vR s), some (vz hw), some (vz p), some (vR sp), none] [vz 1, vR a] _
      refine zz_if_ne (tgt := 40) d_TH_find_33 (by decide) (by decide) (fun c46 => ?_) (fun c46 => absurd c46 (by decide))
      refine zz_iconst d_TH_find_40 ?_
      refine ab_putf (fs := [vR sp, vR wk, vR nw, vR tn, vR nsp, vR tsp, vz nc, vz tc, vR se, vz sta, vR stk, vz fo0, vR q, vR s, vz hw, vz fy0, vj stp]) f_TH_54 (Or.inl rfl) d_TH_find_41 ha.2.2 (Nat.le_of_ble_eq_true rfl) (ab_fbz (by decide)) (ha.2.1 (by decide)) ?_
      obtain ⟨G47, eG47⟩ : ∃ z : ab_G, z = List.set G4 a (ab_ob 11 [vR sp, vR wk, vR nw, vR tn, vR nsp, vR tsp, vz nc, vz tc, vR se, vz sta, vR stk, vz fo0, vR q, vR s, vz hw, vz 0, vj stp]) := ⟨_, rfl⟩
      have hsp := hsp.keep ha eG47 (by decide)
      have hwk := hwk.keep ha eG47 (by decide)
      have hnw := hnw.keep ha eG47 (by omega)
      have htn := htn.keep ha eG47 (by omega)
      have hnsp := hnsp.keep ha eG47 (by omega)
      have htsp := htsp.keep ha eG47 (by omega)
      have hse := hse.keep ha eG47 (by decide)
      have hstk := hstk.keep ha eG47 (by decide)
      have hq := hq.keep ha eG47 (by omega)
      have hki := hki.keep ha eG47 (by omega)
      have hne := hne.keep ha eG47 (by omega)
      have hot := hot.keep ha eG47 (by omega)
      have hra := hra.keep ha eG47 (by omega)
      have hs := hs.keep ha eG47 (by decide)
      have hco := hco.keep ha eG47 (by decide)
      have hre := hre.keep ha eG47 (by decide)
      have hho := hho.keep ha eG47 (by decide)
      have hlen := (z_len eG47).trans hlen
      have hsl := (z_sl ha eG47 rfl).trans hsl
      have hfr := hfr.wr ha eG47 (by decide)
      have ha := ha.kept eG47
      change ab_W _ _ _ (List.set G4 a (ab_ob 11 [vR sp, vR wk, vR nw, vR tn, vR nsp, vR tsp, vz nc, vz tc, vR se, vz sta, vR stk, vz fo0, vR q, vR s, vz hw, vz 0, vj stp])) 44 [some (vR a), some (vR q), some (vR s), some (vz hw), some (vz p), some (vR sp), none] [] _
      rw [← eG47]
      refine ab_aload_n d_TH_find_44 rfl ?_
      refine ab_callV (d' := d - 1) (as := []) (st := []) (r := _) (z_TH_renewStamp (o := o) (a := a) (wk := wk) (nw := nw) (tn := tn) (nsp := nsp) (tsp := tsp) (se := se) (stk := stk) (nc := nc) (tc := tc) (sta := sta) (fo := fo0) (hw := hw) (fy := 0) (stp := stp) (SE := SE) (sp0 := vR sp) (q0 := vR q) (s0 := vR s) ha hse jse (by omega) (by omega)) (fun oc G2 h => by rcases h with ⟨_, _, h, _⟩ <;> exact ⟨_, h⟩) (by omega) m_TH_renewStamp ml_TH_58 im_TH_renewStamp se_TH_renewStamp c_TH ha.2.2 (Nat.le_of_ble_eq_true rfl) d_TH_find_45 rfl ?_
      intro v G48 hq
      rcases hq with ⟨sta249, SE250, hv, hfk, hlk, hsk, hNa, hNse, hq51, hq52⟩
      cases hv
      have hsp := hfk.get hsp (by decide)
      have hwk := hfk.get hwk (by decide)
      have hnw := hfk.get hnw (by simp only [List.mem_cons, List.not_mem_nil, or_false]; omega)
      have htn := hfk.get htn (by simp only [List.mem_cons, List.not_mem_nil, or_false]; omega)
      have hnsp := hfk.get hnsp (by simp only [List.mem_cons, List.not_mem_nil, or_false]; omega)
      have htsp := hfk.get htsp (by simp only [List.mem_cons, List.not_mem_nil, or_false]; omega)
      have hstk := hfk.get hstk (by decide)
      have hq := hfk.get hq (by simp only [List.mem_cons, List.not_mem_nil, or_false]; omega)
      have hki := hfk.get hki (by simp only [List.mem_cons, List.not_mem_nil, or_false]; omega)
      have hne := hfk.get hne (by simp only [List.mem_cons, List.not_mem_nil, or_false]; omega)
      have hot := hfk.get hot (by simp only [List.mem_cons, List.not_mem_nil, or_false]; omega)
      have hra := hfk.get hra (by simp only [List.mem_cons, List.not_mem_nil, or_false]; omega)
      have hs := hfk.get hs (by decide)
      have hco := hfk.get hco (by decide)
      have hre := hfk.get hre (by decide)
      have hho := hfk.get hho (by decide)
      have hfr := hfr.tr hfk (by decide)
      have hlen := hlk.trans hlen
      have hsl := hsk.trans hsl
      have ha := hNa
      have hse := hNse
      change ab_W _ _ _ G48 48 [some (vR a), some (vR q), some (vR s), some (vz hw), some (vz p), some (vR sp), none] [] _
      refine ab_aload_n d_TH_find_48 rfl ?_
      refine zz_iconst d_TH_find_49 ?_
      refine ab_putf (fs := [vR sp, vR wk, vR nw, vR tn, vR nsp, vR tsp, vz nc, vz tc, vR se, vz sta249, vR stk, vz fo0, vR q, vR s, vz hw, vz 0, vj stp]) f_TH_61 (Or.inl rfl) d_TH_find_50 ha.2.2 (Nat.le_of_ble_eq_true rfl) (ab_fbz (by decide)) (ha.2.1 (by decide)) ?_
      obtain ⟨G53, eG53⟩ : ∃ z : ab_G, z = List.set G48 a (ab_ob 11 [vR sp, vR wk, vR nw, vR tn, vR nsp, vR tsp, vz nc, vz tc, vR se, vz sta249, vR stk, vz 0, vR q, vR s, vz hw, vz 0, vj stp]) := ⟨_, rfl⟩
      have hsp := hsp.keep ha eG53 (by decide)
      have hwk := hwk.keep ha eG53 (by decide)
      have hnw := hnw.keep ha eG53 (by omega)
      have htn := htn.keep ha eG53 (by omega)
      have hnsp := hnsp.keep ha eG53 (by omega)
      have htsp := htsp.keep ha eG53 (by omega)
      have hse := hse.keep ha eG53 (by decide)
      have hstk := hstk.keep ha eG53 (by decide)
      have hq := hq.keep ha eG53 (by omega)
      have hki := hki.keep ha eG53 (by omega)
      have hne := hne.keep ha eG53 (by omega)
      have hot := hot.keep ha eG53 (by omega)
      have hra := hra.keep ha eG53 (by omega)
      have hs := hs.keep ha eG53 (by decide)
      have hco := hco.keep ha eG53 (by decide)
      have hre := hre.keep ha eG53 (by decide)
      have hho := hho.keep ha eG53 (by decide)
      have hlen := (z_len eG53).trans hlen
      have hsl := (z_sl ha eG53 rfl).trans hsl
      have hfr := hfr.wr ha eG53 (by decide)
      have ha := ha.kept eG53
      change ab_W _ _ _ (List.set G48 a (ab_ob 11 [vR sp, vR wk, vR nw, vR tn, vR nsp, vR tsp, vz nc, vz tc, vR se, vz sta249, vR stk, vz 0, vR q, vR s, vz hw, vz 0, vj stp])) 53 [some (vR a), some (vR q), some (vR s), some (vz hw), some (vz p), some (vR sp), none] [] _
      rw [← eG53]
      refine ab_aload_n d_TH_find_53 rfl ?_
      refine zz_iconst d_TH_find_54 ?_
      refine ab_putf (fs := [vR sp, vR wk, vR nw, vR tn, vR nsp, vR tsp, vz nc, vz tc, vR se, vz sta249, vR stk, vz 0, vR q, vR s, vz hw, vz 0, vj stp]) f_TH_64 (Or.inl rfl) d_TH_find_55 ha.2.2 (Nat.le_of_ble_eq_true rfl) (fun _ => ⟨rfl, rfl⟩) (ha.2.1 (by decide)) ?_
      obtain ⟨G54, eG54⟩ : ∃ z : ab_G, z = List.set G53 a (ab_ob 11 [vR sp, vR wk, vR nw, vR tn, vR nsp, vR tsp, vz nc, vz 0, vR se, vz sta249, vR stk, vz 0, vR q, vR s, vz hw, vz 0, vj stp]) := ⟨_, rfl⟩
      have hsp := hsp.keep ha eG54 (by decide)
      have hwk := hwk.keep ha eG54 (by decide)
      have hnw := hnw.keep ha eG54 (by omega)
      have htn := htn.keep ha eG54 (by omega)
      have hnsp := hnsp.keep ha eG54 (by omega)
      have htsp := htsp.keep ha eG54 (by omega)
      have hse := hse.keep ha eG54 (by decide)
      have hstk := hstk.keep ha eG54 (by decide)
      have hq := hq.keep ha eG54 (by omega)
      have hki := hki.keep ha eG54 (by omega)
      have hne := hne.keep ha eG54 (by omega)
      have hot := hot.keep ha eG54 (by omega)
      have hra := hra.keep ha eG54 (by omega)
      have hs := hs.keep ha eG54 (by decide)
      have hco := hco.keep ha eG54 (by decide)
      have hre := hre.keep ha eG54 (by decide)
      have hho := hho.keep ha eG54 (by decide)
      have hlen := (z_len eG54).trans hlen
      have hsl := (z_sl ha eG54 rfl).trans hsl
      have hfr := hfr.wr ha eG54 (by decide)
      have ha := ha.kept eG54
      change ab_W _ _ _ (List.set G53 a (ab_ob 11 [vR sp, vR wk, vR nw, vR tn, vR nsp, vR tsp, vz nc, vz 0, vR se, vz sta249, vR stk, vz 0, vR q, vR s, vz hw, vz 0, vj stp])) 58 [some (vR a), some (vR q), some (vR s), some (vz hw), some (vz p), some (vR sp), none] [] _
      rw [← eG54]
      refine ab_iload d_TH_find_58 rfl ?_
      refine ab_istore d_TH_find_60 (Nat.le_of_ble_eq_true rfl) (Nat.le_of_ble_eq_true rfl) rfl ?_
      change ab_W _ _ _ G54 62 [some (vR a), some (vR q), some (vR s), some (vz hw), some (vz p), some (vR sp), some (vz p)] [] _
      refine y_TH_find_62 (q := q) (lq := lq) (ki := ki) (ne := ne) (ot := ot) (cnt := cnt) (fi := fi) (la := la) (ra := ra) (ru := ru) (gr := gr) (wi := wi) (sz := sz) (fl := fl) (ve := ve) (mi := mi) (na := na) (nl := nl) (K := K) (N := N) (O := O) (RR := RR) (nr := nr) (s := s) (by_ := by_) (co := co) (re := re) (ho := ho) (n := n) (C := C) (Rs := Rs) (H := H) (mc := mc) (a := a) (sp := sp) (wk := wk) (se := se) (stk := stk) (hw := hw) (fy := 0) (p := p) (G0 := G54) (nw := nw) (tn := tn) (nsp := nsp) (tsp := tsp) (nc := nc) (tc := 0) (sta := sta249) (fo := 0) (stp := stp) (SP := SP) (WK := WK) (NW := NW) (TN := TN) (NS := NS) (TS := TS) (SE := SE250) (SK := SK) (l1 := l1) (l2 := l2) (l3 := l3) (l4 := l4) (i := p) (by omega) hp hr (by omega) hsu (by omega) (by omega) (by omega) (by omega) (by omega) (Int.toNat (n + 1 - p) + 1) ha hsp hwk hnw htn hnsp htsp hse hstk hq hki hne hot hra hs hco hre hho (by omega) (by omega) (by omega) (by omega) hq52 thos_0 thr_0 jsp spo_0 (by omega) fx.rf rfl rfl (by omega) (fun G55 nw256 tn257 nsp258 tsp259 m160 m2_61 m362 m463 nc264 tc265 sta266 fo267 st268 NW269 TN270 NS271 TS272 SE273 SK274 WK275 SP276 hNa hNsp hNwk hNnw256 hNtn257 hNnsp258 hNtsp259 hNse hNstk hq77 hq78 hq79 hq80 hq81 hq82 hfk hlk hsk => ?_)
      · have hq := hfk.get hq (by simp only [List.mem_cons, List.not_mem_nil, or_false]; omega)
        have hki := hfk.get hki (by simp only [List.mem_cons, List.not_mem_nil, or_false]; omega)
        have hne := hfk.get hne (by simp only [List.mem_cons, List.not_mem_nil, or_false]; omega)
        have hot := hfk.get hot (by simp only [List.mem_cons, List.not_mem_nil, or_false]; omega)
        have hra := hfk.get hra (by simp only [List.mem_cons, List.not_mem_nil, or_false]; omega)
        have hs := hfk.get hs (by decide)
        have hco := hfk.get hco (by decide)
        have hre := hfk.get hre (by decide)
        have hho := hfk.get hho (by decide)
        have hfr := hfr.tr hfk (by decide)
        have hlen := hlk.trans hlen
        have hsl := hsk.trans hsl
        have ha := hNa
        have hsp := hNsp
        have hwk := hNwk
        have hnw256 := hNnw256
        have htn257 := hNtn257
        have hnsp258 := hNnsp258
        have htsp259 := hNtsp259
        have hse := hNse
        have hstk := hNstk
        change ab_W _ _ _ G55 157 [some (vR a), none, none, none, none, some (vR sp), none] [] _
        refine ab_aload_n d_TH_find_157 rfl ?_
        refine ab_getf (fs := [vR sp, vR wk, vR nw256, vR tn257, vR nsp258, vR tsp259, vz nc264, vz tc265, vR se, vz sta266, vR stk, vz fo267, vR q, vR s, vz hw, vz 0, vj st268]) f_TH_61 d_TH_find_158 ha.2.2 rfl ?_
        refine zz_if_eq (tgt := 171) d_TH_find_161 (by decide) (by omega) (fun c83 => ?_) (fun c83 => ?_)
        · refine zz_iconst d_TH_find_171 ?_
          refine zz_iret rfl d_TH_find_172 ?_
          rw [hQ]; exact (Or.inl ⟨_, _, _, _, _, _, _, _, _, _, _, _, _, _, _, _, _, _, _, _, _, _, rfl, hfr, hlen, hsl, ha, hsp, hwk, hnw256, htn257, hnsp258, htsp259, hse, hstk, (by omega), (by omega), (by first | exact hq80 | exact rgs_w hq80 (by omega)), (by first | exact hq81 | exact rgs_w hq81 (by omega)), (by omega)⟩)
        · have jsq := hq82 (by omega)
          have js1 := jsq.1 1 (by omega) (by omega)
          have js2 := jsq.2.2
          refine ab_aload d_TH_find_164 rfl ?_
          refine zz_iconst d_TH_find_166 ?_
          refine zz_iald d_TH_find_167 hsp (by omega) ?_
          refine ab_goto (tgt := 172) d_TH_find_168 (by decide) ?_
          refine zz_iret rfl d_TH_find_172 ?_
          rw [hQ]; exact (Or.inr ⟨_, _, _, _, _, _, _, _, _, _, _, _, _, _, _, _, _, _, _, _, _, _, _, rfl, hfr, hlen, hsl, ha, hsp, hwk, hnw256, htn257, hnsp258, htsp259, hse, hstk, (by omega), (by omega), (by first | exact hq80 | exact rgs_w hq80 (by omega)), (by first | exact hq81 | exact rgs_w hq81 (by omega)), (by omega), (by omega), (by rfl), (by exact jsq.1), (by exact jsq.2.1)⟩)
    · cases hv
      rw [hGe]
      change ab_W _ _ _ G4 33 [some (vR a), some (vR q), some (vR s), some (vz hw), some (vz p), some (vR sp), none] [vz 0, vR a] _
      refine zz_if_ne (tgt := 40) d_TH_find_33 (by decide) (by decide) (fun c84 => absurd c84 (by decide)) (fun c84 => ?_)
      refine zz_iconst d_TH_find_36 ?_
      refine ab_goto (tgt := 41) d_TH_find_37 (by decide) ?_
      refine ab_putf (fs := [vR sp, vR wk, vR nw, vR tn, vR nsp, vR tsp, vz nc, vz tc, vR se, vz sta, vR stk, vz fo0, vR q, vR s, vz hw, vz fy0, vj stp]) f_TH_54 (Or.inl rfl) d_TH_find_41 ha.2.2 (Nat.le_of_ble_eq_true rfl) (ab_fbz (by decide)) (ha.2.1 (by decide)) ?_
      obtain ⟨G85, eG85⟩ : ∃ z : ab_G, z = List.set G4 a (ab_ob 11 [vR sp, vR wk, vR nw, vR tn, vR nsp, vR tsp, vz nc, vz tc, vR se, vz sta, vR stk, vz fo0, vR q, vR s, vz hw, vz 1, vj stp]) := ⟨_, rfl⟩
      have hsp := hsp.keep ha eG85 (by decide)
      have hwk := hwk.keep ha eG85 (by decide)
      have hnw := hnw.keep ha eG85 (by omega)
      have htn := htn.keep ha eG85 (by omega)
      have hnsp := hnsp.keep ha eG85 (by omega)
      have htsp := htsp.keep ha eG85 (by omega)
      have hse := hse.keep ha eG85 (by decide)
      have hstk := hstk.keep ha eG85 (by decide)
      have hq := hq.keep ha eG85 (by omega)
      have hki := hki.keep ha eG85 (by omega)
      have hne := hne.keep ha eG85 (by omega)
      have hot := hot.keep ha eG85 (by omega)
      have hra := hra.keep ha eG85 (by omega)
      have hs := hs.keep ha eG85 (by decide)
      have hco := hco.keep ha eG85 (by decide)
      have hre := hre.keep ha eG85 (by decide)
      have hho := hho.keep ha eG85 (by decide)
      have hlen := (z_len eG85).trans hlen
      have hsl := (z_sl ha eG85 rfl).trans hsl
      have hfr := hfr.wr ha eG85 (by decide)
      have ha := ha.kept eG85
      change ab_W _ _ _ (List.set G4 a (ab_ob 11 [vR sp, vR wk, vR nw, vR tn, vR nsp, vR tsp, vz nc, vz tc, vR se, vz sta, vR stk, vz fo0, vR q, vR s, vz hw, vz 1, vj stp])) 44 [some (vR a), some (vR q), some (vR s), some (vz hw), some (vz p), some (vR sp), none] [] _
      rw [← eG85]
      refine ab_aload_n d_TH_find_44 rfl ?_
      refine ab_callV (d' := d - 1) (as := []) (st := []) (r := _) (z_TH_renewStamp (o := o) (a := a) (wk := wk) (nw := nw) (tn := tn) (nsp := nsp) (tsp := tsp) (se := se) (stk := stk) (nc := nc) (tc := tc) (sta := sta) (fo := fo0) (hw := hw) (fy := 1) (stp := stp) (SE := SE) (sp0 := vR sp) (q0 := vR q) (s0 := vR s) ha hse jse (by omega) (by omega)) (fun oc G2 h => by rcases h with ⟨_, _, h, _⟩ <;> exact ⟨_, h⟩) (by omega) m_TH_renewStamp ml_TH_58 im_TH_renewStamp se_TH_renewStamp c_TH ha.2.2 (Nat.le_of_ble_eq_true rfl) d_TH_find_45 rfl ?_
      intro v G86 hq
      rcases hq with ⟨sta287, SE288, hv, hfk, hlk, hsk, hNa, hNse, hq89, hq90⟩
      cases hv
      have hsp := hfk.get hsp (by decide)
      have hwk := hfk.get hwk (by decide)
      have hnw := hfk.get hnw (by simp only [List.mem_cons, List.not_mem_nil, or_false]; omega)
      have htn := hfk.get htn (by simp only [List.mem_cons, List.not_mem_nil, or_false]; omega)
      have hnsp := hfk.get hnsp (by simp only [List.mem_cons, List.not_mem_nil, or_false]; omega)
      have htsp := hfk.get htsp (by simp only [List.mem_cons, List.not_mem_nil, or_false]; omega)
      have hstk := hfk.get hstk (by decide)
      have hq := hfk.get hq (by simp only [List.mem_cons, List.not_mem_nil, or_false]; omega)
      have hki := hfk.get hki (by simp only [List.mem_cons, List.not_mem_nil, or_false]; omega)
      have hne := hfk.get hne (by simp only [List.mem_cons, List.not_mem_nil, or_false]; omega)
      have hot := hfk.get hot (by simp only [List.mem_cons, List.not_mem_nil, or_false]; omega)
      have hra := hfk.get hra (by simp only [List.mem_cons, List.not_mem_nil, or_false]; omega)
      have hs := hfk.get hs (by decide)
      have hco := hfk.get hco (by decide)
      have hre := hfk.get hre (by decide)
      have hho := hfk.get hho (by decide)
      have hfr := hfr.tr hfk (by decide)
      have hlen := hlk.trans hlen
      have hsl := hsk.trans hsl
      have ha := hNa
      have hse := hNse
      change ab_W _ _ _ G86 48 [some (vR a), some (vR q), some (vR s), some (vz hw), some (vz p), some (vR sp), none] [] _
      refine ab_aload_n d_TH_find_48 rfl ?_
      refine zz_iconst d_TH_find_49 ?_
      refine ab_putf (fs := [vR sp, vR wk, vR nw, vR tn, vR nsp, vR tsp, vz nc, vz tc, vR se, vz sta287, vR stk, vz fo0, vR q, vR s, vz hw, vz 1, vj stp]) f_TH_61 (Or.inl rfl) d_TH_find_50 ha.2.2 (Nat.le_of_ble_eq_true rfl) (ab_fbz (by decide)) (ha.2.1 (by decide)) ?_
      obtain ⟨G91, eG91⟩ : ∃ z : ab_G, z = List.set G86 a (ab_ob 11 [vR sp, vR wk, vR nw, vR tn, vR nsp, vR tsp, vz nc, vz tc, vR se, vz sta287, vR stk, vz 0, vR q, vR s, vz hw, vz 1, vj stp]) := ⟨_, rfl⟩
      have hsp := hsp.keep ha eG91 (by decide)
      have hwk := hwk.keep ha eG91 (by decide)
      have hnw := hnw.keep ha eG91 (by omega)
      have htn := htn.keep ha eG91 (by omega)
      have hnsp := hnsp.keep ha eG91 (by omega)
      have htsp := htsp.keep ha eG91 (by omega)
      have hse := hse.keep ha eG91 (by decide)
      have hstk := hstk.keep ha eG91 (by decide)
      have hq := hq.keep ha eG91 (by omega)
      have hki := hki.keep ha eG91 (by omega)
      have hne := hne.keep ha eG91 (by omega)
      have hot := hot.keep ha eG91 (by omega)
      have hra := hra.keep ha eG91 (by omega)
      have hs := hs.keep ha eG91 (by decide)
      have hco := hco.keep ha eG91 (by decide)
      have hre := hre.keep ha eG91 (by decide)
      have hho := hho.keep ha eG91 (by decide)
      have hlen := (z_len eG91).trans hlen
      have hsl := (z_sl ha eG91 rfl).trans hsl
      have hfr := hfr.wr ha eG91 (by decide)
      have ha := ha.kept eG91
      change ab_W _ _ _ (List.set G86 a (ab_ob 11 [vR sp, vR wk, vR nw, vR tn, vR nsp, vR tsp, vz nc, vz tc, vR se, vz sta287, vR stk, vz 0, vR q, vR s, vz hw, vz 1, vj stp])) 53 [some (vR a), some (vR q), some (vR s), some (vz hw), some (vz p), some (vR sp), none] [] _
      rw [← eG91]
      refine ab_aload_n d_TH_find_53 rfl ?_
      refine zz_iconst d_TH_find_54 ?_
      refine ab_putf (fs := [vR sp, vR wk, vR nw, vR tn, vR nsp, vR tsp, vz nc, vz tc, vR se, vz sta287, vR stk, vz 0, vR q, vR s, vz hw, vz 1, vj stp]) f_TH_64 (Or.inl rfl) d_TH_find_55 ha.2.2 (Nat.le_of_ble_eq_true rfl) (fun _ => ⟨rfl, rfl⟩) (ha.2.1 (by decide)) ?_
      obtain ⟨G92, eG92⟩ : ∃ z : ab_G, z = List.set G91 a (ab_ob 11 [vR sp, vR wk, vR nw, vR tn, vR nsp, vR tsp, vz nc, vz 0, vR se, vz sta287, vR stk, vz 0, vR q, vR s, vz hw, vz 1, vj stp]) := ⟨_, rfl⟩
      have hsp := hsp.keep ha eG92 (by decide)
      have hwk := hwk.keep ha eG92 (by decide)
      have hnw := hnw.keep ha eG92 (by omega)
      have htn := htn.keep ha eG92 (by omega)
      have hnsp := hnsp.keep ha eG92 (by omega)
      have htsp := htsp.keep ha eG92 (by omega)
      have hse := hse.keep ha eG92 (by decide)
      have hstk := hstk.keep ha eG92 (by decide)
      have hq := hq.keep ha eG92 (by omega)
      have hki := hki.keep ha eG92 (by omega)
      have hne := hne.keep ha eG92 (by omega)
      have hot := hot.keep ha eG92 (by omega)
      have hra := hra.keep ha eG92 (by omega)
      have hs := hs.keep ha eG92 (by decide)
      have hco := hco.keep ha eG92 (by decide)
      have hre := hre.keep ha eG92 (by decide)
      have hho := hho.keep ha eG92 (by decide)
      have hlen := (z_len eG92).trans hlen
      have hsl := (z_sl ha eG92 rfl).trans hsl
      have hfr := hfr.wr ha eG92 (by decide)
      have ha := ha.kept eG92
      change ab_W _ _ _ (List.set G91 a (ab_ob 11 [vR sp, vR wk, vR nw, vR tn, vR nsp, vR tsp, vz nc, vz 0, vR se, vz sta287, vR stk, vz 0, vR q, vR s, vz hw, vz 1, vj stp])) 58 [some (vR a), some (vR q), some (vR s), some (vz hw), some (vz p), some (vR sp), none] [] _
      rw [← eG92]
      refine ab_iload d_TH_find_58 rfl ?_
      refine ab_istore d_TH_find_60 (Nat.le_of_ble_eq_true rfl) (Nat.le_of_ble_eq_true rfl) rfl ?_
      change ab_W _ _ _ G92 62 [some (vR a), some (vR q), some (vR s), some (vz hw), some (vz p), some (vR sp), some (vz p)] [] _
      refine y_TH_find_62 (q := q) (lq := lq) (ki := ki) (ne := ne) (ot := ot) (cnt := cnt) (fi := fi) (la := la) (ra := ra) (ru := ru) (gr := gr) (wi := wi) (sz := sz) (fl := fl) (ve := ve) (mi := mi) (na := na) (nl := nl) (K := K) (N := N) (O := O) (RR := RR) (nr := nr) (s := s) (by_ := by_) (co := co) (re := re) (ho := ho) (n := n) (C := C) (Rs := Rs) (H := H) (mc := mc) (a := a) (sp := sp) (wk := wk) (se := se) (stk := stk) (hw := hw) (fy := 1) (p := p) (G0 := G92) (nw := nw) (tn := tn) (nsp := nsp) (tsp := tsp) (nc := nc) (tc := 0) (sta := sta287) (fo := 0) (stp := stp) (SP := SP) (WK := WK) (NW := NW) (TN := TN) (NS := NS) (TS := TS) (SE := SE288) (SK := SK) (l1 := l1) (l2 := l2) (l3 := l3) (l4 := l4) (i := p) (by omega) hp hr (by omega) hsu (by omega) (by omega) (by omega) (by omega) (by omega) (Int.toNat (n + 1 - p) + 1) ha hsp hwk hnw htn hnsp htsp hse hstk hq hki hne hot hra hs hco hre hho (by omega) (by omega) (by omega) (by omega) hq90 thos_0 thr_0 jsp spo_0 (by omega) fx.rf rfl rfl (by omega) (fun G93 nw294 tn295 nsp296 tsp297 m198 m2_99 m3100 m4101 nc2102 tc2103 sta2104 fo2105 st2106 NW2107 TN2108 NS2109 TS2110 SE2111 SK2112 WK2113 SP2114 hNa hNsp hNwk hNnw294 hNtn295 hNnsp296 hNtsp297 hNse hNstk hq115 hq116 hq117 hq118 hq119 hq120 hfk hlk hsk => ?_)
      · have hq := hfk.get hq (by simp only [List.mem_cons, List.not_mem_nil, or_false]; omega)
        have hki := hfk.get hki (by simp only [List.mem_cons, List.not_mem_nil, or_false]; omega)
        have hne := hfk.get hne (by simp only [List.mem_cons, List.not_mem_nil, or_false]; omega)
        have hot := hfk.get hot (by simp only [List.mem_cons, List.not_mem_nil, or_false]; omega)
        have hra := hfk.get hra (by simp only [List.mem_cons, List.not_mem_nil, or_false]; omega)
        have hs := hfk.get hs (by decide)
        have hco := hfk.get hco (by decide)
        have hre := hfk.get hre (by decide)
        have hho := hfk.get hho (by decide)
        have hfr := hfr.tr hfk (by decide)
        have hlen := hlk.trans hlen
        have hsl := hsk.trans hsl
        have ha := hNa
        have hsp := hNsp
        have hwk := hNwk
        have hnw294 := hNnw294
        have htn295 := hNtn295
        have hnsp296 := hNnsp296
        have htsp297 := hNtsp297
        have hse := hNse
        have hstk := hNstk
        change ab_W _ _ _ G93 157 [some (vR a), none, none, none, none, some (vR sp), none] [] _
        refine ab_aload_n d_TH_find_157 rfl ?_
        refine ab_getf (fs := [vR sp, vR wk, vR nw294, vR tn295, vR nsp296, vR tsp297, vz nc2102, vz tc2103, vR se, vz sta2104, vR stk, vz fo2105, vR q, vR s, vz hw, vz 1, vj st2106]) f_TH_61 d_TH_find_158 ha.2.2 rfl ?_
        refine zz_if_eq (tgt := 171) d_TH_find_161 (by decide) (by omega) (fun c121 => ?_) (fun c121 => ?_)
        · refine zz_iconst d_TH_find_171 ?_
          refine zz_iret rfl d_TH_find_172 ?_
          rw [hQ]; exact (Or.inl ⟨_, _, _, _, _, _, _, _, _, _, _, _, _, _, _, _, _, _, _, _, _, _, rfl, hfr, hlen, hsl, ha, hsp, hwk, hnw294, htn295, hnsp296, htsp297, hse, hstk, (by omega), (by omega), (by first | exact hq118 | exact rgs_w hq118 (by omega)), (by first | exact hq119 | exact rgs_w hq119 (by omega)), (by omega)⟩)
        · have jsq := hq120 (by omega)
          have js1 := jsq.1 1 (by omega) (by omega)
          have js2 := jsq.2.2
          refine ab_aload d_TH_find_164 rfl ?_
          refine zz_iconst d_TH_find_166 ?_
          refine zz_iald d_TH_find_167 hsp (by omega) ?_
          refine ab_goto (tgt := 172) d_TH_find_168 (by decide) ?_
          refine zz_iret rfl d_TH_find_172 ?_
          rw [hQ]; exact (Or.inr ⟨_, _, _, _, _, _, _, _, _, _, _, _, _, _, _, _, _, _, _, _, _, _, _, rfl, hfr, hlen, hsl, ha, hsp, hwk, hnw294, htn295, hnsp296, htsp297, hse, hstk, (by omega), (by omega), (by first | exact hq118 | exact rgs_w hq118 (by omega)), (by first | exact hq119 | exact rgs_w hq119 (by omega)), (by omega), (by omega), (by rfl), (by exact jsq.1), (by exact jsq.2.1)⟩)
