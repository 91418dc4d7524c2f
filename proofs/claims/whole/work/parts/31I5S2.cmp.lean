section QcRows
variable {X : ab_X} {M : ab_Y} {d : Nat} {G : ab_G} {pc : Nat} {L : List (Option Value)} {st : List Value} {Q : Outcome → ab_G → Prop}
theorem zz_aast {o : Nat → Nat} {a l n v : Nat} {vs : List Value} {f : Nat → Option Nat} {i : Int} (hd : decode M.2.2.1 pc = .ok (.aastore, 1)) (hG : cc o G a l (ab_rr n f)) (hv : G[v]? = some (.inr (5, vs))) (hi : 0 ≤ i ∧ i < (n : Int) ∧ i ≤ 2147483647) (ha : ab_n0 ≤ a) (kk : ab_W X M d (G.set a (ab_rr n (va_up f i.toNat (some v)))) (pc + 1) L st Q) : ab_W X M d G pc L (vR v :: vz i :: vR a :: st) Q := by
  refine ab_aast hd hG.2.2 hv (z_in hi) ha ?_
  rw [z_tn ⟨hi.1, hi.2.2⟩]
  exact kk
theorem zz_aalS {o : Nat → Nat} {a l n b : Nat} {f : Nat → Option Nat} {i : Int} (hd : decode M.2.2.1 pc = .ok (.aaload, 1)) (hG : cc o G a l (ab_rr n f)) (hi : 0 ≤ i ∧ i < (n : Int) ∧ i ≤ 2147483647) (hs : f i.toNat = some b) (k : ab_W X M d G (pc + 1) L (vR b :: st) Q) : ab_W X M d G pc L (vz i :: vR a :: st) Q := by
  refine ab_aald hd hG.2.2 (z_in hi) ?_
  rw [z_tn ⟨hi.1, hi.2.2⟩, hs]
  exact k
end QcRows
theorem vzi_inj {a b : Int} (h : vz a = vz b) (ha : -2147483648 ≤ a ∧ a ≤ 2147483647) (hb : -2147483648 ≤ b ∧ b ≤ 2147483647) : a = b := by
  have e : Int32.ofInt a = Int32.ofInt b := Value.int.inj h
  rw [← z_ti ha, e, z_ti hb]
/-! what programs take of the room -/
def prS (nr : Nat) : Nat := if nr = 0 then 0 else 2 * nr + 2602
def prC (nr : Nat) : Nat := if nr = 0 then 0 else nr + 192 + 32
def sumN (f : Nat → Nat) (NR : Nat → Nat) : Nat := f (NR 0) + f (NR 1) + f (NR 2) + f (NR 3) + f (NR 4) + f (NR 5)
def nup (NR : Nat → Nat) (k v : Nat) : Nat → Nat := fun j => if j = k then v else NR j
theorem nup_s {NR : Nat → Nat} {k v : Nat} : nup NR k v k = v := if_pos rfl
theorem nup_ne {NR : Nat → Nat} {k v j : Nat} (h : ¬ j = k) : nup NR k v j = NR j := if_neg h
theorem sumN_up {f : Nat → Nat} {NR : Nat → Nat} {k v : Nat} (hk : k < 6) : sumN f (nup NR k v) + f (NR k) = sumN f NR + f v := by
  unfold sumN nup
  rcases (show k = 0 ∨ k = 1 ∨ k = 2 ∨ k = 3 ∨ k = 4 ∨ k = 5 by omega) with e | e | e | e | e | e <;> (subst e; simp; omega)
def pgN (PG : Nat → Option Nat) (NR : Nat → Nat) : Prop := ∀ k : Nat, k < 6 → PG k = none → NR k = 0
theorem pgN_up {PG : Nat → Option Nat} {NR : Nat → Nat} {k v q : Nat} (h : pgN PG NR) : pgN (va_up PG k (some q)) (nup NR k v) := fun j hj e => by
  by_cases c : j = k
  · subst c; rw [show va_up PG j (some q) j = some q from if_pos rfl] at e; cases e
  · rw [show va_up PG k (some q) j = PG j from if_neg c] at e; rw [nup_ne c]; exact h j hj e
theorem pgN_keep {PG : Nat → Option Nat} {NR : Nat → Nat} {k v q : Nat} (h : pgN PG NR) (hq : PG k = some q) : pgN PG (nup NR k v) := fun j hj e => by
  by_cases c : j = k
  · subst c; rw [hq] at e; cases e
  · rw [nup_ne c]; exact h j hj e
section Pg2
variable {o o2 : Nat → Nat} {G G2 : ab_G} {PG : Nat → Option Nat} {NR : Nat → Nat} {cv : Int → Int} {cmp : Int} {on k0 q : Nat}
theorem pgB.up {lq nr l9 k j : Nat} {mi w sz : Int} {w9 : Int → Int} (h : pgB o G q lq nr cv cmp on mi sz) (hc : cmp + 1 ≤ 100000) (h1 : l9 = 100 + 10 * k) (h2 : lq = 100 + 10 * j) (hn : ¬ j = k) : pgB o G q lq nr (cvU cv (cmp + 1) w l9 w9) (cmp + 1) on mi sz := by
  obtain ⟨ki, ne, ot, cnt, fi, la, ra, ru, gr, wi, fl, ve, na, nl, K, N, O, RR, NA, NL, c_q, c_ki, c_ne, c_ot, c_ra, c_na, c_nl, k_cq, k_hpu, k_hp, k_hr, k_hch, k_cru, k_ck9, k_cfi, k_cgr, k_cfl, k_hpo, k_hmi, k_hvc, k_cve, k_jnl, k_hiv, k_hmn, k_jna, k_hla, k_hpv, k_cv1, k_hkk, k_hoc, k_csz⟩ := h
  exact ⟨ki, ne, ot, cnt, fi, la, ra, ru, gr, wi, fl, ve, na, nl, K, N, O, RR, NA, NL, c_q, c_ki, c_ne, c_ot, c_ra, c_na, c_nl, k_cq, k_hpu, k_hp, k_hr, k_hch, k_cru, k_ck9, k_cfi, k_cgr, k_cfl, k_hpo, k_hmi, (by rw [cvU_p (by omega) (by omega) (by omega) (by omega)]; exact k_hvc), (by omega), k_jnl, (ivR_n k_hiv (by omega) h1 h2 hn), (mnK_n k_hmn (by omega) h1 h2 hn), k_jna, k_hla, (prV_o k_hpv (by omega) (by omega) (by omega) (by omega) (by omega) (by omega)), k_cv1, k_hkk, k_hoc, k_csz⟩
theorem stI.up {a l9 : Nat} {w : Int} {w9 : Int → Int} (hl : 100 ≤ l9) (hc : cmp + 1 ≤ 100000) {sb : Int} {stp : Int} (h : stI o G a cv cmp stp sb) : stI o G a (cvU cv (cmp + 1) w l9 w9) (cmp + 1) stp sb := by
  obtain ⟨cu, eg, po, bg, bd, sd, se_, stk, mst, q0, vr, ro, cn, ct, sc, sta, arv, CU, EG, PO, BG, BD, SD, SE, SK, c_a, c_cu, c_eg, c_po, c_bg, c_bd, c_sd, c_se_, c_stk, k_jcu, k_ccn, k_cms, k_cvr, k_jbg, k_jpo, k_jbd, k_jeg, k_cro, k_cst0, k_jse, k_csb, k_jsq⟩ := h
  exact ⟨cu, eg, po, bg, bd, sd, se_, stk, mst, q0, vr, ro, cn, ct, sc, sta, arv, CU, EG, PO, BG, BD, SD, SE, SK, c_a, c_cu, c_eg, c_po, c_bg, c_bd, c_sd, c_se_, c_stk, k_jcu, k_ccn, k_cms, (by omega), k_jbg, (by rw [cvU_p (by omega) (by omega) (by omega) (by omega)]; exact k_jpo), k_jbd, k_jeg, k_cro, k_cst0, k_jse, k_csb, (k_jsq.up (by omega) (by omega) (by omega) hl)⟩
theorem pgI.none (h : pgI o G 0 PG NR cv cmp on) (hk : PG k0 = Option.none) : pgX o G 0 PG NR cv cmp on k0 := fun j p a _ c => h j p a c
theorem pgX.mk {w mi sz : Int} {nr : Nat} {w9 : Int → Int} (h : pgX o G 0 PG NR cv cmp on k0) (hq : PG k0 = some q) (hc : cmp + 1 ≤ 100000) (hb : pgB o G q (100 + 10 * k0) nr (cvU cv (cmp + 1) w (100 + 10 * k0) w9) (cmp + 1) on mi sz) : pgI o G 0 PG (nup NR k0 nr) (cvU cv (cmp + 1) w (100 + 10 * k0) w9) (cmp + 1) on := fun j p a c => by
  by_cases e : j = k0
  · subst e
    rw [hq] at c
    cases c
    rw [nup_s]
    exact ⟨mi, sz, hb⟩
  · obtain ⟨m2, s2, h2⟩ := h j p a e c
    rw [nup_ne e]
    exact ⟨m2, s2, h2.up hc rfl rfl e⟩
theorem pgX.set (h : pgX o G 0 PG NR cv cmp on k0) : pgX o G 0 (va_up PG k0 (some q)) NR cv cmp on k0 := fun j p a b c => by
  rw [show va_up PG k0 (some q) j = PG j from if_neg b] at c
  exact h j p a b c
end Pg2
def rdI (o : Nat → Nat) (G : ab_G) (f_reader : Nat) (nb : Nat) (fa : Int) (fp : Int) : Prop := ∃ x : Nat, ∃ se : Nat, ∃ by0 : Nat, ∃ n9 : Int, ∃ pl : Int, ∃ kd : Nat, ∃ kn : Int, ∃ inn : Value, ∃ dp : Int, ∃ flg : Int, ∃ grp : Int, ∃ rna : Nat, ∃ rnl : Nat, ∃ lst : Int, ∃ mst : Int, ∃ bh : Int, ∃ RNA : Int → Int, ∃ RNL : Int → Int, ∃ ct : Int, ∃ P : Int → Prop, cc o G f_reader 25 (ab_ob 6 [vR x, inn, vz dp, vz flg, vz grp, vR rna, vR rnl, vz lst, vz mst, vz bh]) ∧ cc o G x 24 (ab_ob 10 [vR se, vR by0, vz n9, vz pl, vz fa, vz fp, vR kd, vz kn]) ∧ cc o G rna 86 (za 10 RNA) ∧ cc o G rnl 87 (za 10 RNL) ∧ csI o G se 88 89 nb ct P ∧ (1 ≤ kd ∧ kd ≤ 12 ∧ 0 ≤ kn ∧ kn ≤ 1) ∧ (nb ≤ 104000)
set_option maxRecDepth 100000 in
theorem rdI.fr {o o2 : Nat → Nat} {S : List Nat} {G G2 : ab_G} {f_reader : Nat} {nb : Nat} {fa : Int} {fp : Int} (hf : fx o o2 S G G2) (h : rdI o G f_reader nb fa fp) (n0 : ¬ 25 ∈ S) (n1 : ¬ 24 ∈ S) (n2 : ¬ 86 ∈ S) (n3 : ¬ 87 ∈ S) (n4 : ¬ 88 ∈ S) (n5 : ¬ 89 ∈ S) : rdI o2 G2 f_reader nb fa fp := by
  obtain ⟨x, se, by0, n9, pl, kd, kn, inn, dp, flg, grp, rna, rnl, lst, mst, bh, RNA, RNL, ct, P, c_f_reader, c_x, c_rna, c_rnl, p_csI_se, k_ckd, k_hnb⟩ := h
  exact ⟨x, se, by0, n9, pl, kd, kn, inn, dp, flg, grp, rna, rnl, lst, mst, bh, RNA, RNL, ct, P, hf.get c_f_reader n0, hf.get c_x n1, hf.get c_rna n2, hf.get c_rnl n3, csI.fr hf p_csI_se n4 n5, k_ckd, k_hnb⟩
theorem rdI.recv {o : Nat → Nat} {G : ab_G} {f_reader : Nat} {nb : Nat} {fa : Int} {fp : Int} (h : rdI o G f_reader nb fa fp) : ∃ fs, G[f_reader]? = some (.inr (6, fs)) := by
  obtain ⟨x, se, by0, n9, pl, kd, kn, inn, dp, flg, grp, rna, rnl, lst, mst, bh, RNA, RNL, ct, P, c_f_reader, c_x, c_rna, c_rnl, p_csI_se, k_ckd, k_hnb⟩ := h
  exact ⟨_, c_f_reader.2.2⟩
theorem rdI.b {o : Nat → Nat} {G : ab_G} {a nb : Nat} {fa fp : Int} (h : rdI o G a nb fa fp) : nb ≤ 104000 := by
  obtain ⟨x, se, by0, n9, pl, kd, kn, inn, dp, flg, grp, rna, rnl, lst, mst, bh, RNA, RNL, ct, P, c_f_reader, c_x, c_rna, c_rnl, p_csI_se, k_ckd, k_hnb⟩ := h
  exact k_hnb
set_option maxRecDepth 100000 in
set_option maxHeartbeats 4000000 in
theorem z_PR_init {X : ab_X} {d : Nat} {o : Nat → Nat} {G : ab_G} {q : Nat} {lq : Nat} (hq : cc o G q lq (ab_ob 5 [vN, vN, vN, vz 0, vz 0, vz 0, vN, vz 0, vz 0, vz 0, vz 0, vz 0, vz 0, vz 0, vN, vN])) (n18 : ab_n0 = 18) (cl : 100 ≤ lq) (rc : G.length + 6 ≤ ab_n0 + room_1.cells) (rs : ab_slots G + 2586 ≤ room_1.slots) (hd : 1 ≤ d) : ab_F X d y_PR_init (.code y_PR_init b_PR_init 1 none) [vR q] G (fun oc G2 => ∃ o2 : Nat → Nat, ∃ ki : Nat, ∃ ne : Nat, ∃ ot : Nat, ∃ ra : Nat, ∃ na : Nat, ∃ nl : Nat, oc = .returned none ∧ fx o o2 [lq] G G2 ∧ cc o2 G2 q lq (ab_ob 5 [vR ki, vR ne, vR ot, vz 0, vz 0, vz 0, vR ra, vz 0, vz 0, vz 0, vz 0, vz 0, vz 0, vz 0, vR na, vR nl]) ∧ cc o2 G2 ki (lq + 1) (za 808 (fun _ => 0)) ∧ cc o2 G2 ne (lq + 2) (za 808 (fun _ => 0)) ∧ cc o2 G2 ot (lq + 3) (za 808 (fun _ => 0)) ∧ cc o2 G2 ra (lq + 4) (za 32 (fun _ => 0)) ∧ cc o2 G2 na (lq + 5) (za 120 (fun _ => 0)) ∧ cc o2 G2 nl (lq + 6) (za 10 (fun _ => 0)) ∧ (G2.length = G.length + 6) ∧ (ab_slots G2 = ab_slots G + 2586)) := by
  refine ab_F_of (by decide +kernel) (Nat.le_of_ble_eq_true rfl) ?_
  obtain ⟨Q, hQ⟩ : ∃ z : Outcome → ab_G → Prop, z = (fun oc G2 => ∃ o2 : Nat → Nat, ∃ ki : Nat, ∃ ne : Nat, ∃ ot : Nat, ∃ ra : Nat, ∃ na : Nat, ∃ nl : Nat, oc = .returned none ∧ fx o o2 [lq] G G2 ∧ cc o2 G2 q lq (ab_ob 5 [vR ki, vR ne, vR ot, vz 0, vz 0, vz 0, vR ra, vz 0, vz 0, vz 0, vz 0, vz 0, vz 0, vz 0, vR na, vR nl]) ∧ cc o2 G2 ki (lq + 1) (za 808 (fun _ => 0)) ∧ cc o2 G2 ne (lq + 2) (za 808 (fun _ => 0)) ∧ cc o2 G2 ot (lq + 3) (za 808 (fun _ => 0)) ∧ cc o2 G2 ra (lq + 4) (za 32 (fun _ => 0)) ∧ cc o2 G2 na (lq + 5) (za 120 (fun _ => 0)) ∧ cc o2 G2 nl (lq + 6) (za 10 (fun _ => 0)) ∧ (G2.length = G.length + 6) ∧ (ab_slots G2 = ab_slots G + 2586)) := ⟨_, rfl⟩
  rw [← hQ]
  change ab_W X (ab_pl y_PR_init b_PR_init 1 none) d G 0 [some (vR q)] [] Q
  have hfr : fx o o [lq] G G := fx.rf
  refine ab_aload_n d_PR_init_0 rfl ?_
  refine ab_objInit mj_PR_3 ob_inst ob_code d_PR_init_1 (Nat.le_of_ble_eq_true rfl) (by omega) ?_
  change ab_W _ _ _ G 4 [some (vR q)] [] _
  refine ab_aload_n d_PR_init_4 rfl ?_
  refine zz_sipush d_PR_init_5 (by decide) ?_
  refine zz_newI (w := 808) a_int d_PR_init_8 (by decide) (by omega) (by omega) (by omega) ?_
  obtain ⟨G1, eG1⟩ : ∃ z : ab_G, z = G ++ [za 808 (fun _ => 0)] := ⟨_, rfl⟩
  obtain ⟨o2, eo2⟩ : ∃ z : Nat → Nat, z = ol o G.length (lq + 1) := ⟨_, rfl⟩
  obtain ⟨a3, ea3⟩ : ∃ z : Nat, z = G.length := ⟨_, rfl⟩
  have hq4 := hq.n0 (by first | decide | omega)
  have ne_a3_q : nq a3 q := by have hlt := hq.lt; unfold nq; omega
  have hq := hq.akeep (k := (lq + 1)) eG1
  rw [← eo2] at hq
  have ha3 := cc.anew (o := o) (lq + 1) eG1 hq4
  rw [← eo2, ← ea3] at ha3
  have hfr := hfr.ap (k := (lq + 1)) eG1
  rw [← eo2] at hfr
  have hq5 := z_alen eG1
  have hq6 : ab_slots G1 = ab_slots G + 808 := z_asl eG1 hq4
  change ab_W _ _ _ (G ++ [za 808 (fun _ => 0)]) 10 [some (vR q)] [.ref G.length, vR q] _
  rw [← eG1, ← ea3]
  change ab_W _ _ _ G1 10 [some (vR q)] [vR a3, vR q] _
  refine ab_putf (fs := [vN, vN, vN, vz 0, vz 0, vz 0, vN, vz 0, vz 0, vz 0, vz 0, vz 0, vz 0, vz 0, vN, vN]) f_PR_9 (Or.inr ⟨rfl, _, c_PR, rfl⟩) d_PR_init_10 hq.2.2 (Nat.le_of_ble_eq_true rfl) (fun _ => ⟨rfl, rfl⟩) (hq.2.1 (by first | omega | exact (show 18 ≤ _ by omega))) ?_
  obtain ⟨G7, eG7⟩ : ∃ z : ab_G, z = List.set G1 q (ab_ob 5 [vR a3, vN, vN, vz 0, vz 0, vz 0, vN, vz 0, vz 0, vz 0, vz 0, vz 0, vz 0, vz 0, vN, vN]) := ⟨_, rfl⟩
  have ha3 := ha3.keep' eG7 (nq.s ne_a3_q)
  have hq8 := z_len eG7
  have hq9 := z_sl hq eG7 rfl
  have hfr := hfr.wr hq eG7 (by simp)
  have hq := hq.kept eG7
  change ab_W _ _ _ (List.set G1 q (ab_ob 5 [vR a3, vN, vN, vz 0, vz 0, vz 0, vN, vz 0, vz 0, vz 0, vz 0, vz 0, vz 0, vz 0, vN, vN])) 13 [some (vR q)] [] _
  rw [← eG7]
  refine ab_aload_n d_PR_init_13 rfl ?_
  refine zz_sipush d_PR_init_14 (by decide) ?_
  refine zz_newI (w := 808) a_int d_PR_init_17 (by decide) (by omega) (by omega) (by omega) ?_
  obtain ⟨G10, eG10⟩ : ∃ z : ab_G, z = G7 ++ [za 808 (fun _ => 0)] := ⟨_, rfl⟩
  obtain ⟨o11, eo11⟩ : ∃ z : Nat → Nat, z = ol o2 G7.length (lq + 2) := ⟨_, rfl⟩
  obtain ⟨a12, ea12⟩ : ∃ z : Nat, z = G7.length := ⟨_, rfl⟩
  have hq13 := ha3.n0 (by first | decide | omega)
  have ne_a12_q : nq a12 q := by have hlt := hq.lt; unfold nq; omega
  have ne_a12_a3 : nq a12 a3 := by have hlt := ha3.lt; unfold nq; omega
  have hq := hq.akeep (k := (lq + 2)) eG10
  rw [← eo11] at hq
  have ha3 := ha3.akeep (k := (lq + 2)) eG10
  rw [← eo11] at ha3
  have ha12 := cc.anew (o := o2) (lq + 2) eG10 hq13
  rw [← eo11, ← ea12] at ha12
  have hfr := hfr.ap (k := (lq + 2)) eG10
  rw [← eo11] at hfr
  have hq14 := z_alen eG10
  have hq15 : ab_slots G10 = ab_slots G7 + 808 := z_asl eG10 hq13
  change ab_W _ _ _ (G7 ++ [za 808 (fun _ => 0)]) 19 [some (vR q)] [.ref G7.length, vR q] _
  rw [← eG10, ← ea12]
  change ab_W _ _ _ G10 19 [some (vR q)] [vR a12, vR q] _
  refine ab_putf (fs := [vR a3, vN, vN, vz 0, vz 0, vz 0, vN, vz 0, vz 0, vz 0, vz 0, vz 0, vz 0, vz 0, vN, vN]) f_PR_15 (Or.inr ⟨rfl, _, c_PR, rfl⟩) d_PR_init_19 hq.2.2 (Nat.le_of_ble_eq_true rfl) (fun _ => ⟨rfl, rfl⟩) (hq.2.1 (by first | omega | exact (show 18 ≤ _ by omega))) ?_
  obtain ⟨G16, eG16⟩ : ∃ z : ab_G, z = List.set G10 q (ab_ob 5 [vR a3, vR a12, vN, vz 0, vz 0, vz 0, vN, vz 0, vz 0, vz 0, vz 0, vz 0, vz 0, vz 0, vN, vN]) := ⟨_, rfl⟩
  have ha3 := ha3.keep' eG16 (nq.s ne_a3_q)
  have ha12 := ha12.keep' eG16 (nq.s ne_a12_q)
  have hq17 := z_len eG16
  have hq18 := z_sl hq eG16 rfl
  have hfr := hfr.wr hq eG16 (by simp)
  have hq := hq.kept eG16
  change ab_W _ _ _ (List.set G10 q (ab_ob 5 [vR a3, vR a12, vN, vz 0, vz 0, vz 0, vN, vz 0, vz 0, vz 0, vz 0, vz 0, vz 0, vz 0, vN, vN])) 22 [some (vR q)] [] _
  rw [← eG16]
  refine ab_aload_n d_PR_init_22 rfl ?_
  refine zz_sipush d_PR_init_23 (by decide) ?_
  refine zz_newI (w := 808) a_int d_PR_init_26 (by decide) (by omega) (by omega) (by omega) ?_
  obtain ⟨G19, eG19⟩ : ∃ z : ab_G, z = G16 ++ [za 808 (fun _ => 0)] := ⟨_, rfl⟩
  obtain ⟨o20, eo20⟩ : ∃ z : Nat → Nat, z = ol o11 G16.length (lq + 3) := ⟨_, rfl⟩
  obtain ⟨a21, ea21⟩ : ∃ z : Nat, z = G16.length := ⟨_, rfl⟩
  have hq22 := ha12.n0 (by first | decide | omega)
  have ne_a21_q : nq a21 q := by have hlt := hq.lt; unfold nq; omega
  have ne_a21_a3 : nq a21 a3 := by have hlt := ha3.lt; unfold nq; omega
  have ne_a21_a12 : nq a21 a12 := by have hlt := ha12.lt; unfold nq; omega
  have hq := hq.akeep (k := (lq + 3)) eG19
  rw [← eo20] at hq
  have ha3 := ha3.akeep (k := (lq + 3)) eG19
  rw [← eo20] at ha3
  have ha12 := ha12.akeep (k := (lq + 3)) eG19
  rw [← eo20] at ha12
  have ha21 := cc.anew (o := o11) (lq + 3) eG19 hq22
  rw [← eo20, ← ea21] at ha21
  have hfr := hfr.ap (k := (lq + 3)) eG19
  rw [← eo20] at hfr
  have hq23 := z_alen eG19
  have hq24 : ab_slots G19 = ab_slots G16 + 808 := z_asl eG19 hq22
  change ab_W _ _ _ (G16 ++ [za 808 (fun _ => 0)]) 28 [some (vR q)] [.ref G16.length, vR q] _
  rw [← eG19, ← ea21]
  change ab_W _ _ _ G19 28 [some (vR q)] [vR a21, vR q] _
  refine ab_putf (fs := [vR a3, vR a12, vN, vz 0, vz 0, vz 0, vN, vz 0, vz 0, vz 0, vz 0, vz 0, vz 0, vz 0, vN, vN]) f_PR_18 (Or.inr ⟨rfl, _, c_PR, rfl⟩) d_PR_init_28 hq.2.2 (Nat.le_of_ble_eq_true rfl) (fun _ => ⟨rfl, rfl⟩) (hq.2.1 (by first | omega | exact (show 18 ≤ _ by omega))) ?_
  obtain ⟨G25, eG25⟩ : ∃ z : ab_G, z = List.set G19 q (ab_ob 5 [vR a3, vR a12, vR a21, vz 0, vz 0, vz 0, vN, vz 0, vz 0, vz 0, vz 0, vz 0, vz 0, vz 0, vN, vN]) := ⟨_, rfl⟩
  have ha3 := ha3.keep' eG25 (nq.s ne_a3_q)
  have ha12 := ha12.keep' eG25 (nq.s ne_a12_q)
  have ha21 := ha21.keep' eG25 (nq.s ne_a21_q)
  have hq26 := z_len eG25
  have hq27 := z_sl hq eG25 rfl
  have hfr := hfr.wr hq eG25 (by simp)
  have hq := hq.kept eG25
  change ab_W _ _ _ (List.set G19 q (ab_ob 5 [vR a3, vR a12, vR a21, vz 0, vz 0, vz 0, vN, vz 0, vz 0, vz 0, vz 0, vz 0, vz 0, vz 0, vN, vN])) 31 [some (vR q)] [] _
  rw [← eG25]
  refine ab_aload_n d_PR_init_31 rfl ?_
  refine zz_bipush d_PR_init_32 (by decide) ?_
  refine zz_newI (w := 32) a_int d_PR_init_34 (by decide) (by omega) (by omega) (by omega) ?_
  obtain ⟨G28, eG28⟩ : ∃ z : ab_G, z = G25 ++ [za 32 (fun _ => 0)] := ⟨_, rfl⟩
  obtain ⟨o29, eo29⟩ : ∃ z : Nat → Nat, z = ol o20 G25.length (lq + 4) := ⟨_, rfl⟩
  obtain ⟨a30, ea30⟩ : ∃ z : Nat, z = G25.length := ⟨_, rfl⟩
  have hq31 := ha21.n0 (by first | decide | omega)
  have ne_a30_q : nq a30 q := by have hlt := hq.lt; unfold nq; omega
  have ne_a30_a3 : nq a30 a3 := by have hlt := ha3.lt; unfold nq; omega
  have ne_a30_a12 : nq a30 a12 := by have hlt := ha12.lt; unfold nq; omega
  have ne_a30_a21 : nq a30 a21 := by have hlt := ha21.lt; unfold nq; omega
  have hq := hq.akeep (k := (lq + 4)) eG28
  rw [← eo29] at hq
  have ha3 := ha3.akeep (k := (lq + 4)) eG28
  rw [← eo29] at ha3
  have ha12 := ha12.akeep (k := (lq + 4)) eG28
  rw [← eo29] at ha12
  have ha21 := ha21.akeep (k := (lq + 4)) eG28
  rw [← eo29] at ha21
  have ha30 := cc.anew (o := o20) (lq + 4) eG28 hq31
  rw [← eo29, ← ea30] at ha30
  have hfr := hfr.ap (k := (lq + 4)) eG28
  rw [← eo29] at hfr
  have hq32 := z_alen eG28
  have hq33 : ab_slots G28 = ab_slots G25 + 32 := z_asl eG28 hq31
  change ab_W _ _ _ (G25 ++ [za 32 (fun _ => 0)]) 36 [some (vR q)] [.ref G25.length, vR q] _
  rw [← eG28, ← ea30]
  change ab_W _ _ _ G28 36 [some (vR q)] [vR a30, vR q] _
  refine ab_putf (fs := [vR a3, vR a12, vR a21, vz 0, vz 0, vz 0, vN, vz 0, vz 0, vz 0, vz 0, vz 0, vz 0, vz 0, vN, vN]) f_PR_21 (Or.inl rfl) d_PR_init_36 hq.2.2 (Nat.le_of_ble_eq_true rfl) (fun _ => ⟨rfl, rfl⟩) (hq.2.1 (by first | omega | exact (show 18 ≤ _ by omega))) ?_
  obtain ⟨G34, eG34⟩ : ∃ z : ab_G, z = List.set G28 q (ab_ob 5 [vR a3, vR a12, vR a21, vz 0, vz 0, vz 0, vR a30, vz 0, vz 0, vz 0, vz 0, vz 0, vz 0, vz 0, vN, vN]) := ⟨_, rfl⟩
  have ha3 := ha3.keep' eG34 (nq.s ne_a3_q)
  have ha12 := ha12.keep' eG34 (nq.s ne_a12_q)
  have ha21 := ha21.keep' eG34 (nq.s ne_a21_q)
  have ha30 := ha30.keep' eG34 (nq.s ne_a30_q)
  have hq35 := z_len eG34
  have hq36 := z_sl hq eG34 rfl
  have hfr := hfr.wr hq eG34 (by simp)
  have hq := hq.kept eG34
  change ab_W _ _ _ (List.set G28 q (ab_ob 5 [vR a3, vR a12, vR a21, vz 0, vz 0, vz 0, vR a30, vz 0, vz 0, vz 0, vz 0, vz 0, vz 0, vz 0, vN, vN])) 39 [some (vR q)] [] _
  rw [← eG34]
  refine ab_aload_n d_PR_init_39 rfl ?_
  refine zz_bipush d_PR_init_40 (by decide) ?_
  refine zz_newI (w := 120) a_int d_PR_init_42 (by decide) (by omega) (by omega) (by omega) ?_
  obtain ⟨G37, eG37⟩ : ∃ z : ab_G, z = G34 ++ [za 120 (fun _ => 0)] := ⟨_, rfl⟩
  obtain ⟨o38, eo38⟩ : ∃ z : Nat → Nat, z = ol o29 G34.length (lq + 5) := ⟨_, rfl⟩
  obtain ⟨a39, ea39⟩ : ∃ z : Nat, z = G34.length := ⟨_, rfl⟩
  have hq40 := ha30.n0 (by first | decide | omega)
  have ne_a39_q : nq a39 q := by have hlt := hq.lt; unfold nq; omega
  have ne_a39_a3 : nq a39 a3 := by have hlt := ha3.lt; unfold nq; omega
  have ne_a39_a12 : nq a39 a12 := by have hlt := ha12.lt; unfold nq; omega
  have ne_a39_a21 : nq a39 a21 := by have hlt := ha21.lt; unfold nq; omega
  have ne_a39_a30 : nq a39 a30 := by have hlt := ha30.lt; unfold nq; omega
  have hq := hq.akeep (k := (lq + 5)) eG37
  rw [← eo38] at hq
  have ha3 := ha3.akeep (k := (lq + 5)) eG37
  rw [← eo38] at ha3
  have ha12 := ha12.akeep (k := (lq + 5)) eG37
  rw [← eo38] at ha12
  have ha21 := ha21.akeep (k := (lq + 5)) eG37
  rw [← eo38] at ha21
  have ha30 := ha30.akeep (k := (lq + 5)) eG37
  rw [← eo38] at ha30
  have ha39 := cc.anew (o := o29) (lq + 5) eG37 hq40
  rw [← eo38, ← ea39] at ha39
  have hfr := hfr.ap (k := (lq + 5)) eG37
  rw [← eo38] at hfr
  have hq41 := z_alen eG37
  have hq42 : ab_slots G37 = ab_slots G34 + 120 := z_asl eG37 hq40
  change ab_W _ _ _ (G34 ++ [za 120 (fun _ => 0)]) 44 [some (vR q)] [.ref G34.length, vR q] _
  rw [← eG37, ← ea39]
  change ab_W _ _ _ G37 44 [some (vR q)] [vR a39, vR q] _
  refine ab_putf (fs := [vR a3, vR a12, vR a21, vz 0, vz 0, vz 0, vR a30, vz 0, vz 0, vz 0, vz 0, vz 0, vz 0, vz 0, vN, vN]) f_PR_24 (Or.inr ⟨rfl, _, c_PR, rfl⟩) d_PR_init_44 hq.2.2 (Nat.le_of_ble_eq_true rfl) (fun _ => ⟨rfl, rfl⟩) (hq.2.1 (by first | omega | exact (show 18 ≤ _ by omega))) ?_
  obtain ⟨G43, eG43⟩ : ∃ z : ab_G, z = List.set G37 q (ab_ob 5 [vR a3, vR a12, vR a21, vz 0, vz 0, vz 0, vR a30, vz 0, vz 0, vz 0, vz 0, vz 0, vz 0, vz 0, vR a39, vN]) := ⟨_, rfl⟩
  have ha3 := ha3.keep' eG43 (nq.s ne_a3_q)
  have ha12 := ha12.keep' eG43 (nq.s ne_a12_q)
  have ha21 := ha21.keep' eG43 (nq.s ne_a21_q)
  have ha30 := ha30.keep' eG43 (nq.s ne_a30_q)
  have ha39 := ha39.keep' eG43 (nq.s ne_a39_q)
  have hq44 := z_len eG43
  have hq45 := z_sl hq eG43 rfl
  have hfr := hfr.wr hq eG43 (by simp)
  have hq := hq.kept eG43
  change ab_W _ _ _ (List.set G37 q (ab_ob 5 [vR a3, vR a12, vR a21, vz 0, vz 0, vz 0, vR a30, vz 0, vz 0, vz 0, vz 0, vz 0, vz 0, vz 0, vR a39, vN])) 47 [some (vR q)] [] _
  rw [← eG43]
  refine ab_aload_n d_PR_init_47 rfl ?_
  refine zz_bipush d_PR_init_48 (by decide) ?_
  refine zz_newI (w := 10) a_int d_PR_init_50 (by decide) (by omega) (by omega) (by omega) ?_
  obtain ⟨G46, eG46⟩ : ∃ z : ab_G, z = G43 ++ [za 10 (fun _ => 0)] := ⟨_, rfl⟩
  obtain ⟨o47, eo47⟩ : ∃ z : Nat → Nat, z = ol o38 G43.length (lq + 6) := ⟨_, rfl⟩
  obtain ⟨a48, ea48⟩ : ∃ z : Nat, z = G43.length := ⟨_, rfl⟩
  have hq49 := ha39.n0 (by first | decide | omega)
  have ne_a48_q : nq a48 q := by have hlt := hq.lt; unfold nq; omega
  have ne_a48_a3 : nq a48 a3 := by have hlt := ha3.lt; unfold nq; omega
  have ne_a48_a12 : nq a48 a12 := by have hlt := ha12.lt; unfold nq; omega
  have ne_a48_a21 : nq a48 a21 := by have hlt := ha21.lt; unfold nq; omega
  have ne_a48_a30 : nq a48 a30 := by have hlt := ha30.lt; unfold nq; omega
  have ne_a48_a39 : nq a48 a39 := by have hlt := ha39.lt; unfold nq; omega
  have hq := hq.akeep (k := (lq + 6)) eG46
  rw [← eo47] at hq
  have ha3 := ha3.akeep (k := (lq + 6)) eG46
  rw [← eo47] at ha3
  have ha12 := ha12.akeep (k := (lq + 6)) eG46
  rw [← eo47] at ha12
  have ha21 := ha21.akeep (k := (lq + 6)) eG46
  rw [← eo47] at ha21
  have ha30 := ha30.akeep (k := (lq + 6)) eG46
  rw [← eo47] at ha30
  have ha39 := ha39.akeep (k := (lq + 6)) eG46
  rw [← eo47] at ha39
  have ha48 := cc.anew (o := o38) (lq + 6) eG46 hq49
  rw [← eo47, ← ea48] at ha48
  have hfr := hfr.ap (k := (lq + 6)) eG46
  rw [← eo47] at hfr
  have hq50 := z_alen eG46
  have hq51 : ab_slots G46 = ab_slots G43 + 10 := z_asl eG46 hq49
  change ab_W _ _ _ (G43 ++ [za 10 (fun _ => 0)]) 52 [some (vR q)] [.ref G43.length, vR q] _
  rw [← eG46, ← ea48]
  change ab_W _ _ _ G46 52 [some (vR q)] [vR a48, vR q] _
  refine ab_putf (fs := [vR a3, vR a12, vR a21, vz 0, vz 0, vz 0, vR a30, vz 0, vz 0, vz 0, vz 0, vz 0, vz 0, vz 0, vR a39, vN]) f_PR_27 (Or.inr ⟨rfl, _, c_PR, rfl⟩) d_PR_init_52 hq.2.2 (Nat.le_of_ble_eq_true rfl) (fun _ => ⟨rfl, rfl⟩) (hq.2.1 (by first | omega | exact (show 18 ≤ _ by omega))) ?_
  obtain ⟨G52, eG52⟩ : ∃ z : ab_G, z = List.set G46 q (ab_ob 5 [vR a3, vR a12, vR a21, vz 0, vz 0, vz 0, vR a30, vz 0, vz 0, vz 0, vz 0, vz 0, vz 0, vz 0, vR a39, vR a48]) := ⟨_, rfl⟩
  have ha3 := ha3.keep' eG52 (nq.s ne_a3_q)
  have ha12 := ha12.keep' eG52 (nq.s ne_a12_q)
  have ha21 := ha21.keep' eG52 (nq.s ne_a21_q)
  have ha30 := ha30.keep' eG52 (nq.s ne_a30_q)
  have ha39 := ha39.keep' eG52 (nq.s ne_a39_q)
  have ha48 := ha48.keep' eG52 (nq.s ne_a48_q)
  have hq53 := z_len eG52
  have hq54 := z_sl hq eG52 rfl
  have hfr := hfr.wr hq eG52 (by simp)
  have hq := hq.kept eG52
  change ab_W _ _ _ (List.set G46 q (ab_ob 5 [vR a3, vR a12, vR a21, vz 0, vz 0, vz 0, vR a30, vz 0, vz 0, vz 0, vz 0, vz 0, vz 0, vz 0, vR a39, vR a48])) 55 [some (vR q)] [] _
  rw [← eG52]
  refine ab_vret rfl d_PR_init_55 ?_
  rw [hQ]; exact ⟨_, _, _, _, _, _, _, rfl, hfr, hq, ha3, ha12, ha21, ha30, ha39, ha48, (by omega), (by omega)⟩
