set_option maxRecDepth 100000 in
set_option maxHeartbeats 4000000 in
theorem c_RD_init {X : ab_X} {d : Nat} {G : ab_G} {a n : Nat} (hd : 3 ≤ d) (ha : ab_n0 ≤ a) (hg : G[a]? = some (ab_ob 6 [vN, vN, vI 0, vI 0, vI 0, vN, vN, vI 0, vI 0, vI 0])) (hlen : G.length = n) (hr : n + 7 ≤ ab_n0 + room_1.cells) (hs : ab_slots G + 109 ≤ room_1.slots) : ab_F X d y_RD_init (.code y_RD_init b_RD_init 1 none) [vR a] G (fun o G2 => o = .returned none ∧ G2 = List.set G a (ab_ob 6 [vR (n + 0), vR (n + 4), vI 0, vI 0, vI 0, vR (n + 5), vR (n + 6), vI 0, vI 0, vI 0]) ++ [ab_ob 10 [vR (n + 1), vR (n + 3), vI 0, vI 0, vI 0, vI (-1), vR 1, vI 0], ab_ob 1 [vR (n + 2), vI 0], ab_ai 64, ab_ai 0, ab_ob 4 [vI 4, vI 0, vN, vI (-1), vI 0, vN, vN, vN, vI 0, vI 0, vI 0, vI 0, vI 0, vI 0, vI (-1)], ab_ai 10, ab_ai 10]) := by
  have hal : a < G.length := (List.getElem?_eq_some_iff.mp hg).1
  have hn0 : ab_n0 ≤ G.length := by omega
  have hn18 : ab_n0 ≤ n := by omega
  refine ab_F_of (by decide +kernel) (Nat.le_of_ble_eq_true rfl) ?_
  obtain ⟨Q, hQ⟩ : ∃ z : Outcome → ab_G → Prop, z = (fun o G2 => o = .returned none ∧ G2 = List.set G a (ab_ob 6 [vR (n + 0), vR (n + 4), vI 0, vI 0, vI 0, vR (n + 5), vR (n + 6), vI 0, vI 0, vI 0]) ++ [ab_ob 10 [vR (n + 1), vR (n + 3), vI 0, vI 0, vI 0, vI (-1), vR 1, vI 0], ab_ob 1 [vR (n + 2), vI 0], ab_ai 64, ab_ai 0, ab_ob 4 [vI 4, vI 0, vN, vI (-1), vI 0, vN, vN, vN, vI 0, vI 0, vI 0, vI 0, vI 0, vI 0, vI (-1)], ab_ai 10, ab_ai 10]) := ⟨_, rfl⟩
  rw [← hQ]
  change ab_W X (ab_pl y_RD_init b_RD_init 1 none) d G 0 [some (vR a)] [] Q
  suffices hsuf : ab_W X (ab_pl y_RD_init b_RD_init 1 none) d (List.set G a (ab_ob 6 [vN, vN, vI 0, vI 0, vI 0, vN, vN, vI 0, vI 0, vI 0]) ++ []) 0 [some (vR a)] [] Q by rw [← ab_g0 hg] at hsuf; exact hsuf
  refine ab_aload_n d_RD_init_0 rfl ?_
  refine ab_objInit mj_RD_3 ob_inst ob_code d_RD_init_1 (Nat.le_of_ble_eq_true rfl) (by omega) ?_
  refine ab_aload_n d_RD_init_4 rfl ?_
  refine ab_new (fs := [vN, vN, vI 0, vI 0, vI 0, vI 0, vN, vI 0]) k_TX rfl cl_RD_9 inst_TX ini_TX d_RD_init_5 (by decide) (fun _ => rfl) (by rw [ab_cl (k := 0) hlen rfl]; omega) (by exact ab_csl [] 0 hg (by rfl) hn0 (by rfl) (by decide +kernel) (by omega)) ?_
  rw [ab_cl (k := 0) hlen rfl, ab_c1]
  change ab_W _ _ _ (List.set G a (ab_ob 6 [vN, vN, vI 0, vI 0, vI 0, vN, vN, vI 0, vI 0, vI 0]) ++ [ab_ob 10 [vN, vN, vI 0, vI 0, vI 0, vI 0, vN, vI 0]]) 8 [some (vR a)] [vR (n + 0), vR a] Q
  refine ab_dup d_RD_init_8 rfl ?_
  refine ab_callI (d' := d - 1) (as := []) (st := [vR (n + 0), vR a]) (c_TX_init (n := n + 1) (by omega) (by omega) ((ab_c4 hlen _ _ 0).trans rfl) (ab_cl hlen rfl) (by omega) (by exact ab_csl [8] 8 hg (by rfl) hn0 (by rfl) (by decide +kernel) (by omega))) (fun o G2 h => ⟨_, h.1⟩) (by omega) m_TX_init ml_RD_11 im_TX_init rfl (Nat.le_of_ble_eq_true rfl) d_RD_init_9 rfl ?_
  intro v G2 hq
  obtain ⟨hv, rfl⟩ := hq
  cases hv
  change ab_W _ _ _ (List.set (List.set G a (ab_ob 6 [vN, vN, vI 0, vI 0, vI 0, vN, vN, vI 0, vI 0, vI 0]) ++ [ab_ob 10 [vN, vN, vI 0, vI 0, vI 0, vI 0, vN, vI 0]]) (n + 0) (ab_ob 10 [vR (n + 1), vR (n + 3), vI 0, vI 0, vI 0, vI (-1), vR 1, vI 0]) ++ [ab_ob 1 [vR (n + 2), vI 0], ab_ai 64, ab_ai 0]) 12 [some (vR a)] [vR (n + 0), vR a] Q
  rw [ab_c6 hlen]
  change ab_W _ _ _ (List.set G a (ab_ob 6 [vN, vN, vI 0, vI 0, vI 0, vN, vN, vI 0, vI 0, vI 0]) ++ [ab_ob 10 [vR (n + 1), vR (n + 3), vI 0, vI 0, vI 0, vI (-1), vR 1, vI 0], ab_ob 1 [vR (n + 2), vI 0], ab_ai 64, ab_ai 0]) 12 [some (vR a)] [vR (n + 0), vR a] Q
  refine ab_putf (fs := [vN, vN, vI 0, vI 0, vI 0, vN, vN, vI 0, vI 0, vI 0]) f_RD_12 (Or.inr ⟨rfl, _, c_RD, rfl⟩) d_RD_init_12 (ab_c3 hal _ _) (Nat.le_of_ble_eq_true rfl) (fun _ => ⟨rfl, rfl⟩) ha ?_
  change ab_W _ _ _ (List.set (List.set G a (ab_ob 6 [vN, vN, vI 0, vI 0, vI 0, vN, vN, vI 0, vI 0, vI 0]) ++ [ab_ob 10 [vR (n + 1), vR (n + 3), vI 0, vI 0, vI 0, vI (-1), vR 1, vI 0], ab_ob 1 [vR (n + 2), vI 0], ab_ai 64, ab_ai 0]) a (ab_ob 6 [vR (n + 0), vN, vI 0, vI 0, vI 0, vN, vN, vI 0, vI 0, vI 0])) 15 [some (vR a)] [] Q
  rw [ab_c2 hal]
  refine ab_aload_n d_RD_init_15 rfl ?_
  refine ab_new (fs := [vI 0, vI 0, vN, vI 0, vI 0, vN, vN, vN, vI 0, vI 0, vI 0, vI 0, vI 0, vI 0, vI 0]) k_PA rfl cl_RD_18 inst_PA ini_PA d_RD_init_16 (by decide) (fun _ => rfl) (by rw [ab_cl (k := 4) hlen rfl]; omega) (by exact ab_csl [8, 2, 64, 0] 74 hg (by rfl) hn0 (by rfl) (by decide +kernel) (by omega)) ?_
  rw [ab_cl (k := 4) hlen rfl, ab_c1]
  change ab_W _ _ _ (List.set G a (ab_ob 6 [vR (n + 0), vN, vI 0, vI 0, vI 0, vN, vN, vI 0, vI 0, vI 0]) ++ [ab_ob 10 [vR (n + 1), vR (n + 3), vI 0, vI 0, vI 0, vI (-1), vR 1, vI 0], ab_ob 1 [vR (n + 2), vI 0], ab_ai 64, ab_ai 0, ab_ob 4 [vI 0, vI 0, vN, vI 0, vI 0, vN, vN, vN, vI 0, vI 0, vI 0, vI 0, vI 0, vI 0, vI 0]]) 19 [some (vR a)] [vR (n + 4), vR a] Q
  refine ab_dup d_RD_init_19 rfl ?_
  refine ab_iconst (v := 4) d_RD_init_20 (by decide) ?_
  refine ab_iconst (v := 0) d_RD_init_21 (by decide) ?_
  refine ab_iconst (v := 0) d_RD_init_22 (by decide) ?_
  refine ab_iconst (v := 0) d_RD_init_23 (by decide) ?_
  refine ab_callI (d' := d - 1) (as := [vI 4, vI 0, vI 0, vI 0]) (st := [vR (n + 4), vR a]) (c_PA_init (n := n + 5) (x1 := 4) (x2 := 0) (x3 := 0) (x4 := 0) (by omega) (by omega) ((ab_c4 hlen _ _ 4).trans rfl) (ab_cl hlen rfl) (by omega) (by exact ab_csl [8, 2, 64, 0, 15] 89 hg (by rfl) hn0 (by rfl) (by decide +kernel) (by omega)) ab_fb0) (fun o G2 h => ⟨_, h.1⟩) (by omega) m_PA_init ml_RD_20 im_PA_init rfl (Nat.le_of_ble_eq_true rfl) d_RD_init_24 rfl ?_
  intro v G2 hq
  obtain ⟨hv, rfl⟩ := hq
  cases hv
  change ab_W _ _ _ (List.set (List.set G a (ab_ob 6 [vR (n + 0), vN, vI 0, vI 0, vI 0, vN, vN, vI 0, vI 0, vI 0]) ++ [ab_ob 10 [vR (n + 1), vR (n + 3), vI 0, vI 0, vI 0, vI (-1), vR 1, vI 0], ab_ob 1 [vR (n + 2), vI 0], ab_ai 64, ab_ai 0, ab_ob 4 [vI 0, vI 0, vN, vI 0, vI 0, vN, vN, vN, vI 0, vI 0, vI 0, vI 0, vI 0, vI 0, vI 0]]) (n + 4) (ab_ob 4 [vI 4, vI 0, vN, vI (-1), vI 0, vN, vN, vN, vI 0, vI 0, vI 0, vI 0, vI 0, vI 0, vI (-1)]) ++ []) 27 [some (vR a)] [vR (n + 4), vR a] Q
  rw [ab_c6 hlen]
  change ab_W _ _ _ (List.set G a (ab_ob 6 [vR (n + 0), vN, vI 0, vI 0, vI 0, vN, vN, vI 0, vI 0, vI 0]) ++ [ab_ob 10 [vR (n + 1), vR (n + 3), vI 0, vI 0, vI 0, vI (-1), vR 1, vI 0], ab_ob 1 [vR (n + 2), vI 0], ab_ai 64, ab_ai 0, ab_ob 4 [vI 4, vI 0, vN, vI (-1), vI 0, vN, vN, vN, vI 0, vI 0, vI 0, vI 0, vI 0, vI 0, vI (-1)]]) 27 [some (vR a)] [vR (n + 4), vR a] Q
  refine ab_putf (fs := [vR (n + 0), vN, vI 0, vI 0, vI 0, vN, vN, vI 0, vI 0, vI 0]) f_RD_23 (Or.inl rfl) d_RD_init_27 (ab_c3 hal _ _) (Nat.le_of_ble_eq_true rfl) (fun _ => ⟨rfl, rfl⟩) ha ?_
  change ab_W _ _ _ (List.set (List.set G a (ab_ob 6 [vR (n + 0), vN, vI 0, vI 0, vI 0, vN, vN, vI 0, vI 0, vI 0]) ++ [ab_ob 10 [vR (n + 1), vR (n + 3), vI 0, vI 0, vI 0, vI (-1), vR 1, vI 0], ab_ob 1 [vR (n + 2), vI 0], ab_ai 64, ab_ai 0, ab_ob 4 [vI 4, vI 0, vN, vI (-1), vI 0, vN, vN, vN, vI 0, vI 0, vI 0, vI 0, vI 0, vI 0, vI (-1)]]) a (ab_ob 6 [vR (n + 0), vR (n + 4), vI 0, vI 0, vI 0, vN, vN, vI 0, vI 0, vI 0])) 30 [some (vR a)] [] Q
  rw [ab_c2 hal]
  refine ab_aload_n d_RD_init_30 rfl ?_
  refine ab_bipush (v := 10) d_RD_init_31 (by decide) ?_
  refine ab_newI (N := 10) a_int d_RD_init_33 (by decide) (by decide) (by rw [ab_cl (k := 5) hlen rfl]; omega) (by exact ab_csl [8, 2, 64, 0, 15] 89 hg (by rfl) hn0 (by rfl) (by decide +kernel) (by omega)) ?_
  rw [ab_cl (k := 5) hlen rfl, ab_c1]
  change ab_W _ _ _ (List.set G a (ab_ob 6 [vR (n + 0), vR (n + 4), vI 0, vI 0, vI 0, vN, vN, vI 0, vI 0, vI 0]) ++ [ab_ob 10 [vR (n + 1), vR (n + 3), vI 0, vI 0, vI 0, vI (-1), vR 1, vI 0], ab_ob 1 [vR (n + 2), vI 0], ab_ai 64, ab_ai 0, ab_ob 4 [vI 4, vI 0, vN, vI (-1), vI 0, vN, vN, vN, vI 0, vI 0, vI 0, vI 0, vI 0, vI 0, vI (-1)], ab_ai 10]) 35 [some (vR a)] [vR (n + 5), vR a] Q
  refine ab_putf (fs := [vR (n + 0), vR (n + 4), vI 0, vI 0, vI 0, vN, vN, vI 0, vI 0, vI 0]) f_RD_27 (Or.inr ⟨rfl, _, c_RD, rfl⟩) d_RD_init_35 (ab_c3 hal _ _) (Nat.le_of_ble_eq_true rfl) (fun _ => ⟨rfl, rfl⟩) ha ?_
  change ab_W _ _ _ (List.set (List.set G a (ab_ob 6 [vR (n + 0), vR (n + 4), vI 0, vI 0, vI 0, vN, vN, vI 0, vI 0, vI 0]) ++ [ab_ob 10 [vR (n + 1), vR (n + 3), vI 0, vI 0, vI 0, vI (-1), vR 1, vI 0], ab_ob 1 [vR (n + 2), vI 0], ab_ai 64, ab_ai 0, ab_ob 4 [vI 4, vI 0, vN, vI (-1), vI 0, vN, vN, vN, vI 0, vI 0, vI 0, vI 0, vI 0, vI 0, vI (-1)], ab_ai 10]) a (ab_ob 6 [vR (n + 0), vR (n + 4), vI 0, vI 0, vI 0, vR (n + 5), vN, vI 0, vI 0, vI 0])) 38 [some (vR a)] [] Q
  rw [ab_c2 hal]
  refine ab_aload_n d_RD_init_38 rfl ?_
  refine ab_bipush (v := 10) d_RD_init_39 (by decide) ?_
  refine ab_newI (N := 10) a_int d_RD_init_41 (by decide) (by decide) (by rw [ab_cl (k := 6) hlen rfl]; omega) (by exact ab_csl [8, 2, 64, 0, 15, 10] 99 hg (by rfl) hn0 (by rfl) (by decide +kernel) (by omega)) ?_
  rw [ab_cl (k := 6) hlen rfl, ab_c1]
  change ab_W _ _ _ (List.set G a (ab_ob 6 [vR (n + 0), vR (n + 4), vI 0, vI 0, vI 0, vR (n + 5), vN, vI 0, vI 0, vI 0]) ++ [ab_ob 10 [vR (n + 1), vR (n + 3), vI 0, vI 0, vI 0, vI (-1), vR 1, vI 0], ab_ob 1 [vR (n + 2), vI 0], ab_ai 64, ab_ai 0, ab_ob 4 [vI 4, vI 0, vN, vI (-1), vI 0, vN, vN, vN, vI 0, vI 0, vI 0, vI 0, vI 0, vI 0, vI (-1)], ab_ai 10, ab_ai 10]) 43 [some (vR a)] [vR (n + 6), vR a] Q
  refine ab_putf (fs := [vR (n + 0), vR (n + 4), vI 0, vI 0, vI 0, vR (n + 5), vN, vI 0, vI 0, vI 0]) f_RD_31 (Or.inr ⟨rfl, _, c_RD, rfl⟩) d_RD_init_43 (ab_c3 hal _ _) (Nat.le_of_ble_eq_true rfl) (fun _ => ⟨rfl, rfl⟩) ha ?_
  change ab_W _ _ _ (List.set (List.set G a (ab_ob 6 [vR (n + 0), vR (n + 4), vI 0, vI 0, vI 0, vR (n + 5), vN, vI 0, vI 0, vI 0]) ++ [ab_ob 10 [vR (n + 1), vR (n + 3), vI 0, vI 0, vI 0, vI (-1), vR 1, vI 0], ab_ob 1 [vR (n + 2), vI 0], ab_ai 64, ab_ai 0, ab_ob 4 [vI 4, vI 0, vN, vI (-1), vI 0, vN, vN, vN, vI 0, vI 0, vI 0, vI 0, vI 0, vI 0, vI (-1)], ab_ai 10, ab_ai 10]) a (ab_ob 6 [vR (n + 0), vR (n + 4), vI 0, vI 0, vI 0, vR (n + 5), vR (n + 6), vI 0, vI 0, vI 0])) 46 [some (vR a)] [] Q
  rw [ab_c2 hal]
  exact ab_vret rfl d_RD_init_46 (by rw [hQ]; exact ⟨rfl, rfl⟩)
