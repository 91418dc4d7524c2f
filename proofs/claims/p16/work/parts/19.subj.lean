set_option maxRecDepth 100000 in
set_option maxHeartbeats 4000000 in
theorem c_SU_isWordByte_out {X : ab_X} {d : Nat} {G : ab_G} {a : Nat} {f0 f1 f2 f3 : Value} {len p : Int32} (h : G[a]? = some (ab_ob 9 [f0, f1, f2, f3, vI len])) (hp : ¬ (0 ≤ p ∧ p < len)) : ab_F X d y_SU_isWordByte (.code y_SU_isWordByte b_SU_isWordByte 2 (some (.boolean))) [vR a, vI p] G (fun o G2 => o = .returned (some (vI 0)) ∧ G2 = G) := by
  refine ab_F_of (by decide +kernel) (Nat.le_of_ble_eq_true rfl) ?_
  obtain ⟨Q, hQ⟩ : ∃ z : Outcome → ab_G → Prop, z = (fun o G2 => o = .returned (some (vI 0)) ∧ G2 = G) := ⟨_, rfl⟩
  rw [← hQ]
  change ab_W X (ab_pl y_SU_isWordByte b_SU_isWordByte 2 (some (.boolean))) d G 0 [some (vR a), some (vI p)] [] Q
  refine ab_iload_n d_SU_isWordByte_0 rfl ?_
  refine ab_if_lt (tgt := 28) d_SU_isWordByte_1 (by decide) (fun c0 => ?_) (fun c0 => ?_)
  · refine ab_iconst (v := 0) d_SU_isWordByte_28 (by decide) ?_
    exact ab_iret (rt := .boolean) rfl (by decide) d_SU_isWordByte_29 (by rw [hQ]; exact ⟨rfl, rfl⟩)
  · refine ab_iload_n d_SU_isWordByte_4 rfl ?_
    refine ab_aload_n d_SU_isWordByte_5 rfl ?_
    refine ab_getf (fs := [f0, f1, f2, f3, vI len]) f_SU_34 d_SU_isWordByte_6 h rfl ?_
    refine ab_icmp_ge (tgt := 28) d_SU_isWordByte_9 (by decide) (fun c1 => ?_) (fun c1 => ?_)
    · refine ab_iconst (v := 0) d_SU_isWordByte_28 (by decide) ?_
      exact ab_iret (rt := .boolean) rfl (by decide) d_SU_isWordByte_29 (by rw [hQ]; exact ⟨rfl, rfl⟩)
    · exact absurd ⟨Int32.not_lt.mp c0, Int32.not_le.mp c1⟩ hp
set_option maxRecDepth 100000 in
set_option maxHeartbeats 4000000 in
theorem c_SU_holdingAt_0 {X : ab_X} {d : Nat} {G : ab_G} {a : Nat} {f0 f1 f2 f3 : Value} (hd : 1 ≤ d) (h : G[a]? = some (ab_ob 9 [f0, f1, f2, f3, vI 0])) : ab_F X d y_SU_holdingAt (.code y_SU_holdingAt b_SU_holdingAt 3 (some (.int))) [vR a, vI 0] G (fun o G2 => o = .returned (some (vI 47)) ∧ G2 = G) := by
  refine ab_F_of (by decide +kernel) (Nat.le_of_ble_eq_true rfl) ?_
  obtain ⟨Q, hQ⟩ : ∃ z : Outcome → ab_G → Prop, z = (fun o G2 => o = .returned (some (vI 47)) ∧ G2 = G) := ⟨_, rfl⟩
  rw [← hQ]
  change ab_W X (ab_pl y_SU_holdingAt b_SU_holdingAt 3 (some (.int))) d G 0 [some (vR a), some (vI 0), none] [] Q
  refine ab_aload_n d_SU_holdingAt_0 rfl ?_
  refine ab_iload_n d_SU_holdingAt_1 rfl ?_
  refine ab_iconst (v := 1) d_SU_holdingAt_2 (by decide) ?_
  refine ab_isub d_SU_holdingAt_3 ?_
  refine ab_topi (y := (-1)) (by decide) ?_
  refine ab_callV (d' := d - 1) (as := [vI (-1)]) (st := []) (r := _) (c_SU_isWordByte_out h (by decide)) (fun o G2 h => ⟨_, h.1⟩) (by omega) m_SU_isWordByte ml_SU_66 im_SU_isWordByte se_SU_isWordByte c_SU h (Nat.le_of_ble_eq_true rfl) d_SU_holdingAt_4 rfl ?_
  intro v G1 hq
  obtain ⟨hv, eG1⟩ := hq
  cases hv
  rw [eG1]
  change ab_W _ _ _ G 7 [some (vR a), some (vI 0), none] [vI 0] _
  refine ab_aload_n d_SU_holdingAt_7 rfl ?_
  refine ab_iload_n d_SU_holdingAt_8 rfl ?_
  refine ab_callV (d' := d - 1) (as := [vI 0]) (st := [vI 0]) (r := _) (c_SU_isWordByte_out h (by decide)) (fun o G2 h => ⟨_, h.1⟩) (by omega) m_SU_isWordByte ml_SU_66 im_SU_isWordByte se_SU_isWordByte c_SU h (Nat.le_of_ble_eq_true rfl) d_SU_holdingAt_9 rfl ?_
  intro v G2 hq
  obtain ⟨hv, eG2⟩ := hq
  cases hv
  rw [eG2]
  change ab_W _ _ _ G 12 [some (vR a), some (vI 0), none] [vI 0, vI 0] _
  refine ab_icmp_eq (tgt := 20) d_SU_holdingAt_12 (by decide) (fun _ => ?_) (fun c => absurd c (by decide))
  refine ab_bipush (v := 32) d_SU_holdingAt_20 (by decide) ?_
  refine ab_istore_n d_SU_holdingAt_22 (Nat.le_of_ble_eq_true rfl) (Nat.le_of_ble_eq_true rfl) rfl ?_
  change ab_W _ _ _ G 23 [some (vR a), some (vI 0), some (vI 32)] [] _
  refine ab_iload_n d_SU_holdingAt_23 rfl ?_
  refine ab_iload_n d_SU_holdingAt_24 rfl ?_
  refine ab_if_ne (tgt := 32) d_SU_holdingAt_25 (by decide) (fun c => absurd c (by decide)) (fun _ => ?_)
  refine ab_iconst (v := 1) d_SU_holdingAt_28 (by decide) ?_
  refine ab_goto (tgt := 33) d_SU_holdingAt_29 (by decide) ?_
  refine ab_ior d_SU_holdingAt_33 ?_
  refine ab_topi (y := 33) (by decide) ?_
  refine ab_istore_n d_SU_holdingAt_34 (Nat.le_of_ble_eq_true rfl) (Nat.le_of_ble_eq_true rfl) rfl ?_
  change ab_W _ _ _ G 35 [some (vR a), some (vI 0), some (vI 33)] [] _
  refine ab_iload_n d_SU_holdingAt_35 rfl ?_
  refine ab_iload_n d_SU_holdingAt_36 rfl ?_
  refine ab_aload_n d_SU_holdingAt_37 rfl ?_
  refine ab_getf (fs := [f0, f1, f2, f3, vI 0]) f_SU_34 d_SU_holdingAt_38 h rfl ?_
  refine ab_icmp_ne (tgt := 48) d_SU_holdingAt_41 (by decide) (fun c => absurd c (by decide)) (fun _ => ?_)
  refine ab_iconst (v := 2) d_SU_holdingAt_44 (by decide) ?_
  refine ab_goto (tgt := 49) d_SU_holdingAt_45 (by decide) ?_
  refine ab_ior d_SU_holdingAt_49 ?_
  refine ab_topi (y := 35) (by decide) ?_
  refine ab_istore_n d_SU_holdingAt_50 (Nat.le_of_ble_eq_true rfl) (Nat.le_of_ble_eq_true rfl) rfl ?_
  change ab_W _ _ _ G 51 [some (vR a), some (vI 0), some (vI 35)] [] _
  refine ab_iload_n d_SU_holdingAt_51 rfl ?_
  refine ab_iload_n d_SU_holdingAt_52 rfl ?_
  refine ab_if_eq (tgt := 66) d_SU_holdingAt_53 (by decide) (fun _ => ?_) (fun c => absurd c (by decide))
  refine ab_iconst (v := 4) d_SU_holdingAt_66 (by decide) ?_
  refine ab_goto (tgt := 71) d_SU_holdingAt_67 (by decide) ?_
  refine ab_ior d_SU_holdingAt_71 ?_
  refine ab_topi (y := 39) (by decide) ?_
  refine ab_istore_n d_SU_holdingAt_72 (Nat.le_of_ble_eq_true rfl) (Nat.le_of_ble_eq_true rfl) rfl ?_
  change ab_W _ _ _ G 73 [some (vR a), some (vI 0), some (vI 39)] [] _
  refine ab_iload_n d_SU_holdingAt_73 rfl ?_
  refine ab_iload_n d_SU_holdingAt_74 rfl ?_
  refine ab_aload_n d_SU_holdingAt_75 rfl ?_
  refine ab_getf (fs := [f0, f1, f2, f3, vI 0]) f_SU_34 d_SU_holdingAt_76 h rfl ?_
  refine ab_icmp_eq (tgt := 90) d_SU_holdingAt_79 (by decide) (fun _ => ?_) (fun c => absurd c (by decide))
  refine ab_bipush (v := 8) d_SU_holdingAt_90 (by decide) ?_
  refine ab_goto (tgt := 96) d_SU_holdingAt_92 (by decide) ?_
  refine ab_ior d_SU_holdingAt_96 ?_
  refine ab_topi (y := 47) (by decide) ?_
  refine ab_istore_n d_SU_holdingAt_97 (Nat.le_of_ble_eq_true rfl) (Nat.le_of_ble_eq_true rfl) rfl ?_
  change ab_W _ _ _ G 98 [some (vR a), some (vI 0), some (vI 47)] [] _
  refine ab_iload_n d_SU_holdingAt_98 rfl ?_
  exact ab_iret (rt := .int) rfl rfl d_SU_holdingAt_99 (by rw [hQ]; exact ⟨rfl, rfl⟩)
set_option maxRecDepth 100000 in
set_option maxHeartbeats 4000000 in
theorem c_SU_init {X : ab_X} {d : Nat} {G : ab_G} {a n : Nat} (hd : 3 ≤ d) (ha : ab_n0 ≤ a) (hg : G[a]? = some (ab_ob 9 [vN, vN, vN, vN, vI 0])) (hlen : G.length = n) (hr : n + 4 ≤ ab_n0 + room_1.cells) (hs : ab_slots G + 131 ≤ room_1.slots) : ab_F X d y_SU_init (.code y_SU_init b_SU_init 1 none) [vR a] G (fun o G2 => o = .returned none ∧ G2 = List.set G a (ab_ob 9 [vR (n + 0), vR (n + 1), vR (n + 2), vR (n + 3), vI 0]) ++ [ab_ai 32, ab_if 33 ((upd (fun _ => 0) 0 (-1))), ab_ai 33, ab_if 33 ((upd (fun _ => 0) 0 47))]) := by
  have hal : a < G.length := (List.getElem?_eq_some_iff.mp hg).1
  have hn0 : ab_n0 ≤ G.length := by omega
  have hn18 : ab_n0 ≤ n := by omega
  refine ab_F_of (by decide +kernel) (Nat.le_of_ble_eq_true rfl) ?_
  obtain ⟨Q, hQ⟩ : ∃ z : Outcome → ab_G → Prop, z = (fun o G2 => o = .returned none ∧ G2 = List.set G a (ab_ob 9 [vR (n + 0), vR (n + 1), vR (n + 2), vR (n + 3), vI 0]) ++ [ab_ai 32, ab_if 33 ((upd (fun _ => 0) 0 (-1))), ab_ai 33, ab_if 33 ((upd (fun _ => 0) 0 47))]) := ⟨_, rfl⟩
  rw [← hQ]
  change ab_W X (ab_pl y_SU_init b_SU_init 1 none) d G 0 [some (vR a)] [] Q
  suffices hsuf : ab_W X (ab_pl y_SU_init b_SU_init 1 none) d (List.set G a (ab_ob 9 [vN, vN, vN, vN, vI 0]) ++ []) 0 [some (vR a)] [] Q by rw [← ab_g0 hg] at hsuf; exact hsuf
  refine ab_aload_n d_SU_init_0 rfl ?_
  refine ab_objInit mj_SU_3 ob_inst ob_code d_SU_init_1 (Nat.le_of_ble_eq_true rfl) (by omega) ?_
  refine ab_aload_n d_SU_init_4 rfl ?_
  refine ab_bipush (v := 32) d_SU_init_5 (by decide) ?_
  refine ab_newI (N := 32) a_int d_SU_init_7 (by decide) (by decide) (by rw [ab_cl (k := 0) hlen rfl]; omega) (by exact ab_csl [] 0 hg (by rfl) hn0 (by rfl) (by decide +kernel) (by omega)) ?_
  rw [ab_cl (k := 0) hlen rfl, ab_c1]
  change ab_W _ _ _ (List.set G a (ab_ob 9 [vN, vN, vN, vN, vI 0]) ++ [ab_ai 32]) 9 [some (vR a)] [vR (n + 0), vR a] Q
  refine ab_putf (fs := [vN, vN, vN, vN, vI 0]) f_SU_9 (Or.inl rfl) d_SU_init_9 (ab_c3 hal _ _) (Nat.le_of_ble_eq_true rfl) (fun _ => ⟨rfl, rfl⟩) ha ?_
  change ab_W _ _ _ (List.set (List.set G a (ab_ob 9 [vN, vN, vN, vN, vI 0]) ++ [ab_ai 32]) a (ab_ob 9 [vR (n + 0), vN, vN, vN, vI 0])) 12 [some (vR a)] [] Q
  rw [ab_c2 hal]
  refine ab_aload_n d_SU_init_12 rfl ?_
  refine ab_bipush (v := 33) d_SU_init_13 (by decide) ?_
  refine ab_newI (N := 33) a_int d_SU_init_15 (by decide) (by decide) (by rw [ab_cl (k := 1) hlen rfl]; omega) (by exact ab_csl [32] 32 hg (by rfl) hn0 (by rfl) (by decide +kernel) (by omega)) ?_
  rw [ab_cl (k := 1) hlen rfl, ab_c1]
  change ab_W _ _ _ (List.set G a (ab_ob 9 [vR (n + 0), vN, vN, vN, vI 0]) ++ [ab_ai 32, ab_ai 33]) 17 [some (vR a)] [vR (n + 1), vR a] Q
  refine ab_putf (fs := [vR (n + 0), vN, vN, vN, vI 0]) f_SU_15 (Or.inl rfl) d_SU_init_17 (ab_c3 hal _ _) (Nat.le_of_ble_eq_true rfl) (fun _ => ⟨rfl, rfl⟩) ha ?_
  change ab_W _ _ _ (List.set (List.set G a (ab_ob 9 [vR (n + 0), vN, vN, vN, vI 0]) ++ [ab_ai 32, ab_ai 33]) a (ab_ob 9 [vR (n + 0), vR (n + 1), vN, vN, vI 0])) 20 [some (vR a)] [] Q
  rw [ab_c2 hal]
  refine ab_aload_n d_SU_init_20 rfl ?_
  refine ab_bipush (v := 33) d_SU_init_21 (by decide) ?_
  refine ab_newI (N := 33) a_int d_SU_init_23 (by decide) (by decide) (by rw [ab_cl (k := 2) hlen rfl]; omega) (by exact ab_csl [32, 33] 65 hg (by rfl) hn0 (by rfl) (by decide +kernel) (by omega)) ?_
  rw [ab_cl (k := 2) hlen rfl, ab_c1]
  change ab_W _ _ _ (List.set G a (ab_ob 9 [vR (n + 0), vR (n + 1), vN, vN, vI 0]) ++ [ab_ai 32, ab_ai 33, ab_ai 33]) 25 [some (vR a)] [vR (n + 2), vR a] Q
  refine ab_putf (fs := [vR (n + 0), vR (n + 1), vN, vN, vI 0]) f_SU_18 (Or.inl rfl) d_SU_init_25 (ab_c3 hal _ _) (Nat.le_of_ble_eq_true rfl) (fun _ => ⟨rfl, rfl⟩) ha ?_
  change ab_W _ _ _ (List.set (List.set G a (ab_ob 9 [vR (n + 0), vR (n + 1), vN, vN, vI 0]) ++ [ab_ai 32, ab_ai 33, ab_ai 33]) a (ab_ob 9 [vR (n + 0), vR (n + 1), vR (n + 2), vN, vI 0])) 28 [some (vR a)] [] Q
  rw [ab_c2 hal]
  refine ab_aload_n d_SU_init_28 rfl ?_
  refine ab_bipush (v := 33) d_SU_init_29 (by decide) ?_
  refine ab_newI (N := 33) a_int d_SU_init_31 (by decide) (by decide) (by rw [ab_cl (k := 3) hlen rfl]; omega) (by exact ab_csl [32, 33, 33] 98 hg (by rfl) hn0 (by rfl) (by decide +kernel) (by omega)) ?_
  rw [ab_cl (k := 3) hlen rfl, ab_c1]
  change ab_W _ _ _ (List.set G a (ab_ob 9 [vR (n + 0), vR (n + 1), vR (n + 2), vN, vI 0]) ++ [ab_ai 32, ab_ai 33, ab_ai 33, ab_ai 33]) 33 [some (vR a)] [vR (n + 3), vR a] Q
  refine ab_putf (fs := [vR (n + 0), vR (n + 1), vR (n + 2), vN, vI 0]) f_SU_21 (Or.inl rfl) d_SU_init_33 (ab_c3 hal _ _) (Nat.le_of_ble_eq_true rfl) (fun _ => ⟨rfl, rfl⟩) ha ?_
  change ab_W _ _ _ (List.set (List.set G a (ab_ob 9 [vR (n + 0), vR (n + 1), vR (n + 2), vN, vI 0]) ++ [ab_ai 32, ab_ai 33, ab_ai 33, ab_ai 33]) a (ab_ob 9 [vR (n + 0), vR (n + 1), vR (n + 2), vR (n + 3), vI 0])) 36 [some (vR a)] [] Q
  rw [ab_c2 hal]
  refine ab_aload_n d_SU_init_36 rfl ?_
  refine ab_getf (fs := [vR (n + 0), vR (n + 1), vR (n + 2), vR (n + 3), vI 0]) f_SU_15 d_SU_init_37 (ab_c3 hal _ _) rfl ?_
  refine ab_iconst (v := 0) d_SU_init_40 (by decide) ?_
  refine ab_iconst (v := (-1)) d_SU_init_41 (by decide) ?_
  refine ab_iast d_SU_init_42 ((ab_c4 hlen _ _ 1).trans rfl) (by unfold vp_in; decide) (by omega) ?_
  change ab_W _ _ _ (List.set (List.set G a (ab_ob 9 [vR (n + 0), vR (n + 1), vR (n + 2), vR (n + 3), vI 0]) ++ [ab_ai 32, ab_ai 33, ab_ai 33, ab_ai 33]) (n + 1) (ab_if 33 ((upd (fun _ => 0) 0 (-1))))) 43 [some (vR a)] [] Q
  rw [ab_c5 hlen]
  change ab_W _ _ _ (List.set G a (ab_ob 9 [vR (n + 0), vR (n + 1), vR (n + 2), vR (n + 3), vI 0]) ++ [ab_ai 32, ab_if 33 ((upd (fun _ => 0) 0 (-1))), ab_ai 33, ab_ai 33]) 43 [some (vR a)] [] Q
  refine ab_aload_n d_SU_init_43 rfl ?_
  refine ab_getf (fs := [vR (n + 0), vR (n + 1), vR (n + 2), vR (n + 3), vI 0]) f_SU_21 d_SU_init_44 (ab_c3 hal _ _) rfl ?_
  refine ab_iconst (v := 0) d_SU_init_47 (by decide) ?_
  refine ab_aload_n d_SU_init_48 rfl ?_
  refine ab_iconst (v := 0) d_SU_init_49 (by decide) ?_
  refine ab_callV (d' := d - 1) (as := [vI 0]) (st := [vI 0, vR (n + 3)]) (r := _) (c_SU_holdingAt_0 (by omega) (ab_c3 hal _ _)) (fun o G2 h => ⟨_, h.1⟩) (by omega) m_SU_holdingAt ml_SU_24 im_SU_holdingAt se_SU_holdingAt c_SU (ab_c3 hal _ _) (Nat.le_of_ble_eq_true rfl) d_SU_init_50 rfl ?_
  intro v G2 hq
  obtain ⟨hv, rfl⟩ := hq
  cases hv
  change ab_W _ _ _ (List.set G a (ab_ob 9 [vR (n + 0), vR (n + 1), vR (n + 2), vR (n + 3), vI 0]) ++ [ab_ai 32, ab_if 33 ((upd (fun _ => 0) 0 (-1))), ab_ai 33, ab_ai 33]) 53 [some (vR a)] [vI 47, vI 0, vR (n + 3)] Q
  refine ab_iast d_SU_init_53 ((ab_c4 hlen _ _ 3).trans rfl) (by unfold vp_in; decide) (by omega) ?_
  change ab_W _ _ _ (List.set (List.set G a (ab_ob 9 [vR (n + 0), vR (n + 1), vR (n + 2), vR (n + 3), vI 0]) ++ [ab_ai 32, ab_if 33 ((upd (fun _ => 0) 0 (-1))), ab_ai 33, ab_ai 33]) (n + 3) (ab_if 33 ((upd (fun _ => 0) 0 47)))) 54 [some (vR a)] [] Q
  rw [ab_c5 hlen]
  change ab_W _ _ _ (List.set G a (ab_ob 9 [vR (n + 0), vR (n + 1), vR (n + 2), vR (n + 3), vI 0]) ++ [ab_ai 32, ab_if 33 ((upd (fun _ => 0) 0 (-1))), ab_ai 33, ab_if 33 ((upd (fun _ => 0) 0 47))]) 54 [some (vR a)] [] Q
  exact ab_vret rfl d_SU_init_54 (by rw [hQ]; exact ⟨rfl, rfl⟩)
