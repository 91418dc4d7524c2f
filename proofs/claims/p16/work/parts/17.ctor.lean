/-! constructors: a world is the one before, the object's own cell set, new cells behind it -/
theorem ab_c1 (G T : ab_G) (c : ab_E) : (G ++ T) ++ [c] = G ++ (T ++ [c]) := List.append_assoc ..
theorem ab_c2 {G : ab_G} {a : Nat} (h : a < G.length) (e e' : ab_E) (T : ab_G) : List.set (List.set G a e ++ T) a e' = List.set G a e' ++ T := by
  rw [List.set_append_left _ _ (by rw [List.length_set]; exact h), List.set_set]
theorem ab_c3 {G : ab_G} {a : Nat} (h : a < G.length) (e : ab_E) (T : ab_G) : (List.set G a e ++ T)[a]? = some e := by
  rw [List.getElem?_append_left (by rw [List.length_set]; exact h), List.getElem?_set_self h]
theorem ab_c4 {G : ab_G} {a n : Nat} (hl : G.length = n) (e : ab_E) (T : ab_G) (j : Nat) : (List.set G a e ++ T)[n + j]? = T[j]? := by
  rw [List.getElem?_append_right (by rw [List.length_set]; omega), List.length_set, hl, Nat.add_sub_cancel_left]
theorem ab_c5 {G : ab_G} {a n : Nat} (hl : G.length = n) (e c : ab_E) (T : ab_G) (j : Nat) : List.set (List.set G a e ++ T) (n + j) c = List.set G a e ++ List.set T j c := by
  rw [List.set_append_right _ _ (by rw [List.length_set]; omega), List.length_set, hl, Nat.add_sub_cancel_left]
theorem ab_c6 {G : ab_G} {a n : Nat} (hl : G.length = n) (e c : ab_E) (T T2 : ab_G) (j : Nat) : List.set (List.set G a e ++ T) (n + j) c ++ T2 = List.set G a e ++ (List.set T j c ++ T2) := by
  rw [ab_c5 hl, List.append_assoc]
theorem ab_cl {G : ab_G} {a n k : Nat} {e : ab_E} {T : ab_G} (hl : G.length = n) (hk : T.length = k) : (List.set G a e ++ T).length = n + k := by
  rw [List.length_append, List.length_set, hl, hk]
theorem ab_cs {G : ab_G} {a k : Nat} {e e0 : ab_E} {T : ab_G} (hg : G[a]? = some e0) (hz : ab_sz e = ab_sz e0) (hn : ab_n0 ≤ G.length) (hk : (T.map ab_sz).sum = k) : ab_slots (List.set G a e ++ T) = ab_slots G + k := by
  unfold ab_slots
  rw [List.map_append, List.drop_append_of_le_length (by rw [List.length_map, List.length_set]; exact hn), List.sum_append, hk]
  have h := ab_slots_set hg hz
  unfold ab_slots at h
  rw [h]
theorem ab_csl {G : ab_G} {a N M : Nat} {e e0 : ab_E} {T : ab_G} (ss : List Nat) (k : Nat) (hg : G[a]? = some e0) (hz : ab_sz e = ab_sz e0) (hn : ab_n0 ≤ G.length) (hss : T.map ab_sz = ss) (hk : ss.sum = k) (h : ab_slots G + k + N ≤ M) : ab_slots (List.set G a e ++ T) + N ≤ M := by
  rw [ab_cs hg hz hn ((congrArg List.sum hss).trans hk)]; exact h
theorem ab_g0 {G : ab_G} {a : Nat} {e : ab_E} (hg : G[a]? = some e) : G = List.set G a e ++ [] := by
  have hal := (List.getElem?_eq_some_iff.mp hg).1
  have hx := (List.getElem?_eq_some_iff.mp hg).2
  rw [List.append_nil, ← hx, List.set_getElem_self]

set_option maxRecDepth 100000 in
set_option maxHeartbeats 4000000 in
theorem c_RW_init {X : ab_X} {d : Nat} {G : ab_G} {a n : Nat} {x1 : Int32} (hd : 1 ≤ d) (ha : ab_n0 ≤ a) (hg : G[a]? = some (ab_ob 7 [vI 0, vN, vI 0])) (hlen : G.length = n) (hr : n + 1 ≤ ab_n0 + room_1.cells) (hs : ab_slots G + 32 ≤ room_1.slots) : ab_F X d y_RW_init (.code y_RW_init b_RW_init 2 none) [vR a, vI x1] G (fun o G2 => o = .returned none ∧ G2 = List.set G a (ab_ob 7 [vI x1, vR (n + 0), vI 0]) ++ [ab_ai 32]) := by
  have hal : a < G.length := (List.getElem?_eq_some_iff.mp hg).1
  have hn0 : ab_n0 ≤ G.length := by omega
  have hn18 : ab_n0 ≤ n := by omega
  refine ab_F_of (by decide +kernel) (Nat.le_of_ble_eq_true rfl) ?_
  obtain ⟨Q, hQ⟩ : ∃ z : Outcome → ab_G → Prop, z = (fun o G2 => o = .returned none ∧ G2 = List.set G a (ab_ob 7 [vI x1, vR (n + 0), vI 0]) ++ [ab_ai 32]) := ⟨_, rfl⟩
  rw [← hQ]
  change ab_W X (ab_pl y_RW_init b_RW_init 2 none) d G 0 [some (vR a), some (vI x1)] [] Q
  suffices hsuf : ab_W X (ab_pl y_RW_init b_RW_init 2 none) d (List.set G a (ab_ob 7 [vI 0, vN, vI 0]) ++ []) 0 [some (vR a), some (vI x1)] [] Q by rw [← ab_g0 hg] at hsuf; exact hsuf
  refine ab_aload_n d_RW_init_0 rfl ?_
  refine ab_objInit mj_RW_3 ob_inst ob_code d_RW_init_1 (Nat.le_of_ble_eq_true rfl) (by omega) ?_
  refine ab_aload_n d_RW_init_4 rfl ?_
  refine ab_bipush (v := 32) d_RW_init_5 (by decide) ?_
  refine ab_newI (N := 32) a_int d_RW_init_7 (by decide) (by decide) (by rw [ab_cl (k := 0) hlen rfl]; omega) (by exact ab_csl [] 0 hg (by rfl) hn0 (by rfl) (by decide +kernel) (by omega)) ?_
  rw [ab_cl (k := 0) hlen rfl, ab_c1]
  change ab_W _ _ _ (List.set G a (ab_ob 7 [vI 0, vN, vI 0]) ++ [ab_ai 32]) 9 [some (vR a), some (vI x1)] [vR (n + 0), vR a] Q
  refine ab_putf (fs := [vI 0, vN, vI 0]) f_RW_9 (Or.inl rfl) d_RW_init_9 (ab_c3 hal _ _) (Nat.le_of_ble_eq_true rfl) (fun _ => ⟨rfl, rfl⟩) ha ?_
  change ab_W _ _ _ (List.set (List.set G a (ab_ob 7 [vI 0, vN, vI 0]) ++ [ab_ai 32]) a (ab_ob 7 [vI 0, vR (n + 0), vI 0])) 12 [some (vR a), some (vI x1)] [] Q
  rw [ab_c2 hal]
  refine ab_aload_n d_RW_init_12 rfl ?_
  refine ab_iload_n d_RW_init_13 rfl ?_
  refine ab_putf (fs := [vI 0, vR (n + 0), vI 0]) f_RW_15 (Or.inr ⟨rfl, _, c_RW, rfl⟩) d_RW_init_14 (ab_c3 hal _ _) (Nat.le_of_ble_eq_true rfl) (fun _ => ⟨rfl, rfl⟩) ha ?_
  change ab_W _ _ _ (List.set (List.set G a (ab_ob 7 [vI 0, vR (n + 0), vI 0]) ++ [ab_ai 32]) a (ab_ob 7 [vI x1, vR (n + 0), vI 0])) 17 [some (vR a), some (vI x1)] [] Q
  rw [ab_c2 hal]
  exact ab_vret rfl d_RW_init_17 (by rw [hQ]; exact ⟨rfl, rfl⟩)
set_option maxRecDepth 100000 in
set_option maxHeartbeats 4000000 in
theorem c_CS_init {X : ab_X} {d : Nat} {G : ab_G} {a n : Nat} (hd : 1 ≤ d) (ha : ab_n0 ≤ a) (hg : G[a]? = some (ab_ob 1 [vN, vI 0])) (hlen : G.length = n) (hr : n + 1 ≤ ab_n0 + room_1.cells) (hs : ab_slots G + 64 ≤ room_1.slots) : ab_F X d y_CS_init (.code y_CS_init b_CS_init 1 none) [vR a] G (fun o G2 => o = .returned none ∧ G2 = List.set G a (ab_ob 1 [vR (n + 0), vI 0]) ++ [ab_ai 64]) := by
  have hal : a < G.length := (List.getElem?_eq_some_iff.mp hg).1
  have hn0 : ab_n0 ≤ G.length := by omega
  have hn18 : ab_n0 ≤ n := by omega
  refine ab_F_of (by decide +kernel) (Nat.le_of_ble_eq_true rfl) ?_
  obtain ⟨Q, hQ⟩ : ∃ z : Outcome → ab_G → Prop, z = (fun o G2 => o = .returned none ∧ G2 = List.set G a (ab_ob 1 [vR (n + 0), vI 0]) ++ [ab_ai 64]) := ⟨_, rfl⟩
  rw [← hQ]
  change ab_W X (ab_pl y_CS_init b_CS_init 1 none) d G 0 [some (vR a)] [] Q
  suffices hsuf : ab_W X (ab_pl y_CS_init b_CS_init 1 none) d (List.set G a (ab_ob 1 [vN, vI 0]) ++ []) 0 [some (vR a)] [] Q by rw [← ab_g0 hg] at hsuf; exact hsuf
  refine ab_aload_n d_CS_init_0 rfl ?_
  refine ab_objInit mj_CS_3 ob_inst ob_code d_CS_init_1 (Nat.le_of_ble_eq_true rfl) (by omega) ?_
  refine ab_aload_n d_CS_init_4 rfl ?_
  refine ab_bipush (v := 64) d_CS_init_5 (by decide) ?_
  refine ab_newI (N := 64) a_int d_CS_init_7 (by decide) (by decide) (by rw [ab_cl (k := 0) hlen rfl]; omega) (by exact ab_csl [] 0 hg (by rfl) hn0 (by rfl) (by decide +kernel) (by omega)) ?_
  rw [ab_cl (k := 0) hlen rfl, ab_c1]
  change ab_W _ _ _ (List.set G a (ab_ob 1 [vN, vI 0]) ++ [ab_ai 64]) 9 [some (vR a)] [vR (n + 0), vR a] Q
  refine ab_putf (fs := [vN, vI 0]) f_CS_9 (Or.inl rfl) d_CS_init_9 (ab_c3 hal _ _) (Nat.le_of_ble_eq_true rfl) (fun _ => ⟨rfl, rfl⟩) ha ?_
  change ab_W _ _ _ (List.set (List.set G a (ab_ob 1 [vN, vI 0]) ++ [ab_ai 64]) a (ab_ob 1 [vR (n + 0), vI 0])) 12 [some (vR a)] [] Q
  rw [ab_c2 hal]
  exact ab_vret rfl d_CS_init_12 (by rw [hQ]; exact ⟨rfl, rfl⟩)
set_option maxRecDepth 100000 in
set_option maxHeartbeats 4000000 in
theorem c_MK_init {X : ab_X} {d : Nat} {G : ab_G} {a n : Nat} (hd : 1 ≤ d) (ha : ab_n0 ≤ a) (hg : G[a]? = some (ab_ob 2 [vN, vN, vN, vI 0, vI 0, vN, vI 0, vI 0, vI 0, vI 0, vN, vN, vJ 0])) (hlen : G.length = n) (hr : n + 4 ≤ ab_n0 + room_1.cells) (hs : ab_slots G + 168 ≤ room_1.slots) : ab_F X d y_MK_init (.code y_MK_init b_MK_init 1 none) [vR a] G (fun o G2 => o = .returned none ∧ G2 = List.set G a (ab_ob 2 [vR (n + 0), vR (n + 1), vR (n + 2), vI 0, vI 0, vR (n + 3), vI 0, vI 0, vI 0, vI 0, vN, vN, vJ 0]) ++ [ab_ai 20, ab_ai 20, ab_ai 64, ab_ai 64]) := by
  have hal : a < G.length := (List.getElem?_eq_some_iff.mp hg).1
  have hn0 : ab_n0 ≤ G.length := by omega
  have hn18 : ab_n0 ≤ n := by omega
  refine ab_F_of (by decide +kernel) (Nat.le_of_ble_eq_true rfl) ?_
  obtain ⟨Q, hQ⟩ : ∃ z : Outcome → ab_G → Prop, z = (fun o G2 => o = .returned none ∧ G2 = List.set G a (ab_ob 2 [vR (n + 0), vR (n + 1), vR (n + 2), vI 0, vI 0, vR (n + 3), vI 0, vI 0, vI 0, vI 0, vN, vN, vJ 0]) ++ [ab_ai 20, ab_ai 20, ab_ai 64, ab_ai 64]) := ⟨_, rfl⟩
  rw [← hQ]
  change ab_W X (ab_pl y_MK_init b_MK_init 1 none) d G 0 [some (vR a)] [] Q
  suffices hsuf : ab_W X (ab_pl y_MK_init b_MK_init 1 none) d (List.set G a (ab_ob 2 [vN, vN, vN, vI 0, vI 0, vN, vI 0, vI 0, vI 0, vI 0, vN, vN, vJ 0]) ++ []) 0 [some (vR a)] [] Q by rw [← ab_g0 hg] at hsuf; exact hsuf
  refine ab_aload_n d_MK_init_0 rfl ?_
  refine ab_objInit mj_MK_3 ob_inst ob_code d_MK_init_1 (Nat.le_of_ble_eq_true rfl) (by omega) ?_
  refine ab_aload_n d_MK_init_4 rfl ?_
  refine ab_bipush (v := 20) d_MK_init_5 (by decide) ?_
  refine ab_newI (N := 20) a_int d_MK_init_7 (by decide) (by decide) (by rw [ab_cl (k := 0) hlen rfl]; omega) (by exact ab_csl [] 0 hg (by rfl) hn0 (by rfl) (by decide +kernel) (by omega)) ?_
  rw [ab_cl (k := 0) hlen rfl, ab_c1]
  change ab_W _ _ _ (List.set G a (ab_ob 2 [vN, vN, vN, vI 0, vI 0, vN, vI 0, vI 0, vI 0, vI 0, vN, vN, vJ 0]) ++ [ab_ai 20]) 9 [some (vR a)] [vR (n + 0), vR a] Q
  refine ab_putf (fs := [vN, vN, vN, vI 0, vI 0, vN, vI 0, vI 0, vI 0, vI 0, vN, vN, vJ 0]) f_MK_9 (Or.inl rfl) d_MK_init_9 (ab_c3 hal _ _) (Nat.le_of_ble_eq_true rfl) (fun _ => ⟨rfl, rfl⟩) ha ?_
  change ab_W _ _ _ (List.set (List.set G a (ab_ob 2 [vN, vN, vN, vI 0, vI 0, vN, vI 0, vI 0, vI 0, vI 0, vN, vN, vJ 0]) ++ [ab_ai 20]) a (ab_ob 2 [vR (n + 0), vN, vN, vI 0, vI 0, vN, vI 0, vI 0, vI 0, vI 0, vN, vN, vJ 0])) 12 [some (vR a)] [] Q
  rw [ab_c2 hal]
  refine ab_aload_n d_MK_init_12 rfl ?_
  refine ab_bipush (v := 20) d_MK_init_13 (by decide) ?_
  refine ab_newI (N := 20) a_int d_MK_init_15 (by decide) (by decide) (by rw [ab_cl (k := 1) hlen rfl]; omega) (by exact ab_csl [20] 20 hg (by rfl) hn0 (by rfl) (by decide +kernel) (by omega)) ?_
  rw [ab_cl (k := 1) hlen rfl, ab_c1]
  change ab_W _ _ _ (List.set G a (ab_ob 2 [vR (n + 0), vN, vN, vI 0, vI 0, vN, vI 0, vI 0, vI 0, vI 0, vN, vN, vJ 0]) ++ [ab_ai 20, ab_ai 20]) 17 [some (vR a)] [vR (n + 1), vR a] Q
  refine ab_putf (fs := [vR (n + 0), vN, vN, vI 0, vI 0, vN, vI 0, vI 0, vI 0, vI 0, vN, vN, vJ 0]) f_MK_15 (Or.inr ⟨rfl, _, c_MK, rfl⟩) d_MK_init_17 (ab_c3 hal _ _) (Nat.le_of_ble_eq_true rfl) (fun _ => ⟨rfl, rfl⟩) ha ?_
  change ab_W _ _ _ (List.set (List.set G a (ab_ob 2 [vR (n + 0), vN, vN, vI 0, vI 0, vN, vI 0, vI 0, vI 0, vI 0, vN, vN, vJ 0]) ++ [ab_ai 20, ab_ai 20]) a (ab_ob 2 [vR (n + 0), vR (n + 1), vN, vI 0, vI 0, vN, vI 0, vI 0, vI 0, vI 0, vN, vN, vJ 0])) 20 [some (vR a)] [] Q
  rw [ab_c2 hal]
  refine ab_aload_n d_MK_init_20 rfl ?_
  refine ab_bipush (v := 64) d_MK_init_21 (by decide) ?_
  refine ab_newI (N := 64) a_int d_MK_init_23 (by decide) (by decide) (by rw [ab_cl (k := 2) hlen rfl]; omega) (by exact ab_csl [20, 20] 40 hg (by rfl) hn0 (by rfl) (by decide +kernel) (by omega)) ?_
  rw [ab_cl (k := 2) hlen rfl, ab_c1]
  change ab_W _ _ _ (List.set G a (ab_ob 2 [vR (n + 0), vR (n + 1), vN, vI 0, vI 0, vN, vI 0, vI 0, vI 0, vI 0, vN, vN, vJ 0]) ++ [ab_ai 20, ab_ai 20, ab_ai 64]) 25 [some (vR a)] [vR (n + 2), vR a] Q
  refine ab_putf (fs := [vR (n + 0), vR (n + 1), vN, vI 0, vI 0, vN, vI 0, vI 0, vI 0, vI 0, vN, vN, vJ 0]) f_MK_18 (Or.inl rfl) d_MK_init_25 (ab_c3 hal _ _) (Nat.le_of_ble_eq_true rfl) (fun _ => ⟨rfl, rfl⟩) ha ?_
  change ab_W _ _ _ (List.set (List.set G a (ab_ob 2 [vR (n + 0), vR (n + 1), vN, vI 0, vI 0, vN, vI 0, vI 0, vI 0, vI 0, vN, vN, vJ 0]) ++ [ab_ai 20, ab_ai 20, ab_ai 64]) a (ab_ob 2 [vR (n + 0), vR (n + 1), vR (n + 2), vI 0, vI 0, vN, vI 0, vI 0, vI 0, vI 0, vN, vN, vJ 0])) 28 [some (vR a)] [] Q
  rw [ab_c2 hal]
  refine ab_aload_n d_MK_init_28 rfl ?_
  refine ab_bipush (v := 64) d_MK_init_29 (by decide) ?_
  refine ab_newI (N := 64) a_int d_MK_init_31 (by decide) (by decide) (by rw [ab_cl (k := 3) hlen rfl]; omega) (by exact ab_csl [20, 20, 64] 104 hg (by rfl) hn0 (by rfl) (by decide +kernel) (by omega)) ?_
  rw [ab_cl (k := 3) hlen rfl, ab_c1]
  change ab_W _ _ _ (List.set G a (ab_ob 2 [vR (n + 0), vR (n + 1), vR (n + 2), vI 0, vI 0, vN, vI 0, vI 0, vI 0, vI 0, vN, vN, vJ 0]) ++ [ab_ai 20, ab_ai 20, ab_ai 64, ab_ai 64]) 33 [some (vR a)] [vR (n + 3), vR a] Q
  refine ab_putf (fs := [vR (n + 0), vR (n + 1), vR (n + 2), vI 0, vI 0, vN, vI 0, vI 0, vI 0, vI 0, vN, vN, vJ 0]) f_MK_21 (Or.inl rfl) d_MK_init_33 (ab_c3 hal _ _) (Nat.le_of_ble_eq_true rfl) (fun _ => ⟨rfl, rfl⟩) ha ?_
  change ab_W _ _ _ (List.set (List.set G a (ab_ob 2 [vR (n + 0), vR (n + 1), vR (n + 2), vI 0, vI 0, vN, vI 0, vI 0, vI 0, vI 0, vN, vN, vJ 0]) ++ [ab_ai 20, ab_ai 20, ab_ai 64, ab_ai 64]) a (ab_ob 2 [vR (n + 0), vR (n + 1), vR (n + 2), vI 0, vI 0, vR (n + 3), vI 0, vI 0, vI 0, vI 0, vN, vN, vJ 0])) 36 [some (vR a)] [] Q
  rw [ab_c2 hal]
  exact ab_vret rfl d_MK_init_36 (by rw [hQ]; exact ⟨rfl, rfl⟩)
set_option maxRecDepth 100000 in
set_option maxHeartbeats 4000000 in
theorem c_OM_init {X : ab_X} {d : Nat} {G : ab_G} {a n : Nat} (hd : 2 ≤ d) (ha : ab_n0 ≤ a) (hg : G[a]? = some (ab_ob 3 [vN, vN, vN, vN, vN, vN, vN, vI 0, vI 0, vI 0, vN, vN, vI 0, vI 0, vJ 0])) (hlen : G.length = n) (hr : n + 8 ≤ ab_n0 + room_1.cells) (hs : ab_slots G + 126 ≤ room_1.slots) : ab_F X d y_OM_init (.code y_OM_init b_OM_init 1 none) [vR a] G (fun o G2 => o = .returned none ∧ G2 = List.set G a (ab_ob 3 [vR (n + 0), vR (n + 1), vR (n + 2), vR (n + 3), vR (n + 5), vR (n + 6), vR (n + 7), vI 0, vI 0, vI 0, vN, vN, vI 0, vI 0, vJ 0]) ++ [ab_ai 20, ab_ai 20, ab_ai 20, ab_ob 1 [vR (n + 4), vI 0], ab_ai 64, ab_ai 0, ab_ai 0, ab_ai 0]) := by
  have hal : a < G.length := (List.getElem?_eq_some_iff.mp hg).1
  have hn0 : ab_n0 ≤ G.length := by omega
  have hn18 : ab_n0 ≤ n := by omega
  refine ab_F_of (by decide +kernel) (Nat.le_of_ble_eq_true rfl) ?_
  obtain ⟨Q, hQ⟩ : ∃ z : Outcome → ab_G → Prop, z = (fun o G2 => o = .returned none ∧ G2 = List.set G a (ab_ob 3 [vR (n + 0), vR (n + 1), vR (n + 2), vR (n + 3), vR (n + 5), vR (n + 6), vR (n + 7), vI 0, vI 0, vI 0, vN, vN, vI 0, vI 0, vJ 0]) ++ [ab_ai 20, ab_ai 20, ab_ai 20, ab_ob 1 [vR (n + 4), vI 0], ab_ai 64, ab_ai 0, ab_ai 0, ab_ai 0]) := ⟨_, rfl⟩
  rw [← hQ]
  change ab_W X (ab_pl y_OM_init b_OM_init 1 none) d G 0 [some (vR a)] [] Q
  suffices hsuf : ab_W X (ab_pl y_OM_init b_OM_init 1 none) d (List.set G a (ab_ob 3 [vN, vN, vN, vN, vN, vN, vN, vI 0, vI 0, vI 0, vN, vN, vI 0, vI 0, vJ 0]) ++ []) 0 [some (vR a)] [] Q by rw [← ab_g0 hg] at hsuf; exact hsuf
  refine ab_aload_n d_OM_init_0 rfl ?_
  refine ab_objInit mj_OM_3 ob_inst ob_code d_OM_init_1 (Nat.le_of_ble_eq_true rfl) (by omega) ?_
  refine ab_aload_n d_OM_init_4 rfl ?_
  refine ab_bipush (v := 20) d_OM_init_5 (by decide) ?_
  refine ab_newI (N := 20) a_int d_OM_init_7 (by decide) (by decide) (by rw [ab_cl (k := 0) hlen rfl]; omega) (by exact ab_csl [] 0 hg (by rfl) hn0 (by rfl) (by decide +kernel) (by omega)) ?_
  rw [ab_cl (k := 0) hlen rfl, ab_c1]
  change ab_W _ _ _ (List.set G a (ab_ob 3 [vN, vN, vN, vN, vN, vN, vN, vI 0, vI 0, vI 0, vN, vN, vI 0, vI 0, vJ 0]) ++ [ab_ai 20]) 9 [some (vR a)] [vR (n + 0), vR a] Q
  refine ab_putf (fs := [vN, vN, vN, vN, vN, vN, vN, vI 0, vI 0, vI 0, vN, vN, vI 0, vI 0, vJ 0]) f_OM_9 (Or.inl rfl) d_OM_init_9 (ab_c3 hal _ _) (Nat.le_of_ble_eq_true rfl) (fun _ => ⟨rfl, rfl⟩) ha ?_
  change ab_W _ _ _ (List.set (List.set G a (ab_ob 3 [vN, vN, vN, vN, vN, vN, vN, vI 0, vI 0, vI 0, vN, vN, vI 0, vI 0, vJ 0]) ++ [ab_ai 20]) a (ab_ob 3 [vR (n + 0), vN, vN, vN, vN, vN, vN, vI 0, vI 0, vI 0, vN, vN, vI 0, vI 0, vJ 0])) 12 [some (vR a)] [] Q
  rw [ab_c2 hal]
  refine ab_aload_n d_OM_init_12 rfl ?_
  refine ab_bipush (v := 20) d_OM_init_13 (by decide) ?_
  refine ab_newI (N := 20) a_int d_OM_init_15 (by decide) (by decide) (by rw [ab_cl (k := 1) hlen rfl]; omega) (by exact ab_csl [20] 20 hg (by rfl) hn0 (by rfl) (by decide +kernel) (by omega)) ?_
  rw [ab_cl (k := 1) hlen rfl, ab_c1]
  change ab_W _ _ _ (List.set G a (ab_ob 3 [vR (n + 0), vN, vN, vN, vN, vN, vN, vI 0, vI 0, vI 0, vN, vN, vI 0, vI 0, vJ 0]) ++ [ab_ai 20, ab_ai 20]) 17 [some (vR a)] [vR (n + 1), vR a] Q
  refine ab_putf (fs := [vR (n + 0), vN, vN, vN, vN, vN, vN, vI 0, vI 0, vI 0, vN, vN, vI 0, vI 0, vJ 0]) f_OM_15 (Or.inr ⟨rfl, _, c_OM, rfl⟩) d_OM_init_17 (ab_c3 hal _ _) (Nat.le_of_ble_eq_true rfl) (fun _ => ⟨rfl, rfl⟩) ha ?_
  change ab_W _ _ _ (List.set (List.set G a (ab_ob 3 [vR (n + 0), vN, vN, vN, vN, vN, vN, vI 0, vI 0, vI 0, vN, vN, vI 0, vI 0, vJ 0]) ++ [ab_ai 20, ab_ai 20]) a (ab_ob 3 [vR (n + 0), vR (n + 1), vN, vN, vN, vN, vN, vI 0, vI 0, vI 0, vN, vN, vI 0, vI 0, vJ 0])) 20 [some (vR a)] [] Q
  rw [ab_c2 hal]
  refine ab_aload_n d_OM_init_20 rfl ?_
  refine ab_bipush (v := 20) d_OM_init_21 (by decide) ?_
  refine ab_newI (N := 20) a_int d_OM_init_23 (by decide) (by decide) (by rw [ab_cl (k := 2) hlen rfl]; omega) (by exact ab_csl [20, 20] 40 hg (by rfl) hn0 (by rfl) (by decide +kernel) (by omega)) ?_
  rw [ab_cl (k := 2) hlen rfl, ab_c1]
  change ab_W _ _ _ (List.set G a (ab_ob 3 [vR (n + 0), vR (n + 1), vN, vN, vN, vN, vN, vI 0, vI 0, vI 0, vN, vN, vI 0, vI 0, vJ 0]) ++ [ab_ai 20, ab_ai 20, ab_ai 20]) 25 [some (vR a)] [vR (n + 2), vR a] Q
  refine ab_putf (fs := [vR (n + 0), vR (n + 1), vN, vN, vN, vN, vN, vI 0, vI 0, vI 0, vN, vN, vI 0, vI 0, vJ 0]) f_OM_18 (Or.inr ⟨rfl, _, c_OM, rfl⟩) d_OM_init_25 (ab_c3 hal _ _) (Nat.le_of_ble_eq_true rfl) (fun _ => ⟨rfl, rfl⟩) ha ?_
  change ab_W _ _ _ (List.set (List.set G a (ab_ob 3 [vR (n + 0), vR (n + 1), vN, vN, vN, vN, vN, vI 0, vI 0, vI 0, vN, vN, vI 0, vI 0, vJ 0]) ++ [ab_ai 20, ab_ai 20, ab_ai 20]) a (ab_ob 3 [vR (n + 0), vR (n + 1), vR (n + 2), vN, vN, vN, vN, vI 0, vI 0, vI 0, vN, vN, vI 0, vI 0, vJ 0])) 28 [some (vR a)] [] Q
  rw [ab_c2 hal]
  refine ab_aload_n d_OM_init_28 rfl ?_
  refine ab_new (fs := [vN, vI 0]) k_CS rfl cl_OM_21 inst_CS ini_CS d_OM_init_29 (by decide) (fun _ => rfl) (by rw [ab_cl (k := 3) hlen rfl]; omega) (by exact ab_csl [20, 20, 20] 60 hg (by rfl) hn0 (by rfl) (by decide +kernel) (by omega)) ?_
  rw [ab_cl (k := 3) hlen rfl, ab_c1]
  change ab_W _ _ _ (List.set G a (ab_ob 3 [vR (n + 0), vR (n + 1), vR (n + 2), vN, vN, vN, vN, vI 0, vI 0, vI 0, vN, vN, vI 0, vI 0, vJ 0]) ++ [ab_ai 20, ab_ai 20, ab_ai 20, ab_ob 1 [vN, vI 0]]) 32 [some (vR a)] [vR (n + 3), vR a] Q
  refine ab_dup d_OM_init_32 rfl ?_
  refine ab_callI (d' := d - 1) (as := []) (st := [vR (n + 3), vR a]) (c_CS_init (n := n + 4) (by omega) (by omega) ((ab_c4 hlen _ _ 3).trans rfl) (ab_cl hlen rfl) (by omega) (by exact ab_csl [20, 20, 20, 2] 62 hg (by rfl) hn0 (by rfl) (by decide +kernel) (by omega))) (fun o G2 h => ⟨_, h.1⟩) (by omega) m_CS_init ml_OM_23 im_CS_init rfl (Nat.le_of_ble_eq_true rfl) d_OM_init_33 rfl ?_
  intro v G2 hq
  obtain ⟨hv, rfl⟩ := hq
  cases hv
  change ab_W _ _ _ (List.set (List.set G a (ab_ob 3 [vR (n + 0), vR (n + 1), vR (n + 2), vN, vN, vN, vN, vI 0, vI 0, vI 0, vN, vN, vI 0, vI 0, vJ 0]) ++ [ab_ai 20, ab_ai 20, ab_ai 20, ab_ob 1 [vN, vI 0]]) (n + 3) (ab_ob 1 [vR (n + 4), vI 0]) ++ [ab_ai 64]) 36 [some (vR a)] [vR (n + 3), vR a] Q
  rw [ab_c6 hlen]
  change ab_W _ _ _ (List.set G a (ab_ob 3 [vR (n + 0), vR (n + 1), vR (n + 2), vN, vN, vN, vN, vI 0, vI 0, vI 0, vN, vN, vI 0, vI 0, vJ 0]) ++ [ab_ai 20, ab_ai 20, ab_ai 20, ab_ob 1 [vR (n + 4), vI 0], ab_ai 64]) 36 [some (vR a)] [vR (n + 3), vR a] Q
  refine ab_putf (fs := [vR (n + 0), vR (n + 1), vR (n + 2), vN, vN, vN, vN, vI 0, vI 0, vI 0, vN, vN, vI 0, vI 0, vJ 0]) f_OM_24 (Or.inr ⟨rfl, _, c_OM, rfl⟩) d_OM_init_36 (ab_c3 hal _ _) (Nat.le_of_ble_eq_true rfl) (fun _ => ⟨rfl, rfl⟩) ha ?_
  change ab_W _ _ _ (List.set (List.set G a (ab_ob 3 [vR (n + 0), vR (n + 1), vR (n + 2), vN, vN, vN, vN, vI 0, vI 0, vI 0, vN, vN, vI 0, vI 0, vJ 0]) ++ [ab_ai 20, ab_ai 20, ab_ai 20, ab_ob 1 [vR (n + 4), vI 0], ab_ai 64]) a (ab_ob 3 [vR (n + 0), vR (n + 1), vR (n + 2), vR (n + 3), vN, vN, vN, vI 0, vI 0, vI 0, vN, vN, vI 0, vI 0, vJ 0])) 39 [some (vR a)] [] Q
  rw [ab_c2 hal]
  refine ab_aload_n d_OM_init_39 rfl ?_
  refine ab_iconst (v := 0) d_OM_init_40 (by decide) ?_
  refine ab_newI (N := 0) a_int d_OM_init_41 (by decide) (by decide) (by rw [ab_cl (k := 5) hlen rfl]; omega) (by exact ab_csl [20, 20, 20, 2, 64] 126 hg (by rfl) hn0 (by rfl) (by decide +kernel) (by omega)) ?_
  rw [ab_cl (k := 5) hlen rfl, ab_c1]
  change ab_W _ _ _ (List.set G a (ab_ob 3 [vR (n + 0), vR (n + 1), vR (n + 2), vR (n + 3), vN, vN, vN, vI 0, vI 0, vI 0, vN, vN, vI 0, vI 0, vJ 0]) ++ [ab_ai 20, ab_ai 20, ab_ai 20, ab_ob 1 [vR (n + 4), vI 0], ab_ai 64, ab_ai 0]) 43 [some (vR a)] [vR (n + 5), vR a] Q
  refine ab_putf (fs := [vR (n + 0), vR (n + 1), vR (n + 2), vR (n + 3), vN, vN, vN, vI 0, vI 0, vI 0, vN, vN, vI 0, vI 0, vJ 0]) f_OM_28 (Or.inl rfl) d_OM_init_43 (ab_c3 hal _ _) (Nat.le_of_ble_eq_true rfl) (fun _ => ⟨rfl, rfl⟩) ha ?_
  change ab_W _ _ _ (List.set (List.set G a (ab_ob 3 [vR (n + 0), vR (n + 1), vR (n + 2), vR (n + 3), vN, vN, vN, vI 0, vI 0, vI 0, vN, vN, vI 0, vI 0, vJ 0]) ++ [ab_ai 20, ab_ai 20, ab_ai 20, ab_ob 1 [vR (n + 4), vI 0], ab_ai 64, ab_ai 0]) a (ab_ob 3 [vR (n + 0), vR (n + 1), vR (n + 2), vR (n + 3), vR (n + 5), vN, vN, vI 0, vI 0, vI 0, vN, vN, vI 0, vI 0, vJ 0])) 46 [some (vR a)] [] Q
  rw [ab_c2 hal]
  refine ab_aload_n d_OM_init_46 rfl ?_
  refine ab_iconst (v := 0) d_OM_init_47 (by decide) ?_
  refine ab_newI (N := 0) a_int d_OM_init_48 (by decide) (by decide) (by rw [ab_cl (k := 6) hlen rfl]; omega) (by exact ab_csl [20, 20, 20, 2, 64, 0] 126 hg (by rfl) hn0 (by rfl) (by decide +kernel) (by omega)) ?_
  rw [ab_cl (k := 6) hlen rfl, ab_c1]
  change ab_W _ _ _ (List.set G a (ab_ob 3 [vR (n + 0), vR (n + 1), vR (n + 2), vR (n + 3), vR (n + 5), vN, vN, vI 0, vI 0, vI 0, vN, vN, vI 0, vI 0, vJ 0]) ++ [ab_ai 20, ab_ai 20, ab_ai 20, ab_ob 1 [vR (n + 4), vI 0], ab_ai 64, ab_ai 0, ab_ai 0]) 50 [some (vR a)] [vR (n + 6), vR a] Q
  refine ab_putf (fs := [vR (n + 0), vR (n + 1), vR (n + 2), vR (n + 3), vR (n + 5), vN, vN, vI 0, vI 0, vI 0, vN, vN, vI 0, vI 0, vJ 0]) f_OM_31 (Or.inl rfl) d_OM_init_50 (ab_c3 hal _ _) (Nat.le_of_ble_eq_true rfl) (fun _ => ⟨rfl, rfl⟩) ha ?_
  change ab_W _ _ _ (List.set (List.set G a (ab_ob 3 [vR (n + 0), vR (n + 1), vR (n + 2), vR (n + 3), vR (n + 5), vN, vN, vI 0, vI 0, vI 0, vN, vN, vI 0, vI 0, vJ 0]) ++ [ab_ai 20, ab_ai 20, ab_ai 20, ab_ob 1 [vR (n + 4), vI 0], ab_ai 64, ab_ai 0, ab_ai 0]) a (ab_ob 3 [vR (n + 0), vR (n + 1), vR (n + 2), vR (n + 3), vR (n + 5), vR (n + 6), vN, vI 0, vI 0, vI 0, vN, vN, vI 0, vI 0, vJ 0])) 53 [some (vR a)] [] Q
  rw [ab_c2 hal]
  refine ab_aload_n d_OM_init_53 rfl ?_
  refine ab_iconst (v := 0) d_OM_init_54 (by decide) ?_
  refine ab_newI (N := 0) a_int d_OM_init_55 (by decide) (by decide) (by rw [ab_cl (k := 7) hlen rfl]; omega) (by exact ab_csl [20, 20, 20, 2, 64, 0, 0] 126 hg (by rfl) hn0 (by rfl) (by decide +kernel) (by omega)) ?_
  rw [ab_cl (k := 7) hlen rfl, ab_c1]
  change ab_W _ _ _ (List.set G a (ab_ob 3 [vR (n + 0), vR (n + 1), vR (n + 2), vR (n + 3), vR (n + 5), vR (n + 6), vN, vI 0, vI 0, vI 0, vN, vN, vI 0, vI 0, vJ 0]) ++ [ab_ai 20, ab_ai 20, ab_ai 20, ab_ob 1 [vR (n + 4), vI 0], ab_ai 64, ab_ai 0, ab_ai 0, ab_ai 0]) 57 [some (vR a)] [vR (n + 7), vR a] Q
  refine ab_putf (fs := [vR (n + 0), vR (n + 1), vR (n + 2), vR (n + 3), vR (n + 5), vR (n + 6), vN, vI 0, vI 0, vI 0, vN, vN, vI 0, vI 0, vJ 0]) f_OM_34 (Or.inl rfl) d_OM_init_57 (ab_c3 hal _ _) (Nat.le_of_ble_eq_true rfl) (fun _ => ⟨rfl, rfl⟩) ha ?_
  change ab_W _ _ _ (List.set (List.set G a (ab_ob 3 [vR (n + 0), vR (n + 1), vR (n + 2), vR (n + 3), vR (n + 5), vR (n + 6), vN, vI 0, vI 0, vI 0, vN, vN, vI 0, vI 0, vJ 0]) ++ [ab_ai 20, ab_ai 20, ab_ai 20, ab_ob 1 [vR (n + 4), vI 0], ab_ai 64, ab_ai 0, ab_ai 0, ab_ai 0]) a (ab_ob 3 [vR (n + 0), vR (n + 1), vR (n + 2), vR (n + 3), vR (n + 5), vR (n + 6), vR (n + 7), vI 0, vI 0, vI 0, vN, vN, vI 0, vI 0, vJ 0])) 60 [some (vR a)] [] Q
  rw [ab_c2 hal]
  exact ab_vret rfl d_OM_init_60 (by rw [hQ]; exact ⟨rfl, rfl⟩)
set_option maxRecDepth 100000 in
set_option maxHeartbeats 4000000 in
theorem c_PA_init {X : ab_X} {d : Nat} {G : ab_G} {a n : Nat} {x1 : Int32} {x2 : Int32} {x3 : Int32} {x4 : Int32} (hd : 1 ≤ d) (ha : ab_n0 ≤ a) (hg : G[a]? = some (ab_ob 4 [vI 0, vI 0, vN, vI 0, vI 0, vN, vN, vN, vI 0, vI 0, vI 0, vI 0, vI 0, vI 0, vI 0])) (hlen : G.length = n) (hr : n + 0 ≤ ab_n0 + room_1.cells) (hs : ab_slots G + 0 ≤ room_1.slots) (hbool : ab_fit .boolean (vI x4)) : ab_F X d y_PA_init (.code y_PA_init b_PA_init 5 none) [vR a, vI x1, vI x2, vI x3, vI x4] G (fun o G2 => o = .returned none ∧ G2 = List.set G a (ab_ob 4 [vI x1, vI x2, vN, vI (-1), vI 0, vN, vN, vN, vI x3, vI x4, vI 0, vI 0, vI 0, vI 0, vI (-1)]) ++ []) := by
  have hal : a < G.length := (List.getElem?_eq_some_iff.mp hg).1
  have hn0 : ab_n0 ≤ G.length := by omega
  have hn18 : ab_n0 ≤ n := by omega
  refine ab_F_of (by decide +kernel) (Nat.le_of_ble_eq_true rfl) ?_
  obtain ⟨Q, hQ⟩ : ∃ z : Outcome → ab_G → Prop, z = (fun o G2 => o = .returned none ∧ G2 = List.set G a (ab_ob 4 [vI x1, vI x2, vN, vI (-1), vI 0, vN, vN, vN, vI x3, vI x4, vI 0, vI 0, vI 0, vI 0, vI (-1)]) ++ []) := ⟨_, rfl⟩
  rw [← hQ]
  change ab_W X (ab_pl y_PA_init b_PA_init 5 none) d G 0 [some (vR a), some (vI x1), some (vI x2), some (vI x3), some (vI x4)] [] Q
  suffices hsuf : ab_W X (ab_pl y_PA_init b_PA_init 5 none) d (List.set G a (ab_ob 4 [vI 0, vI 0, vN, vI 0, vI 0, vN, vN, vN, vI 0, vI 0, vI 0, vI 0, vI 0, vI 0, vI 0]) ++ []) 0 [some (vR a), some (vI x1), some (vI x2), some (vI x3), some (vI x4)] [] Q by rw [← ab_g0 hg] at hsuf; exact hsuf
  refine ab_aload_n d_PA_init_0 rfl ?_
  refine ab_objInit mj_PA_3 ob_inst ob_code d_PA_init_1 (Nat.le_of_ble_eq_true rfl) (by omega) ?_
  refine ab_aload_n d_PA_init_4 rfl ?_
  refine ab_iconst (v := (-1)) d_PA_init_5 (by decide) ?_
  refine ab_putf (fs := [vI 0, vI 0, vN, vI 0, vI 0, vN, vN, vN, vI 0, vI 0, vI 0, vI 0, vI 0, vI 0, vI 0]) f_PA_9 (Or.inl rfl) d_PA_init_6 (ab_c3 hal _ _) (Nat.le_of_ble_eq_true rfl) (fun _ => ⟨rfl, rfl⟩) ha ?_
  change ab_W _ _ _ (List.set (List.set G a (ab_ob 4 [vI 0, vI 0, vN, vI 0, vI 0, vN, vN, vN, vI 0, vI 0, vI 0, vI 0, vI 0, vI 0, vI 0]) ++ []) a (ab_ob 4 [vI 0, vI 0, vN, vI (-1), vI 0, vN, vN, vN, vI 0, vI 0, vI 0, vI 0, vI 0, vI 0, vI 0])) 9 [some (vR a), some (vI x1), some (vI x2), some (vI x3), some (vI x4)] [] Q
  rw [ab_c2 hal]
  refine ab_aload_n d_PA_init_9 rfl ?_
  refine ab_iconst (v := (-1)) d_PA_init_10 (by decide) ?_
  refine ab_putf (fs := [vI 0, vI 0, vN, vI (-1), vI 0, vN, vN, vN, vI 0, vI 0, vI 0, vI 0, vI 0, vI 0, vI 0]) f_PA_15 (Or.inl rfl) d_PA_init_11 (ab_c3 hal _ _) (Nat.le_of_ble_eq_true rfl) (fun _ => ⟨rfl, rfl⟩) ha ?_
  change ab_W _ _ _ (List.set (List.set G a (ab_ob 4 [vI 0, vI 0, vN, vI (-1), vI 0, vN, vN, vN, vI 0, vI 0, vI 0, vI 0, vI 0, vI 0, vI 0]) ++ []) a (ab_ob 4 [vI 0, vI 0, vN, vI (-1), vI 0, vN, vN, vN, vI 0, vI 0, vI 0, vI 0, vI 0, vI 0, vI (-1)])) 14 [some (vR a), some (vI x1), some (vI x2), some (vI x3), some (vI x4)] [] Q
  rw [ab_c2 hal]
  refine ab_aload_n d_PA_init_14 rfl ?_
  refine ab_iload_n d_PA_init_15 rfl ?_
  refine ab_putf (fs := [vI 0, vI 0, vN, vI (-1), vI 0, vN, vN, vN, vI 0, vI 0, vI 0, vI 0, vI 0, vI 0, vI (-1)]) f_PA_18 (Or.inr ⟨rfl, _, c_PA, rfl⟩) d_PA_init_16 (ab_c3 hal _ _) (Nat.le_of_ble_eq_true rfl) (fun _ => ⟨rfl, rfl⟩) ha ?_
  change ab_W _ _ _ (List.set (List.set G a (ab_ob 4 [vI 0, vI 0, vN, vI (-1), vI 0, vN, vN, vN, vI 0, vI 0, vI 0, vI 0, vI 0, vI 0, vI (-1)]) ++ []) a (ab_ob 4 [vI x1, vI 0, vN, vI (-1), vI 0, vN, vN, vN, vI 0, vI 0, vI 0, vI 0, vI 0, vI 0, vI (-1)])) 19 [some (vR a), some (vI x1), some (vI x2), some (vI x3), some (vI x4)] [] Q
  rw [ab_c2 hal]
  refine ab_aload_n d_PA_init_19 rfl ?_
  refine ab_iload_n d_PA_init_20 rfl ?_
  refine ab_putf (fs := [vI x1, vI 0, vN, vI (-1), vI 0, vN, vN, vN, vI 0, vI 0, vI 0, vI 0, vI 0, vI 0, vI (-1)]) f_PA_21 (Or.inr ⟨rfl, _, c_PA, rfl⟩) d_PA_init_21 (ab_c3 hal _ _) (Nat.le_of_ble_eq_true rfl) (fun _ => ⟨rfl, rfl⟩) ha ?_
  change ab_W _ _ _ (List.set (List.set G a (ab_ob 4 [vI x1, vI 0, vN, vI (-1), vI 0, vN, vN, vN, vI 0, vI 0, vI 0, vI 0, vI 0, vI 0, vI (-1)]) ++ []) a (ab_ob 4 [vI x1, vI x2, vN, vI (-1), vI 0, vN, vN, vN, vI 0, vI 0, vI 0, vI 0, vI 0, vI 0, vI (-1)])) 24 [some (vR a), some (vI x1), some (vI x2), some (vI x3), some (vI x4)] [] Q
  rw [ab_c2 hal]
  refine ab_aload_n d_PA_init_24 rfl ?_
  refine ab_iload_n d_PA_init_25 rfl ?_
  refine ab_putf (fs := [vI x1, vI x2, vN, vI (-1), vI 0, vN, vN, vN, vI 0, vI 0, vI 0, vI 0, vI 0, vI 0, vI (-1)]) f_PA_24 (Or.inl rfl) d_PA_init_26 (ab_c3 hal _ _) (Nat.le_of_ble_eq_true rfl) (fun _ => ⟨rfl, rfl⟩) ha ?_
  change ab_W _ _ _ (List.set (List.set G a (ab_ob 4 [vI x1, vI x2, vN, vI (-1), vI 0, vN, vN, vN, vI 0, vI 0, vI 0, vI 0, vI 0, vI 0, vI (-1)]) ++ []) a (ab_ob 4 [vI x1, vI x2, vN, vI (-1), vI 0, vN, vN, vN, vI x3, vI 0, vI 0, vI 0, vI 0, vI 0, vI (-1)])) 29 [some (vR a), some (vI x1), some (vI x2), some (vI x3), some (vI x4)] [] Q
  rw [ab_c2 hal]
  refine ab_aload_n d_PA_init_29 rfl ?_
  refine ab_iload d_PA_init_30 rfl ?_
  refine ab_putf (fs := [vI x1, vI x2, vN, vI (-1), vI 0, vN, vN, vN, vI x3, vI 0, vI 0, vI 0, vI 0, vI 0, vI (-1)]) f_PA_27 (Or.inl rfl) d_PA_init_32 (ab_c3 hal _ _) (Nat.le_of_ble_eq_true rfl) hbool ha ?_
  change ab_W _ _ _ (List.set (List.set G a (ab_ob 4 [vI x1, vI x2, vN, vI (-1), vI 0, vN, vN, vN, vI x3, vI 0, vI 0, vI 0, vI 0, vI 0, vI (-1)]) ++ []) a (ab_ob 4 [vI x1, vI x2, vN, vI (-1), vI 0, vN, vN, vN, vI x3, vI x4, vI 0, vI 0, vI 0, vI 0, vI (-1)])) 35 [some (vR a), some (vI x1), some (vI x2), some (vI x3), some (vI x4)] [] Q
  rw [ab_c2 hal]
  exact ab_vret rfl d_PA_init_35 (by rw [hQ]; exact ⟨rfl, rfl⟩)
set_option maxRecDepth 100000 in
set_option maxHeartbeats 4000000 in
theorem c_PR_init {X : ab_X} {d : Nat} {G : ab_G} {a n : Nat} (hd : 1 ≤ d) (ha : ab_n0 ≤ a) (hg : G[a]? = some (ab_ob 5 [vN, vN, vN, vI 0, vI 0, vI 0, vN, vI 0, vI 0, vI 0, vI 0, vI 0, vI 0, vI 0, vN, vN])) (hlen : G.length = n) (hr : n + 6 ≤ ab_n0 + room_1.cells) (hs : ab_slots G + 2586 ≤ room_1.slots) : ab_F X d y_PR_init (.code y_PR_init b_PR_init 1 none) [vR a] G (fun o G2 => o = .returned none ∧ G2 = List.set G a (ab_ob 5 [vR (n + 0), vR (n + 1), vR (n + 2), vI 0, vI 0, vI 0, vR (n + 3), vI 0, vI 0, vI 0, vI 0, vI 0, vI 0, vI 0, vR (n + 4), vR (n + 5)]) ++ [ab_ai 808, ab_ai 808, ab_ai 808, ab_ai 32, ab_ai 120, ab_ai 10]) := by
  have hal : a < G.length := (List.getElem?_eq_some_iff.mp hg).1
  have hn0 : ab_n0 ≤ G.length := by omega
  have hn18 : ab_n0 ≤ n := by omega
  refine ab_F_of (by decide +kernel) (Nat.le_of_ble_eq_true rfl) ?_
  obtain ⟨Q, hQ⟩ : ∃ z : Outcome → ab_G → Prop, z = (fun o G2 => o = .returned none ∧ G2 = List.set G a (ab_ob 5 [vR (n + 0), vR (n + 1), vR (n + 2), vI 0, vI 0, vI 0, vR (n + 3), vI 0, vI 0, vI 0, vI 0, vI 0, vI 0, vI 0, vR (n + 4), vR (n + 5)]) ++ [ab_ai 808, ab_ai 808, ab_ai 808, ab_ai 32, ab_ai 120, ab_ai 10]) := ⟨_, rfl⟩
  rw [← hQ]
  change ab_W X (ab_pl y_PR_init b_PR_init 1 none) d G 0 [some (vR a)] [] Q
  suffices hsuf : ab_W X (ab_pl y_PR_init b_PR_init 1 none) d (List.set G a (ab_ob 5 [vN, vN, vN, vI 0, vI 0, vI 0, vN, vI 0, vI 0, vI 0, vI 0, vI 0, vI 0, vI 0, vN, vN]) ++ []) 0 [some (vR a)] [] Q by rw [← ab_g0 hg] at hsuf; exact hsuf
  refine ab_aload_n d_PR_init_0 rfl ?_
  refine ab_objInit mj_PR_3 ob_inst ob_code d_PR_init_1 (Nat.le_of_ble_eq_true rfl) (by omega) ?_
  refine ab_aload_n d_PR_init_4 rfl ?_
  refine ab_sipush (v := 808) d_PR_init_5 (by decide) ?_
  refine ab_newI (N := 808) a_int d_PR_init_8 (by decide) (by decide) (by rw [ab_cl (k := 0) hlen rfl]; omega) (by exact ab_csl [] 0 hg (by rfl) hn0 (by rfl) (by decide +kernel) (by omega)) ?_
  rw [ab_cl (k := 0) hlen rfl, ab_c1]
  change ab_W _ _ _ (List.set G a (ab_ob 5 [vN, vN, vN, vI 0, vI 0, vI 0, vN, vI 0, vI 0, vI 0, vI 0, vI 0, vI 0, vI 0, vN, vN]) ++ [ab_ai 808]) 10 [some (vR a)] [vR (n + 0), vR a] Q
  refine ab_putf (fs := [vN, vN, vN, vI 0, vI 0, vI 0, vN, vI 0, vI 0, vI 0, vI 0, vI 0, vI 0, vI 0, vN, vN]) f_PR_9 (Or.inr ⟨rfl, _, c_PR, rfl⟩) d_PR_init_10 (ab_c3 hal _ _) (Nat.le_of_ble_eq_true rfl) (fun _ => ⟨rfl, rfl⟩) ha ?_
  change ab_W _ _ _ (List.set (List.set G a (ab_ob 5 [vN, vN, vN, vI 0, vI 0, vI 0, vN, vI 0, vI 0, vI 0, vI 0, vI 0, vI 0, vI 0, vN, vN]) ++ [ab_ai 808]) a (ab_ob 5 [vR (n + 0), vN, vN, vI 0, vI 0, vI 0, vN, vI 0, vI 0, vI 0, vI 0, vI 0, vI 0, vI 0, vN, vN])) 13 [some (vR a)] [] Q
  rw [ab_c2 hal]
  refine ab_aload_n d_PR_init_13 rfl ?_
  refine ab_sipush (v := 808) d_PR_init_14 (by decide) ?_
  refine ab_newI (N := 808) a_int d_PR_init_17 (by decide) (by decide) (by rw [ab_cl (k := 1) hlen rfl]; omega) (by exact ab_csl [808] 808 hg (by rfl) hn0 (by rfl) (by decide +kernel) (by omega)) ?_
  rw [ab_cl (k := 1) hlen rfl, ab_c1]
  change ab_W _ _ _ (List.set G a (ab_ob 5 [vR (n + 0), vN, vN, vI 0, vI 0, vI 0, vN, vI 0, vI 0, vI 0, vI 0, vI 0, vI 0, vI 0, vN, vN]) ++ [ab_ai 808, ab_ai 808]) 19 [some (vR a)] [vR (n + 1), vR a] Q
  refine ab_putf (fs := [vR (n + 0), vN, vN, vI 0, vI 0, vI 0, vN, vI 0, vI 0, vI 0, vI 0, vI 0, vI 0, vI 0, vN, vN]) f_PR_15 (Or.inr ⟨rfl, _, c_PR, rfl⟩) d_PR_init_19 (ab_c3 hal _ _) (Nat.le_of_ble_eq_true rfl) (fun _ => ⟨rfl, rfl⟩) ha ?_
  change ab_W _ _ _ (List.set (List.set G a (ab_ob 5 [vR (n + 0), vN, vN, vI 0, vI 0, vI 0, vN, vI 0, vI 0, vI 0, vI 0, vI 0, vI 0, vI 0, vN, vN]) ++ [ab_ai 808, ab_ai 808]) a (ab_ob 5 [vR (n + 0), vR (n + 1), vN, vI 0, vI 0, vI 0, vN, vI 0, vI 0, vI 0, vI 0, vI 0, vI 0, vI 0, vN, vN])) 22 [some (vR a)] [] Q
  rw [ab_c2 hal]
  refine ab_aload_n d_PR_init_22 rfl ?_
  refine ab_sipush (v := 808) d_PR_init_23 (by decide) ?_
  refine ab_newI (N := 808) a_int d_PR_init_26 (by decide) (by decide) (by rw [ab_cl (k := 2) hlen rfl]; omega) (by exact ab_csl [808, 808] 1616 hg (by rfl) hn0 (by rfl) (by decide +kernel) (by omega)) ?_
  rw [ab_cl (k := 2) hlen rfl, ab_c1]
  change ab_W _ _ _ (List.set G a (ab_ob 5 [vR (n + 0), vR (n + 1), vN, vI 0, vI 0, vI 0, vN, vI 0, vI 0, vI 0, vI 0, vI 0, vI 0, vI 0, vN, vN]) ++ [ab_ai 808, ab_ai 808, ab_ai 808]) 28 [some (vR a)] [vR (n + 2), vR a] Q
  refine ab_putf (fs := [vR (n + 0), vR (n + 1), vN, vI 0, vI 0, vI 0, vN, vI 0, vI 0, vI 0, vI 0, vI 0, vI 0, vI 0, vN, vN]) f_PR_18 (Or.inr ⟨rfl, _, c_PR, rfl⟩) d_PR_init_28 (ab_c3 hal _ _) (Nat.le_of_ble_eq_true rfl) (fun _ => ⟨rfl, rfl⟩) ha ?_
  change ab_W _ _ _ (List.set (List.set G a (ab_ob 5 [vR (n + 0), vR (n + 1), vN, vI 0, vI 0, vI 0, vN, vI 0, vI 0, vI 0, vI 0, vI 0, vI 0, vI 0, vN, vN]) ++ [ab_ai 808, ab_ai 808, ab_ai 808]) a (ab_ob 5 [vR (n + 0), vR (n + 1), vR (n + 2), vI 0, vI 0, vI 0, vN, vI 0, vI 0, vI 0, vI 0, vI 0, vI 0, vI 0, vN, vN])) 31 [some (vR a)] [] Q
  rw [ab_c2 hal]
  refine ab_aload_n d_PR_init_31 rfl ?_
  refine ab_bipush (v := 32) d_PR_init_32 (by decide) ?_
  refine ab_newI (N := 32) a_int d_PR_init_34 (by decide) (by decide) (by rw [ab_cl (k := 3) hlen rfl]; omega) (by exact ab_csl [808, 808, 808] 2424 hg (by rfl) hn0 (by rfl) (by decide +kernel) (by omega)) ?_
  rw [ab_cl (k := 3) hlen rfl, ab_c1]
  change ab_W _ _ _ (List.set G a (ab_ob 5 [vR (n + 0), vR (n + 1), vR (n + 2), vI 0, vI 0, vI 0, vN, vI 0, vI 0, vI 0, vI 0, vI 0, vI 0, vI 0, vN, vN]) ++ [ab_ai 808, ab_ai 808, ab_ai 808, ab_ai 32]) 36 [some (vR a)] [vR (n + 3), vR a] Q
  refine ab_putf (fs := [vR (n + 0), vR (n + 1), vR (n + 2), vI 0, vI 0, vI 0, vN, vI 0, vI 0, vI 0, vI 0, vI 0, vI 0, vI 0, vN, vN]) f_PR_21 (Or.inl rfl) d_PR_init_36 (ab_c3 hal _ _) (Nat.le_of_ble_eq_true rfl) (fun _ => ⟨rfl, rfl⟩) ha ?_
  change ab_W _ _ _ (List.set (List.set G a (ab_ob 5 [vR (n + 0), vR (n + 1), vR (n + 2), vI 0, vI 0, vI 0, vN, vI 0, vI 0, vI 0, vI 0, vI 0, vI 0, vI 0, vN, vN]) ++ [ab_ai 808, ab_ai 808, ab_ai 808, ab_ai 32]) a (ab_ob 5 [vR (n + 0), vR (n + 1), vR (n + 2), vI 0, vI 0, vI 0, vR (n + 3), vI 0, vI 0, vI 0, vI 0, vI 0, vI 0, vI 0, vN, vN])) 39 [some (vR a)] [] Q
  rw [ab_c2 hal]
  refine ab_aload_n d_PR_init_39 rfl ?_
  refine ab_bipush (v := 120) d_PR_init_40 (by decide) ?_
  refine ab_newI (N := 120) a_int d_PR_init_42 (by decide) (by decide) (by rw [ab_cl (k := 4) hlen rfl]; omega) (by exact ab_csl [808, 808, 808, 32] 2456 hg (by rfl) hn0 (by rfl) (by decide +kernel) (by omega)) ?_
  rw [ab_cl (k := 4) hlen rfl, ab_c1]
  change ab_W _ _ _ (List.set G a (ab_ob 5 [vR (n + 0), vR (n + 1), vR (n + 2), vI 0, vI 0, vI 0, vR (n + 3), vI 0, vI 0, vI 0, vI 0, vI 0, vI 0, vI 0, vN, vN]) ++ [ab_ai 808, ab_ai 808, ab_ai 808, ab_ai 32, ab_ai 120]) 44 [some (vR a)] [vR (n + 4), vR a] Q
  refine ab_putf (fs := [vR (n + 0), vR (n + 1), vR (n + 2), vI 0, vI 0, vI 0, vR (n + 3), vI 0, vI 0, vI 0, vI 0, vI 0, vI 0, vI 0, vN, vN]) f_PR_24 (Or.inr ⟨rfl, _, c_PR, rfl⟩) d_PR_init_44 (ab_c3 hal _ _) (Nat.le_of_ble_eq_true rfl) (fun _ => ⟨rfl, rfl⟩) ha ?_
  change ab_W _ _ _ (List.set (List.set G a (ab_ob 5 [vR (n + 0), vR (n + 1), vR (n + 2), vI 0, vI 0, vI 0, vR (n + 3), vI 0, vI 0, vI 0, vI 0, vI 0, vI 0, vI 0, vN, vN]) ++ [ab_ai 808, ab_ai 808, ab_ai 808, ab_ai 32, ab_ai 120]) a (ab_ob 5 [vR (n + 0), vR (n + 1), vR (n + 2), vI 0, vI 0, vI 0, vR (n + 3), vI 0, vI 0, vI 0, vI 0, vI 0, vI 0, vI 0, vR (n + 4), vN])) 47 [some (vR a)] [] Q
  rw [ab_c2 hal]
  refine ab_aload_n d_PR_init_47 rfl ?_
  refine ab_bipush (v := 10) d_PR_init_48 (by decide) ?_
  refine ab_newI (N := 10) a_int d_PR_init_50 (by decide) (by decide) (by rw [ab_cl (k := 5) hlen rfl]; omega) (by exact ab_csl [808, 808, 808, 32, 120] 2576 hg (by rfl) hn0 (by rfl) (by decide +kernel) (by omega)) ?_
  rw [ab_cl (k := 5) hlen rfl, ab_c1]
  change ab_W _ _ _ (List.set G a (ab_ob 5 [vR (n + 0), vR (n + 1), vR (n + 2), vI 0, vI 0, vI 0, vR (n + 3), vI 0, vI 0, vI 0, vI 0, vI 0, vI 0, vI 0, vR (n + 4), vN]) ++ [ab_ai 808, ab_ai 808, ab_ai 808, ab_ai 32, ab_ai 120, ab_ai 10]) 52 [some (vR a)] [vR (n + 5), vR a] Q
  refine ab_putf (fs := [vR (n + 0), vR (n + 1), vR (n + 2), vI 0, vI 0, vI 0, vR (n + 3), vI 0, vI 0, vI 0, vI 0, vI 0, vI 0, vI 0, vR (n + 4), vN]) f_PR_27 (Or.inr ⟨rfl, _, c_PR, rfl⟩) d_PR_init_52 (ab_c3 hal _ _) (Nat.le_of_ble_eq_true rfl) (fun _ => ⟨rfl, rfl⟩) ha ?_
  change ab_W _ _ _ (List.set (List.set G a (ab_ob 5 [vR (n + 0), vR (n + 1), vR (n + 2), vI 0, vI 0, vI 0, vR (n + 3), vI 0, vI 0, vI 0, vI 0, vI 0, vI 0, vI 0, vR (n + 4), vN]) ++ [ab_ai 808, ab_ai 808, ab_ai 808, ab_ai 32, ab_ai 120, ab_ai 10]) a (ab_ob 5 [vR (n + 0), vR (n + 1), vR (n + 2), vI 0, vI 0, vI 0, vR (n + 3), vI 0, vI 0, vI 0, vI 0, vI 0, vI 0, vI 0, vR (n + 4), vR (n + 5)])) 55 [some (vR a)] [] Q
  rw [ab_c2 hal]
  exact ab_vret rfl d_PR_init_55 (by rw [hQ]; exact ⟨rfl, rfl⟩)
set_option maxRecDepth 100000 in
set_option maxHeartbeats 4000000 in
theorem c_TX_init {X : ab_X} {d : Nat} {G : ab_G} {a n : Nat} (hd : 2 ≤ d) (ha : ab_n0 ≤ a) (hg : G[a]? = some (ab_ob 10 [vN, vN, vI 0, vI 0, vI 0, vI 0, vN, vI 0])) (hlen : G.length = n) (hr : n + 3 ≤ ab_n0 + room_1.cells) (hs : ab_slots G + 66 ≤ room_1.slots) : ab_F X d y_TX_init (.code y_TX_init b_TX_init 1 none) [vR a] G (fun o G2 => o = .returned none ∧ G2 = List.set G a (ab_ob 10 [vR (n + 0), vR (n + 2), vI 0, vI 0, vI 0, vI (-1), vR 1, vI 0]) ++ [ab_ob 1 [vR (n + 1), vI 0], ab_ai 64, ab_ai 0]) := by
  have hal : a < G.length := (List.getElem?_eq_some_iff.mp hg).1
  have hn0 : ab_n0 ≤ G.length := by omega
  have hn18 : ab_n0 ≤ n := by omega
  refine ab_F_of (by decide +kernel) (Nat.le_of_ble_eq_true rfl) ?_
  obtain ⟨Q, hQ⟩ : ∃ z : Outcome → ab_G → Prop, z = (fun o G2 => o = .returned none ∧ G2 = List.set G a (ab_ob 10 [vR (n + 0), vR (n + 2), vI 0, vI 0, vI 0, vI (-1), vR 1, vI 0]) ++ [ab_ob 1 [vR (n + 1), vI 0], ab_ai 64, ab_ai 0]) := ⟨_, rfl⟩
  rw [← hQ]
  change ab_W X (ab_pl y_TX_init b_TX_init 1 none) d G 0 [some (vR a)] [] Q
  suffices hsuf : ab_W X (ab_pl y_TX_init b_TX_init 1 none) d (List.set G a (ab_ob 10 [vN, vN, vI 0, vI 0, vI 0, vI 0, vN, vI 0]) ++ []) 0 [some (vR a)] [] Q by rw [← ab_g0 hg] at hsuf; exact hsuf
  refine ab_aload_n d_TX_init_0 rfl ?_
  refine ab_objInit mj_TX_3 ob_inst ob_code d_TX_init_1 (Nat.le_of_ble_eq_true rfl) (by omega) ?_
  refine ab_aload_n d_TX_init_4 rfl ?_
  refine ab_new (fs := [vN, vI 0]) k_CS rfl cl_TX_9 inst_CS ini_CS d_TX_init_5 (by decide) (fun _ => rfl) (by rw [ab_cl (k := 0) hlen rfl]; omega) (by exact ab_csl [] 0 hg (by rfl) hn0 (by rfl) (by decide +kernel) (by omega)) ?_
  rw [ab_cl (k := 0) hlen rfl, ab_c1]
  change ab_W _ _ _ (List.set G a (ab_ob 10 [vN, vN, vI 0, vI 0, vI 0, vI 0, vN, vI 0]) ++ [ab_ob 1 [vN, vI 0]]) 8 [some (vR a)] [vR (n + 0), vR a] Q
  refine ab_dup d_TX_init_8 rfl ?_
  refine ab_callI (d' := d - 1) (as := []) (st := [vR (n + 0), vR a]) (c_CS_init (n := n + 1) (by omega) (by omega) ((ab_c4 hlen _ _ 0).trans rfl) (ab_cl hlen rfl) (by omega) (by exact ab_csl [2] 2 hg (by rfl) hn0 (by rfl) (by decide +kernel) (by omega))) (fun o G2 h => ⟨_, h.1⟩) (by omega) m_CS_init ml_TX_11 im_CS_init rfl (Nat.le_of_ble_eq_true rfl) d_TX_init_9 rfl ?_
  intro v G2 hq
  obtain ⟨hv, rfl⟩ := hq
  cases hv
  change ab_W _ _ _ (List.set (List.set G a (ab_ob 10 [vN, vN, vI 0, vI 0, vI 0, vI 0, vN, vI 0]) ++ [ab_ob 1 [vN, vI 0]]) (n + 0) (ab_ob 1 [vR (n + 1), vI 0]) ++ [ab_ai 64]) 12 [some (vR a)] [vR (n + 0), vR a] Q
  rw [ab_c6 hlen]
  change ab_W _ _ _ (List.set G a (ab_ob 10 [vN, vN, vI 0, vI 0, vI 0, vI 0, vN, vI 0]) ++ [ab_ob 1 [vR (n + 1), vI 0], ab_ai 64]) 12 [some (vR a)] [vR (n + 0), vR a] Q
  refine ab_putf (fs := [vN, vN, vI 0, vI 0, vI 0, vI 0, vN, vI 0]) f_TX_12 (Or.inr ⟨rfl, _, c_TX, rfl⟩) d_TX_init_12 (ab_c3 hal _ _) (Nat.le_of_ble_eq_true rfl) (fun _ => ⟨rfl, rfl⟩) ha ?_
  change ab_W _ _ _ (List.set (List.set G a (ab_ob 10 [vN, vN, vI 0, vI 0, vI 0, vI 0, vN, vI 0]) ++ [ab_ob 1 [vR (n + 1), vI 0], ab_ai 64]) a (ab_ob 10 [vR (n + 0), vN, vI 0, vI 0, vI 0, vI 0, vN, vI 0])) 15 [some (vR a)] [] Q
  rw [ab_c2 hal]
  refine ab_aload_n d_TX_init_15 rfl ?_
  refine ab_iconst (v := 0) d_TX_init_16 (by decide) ?_
  refine ab_newI (N := 0) a_int d_TX_init_17 (by decide) (by decide) (by rw [ab_cl (k := 2) hlen rfl]; omega) (by exact ab_csl [2, 64] 66 hg (by rfl) hn0 (by rfl) (by decide +kernel) (by omega)) ?_
  rw [ab_cl (k := 2) hlen rfl, ab_c1]
  change ab_W _ _ _ (List.set G a (ab_ob 10 [vR (n + 0), vN, vI 0, vI 0, vI 0, vI 0, vN, vI 0]) ++ [ab_ob 1 [vR (n + 1), vI 0], ab_ai 64, ab_ai 0]) 19 [some (vR a)] [vR (n + 2), vR a] Q
  refine ab_putf (fs := [vR (n + 0), vN, vI 0, vI 0, vI 0, vI 0, vN, vI 0]) f_TX_18 (Or.inl rfl) d_TX_init_19 (ab_c3 hal _ _) (Nat.le_of_ble_eq_true rfl) (fun _ => ⟨rfl, rfl⟩) ha ?_
  change ab_W _ _ _ (List.set (List.set G a (ab_ob 10 [vR (n + 0), vN, vI 0, vI 0, vI 0, vI 0, vN, vI 0]) ++ [ab_ob 1 [vR (n + 1), vI 0], ab_ai 64, ab_ai 0]) a (ab_ob 10 [vR (n + 0), vR (n + 2), vI 0, vI 0, vI 0, vI 0, vN, vI 0])) 22 [some (vR a)] [] Q
  rw [ab_c2 hal]
  refine ab_aload_n d_TX_init_22 rfl ?_
  refine ab_iconst (v := (-1)) d_TX_init_23 (by decide) ?_
  refine ab_putf (fs := [vR (n + 0), vR (n + 2), vI 0, vI 0, vI 0, vI 0, vN, vI 0]) f_TX_22 (Or.inl rfl) d_TX_init_24 (ab_c3 hal _ _) (Nat.le_of_ble_eq_true rfl) (fun _ => ⟨rfl, rfl⟩) ha ?_
  change ab_W _ _ _ (List.set (List.set G a (ab_ob 10 [vR (n + 0), vR (n + 2), vI 0, vI 0, vI 0, vI 0, vN, vI 0]) ++ [ab_ob 1 [vR (n + 1), vI 0], ab_ai 64, ab_ai 0]) a (ab_ob 10 [vR (n + 0), vR (n + 2), vI 0, vI 0, vI 0, vI (-1), vN, vI 0])) 27 [some (vR a)] [] Q
  rw [ab_c2 hal]
  refine ab_aload_n d_TX_init_27 rfl ?_
  refine ab_gets (i := 1) (by decide) s_TX_26 d_TX_init_28 ?_
  refine ab_putf (fs := [vR (n + 0), vR (n + 2), vI 0, vI 0, vI 0, vI (-1), vN, vI 0]) f_TX_29 (Or.inl rfl) d_TX_init_31 (ab_c3 hal _ _) (Nat.le_of_ble_eq_true rfl) (fun _ => ⟨rfl, rfl⟩) ha ?_
  change ab_W _ _ _ (List.set (List.set G a (ab_ob 10 [vR (n + 0), vR (n + 2), vI 0, vI 0, vI 0, vI (-1), vN, vI 0]) ++ [ab_ob 1 [vR (n + 1), vI 0], ab_ai 64, ab_ai 0]) a (ab_ob 10 [vR (n + 0), vR (n + 2), vI 0, vI 0, vI 0, vI (-1), vR 1, vI 0])) 34 [some (vR a)] [] Q
  rw [ab_c2 hal]
  exact ab_vret rfl d_TX_init_34 (by rw [hQ]; exact ⟨rfl, rfl⟩)
set_option maxRecDepth 100000 in
set_option maxHeartbeats 4000000 in
theorem c_ST_init {X : ab_X} {d : Nat} {G : ab_G} {a n : Nat} (hd : 1 ≤ d) (ha : ab_n0 ≤ a) (hg : G[a]? = some (ab_ob 8 [vI 0, vN, vI 0, vI 0, vN, vI 0, vN, vN, vN, vN, vI 0, vN, vI 0, vN, vI 0, vN, vI 0, vJ 0])) (hlen : G.length = n) (hr : n + 8 ≤ ab_n0 + room_1.cells) (hs : ab_slots G + 22370 ≤ room_1.slots) : ab_F X d y_ST_init (.code y_ST_init b_ST_init 1 none) [vR a] G (fun o G2 => o = .returned none ∧ G2 = List.set G a (ab_ob 8 [vI 32, vN, vI 0, vI 0, vR (n + 0), vI 0, vR (n + 1), vR (n + 2), vR (n + 3), vR (n + 4), vI 0, vR (n + 5), vI 0, vR (n + 6), vI 0, vR (n + 7), vI 0, vJ 0]) ++ [ab_ai 120, ab_ai 8000, ab_ai 8192, ab_ai 65, ab_ai 64, ab_ai 2048, ab_ai 3072, ab_ai 809]) := by
  have hal : a < G.length := (List.getElem?_eq_some_iff.mp hg).1
  have hn0 : ab_n0 ≤ G.length := by omega
  have hn18 : ab_n0 ≤ n := by omega
  refine ab_F_of (by decide +kernel) (Nat.le_of_ble_eq_true rfl) ?_
  obtain ⟨Q, hQ⟩ : ∃ z : Outcome → ab_G → Prop, z = (fun o G2 => o = .returned none ∧ G2 = List.set G a (ab_ob 8 [vI 32, vN, vI 0, vI 0, vR (n + 0), vI 0, vR (n + 1), vR (n + 2), vR (n + 3), vR (n + 4), vI 0, vR (n + 5), vI 0, vR (n + 6), vI 0, vR (n + 7), vI 0, vJ 0]) ++ [ab_ai 120, ab_ai 8000, ab_ai 8192, ab_ai 65, ab_ai 64, ab_ai 2048, ab_ai 3072, ab_ai 809]) := ⟨_, rfl⟩
  rw [← hQ]
  change ab_W X (ab_pl y_ST_init b_ST_init 1 none) d G 0 [some (vR a)] [] Q
  suffices hsuf : ab_W X (ab_pl y_ST_init b_ST_init 1 none) d (List.set G a (ab_ob 8 [vI 0, vN, vI 0, vI 0, vN, vI 0, vN, vN, vN, vN, vI 0, vN, vI 0, vN, vI 0, vN, vI 0, vJ 0]) ++ []) 0 [some (vR a)] [] Q by rw [← ab_g0 hg] at hsuf; exact hsuf
  refine ab_aload_n d_ST_init_0 rfl ?_
  refine ab_objInit mj_ST_3 ob_inst ob_code d_ST_init_1 (Nat.le_of_ble_eq_true rfl) (by omega) ?_
  refine ab_aload_n d_ST_init_4 rfl ?_
  refine ab_bipush (v := 32) d_ST_init_5 (by decide) ?_
  refine ab_putf (fs := [vI 0, vN, vI 0, vI 0, vN, vI 0, vN, vN, vN, vN, vI 0, vN, vI 0, vN, vI 0, vN, vI 0, vJ 0]) f_ST_9 (Or.inl rfl) d_ST_init_7 (ab_c3 hal _ _) (Nat.le_of_ble_eq_true rfl) (fun _ => ⟨rfl, rfl⟩) ha ?_
  change ab_W _ _ _ (List.set (List.set G a (ab_ob 8 [vI 0, vN, vI 0, vI 0, vN, vI 0, vN, vN, vN, vN, vI 0, vN, vI 0, vN, vI 0, vN, vI 0, vJ 0]) ++ []) a (ab_ob 8 [vI 32, vN, vI 0, vI 0, vN, vI 0, vN, vN, vN, vN, vI 0, vN, vI 0, vN, vI 0, vN, vI 0, vJ 0])) 10 [some (vR a)] [] Q
  rw [ab_c2 hal]
  refine ab_aload_n d_ST_init_10 rfl ?_
  refine ab_bipush (v := 120) d_ST_init_11 (by decide) ?_
  refine ab_newI (N := 120) a_int d_ST_init_13 (by decide) (by decide) (by rw [ab_cl (k := 0) hlen rfl]; omega) (by exact ab_csl [] 0 hg (by rfl) hn0 (by rfl) (by decide +kernel) (by omega)) ?_
  rw [ab_cl (k := 0) hlen rfl, ab_c1]
  change ab_W _ _ _ (List.set G a (ab_ob 8 [vI 32, vN, vI 0, vI 0, vN, vI 0, vN, vN, vN, vN, vI 0, vN, vI 0, vN, vI 0, vN, vI 0, vJ 0]) ++ [ab_ai 120]) 15 [some (vR a)] [vR (n + 0), vR a] Q
  refine ab_putf (fs := [vI 32, vN, vI 0, vI 0, vN, vI 0, vN, vN, vN, vN, vI 0, vN, vI 0, vN, vI 0, vN, vI 0, vJ 0]) f_ST_15 (Or.inr ⟨rfl, _, c_ST, rfl⟩) d_ST_init_15 (ab_c3 hal _ _) (Nat.le_of_ble_eq_true rfl) (fun _ => ⟨rfl, rfl⟩) ha ?_
  change ab_W _ _ _ (List.set (List.set G a (ab_ob 8 [vI 32, vN, vI 0, vI 0, vN, vI 0, vN, vN, vN, vN, vI 0, vN, vI 0, vN, vI 0, vN, vI 0, vJ 0]) ++ [ab_ai 120]) a (ab_ob 8 [vI 32, vN, vI 0, vI 0, vR (n + 0), vI 0, vN, vN, vN, vN, vI 0, vN, vI 0, vN, vI 0, vN, vI 0, vJ 0])) 18 [some (vR a)] [] Q
  rw [ab_c2 hal]
  refine ab_aload_n d_ST_init_18 rfl ?_
  refine ab_sipush (v := 8000) d_ST_init_19 (by decide) ?_
  refine ab_newI (N := 8000) a_int d_ST_init_22 (by decide) (by decide) (by rw [ab_cl (k := 1) hlen rfl]; omega) (by exact ab_csl [120] 120 hg (by rfl) hn0 (by rfl) (by decide +kernel) (by omega)) ?_
  rw [ab_cl (k := 1) hlen rfl, ab_c1]
  change ab_W _ _ _ (List.set G a (ab_ob 8 [vI 32, vN, vI 0, vI 0, vR (n + 0), vI 0, vN, vN, vN, vN, vI 0, vN, vI 0, vN, vI 0, vN, vI 0, vJ 0]) ++ [ab_ai 120, ab_ai 8000]) 24 [some (vR a)] [vR (n + 1), vR a] Q
  refine ab_putf (fs := [vI 32, vN, vI 0, vI 0, vR (n + 0), vI 0, vN, vN, vN, vN, vI 0, vN, vI 0, vN, vI 0, vN, vI 0, vJ 0]) f_ST_19 (Or.inr ⟨rfl, _, c_ST, rfl⟩) d_ST_init_24 (ab_c3 hal _ _) (Nat.le_of_ble_eq_true rfl) (fun _ => ⟨rfl, rfl⟩) ha ?_
  change ab_W _ _ _ (List.set (List.set G a (ab_ob 8 [vI 32, vN, vI 0, vI 0, vR (n + 0), vI 0, vN, vN, vN, vN, vI 0, vN, vI 0, vN, vI 0, vN, vI 0, vJ 0]) ++ [ab_ai 120, ab_ai 8000]) a (ab_ob 8 [vI 32, vN, vI 0, vI 0, vR (n + 0), vI 0, vR (n + 1), vN, vN, vN, vI 0, vN, vI 0, vN, vI 0, vN, vI 0, vJ 0])) 27 [some (vR a)] [] Q
  rw [ab_c2 hal]
  refine ab_aload_n d_ST_init_27 rfl ?_
  refine ab_sipush (v := 8192) d_ST_init_28 (by decide) ?_
  refine ab_newI (N := 8192) a_int d_ST_init_31 (by decide) (by decide) (by rw [ab_cl (k := 2) hlen rfl]; omega) (by exact ab_csl [120, 8000] 8120 hg (by rfl) hn0 (by rfl) (by decide +kernel) (by omega)) ?_
  rw [ab_cl (k := 2) hlen rfl, ab_c1]
  change ab_W _ _ _ (List.set G a (ab_ob 8 [vI 32, vN, vI 0, vI 0, vR (n + 0), vI 0, vR (n + 1), vN, vN, vN, vI 0, vN, vI 0, vN, vI 0, vN, vI 0, vJ 0]) ++ [ab_ai 120, ab_ai 8000, ab_ai 8192]) 33 [some (vR a)] [vR (n + 2), vR a] Q
  refine ab_putf (fs := [vI 32, vN, vI 0, vI 0, vR (n + 0), vI 0, vR (n + 1), vN, vN, vN, vI 0, vN, vI 0, vN, vI 0, vN, vI 0, vJ 0]) f_ST_22 (Or.inr ⟨rfl, _, c_ST, rfl⟩) d_ST_init_33 (ab_c3 hal _ _) (Nat.le_of_ble_eq_true rfl) (fun _ => ⟨rfl, rfl⟩) ha ?_
  change ab_W _ _ _ (List.set (List.set G a (ab_ob 8 [vI 32, vN, vI 0, vI 0, vR (n + 0), vI 0, vR (n + 1), vN, vN, vN, vI 0, vN, vI 0, vN, vI 0, vN, vI 0, vJ 0]) ++ [ab_ai 120, ab_ai 8000, ab_ai 8192]) a (ab_ob 8 [vI 32, vN, vI 0, vI 0, vR (n + 0), vI 0, vR (n + 1), vR (n + 2), vN, vN, vI 0, vN, vI 0, vN, vI 0, vN, vI 0, vJ 0])) 36 [some (vR a)] [] Q
  rw [ab_c2 hal]
  refine ab_aload_n d_ST_init_36 rfl ?_
  refine ab_bipush (v := 65) d_ST_init_37 (by decide) ?_
  refine ab_newI (N := 65) a_int d_ST_init_39 (by decide) (by decide) (by rw [ab_cl (k := 3) hlen rfl]; omega) (by exact ab_csl [120, 8000, 8192] 16312 hg (by rfl) hn0 (by rfl) (by decide +kernel) (by omega)) ?_
  rw [ab_cl (k := 3) hlen rfl, ab_c1]
  change ab_W _ _ _ (List.set G a (ab_ob 8 [vI 32, vN, vI 0, vI 0, vR (n + 0), vI 0, vR (n + 1), vR (n + 2), vN, vN, vI 0, vN, vI 0, vN, vI 0, vN, vI 0, vJ 0]) ++ [ab_ai 120, ab_ai 8000, ab_ai 8192, ab_ai 65]) 41 [some (vR a)] [vR (n + 3), vR a] Q
  refine ab_putf (fs := [vI 32, vN, vI 0, vI 0, vR (n + 0), vI 0, vR (n + 1), vR (n + 2), vN, vN, vI 0, vN, vI 0, vN, vI 0, vN, vI 0, vJ 0]) f_ST_25 (Or.inr ⟨rfl, _, c_ST, rfl⟩) d_ST_init_41 (ab_c3 hal _ _) (Nat.le_of_ble_eq_true rfl) (fun _ => ⟨rfl, rfl⟩) ha ?_
  change ab_W _ _ _ (List.set (List.set G a (ab_ob 8 [vI 32, vN, vI 0, vI 0, vR (n + 0), vI 0, vR (n + 1), vR (n + 2), vN, vN, vI 0, vN, vI 0, vN, vI 0, vN, vI 0, vJ 0]) ++ [ab_ai 120, ab_ai 8000, ab_ai 8192, ab_ai 65]) a (ab_ob 8 [vI 32, vN, vI 0, vI 0, vR (n + 0), vI 0, vR (n + 1), vR (n + 2), vR (n + 3), vN, vI 0, vN, vI 0, vN, vI 0, vN, vI 0, vJ 0])) 44 [some (vR a)] [] Q
  rw [ab_c2 hal]
  refine ab_aload_n d_ST_init_44 rfl ?_
  refine ab_bipush (v := 64) d_ST_init_45 (by decide) ?_
  refine ab_newI (N := 64) a_int d_ST_init_47 (by decide) (by decide) (by rw [ab_cl (k := 4) hlen rfl]; omega) (by exact ab_csl [120, 8000, 8192, 65] 16377 hg (by rfl) hn0 (by rfl) (by decide +kernel) (by omega)) ?_
  rw [ab_cl (k := 4) hlen rfl, ab_c1]
  change ab_W _ _ _ (List.set G a (ab_ob 8 [vI 32, vN, vI 0, vI 0, vR (n + 0), vI 0, vR (n + 1), vR (n + 2), vR (n + 3), vN, vI 0, vN, vI 0, vN, vI 0, vN, vI 0, vJ 0]) ++ [ab_ai 120, ab_ai 8000, ab_ai 8192, ab_ai 65, ab_ai 64]) 49 [some (vR a)] [vR (n + 4), vR a] Q
  refine ab_putf (fs := [vI 32, vN, vI 0, vI 0, vR (n + 0), vI 0, vR (n + 1), vR (n + 2), vR (n + 3), vN, vI 0, vN, vI 0, vN, vI 0, vN, vI 0, vJ 0]) f_ST_28 (Or.inr ⟨rfl, _, c_ST, rfl⟩) d_ST_init_49 (ab_c3 hal _ _) (Nat.le_of_ble_eq_true rfl) (fun _ => ⟨rfl, rfl⟩) ha ?_
  change ab_W _ _ _ (List.set (List.set G a (ab_ob 8 [vI 32, vN, vI 0, vI 0, vR (n + 0), vI 0, vR (n + 1), vR (n + 2), vR (n + 3), vN, vI 0, vN, vI 0, vN, vI 0, vN, vI 0, vJ 0]) ++ [ab_ai 120, ab_ai 8000, ab_ai 8192, ab_ai 65, ab_ai 64]) a (ab_ob 8 [vI 32, vN, vI 0, vI 0, vR (n + 0), vI 0, vR (n + 1), vR (n + 2), vR (n + 3), vR (n + 4), vI 0, vN, vI 0, vN, vI 0, vN, vI 0, vJ 0])) 52 [some (vR a)] [] Q
  rw [ab_c2 hal]
  refine ab_aload_n d_ST_init_52 rfl ?_
  refine ab_sipush (v := 2048) d_ST_init_53 (by decide) ?_
  refine ab_newI (N := 2048) a_int d_ST_init_56 (by decide) (by decide) (by rw [ab_cl (k := 5) hlen rfl]; omega) (by exact ab_csl [120, 8000, 8192, 65, 64] 16441 hg (by rfl) hn0 (by rfl) (by decide +kernel) (by omega)) ?_
  rw [ab_cl (k := 5) hlen rfl, ab_c1]
  change ab_W _ _ _ (List.set G a (ab_ob 8 [vI 32, vN, vI 0, vI 0, vR (n + 0), vI 0, vR (n + 1), vR (n + 2), vR (n + 3), vR (n + 4), vI 0, vN, vI 0, vN, vI 0, vN, vI 0, vJ 0]) ++ [ab_ai 120, ab_ai 8000, ab_ai 8192, ab_ai 65, ab_ai 64, ab_ai 2048]) 58 [some (vR a)] [vR (n + 5), vR a] Q
  refine ab_putf (fs := [vI 32, vN, vI 0, vI 0, vR (n + 0), vI 0, vR (n + 1), vR (n + 2), vR (n + 3), vR (n + 4), vI 0, vN, vI 0, vN, vI 0, vN, vI 0, vJ 0]) f_ST_31 (Or.inr ⟨rfl, _, c_ST, rfl⟩) d_ST_init_58 (ab_c3 hal _ _) (Nat.le_of_ble_eq_true rfl) (fun _ => ⟨rfl, rfl⟩) ha ?_
  change ab_W _ _ _ (List.set (List.set G a (ab_ob 8 [vI 32, vN, vI 0, vI 0, vR (n + 0), vI 0, vR (n + 1), vR (n + 2), vR (n + 3), vR (n + 4), vI 0, vN, vI 0, vN, vI 0, vN, vI 0, vJ 0]) ++ [ab_ai 120, ab_ai 8000, ab_ai 8192, ab_ai 65, ab_ai 64, ab_ai 2048]) a (ab_ob 8 [vI 32, vN, vI 0, vI 0, vR (n + 0), vI 0, vR (n + 1), vR (n + 2), vR (n + 3), vR (n + 4), vI 0, vR (n + 5), vI 0, vN, vI 0, vN, vI 0, vJ 0])) 61 [some (vR a)] [] Q
  rw [ab_c2 hal]
  refine ab_aload_n d_ST_init_61 rfl ?_
  refine ab_sipush (v := 3072) d_ST_init_62 (by decide) ?_
  refine ab_newI (N := 3072) a_int d_ST_init_65 (by decide) (by decide) (by rw [ab_cl (k := 6) hlen rfl]; omega) (by exact ab_csl [120, 8000, 8192, 65, 64, 2048] 18489 hg (by rfl) hn0 (by rfl) (by decide +kernel) (by omega)) ?_
  rw [ab_cl (k := 6) hlen rfl, ab_c1]
  change ab_W _ _ _ (List.set G a (ab_ob 8 [vI 32, vN, vI 0, vI 0, vR (n + 0), vI 0, vR (n + 1), vR (n + 2), vR (n + 3), vR (n + 4), vI 0, vR (n + 5), vI 0, vN, vI 0, vN, vI 0, vJ 0]) ++ [ab_ai 120, ab_ai 8000, ab_ai 8192, ab_ai 65, ab_ai 64, ab_ai 2048, ab_ai 3072]) 67 [some (vR a)] [vR (n + 6), vR a] Q
  refine ab_putf (fs := [vI 32, vN, vI 0, vI 0, vR (n + 0), vI 0, vR (n + 1), vR (n + 2), vR (n + 3), vR (n + 4), vI 0, vR (n + 5), vI 0, vN, vI 0, vN, vI 0, vJ 0]) f_ST_34 (Or.inr ⟨rfl, _, c_ST, rfl⟩) d_ST_init_67 (ab_c3 hal _ _) (Nat.le_of_ble_eq_true rfl) (fun _ => ⟨rfl, rfl⟩) ha ?_
  change ab_W _ _ _ (List.set (List.set G a (ab_ob 8 [vI 32, vN, vI 0, vI 0, vR (n + 0), vI 0, vR (n + 1), vR (n + 2), vR (n + 3), vR (n + 4), vI 0, vR (n + 5), vI 0, vN, vI 0, vN, vI 0, vJ 0]) ++ [ab_ai 120, ab_ai 8000, ab_ai 8192, ab_ai 65, ab_ai 64, ab_ai 2048, ab_ai 3072]) a (ab_ob 8 [vI 32, vN, vI 0, vI 0, vR (n + 0), vI 0, vR (n + 1), vR (n + 2), vR (n + 3), vR (n + 4), vI 0, vR (n + 5), vI 0, vR (n + 6), vI 0, vN, vI 0, vJ 0])) 70 [some (vR a)] [] Q
  rw [ab_c2 hal]
  refine ab_aload_n d_ST_init_70 rfl ?_
  refine ab_sipush (v := 809) d_ST_init_71 (by decide) ?_
  refine ab_newI (N := 809) a_int d_ST_init_74 (by decide) (by decide) (by rw [ab_cl (k := 7) hlen rfl]; omega) (by exact ab_csl [120, 8000, 8192, 65, 64, 2048, 3072] 21561 hg (by rfl) hn0 (by rfl) (by decide +kernel) (by omega)) ?_
  rw [ab_cl (k := 7) hlen rfl, ab_c1]
  change ab_W _ _ _ (List.set G a (ab_ob 8 [vI 32, vN, vI 0, vI 0, vR (n + 0), vI 0, vR (n + 1), vR (n + 2), vR (n + 3), vR (n + 4), vI 0, vR (n + 5), vI 0, vR (n + 6), vI 0, vN, vI 0, vJ 0]) ++ [ab_ai 120, ab_ai 8000, ab_ai 8192, ab_ai 65, ab_ai 64, ab_ai 2048, ab_ai 3072, ab_ai 809]) 76 [some (vR a)] [vR (n + 7), vR a] Q
  refine ab_putf (fs := [vI 32, vN, vI 0, vI 0, vR (n + 0), vI 0, vR (n + 1), vR (n + 2), vR (n + 3), vR (n + 4), vI 0, vR (n + 5), vI 0, vR (n + 6), vI 0, vN, vI 0, vJ 0]) f_ST_37 (Or.inr ⟨rfl, _, c_ST, rfl⟩) d_ST_init_76 (ab_c3 hal _ _) (Nat.le_of_ble_eq_true rfl) (fun _ => ⟨rfl, rfl⟩) ha ?_
  change ab_W _ _ _ (List.set (List.set G a (ab_ob 8 [vI 32, vN, vI 0, vI 0, vR (n + 0), vI 0, vR (n + 1), vR (n + 2), vR (n + 3), vR (n + 4), vI 0, vR (n + 5), vI 0, vR (n + 6), vI 0, vN, vI 0, vJ 0]) ++ [ab_ai 120, ab_ai 8000, ab_ai 8192, ab_ai 65, ab_ai 64, ab_ai 2048, ab_ai 3072, ab_ai 809]) a (ab_ob 8 [vI 32, vN, vI 0, vI 0, vR (n + 0), vI 0, vR (n + 1), vR (n + 2), vR (n + 3), vR (n + 4), vI 0, vR (n + 5), vI 0, vR (n + 6), vI 0, vR (n + 7), vI 0, vJ 0])) 79 [some (vR a)] [] Q
  rw [ab_c2 hal]
  exact ab_vret rfl d_ST_init_79 (by rw [hQ]; exact ⟨rfl, rfl⟩)
set_option maxRecDepth 100000 in
set_option maxHeartbeats 4000000 in
theorem c_TH_init {X : ab_X} {d : Nat} {G : ab_G} {a n : Nat} (hd : 1 ≤ d) (ha : ab_n0 ≤ a) (hg : G[a]? = some (ab_ob 11 [vN, vN, vN, vN, vN, vN, vI 0, vI 0, vN, vI 0, vN, vI 0, vN, vN, vI 0, vI 0, vJ 0])) (hlen : G.length = n) (hr : n + 8 ≤ ab_n0 + room_1.cells) (hs : ab_slots G + 36539 ≤ room_1.slots) : ab_F X d y_TH_init (.code y_TH_init b_TH_init 1 none) [vR a] G (fun o G2 => o = .returned none ∧ G2 = List.set G a (ab_ob 11 [vR (n + 0), vR (n + 1), vR (n + 2), vR (n + 3), vR (n + 4), vR (n + 5), vI 0, vI 0, vR (n + 6), vI 0, vR (n + 7), vI 0, vN, vN, vI 0, vI 0, vJ 0]) ++ [ab_ai 20, ab_ai 20, ab_ai 801, ab_ai 801, ab_ai 16020, ab_ai 16020, ab_ai 2048, ab_ai 809]) := by
  have hal : a < G.length := (List.getElem?_eq_some_iff.mp hg).1
  have hn0 : ab_n0 ≤ G.length := by omega
  have hn18 : ab_n0 ≤ n := by omega
  refine ab_F_of (by decide +kernel) (Nat.le_of_ble_eq_true rfl) ?_
  obtain ⟨Q, hQ⟩ : ∃ z : Outcome → ab_G → Prop, z = (fun o G2 => o = .returned none ∧ G2 = List.set G a (ab_ob 11 [vR (n + 0), vR (n + 1), vR (n + 2), vR (n + 3), vR (n + 4), vR (n + 5), vI 0, vI 0, vR (n + 6), vI 0, vR (n + 7), vI 0, vN, vN, vI 0, vI 0, vJ 0]) ++ [ab_ai 20, ab_ai 20, ab_ai 801, ab_ai 801, ab_ai 16020, ab_ai 16020, ab_ai 2048, ab_ai 809]) := ⟨_, rfl⟩
  rw [← hQ]
  change ab_W X (ab_pl y_TH_init b_TH_init 1 none) d G 0 [some (vR a)] [] Q
  suffices hsuf : ab_W X (ab_pl y_TH_init b_TH_init 1 none) d (List.set G a (ab_ob 11 [vN, vN, vN, vN, vN, vN, vI 0, vI 0, vN, vI 0, vN, vI 0, vN, vN, vI 0, vI 0, vJ 0]) ++ []) 0 [some (vR a)] [] Q by rw [← ab_g0 hg] at hsuf; exact hsuf
  refine ab_aload_n d_TH_init_0 rfl ?_
  refine ab_objInit mj_TH_3 ob_inst ob_code d_TH_init_1 (Nat.le_of_ble_eq_true rfl) (by omega) ?_
  refine ab_aload_n d_TH_init_4 rfl ?_
  refine ab_bipush (v := 20) d_TH_init_5 (by decide) ?_
  refine ab_newI (N := 20) a_int d_TH_init_7 (by decide) (by decide) (by rw [ab_cl (k := 0) hlen rfl]; omega) (by exact ab_csl [] 0 hg (by rfl) hn0 (by rfl) (by decide +kernel) (by omega)) ?_
  rw [ab_cl (k := 0) hlen rfl, ab_c1]
  change ab_W _ _ _ (List.set G a (ab_ob 11 [vN, vN, vN, vN, vN, vN, vI 0, vI 0, vN, vI 0, vN, vI 0, vN, vN, vI 0, vI 0, vJ 0]) ++ [ab_ai 20]) 9 [some (vR a)] [vR (n + 0), vR a] Q
  refine ab_putf (fs := [vN, vN, vN, vN, vN, vN, vI 0, vI 0, vN, vI 0, vN, vI 0, vN, vN, vI 0, vI 0, vJ 0]) f_TH_9 (Or.inl rfl) d_TH_init_9 (ab_c3 hal _ _) (Nat.le_of_ble_eq_true rfl) (fun _ => ⟨rfl, rfl⟩) ha ?_
  change ab_W _ _ _ (List.set (List.set G a (ab_ob 11 [vN, vN, vN, vN, vN, vN, vI 0, vI 0, vN, vI 0, vN, vI 0, vN, vN, vI 0, vI 0, vJ 0]) ++ [ab_ai 20]) a (ab_ob 11 [vR (n + 0), vN, vN, vN, vN, vN, vI 0, vI 0, vN, vI 0, vN, vI 0, vN, vN, vI 0, vI 0, vJ 0])) 12 [some (vR a)] [] Q
  rw [ab_c2 hal]
  refine ab_aload_n d_TH_init_12 rfl ?_
  refine ab_bipush (v := 20) d_TH_init_13 (by decide) ?_
  refine ab_newI (N := 20) a_int d_TH_init_15 (by decide) (by decide) (by rw [ab_cl (k := 1) hlen rfl]; omega) (by exact ab_csl [20] 20 hg (by rfl) hn0 (by rfl) (by decide +kernel) (by omega)) ?_
  rw [ab_cl (k := 1) hlen rfl, ab_c1]
  change ab_W _ _ _ (List.set G a (ab_ob 11 [vR (n + 0), vN, vN, vN, vN, vN, vI 0, vI 0, vN, vI 0, vN, vI 0, vN, vN, vI 0, vI 0, vJ 0]) ++ [ab_ai 20, ab_ai 20]) 17 [some (vR a)] [vR (n + 1), vR a] Q
  refine ab_putf (fs := [vR (n + 0), vN, vN, vN, vN, vN, vI 0, vI 0, vN, vI 0, vN, vI 0, vN, vN, vI 0, vI 0, vJ 0]) f_TH_15 (Or.inr ⟨rfl, _, c_TH, rfl⟩) d_TH_init_17 (ab_c3 hal _ _) (Nat.le_of_ble_eq_true rfl) (fun _ => ⟨rfl, rfl⟩) ha ?_
  change ab_W _ _ _ (List.set (List.set G a (ab_ob 11 [vR (n + 0), vN, vN, vN, vN, vN, vI 0, vI 0, vN, vI 0, vN, vI 0, vN, vN, vI 0, vI 0, vJ 0]) ++ [ab_ai 20, ab_ai 20]) a (ab_ob 11 [vR (n + 0), vR (n + 1), vN, vN, vN, vN, vI 0, vI 0, vN, vI 0, vN, vI 0, vN, vN, vI 0, vI 0, vJ 0])) 20 [some (vR a)] [] Q
  rw [ab_c2 hal]
  refine ab_aload_n d_TH_init_20 rfl ?_
  refine ab_sipush (v := 801) d_TH_init_21 (by decide) ?_
  refine ab_newI (N := 801) a_int d_TH_init_24 (by decide) (by decide) (by rw [ab_cl (k := 2) hlen rfl]; omega) (by exact ab_csl [20, 20] 40 hg (by rfl) hn0 (by rfl) (by decide +kernel) (by omega)) ?_
  rw [ab_cl (k := 2) hlen rfl, ab_c1]
  change ab_W _ _ _ (List.set G a (ab_ob 11 [vR (n + 0), vR (n + 1), vN, vN, vN, vN, vI 0, vI 0, vN, vI 0, vN, vI 0, vN, vN, vI 0, vI 0, vJ 0]) ++ [ab_ai 20, ab_ai 20, ab_ai 801]) 26 [some (vR a)] [vR (n + 2), vR a] Q
  refine ab_putf (fs := [vR (n + 0), vR (n + 1), vN, vN, vN, vN, vI 0, vI 0, vN, vI 0, vN, vI 0, vN, vN, vI 0, vI 0, vJ 0]) f_TH_18 (Or.inl rfl) d_TH_init_26 (ab_c3 hal _ _) (Nat.le_of_ble_eq_true rfl) (fun _ => ⟨rfl, rfl⟩) ha ?_
  change ab_W _ _ _ (List.set (List.set G a (ab_ob 11 [vR (n + 0), vR (n + 1), vN, vN, vN, vN, vI 0, vI 0, vN, vI 0, vN, vI 0, vN, vN, vI 0, vI 0, vJ 0]) ++ [ab_ai 20, ab_ai 20, ab_ai 801]) a (ab_ob 11 [vR (n + 0), vR (n + 1), vR (n + 2), vN, vN, vN, vI 0, vI 0, vN, vI 0, vN, vI 0, vN, vN, vI 0, vI 0, vJ 0])) 29 [some (vR a)] [] Q
  rw [ab_c2 hal]
  refine ab_aload_n d_TH_init_29 rfl ?_
  refine ab_sipush (v := 801) d_TH_init_30 (by decide) ?_
  refine ab_newI (N := 801) a_int d_TH_init_33 (by decide) (by decide) (by rw [ab_cl (k := 3) hlen rfl]; omega) (by exact ab_csl [20, 20, 801] 841 hg (by rfl) hn0 (by rfl) (by decide +kernel) (by omega)) ?_
  rw [ab_cl (k := 3) hlen rfl, ab_c1]
  change ab_W _ _ _ (List.set G a (ab_ob 11 [vR (n + 0), vR (n + 1), vR (n + 2), vN, vN, vN, vI 0, vI 0, vN, vI 0, vN, vI 0, vN, vN, vI 0, vI 0, vJ 0]) ++ [ab_ai 20, ab_ai 20, ab_ai 801, ab_ai 801]) 35 [some (vR a)] [vR (n + 3), vR a] Q
  refine ab_putf (fs := [vR (n + 0), vR (n + 1), vR (n + 2), vN, vN, vN, vI 0, vI 0, vN, vI 0, vN, vI 0, vN, vN, vI 0, vI 0, vJ 0]) f_TH_21 (Or.inl rfl) d_TH_init_35 (ab_c3 hal _ _) (Nat.le_of_ble_eq_true rfl) (fun _ => ⟨rfl, rfl⟩) ha ?_
  change ab_W _ _ _ (List.set (List.set G a (ab_ob 11 [vR (n + 0), vR (n + 1), vR (n + 2), vN, vN, vN, vI 0, vI 0, vN, vI 0, vN, vI 0, vN, vN, vI 0, vI 0, vJ 0]) ++ [ab_ai 20, ab_ai 20, ab_ai 801, ab_ai 801]) a (ab_ob 11 [vR (n + 0), vR (n + 1), vR (n + 2), vR (n + 3), vN, vN, vI 0, vI 0, vN, vI 0, vN, vI 0, vN, vN, vI 0, vI 0, vJ 0])) 38 [some (vR a)] [] Q
  rw [ab_c2 hal]
  refine ab_aload_n d_TH_init_38 rfl ?_
  refine ab_sipush (v := 16020) d_TH_init_39 (by decide) ?_
  refine ab_newI (N := 16020) a_int d_TH_init_42 (by decide) (by decide) (by rw [ab_cl (k := 4) hlen rfl]; omega) (by exact ab_csl [20, 20, 801, 801] 1642 hg (by rfl) hn0 (by rfl) (by decide +kernel) (by omega)) ?_
  rw [ab_cl (k := 4) hlen rfl, ab_c1]
  change ab_W _ _ _ (List.set G a (ab_ob 11 [vR (n + 0), vR (n + 1), vR (n + 2), vR (n + 3), vN, vN, vI 0, vI 0, vN, vI 0, vN, vI 0, vN, vN, vI 0, vI 0, vJ 0]) ++ [ab_ai 20, ab_ai 20, ab_ai 801, ab_ai 801, ab_ai 16020]) 44 [some (vR a)] [vR (n + 4), vR a] Q
  refine ab_putf (fs := [vR (n + 0), vR (n + 1), vR (n + 2), vR (n + 3), vN, vN, vI 0, vI 0, vN, vI 0, vN, vI 0, vN, vN, vI 0, vI 0, vJ 0]) f_TH_24 (Or.inl rfl) d_TH_init_44 (ab_c3 hal _ _) (Nat.le_of_ble_eq_true rfl) (fun _ => ⟨rfl, rfl⟩) ha ?_
  change ab_W _ _ _ (List.set (List.set G a (ab_ob 11 [vR (n + 0), vR (n + 1), vR (n + 2), vR (n + 3), vN, vN, vI 0, vI 0, vN, vI 0, vN, vI 0, vN, vN, vI 0, vI 0, vJ 0]) ++ [ab_ai 20, ab_ai 20, ab_ai 801, ab_ai 801, ab_ai 16020]) a (ab_ob 11 [vR (n + 0), vR (n + 1), vR (n + 2), vR (n + 3), vR (n + 4), vN, vI 0, vI 0, vN, vI 0, vN, vI 0, vN, vN, vI 0, vI 0, vJ 0])) 47 [some (vR a)] [] Q
  rw [ab_c2 hal]
  refine ab_aload_n d_TH_init_47 rfl ?_
  refine ab_sipush (v := 16020) d_TH_init_48 (by decide) ?_
  refine ab_newI (N := 16020) a_int d_TH_init_51 (by decide) (by decide) (by rw [ab_cl (k := 5) hlen rfl]; omega) (by exact ab_csl [20, 20, 801, 801, 16020] 17662 hg (by rfl) hn0 (by rfl) (by decide +kernel) (by omega)) ?_
  rw [ab_cl (k := 5) hlen rfl, ab_c1]
  change ab_W _ _ _ (List.set G a (ab_ob 11 [vR (n + 0), vR (n + 1), vR (n + 2), vR (n + 3), vR (n + 4), vN, vI 0, vI 0, vN, vI 0, vN, vI 0, vN, vN, vI 0, vI 0, vJ 0]) ++ [ab_ai 20, ab_ai 20, ab_ai 801, ab_ai 801, ab_ai 16020, ab_ai 16020]) 53 [some (vR a)] [vR (n + 5), vR a] Q
  refine ab_putf (fs := [vR (n + 0), vR (n + 1), vR (n + 2), vR (n + 3), vR (n + 4), vN, vI 0, vI 0, vN, vI 0, vN, vI 0, vN, vN, vI 0, vI 0, vJ 0]) f_TH_27 (Or.inl rfl) d_TH_init_53 (ab_c3 hal _ _) (Nat.le_of_ble_eq_true rfl) (fun _ => ⟨rfl, rfl⟩) ha ?_
  change ab_W _ _ _ (List.set (List.set G a (ab_ob 11 [vR (n + 0), vR (n + 1), vR (n + 2), vR (n + 3), vR (n + 4), vN, vI 0, vI 0, vN, vI 0, vN, vI 0, vN, vN, vI 0, vI 0, vJ 0]) ++ [ab_ai 20, ab_ai 20, ab_ai 801, ab_ai 801, ab_ai 16020, ab_ai 16020]) a (ab_ob 11 [vR (n + 0), vR (n + 1), vR (n + 2), vR (n + 3), vR (n + 4), vR (n + 5), vI 0, vI 0, vN, vI 0, vN, vI 0, vN, vN, vI 0, vI 0, vJ 0])) 56 [some (vR a)] [] Q
  rw [ab_c2 hal]
  refine ab_aload_n d_TH_init_56 rfl ?_
  refine ab_sipush (v := 2048) d_TH_init_57 (by decide) ?_
  refine ab_newI (N := 2048) a_int d_TH_init_60 (by decide) (by decide) (by rw [ab_cl (k := 6) hlen rfl]; omega) (by exact ab_csl [20, 20, 801, 801, 16020, 16020] 33682 hg (by rfl) hn0 (by rfl) (by decide +kernel) (by omega)) ?_
  rw [ab_cl (k := 6) hlen rfl, ab_c1]
  change ab_W _ _ _ (List.set G a (ab_ob 11 [vR (n + 0), vR (n + 1), vR (n + 2), vR (n + 3), vR (n + 4), vR (n + 5), vI 0, vI 0, vN, vI 0, vN, vI 0, vN, vN, vI 0, vI 0, vJ 0]) ++ [ab_ai 20, ab_ai 20, ab_ai 801, ab_ai 801, ab_ai 16020, ab_ai 16020, ab_ai 2048]) 62 [some (vR a)] [vR (n + 6), vR a] Q
  refine ab_putf (fs := [vR (n + 0), vR (n + 1), vR (n + 2), vR (n + 3), vR (n + 4), vR (n + 5), vI 0, vI 0, vN, vI 0, vN, vI 0, vN, vN, vI 0, vI 0, vJ 0]) f_TH_30 (Or.inr ⟨rfl, _, c_TH, rfl⟩) d_TH_init_62 (ab_c3 hal _ _) (Nat.le_of_ble_eq_true rfl) (fun _ => ⟨rfl, rfl⟩) ha ?_
  change ab_W _ _ _ (List.set (List.set G a (ab_ob 11 [vR (n + 0), vR (n + 1), vR (n + 2), vR (n + 3), vR (n + 4), vR (n + 5), vI 0, vI 0, vN, vI 0, vN, vI 0, vN, vN, vI 0, vI 0, vJ 0]) ++ [ab_ai 20, ab_ai 20, ab_ai 801, ab_ai 801, ab_ai 16020, ab_ai 16020, ab_ai 2048]) a (ab_ob 11 [vR (n + 0), vR (n + 1), vR (n + 2), vR (n + 3), vR (n + 4), vR (n + 5), vI 0, vI 0, vR (n + 6), vI 0, vN, vI 0, vN, vN, vI 0, vI 0, vJ 0])) 65 [some (vR a)] [] Q
  rw [ab_c2 hal]
  refine ab_aload_n d_TH_init_65 rfl ?_
  refine ab_sipush (v := 809) d_TH_init_66 (by decide) ?_
  refine ab_newI (N := 809) a_int d_TH_init_69 (by decide) (by decide) (by rw [ab_cl (k := 7) hlen rfl]; omega) (by exact ab_csl [20, 20, 801, 801, 16020, 16020, 2048] 35730 hg (by rfl) hn0 (by rfl) (by decide +kernel) (by omega)) ?_
  rw [ab_cl (k := 7) hlen rfl, ab_c1]
  change ab_W _ _ _ (List.set G a (ab_ob 11 [vR (n + 0), vR (n + 1), vR (n + 2), vR (n + 3), vR (n + 4), vR (n + 5), vI 0, vI 0, vR (n + 6), vI 0, vN, vI 0, vN, vN, vI 0, vI 0, vJ 0]) ++ [ab_ai 20, ab_ai 20, ab_ai 801, ab_ai 801, ab_ai 16020, ab_ai 16020, ab_ai 2048, ab_ai 809]) 71 [some (vR a)] [vR (n + 7), vR a] Q
  refine ab_putf (fs := [vR (n + 0), vR (n + 1), vR (n + 2), vR (n + 3), vR (n + 4), vR (n + 5), vI 0, vI 0, vR (n + 6), vI 0, vN, vI 0, vN, vN, vI 0, vI 0, vJ 0]) f_TH_33 (Or.inr ⟨rfl, _, c_TH, rfl⟩) d_TH_init_71 (ab_c3 hal _ _) (Nat.le_of_ble_eq_true rfl) (fun _ => ⟨rfl, rfl⟩) ha ?_
  change ab_W _ _ _ (List.set (List.set G a (ab_ob 11 [vR (n + 0), vR (n + 1), vR (n + 2), vR (n + 3), vR (n + 4), vR (n + 5), vI 0, vI 0, vR (n + 6), vI 0, vN, vI 0, vN, vN, vI 0, vI 0, vJ 0]) ++ [ab_ai 20, ab_ai 20, ab_ai 801, ab_ai 801, ab_ai 16020, ab_ai 16020, ab_ai 2048, ab_ai 809]) a (ab_ob 11 [vR (n + 0), vR (n + 1), vR (n + 2), vR (n + 3), vR (n + 4), vR (n + 5), vI 0, vI 0, vR (n + 6), vI 0, vR (n + 7), vI 0, vN, vN, vI 0, vI 0, vJ 0])) 74 [some (vR a)] [] Q
  rw [ab_c2 hal]
  exact ab_vret rfl d_TH_init_74 (by rw [hQ]; exact ⟨rfl, rfl⟩)
