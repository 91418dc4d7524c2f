/-- the fields of a new reference -/
def m_f : List Value := [vR 81, vR 82, vI 0, vR 83, vR 84, vR 85, vR 86, vI 0, vI 0, vI 0, vI 0, vI 0, vI 0, vI 0, vR 87, vR 88, vR 89, vR 90, vR 91, vR 92, vR 93, vI 0, vR 94, vR 95, vR 96, vR 97, vR 98, vR 99, vR 100, vR 101, vI 0, vI 0, vI 0, vI (-1), vI 0, vI 0, vR 102, vR 103, vR 104, vR 105, vR 106, vR 107, vR 108, vR 109, vR 110, vR 111, vI 0, vI 0, vI 0, vI 0, vR 112, vR 113, vR 114, vR 115, vR 116, vR 117, vR 118, vR 119, vR 120, vR 121, vR 122, vR 123, vR 124, vR 125, vR 126, vR 127, vI 0, vI 0, vI 0, vI 0, vR 128, vR 129, vR 130, vR 131, vR 132, vR 133, vR 134, vR 135, vR 136, vR 137, vI 0, vI 0, vR 138, vR 139, vR 140, vR 141, vR 142, vR 143, vR 144, vI 0, vI 0, vI 0, vI 0, vI 0, vI 0, vI 0, vR 145, vR 146, vR 147, vI 0, vI 0, vI 0]
set_option maxRecDepth 100000 in
set_option maxHeartbeats 4000000 in
theorem p_MO_over {X : ab_X} {d : Nat} {G : ab_G}  (h80 : G[80]? = some (ab_ob 12 (m_f))) : ab_F X d y_MO_over (.code y_MO_over b_MO_over 1 (some (.int))) [vR 80] G (fun o G2 => o = .returned (some (vI 0)) ∧ G2 = G.set 80 (ab_ob 12 (List.set m_f 2 (vI 0)))) := by
  refine ab_F_of (by decide +kernel) (Nat.le_of_ble_eq_true rfl) ?_
  obtain ⟨Q, hQ⟩ : ∃ z : Outcome → ab_G → Prop, z = (fun o G2 => o = .returned (some (vI 0)) ∧ G2 = G.set 80 (ab_ob 12 (List.set m_f 2 (vI 0)))) := ⟨_, rfl⟩
  rw [← hQ]
  change ab_W X (ab_pl y_MO_over b_MO_over 1 (some (.int))) d G 0 [some (vR 80)] [] Q
  refine ab_aload_n d_MO_over_0 rfl ?_
  refine ab_iconst (v := 0) d_MO_over_1 (by decide) ?_
  refine ab_putf (fs := m_f) f_MO_220 (Or.inl rfl) d_MO_over_2 h80 (Nat.le_of_ble_eq_true rfl) (fun _ => ⟨rfl, rfl⟩) (by decide) ?_
  obtain ⟨G1, eG1⟩ : ∃ z : ab_G, z = List.set G 80 (ab_ob 12 (List.set m_f 2 (vI 0))) := ⟨_, rfl⟩
  have h80 : G1[80]? = some (ab_ob 12 (List.set m_f 2 (vI 0))) := by rw [eG1]; exact List.getElem?_set_self (List.getElem?_eq_some_iff.mp h80).1
  change ab_W _ _ _ (List.set G 80 (ab_ob 12 (List.set m_f 2 (vI 0)))) 5 [some (vR 80)] [] _
  rw [← eG1]
  refine ab_iconst (v := 0) d_MO_over_5 (by decide) ?_
  exact ab_iret (rt := .int) rfl rfl d_MO_over_6 (by rw [hQ]; exact ⟨rfl, eG1⟩)
set_option maxRecDepth 100000 in
set_option maxHeartbeats 4000000 in
theorem p_MO_output {X : ab_X} {d : Nat} {G : ab_G} {i : Int32} (h80 : G[80]? = some (ab_ob 12 (m_f))) : ab_F X d y_MO_output (.code y_MO_output b_MO_output 2 (some (.int))) [vR 80, vI i] G (fun o G2 => o = .returned (some (vI (-1))) ∧ G2 = G.set 80 (ab_ob 12 (List.set m_f 2 (vI 0)))) := by
  refine ab_F_of (by decide +kernel) (Nat.le_of_ble_eq_true rfl) ?_
  obtain ⟨Q, hQ⟩ : ∃ z : Outcome → ab_G → Prop, z = (fun o G2 => o = .returned (some (vI (-1))) ∧ G2 = G.set 80 (ab_ob 12 (List.set m_f 2 (vI 0)))) := ⟨_, rfl⟩
  rw [← hQ]
  change ab_W X (ab_pl y_MO_output b_MO_output 2 (some (.int))) d G 0 [some (vR 80), some (vI i)] [] Q
  refine ab_aload_n d_MO_output_0 rfl ?_
  refine ab_iconst (v := 0) d_MO_output_1 (by decide) ?_
  refine ab_putf (fs := m_f) f_MO_220 (Or.inl rfl) d_MO_output_2 h80 (Nat.le_of_ble_eq_true rfl) (fun _ => ⟨rfl, rfl⟩) (by decide) ?_
  obtain ⟨G1, eG1⟩ : ∃ z : ab_G, z = List.set G 80 (ab_ob 12 (List.set m_f 2 (vI 0))) := ⟨_, rfl⟩
  have h80 : G1[80]? = some (ab_ob 12 (List.set m_f 2 (vI 0))) := by rw [eG1]; exact List.getElem?_set_self (List.getElem?_eq_some_iff.mp h80).1
  change ab_W _ _ _ (List.set G 80 (ab_ob 12 (List.set m_f 2 (vI 0)))) 5 [some (vR 80), some (vI i)] [] _
  rw [← eG1]
  refine ab_iload_n d_MO_output_5 rfl ?_
  refine ab_if_lt (tgt := 17) d_MO_output_6 (by decide) (fun c0 => ?_) (fun c0 => ?_)
  · refine ab_iconst (v := (-1)) d_MO_output_17 (by decide) ?_
    refine ab_goto (tgt := 27) d_MO_output_18 (by decide) ?_
    exact ab_iret (rt := .int) rfl rfl d_MO_output_27 (by rw [hQ]; exact ⟨rfl, eG1⟩)
  · refine ab_iload_n d_MO_output_9 rfl ?_
    refine ab_aload_n d_MO_output_10 rfl ?_
    refine ab_getf (fs := List.set m_f 2 (vI 0)) f_MO_618 d_MO_output_11 h80 rfl ?_
    refine ab_icmp_lt (tgt := 21) d_MO_output_14 (by decide) (fun c1 => ?_) (fun c1 => ?_)
    · exfalso; have l0 := (show (0 : Int32).toInt = 0 by decide); simp only [Int32.le_iff_toInt_le, Int32.lt_iff_toInt_lt, ← Int32.toInt_inj] at c0 c1; omega
    · refine ab_iconst (v := (-1)) d_MO_output_17 (by decide) ?_
      refine ab_goto (tgt := 27) d_MO_output_18 (by decide) ?_
      exact ab_iret (rt := .int) rfl rfl d_MO_output_27 (by rw [hQ]; exact ⟨rfl, eG1⟩)
set_option maxRecDepth 100000 in
set_option maxHeartbeats 4000000 in
theorem p_MO_found {X : ab_X} {d : Nat} {G : ab_G} {i : Int32} {w : Int32} (h80 : G[80]? = some (ab_ob 12 (m_f))) : ab_F X d y_MO_found (.code y_MO_found b_MO_found 3 (some (.int))) [vR 80, vI i, vI w] G (fun o G2 => o = .returned (some (vI (-1))) ∧ G2 = G.set 80 (ab_ob 12 (List.set m_f 2 (vI 0)))) := by
  refine ab_F_of (by decide +kernel) (Nat.le_of_ble_eq_true rfl) ?_
  obtain ⟨Q, hQ⟩ : ∃ z : Outcome → ab_G → Prop, z = (fun o G2 => o = .returned (some (vI (-1))) ∧ G2 = G.set 80 (ab_ob 12 (List.set m_f 2 (vI 0)))) := ⟨_, rfl⟩
  rw [← hQ]
  change ab_W X (ab_pl y_MO_found b_MO_found 3 (some (.int))) d G 0 [some (vR 80), some (vI i), some (vI w)] [] Q
  refine ab_aload_n d_MO_found_0 rfl ?_
  refine ab_iconst (v := 0) d_MO_found_1 (by decide) ?_
  refine ab_putf (fs := m_f) f_MO_220 (Or.inl rfl) d_MO_found_2 h80 (Nat.le_of_ble_eq_true rfl) (fun _ => ⟨rfl, rfl⟩) (by decide) ?_
  obtain ⟨G1, eG1⟩ : ∃ z : ab_G, z = List.set G 80 (ab_ob 12 (List.set m_f 2 (vI 0))) := ⟨_, rfl⟩
  have h80 : G1[80]? = some (ab_ob 12 (List.set m_f 2 (vI 0))) := by rw [eG1]; exact List.getElem?_set_self (List.getElem?_eq_some_iff.mp h80).1
  change ab_W _ _ _ (List.set G 80 (ab_ob 12 (List.set m_f 2 (vI 0)))) 5 [some (vR 80), some (vI i), some (vI w)] [] _
  rw [← eG1]
  refine ab_iload_n d_MO_found_5 rfl ?_
  refine ab_if_lt (tgt := 26) d_MO_found_6 (by decide) (fun c0 => ?_) (fun c0 => ?_)
  · refine ab_iconst (v := (-1)) d_MO_found_26 (by decide) ?_
    refine ab_goto (tgt := 40) d_MO_found_27 (by decide) ?_
    exact ab_iret (rt := .int) rfl rfl d_MO_found_40 (by rw [hQ]; exact ⟨rfl, eG1⟩)
  · refine ab_iload_n d_MO_found_9 rfl ?_
    refine ab_aload_n d_MO_found_10 rfl ?_
    refine ab_getf (fs := List.set m_f 2 (vI 0)) f_MO_579 d_MO_found_11 h80 rfl ?_
    refine ab_icmp_ge (tgt := 26) d_MO_found_14 (by decide) (fun c1 => ?_) (fun c1 => ?_)
    · refine ab_iconst (v := (-1)) d_MO_found_26 (by decide) ?_
      refine ab_goto (tgt := 40) d_MO_found_27 (by decide) ?_
      exact ab_iret (rt := .int) rfl rfl d_MO_found_40 (by rw [hQ]; exact ⟨rfl, eG1⟩)
    · exfalso; have l0 := (show (0 : Int32).toInt = 0 by decide); simp only [Int32.le_iff_toInt_le, Int32.lt_iff_toInt_lt, ← Int32.toInt_inj] at c0 c1; omega
set_option maxRecDepth 100000 in
set_option maxHeartbeats 4000000 in
theorem p_MO_piece {X : ab_X} {d : Nat} {G : ab_G} {i : Int32} {w : Int32} (h80 : G[80]? = some (ab_ob 12 (m_f))) : ab_F X d y_MO_piece (.code y_MO_piece b_MO_piece 3 (some (.int))) [vR 80, vI i, vI w] G (fun o G2 => o = .returned (some (vI (-1))) ∧ G2 = G.set 80 (ab_ob 12 (List.set m_f 2 (vI 0)))) := by
  refine ab_F_of (by decide +kernel) (Nat.le_of_ble_eq_true rfl) ?_
  obtain ⟨Q, hQ⟩ : ∃ z : Outcome → ab_G → Prop, z = (fun o G2 => o = .returned (some (vI (-1))) ∧ G2 = G.set 80 (ab_ob 12 (List.set m_f 2 (vI 0)))) := ⟨_, rfl⟩
  rw [← hQ]
  change ab_W X (ab_pl y_MO_piece b_MO_piece 3 (some (.int))) d G 0 [some (vR 80), some (vI i), some (vI w)] [] Q
  refine ab_aload_n d_MO_piece_0 rfl ?_
  refine ab_iconst (v := 0) d_MO_piece_1 (by decide) ?_
  refine ab_putf (fs := m_f) f_MO_220 (Or.inl rfl) d_MO_piece_2 h80 (Nat.le_of_ble_eq_true rfl) (fun _ => ⟨rfl, rfl⟩) (by decide) ?_
  obtain ⟨G1, eG1⟩ : ∃ z : ab_G, z = List.set G 80 (ab_ob 12 (List.set m_f 2 (vI 0))) := ⟨_, rfl⟩
  have h80 : G1[80]? = some (ab_ob 12 (List.set m_f 2 (vI 0))) := by rw [eG1]; exact List.getElem?_set_self (List.getElem?_eq_some_iff.mp h80).1
  change ab_W _ _ _ (List.set G 80 (ab_ob 12 (List.set m_f 2 (vI 0)))) 5 [some (vR 80), some (vI i), some (vI w)] [] _
  rw [← eG1]
  refine ab_iload_n d_MO_piece_5 rfl ?_
  refine ab_if_lt (tgt := 26) d_MO_piece_6 (by decide) (fun c0 => ?_) (fun c0 => ?_)
  · refine ab_iconst (v := (-1)) d_MO_piece_26 (by decide) ?_
    refine ab_goto (tgt := 40) d_MO_piece_27 (by decide) ?_
    exact ab_iret (rt := .int) rfl rfl d_MO_piece_40 (by rw [hQ]; exact ⟨rfl, eG1⟩)
  · refine ab_iload_n d_MO_piece_9 rfl ?_
    refine ab_aload_n d_MO_piece_10 rfl ?_
    refine ab_getf (fs := List.set m_f 2 (vI 0)) f_MO_588 d_MO_piece_11 h80 rfl ?_
    refine ab_icmp_ge (tgt := 26) d_MO_piece_14 (by decide) (fun c1 => ?_) (fun c1 => ?_)
    · refine ab_iconst (v := (-1)) d_MO_piece_26 (by decide) ?_
      refine ab_goto (tgt := 40) d_MO_piece_27 (by decide) ?_
      exact ab_iret (rt := .int) rfl rfl d_MO_piece_40 (by rw [hQ]; exact ⟨rfl, eG1⟩)
    · exfalso; have l0 := (show (0 : Int32).toInt = 0 by decide); simp only [Int32.le_iff_toInt_le, Int32.lt_iff_toInt_lt, ← Int32.toInt_inj] at c0 c1; omega
set_option maxRecDepth 100000 in
set_option maxHeartbeats 4000000 in
theorem p_MO_group {X : ab_X} {d : Nat} {G : ab_G} {k : Int32} {w : Int32} (h80 : G[80]? = some (ab_ob 12 (m_f))) : ab_F X d y_MO_group (.code y_MO_group b_MO_group 3 (some (.int))) [vR 80, vI k, vI w] G (fun o G2 => o = .returned (some (vI (-1))) ∧ G2 = G.set 80 (ab_ob 12 (List.set m_f 2 (vI 0)))) := by
  refine ab_F_of (by decide +kernel) (Nat.le_of_ble_eq_true rfl) ?_
  obtain ⟨Q, hQ⟩ : ∃ z : Outcome → ab_G → Prop, z = (fun o G2 => o = .returned (some (vI (-1))) ∧ G2 = G.set 80 (ab_ob 12 (List.set m_f 2 (vI 0)))) := ⟨_, rfl⟩
  rw [← hQ]
  change ab_W X (ab_pl y_MO_group b_MO_group 3 (some (.int))) d G 0 [some (vR 80), some (vI k), some (vI w)] [] Q
  refine ab_aload_n d_MO_group_0 rfl ?_
  refine ab_iconst (v := 0) d_MO_group_1 (by decide) ?_
  refine ab_putf (fs := m_f) f_MO_220 (Or.inl rfl) d_MO_group_2 h80 (Nat.le_of_ble_eq_true rfl) (fun _ => ⟨rfl, rfl⟩) (by decide) ?_
  obtain ⟨G1, eG1⟩ : ∃ z : ab_G, z = List.set G 80 (ab_ob 12 (List.set m_f 2 (vI 0))) := ⟨_, rfl⟩
  have h80 : G1[80]? = some (ab_ob 12 (List.set m_f 2 (vI 0))) := by rw [eG1]; exact List.getElem?_set_self (List.getElem?_eq_some_iff.mp h80).1
  change ab_W _ _ _ (List.set G 80 (ab_ob 12 (List.set m_f 2 (vI 0)))) 5 [some (vR 80), some (vI k), some (vI w)] [] _
  rw [← eG1]
  refine ab_aload_n d_MO_group_5 rfl ?_
  refine ab_getf (fs := List.set m_f 2 (vI 0)) f_MO_563 d_MO_group_6 h80 rfl ?_
  refine ab_if_eq (tgt := 33) d_MO_group_9 (by decide) (fun _ => ?_) (fun c => absurd c (by decide))
  refine ab_iconst (v := (-1)) d_MO_group_33 (by decide) ?_
  refine ab_goto (tgt := 47) d_MO_group_34 (by decide) ?_
  exact ab_iret (rt := .int) rfl rfl d_MO_group_47 (by rw [hQ]; exact ⟨rfl, eG1⟩)
set_option maxRecDepth 100000 in
set_option maxHeartbeats 4000000 in
theorem p_MO_isThere {X : ab_X} {d : Nat} {G : ab_G} {s : Int32} {fs : List Value} (h80 : G[80]? = some (ab_ob 12 fs)) (hth : fs[50]? = some (vR 112)) (h112 : G[112]? = some (ab_az 6)) : ab_F X d y_MO_isThere (.code y_MO_isThere b_MO_isThere 2 (some (.boolean))) [vR 80, vI s] G (fun o G2 => o = .returned (some (vI 0)) ∧ G2 = G) := by
  refine ab_F_of (by decide +kernel) (Nat.le_of_ble_eq_true rfl) ?_
  obtain ⟨Q, hQ⟩ : ∃ z : Outcome → ab_G → Prop, z = (fun o G2 => o = .returned (some (vI 0)) ∧ G2 = G) := ⟨_, rfl⟩
  rw [← hQ]
  change ab_W X (ab_pl y_MO_isThere b_MO_isThere 2 (some (.boolean))) d G 0 [some (vR 80), some (vI s)] [] Q
  refine ab_iload_n d_MO_isThere_0 rfl ?_
  refine ab_if_lt (tgt := 23) d_MO_isThere_1 (by decide) (fun c0 => ?_) (fun c0 => ?_)
  · refine ab_iconst (v := 0) d_MO_isThere_23 (by decide) ?_
    exact ab_iret (rt := .boolean) rfl (by decide) d_MO_isThere_24 (by rw [hQ]; exact ⟨rfl, rfl⟩)
  · refine ab_iload_n d_MO_isThere_4 rfl ?_
    refine ab_bipush (v := 6) d_MO_isThere_5 (by decide) ?_
    refine ab_icmp_ge (tgt := 23) d_MO_isThere_7 (by decide) (fun c1 => ?_) (fun c1 => ?_)
    · refine ab_iconst (v := 0) d_MO_isThere_23 (by decide) ?_
      exact ab_iret (rt := .boolean) rfl (by decide) d_MO_isThere_24 (by rw [hQ]; exact ⟨rfl, rfl⟩)
    · refine ab_aload_n d_MO_isThere_10 rfl ?_
      refine ab_getf (fs := fs) f_MO_109 d_MO_isThere_11 h80 hth ?_
      refine ab_iload_n d_MO_isThere_14 rfl ?_
      refine ab_zald d_MO_isThere_15 h112 (vp_in_iff.mpr (by have l0 := (show (0 : Int32).toInt = 0 by decide); have l1 := (show (6 : Int32).toInt = 6 by decide); simp only [Int32.le_iff_toInt_le, Int32.lt_iff_toInt_lt, ← Int32.toInt_inj] at c0 c1; constructor <;> omega)) ?_
      refine ab_topi (y := 0) rfl ?_
      refine ab_if_eq (tgt := 23) d_MO_isThere_16 (by decide) (fun _ => ?_) (fun c => absurd c (by decide))
      refine ab_iconst (v := 0) d_MO_isThere_23 (by decide) ?_
      exact ab_iret (rt := .boolean) rfl (by decide) d_MO_isThere_24 (by rw [hQ]; exact ⟨rfl, rfl⟩)
set_option maxRecDepth 100000 in
set_option maxHeartbeats 4000000 in
theorem p_MO_fault {X : ab_X} {d : Nat} {G : ab_G} {w : Int32} (h80 : G[80]? = some (ab_ob 12 (m_f))) : ab_F X d y_MO_fault (.code y_MO_fault b_MO_fault 2 (some (.int))) [vR 80, vI w] G (fun o G2 => o = .returned (some (vI (if w = 0 then 0 else (-1)))) ∧ G2 = G.set 80 (ab_ob 12 (List.set m_f 2 (vI 0)))) := by
  refine ab_F_of (by decide +kernel) (Nat.le_of_ble_eq_true rfl) ?_
  obtain ⟨Q, hQ⟩ : ∃ z : Outcome → ab_G → Prop, z = (fun o G2 => o = .returned (some (vI (if w = 0 then 0 else (-1)))) ∧ G2 = G.set 80 (ab_ob 12 (List.set m_f 2 (vI 0)))) := ⟨_, rfl⟩
  rw [← hQ]
  change ab_W X (ab_pl y_MO_fault b_MO_fault 2 (some (.int))) d G 0 [some (vR 80), some (vI w)] [] Q
  refine ab_aload_n d_MO_fault_0 rfl ?_
  refine ab_iconst (v := 0) d_MO_fault_1 (by decide) ?_
  refine ab_putf (fs := m_f) f_MO_220 (Or.inl rfl) d_MO_fault_2 h80 (Nat.le_of_ble_eq_true rfl) (fun _ => ⟨rfl, rfl⟩) (by decide) ?_
  obtain ⟨G1, eG1⟩ : ∃ z : ab_G, z = List.set G 80 (ab_ob 12 (List.set m_f 2 (vI 0))) := ⟨_, rfl⟩
  have h80 : G1[80]? = some (ab_ob 12 (List.set m_f 2 (vI 0))) := by rw [eG1]; exact List.getElem?_set_self (List.getElem?_eq_some_iff.mp h80).1
  change ab_W _ _ _ (List.set G 80 (ab_ob 12 (List.set m_f 2 (vI 0)))) 5 [some (vR 80), some (vI w)] [] _
  rw [← eG1]
  refine ab_iload_n d_MO_fault_5 rfl ?_
  refine ab_if_ne (tgt := 16) d_MO_fault_6 (by decide) (fun c0 => ?_) (fun c0 => ?_)
  · refine ab_iload_n d_MO_fault_16 rfl ?_
    refine ab_iconst (v := 1) d_MO_fault_17 (by decide) ?_
    refine ab_icmp_ne (tgt := 28) d_MO_fault_18 (by decide) (fun c1 => ?_) (fun c1 => ?_)
    · refine ab_iconst (v := (-1)) d_MO_fault_28 (by decide) ?_
      exact ab_iret (rt := .int) rfl rfl d_MO_fault_29 (by rw [hQ]; exact ⟨by rw [if_neg c0], eG1⟩)
    · refine ab_aload_n d_MO_fault_21 rfl ?_
      refine ab_getf (fs := List.set m_f 2 (vI 0)) f_MO_75 d_MO_fault_22 h80 rfl ?_
      refine ab_goto (tgt := 29) d_MO_fault_25 (by decide) ?_
      exact ab_iret (rt := .int) rfl rfl d_MO_fault_29 (by rw [hQ]; exact ⟨by rw [if_neg c0], eG1⟩)
  · refine ab_aload_n d_MO_fault_9 rfl ?_
    refine ab_getf (fs := List.set m_f 2 (vI 0)) f_MO_273 d_MO_fault_10 h80 rfl ?_
    refine ab_goto (tgt := 29) d_MO_fault_13 (by decide) ?_
    exact ab_iret (rt := .int) rfl rfl d_MO_fault_29 (by rw [hQ]; exact ⟨by rw [if_pos c0], eG1⟩)
set_option maxRecDepth 100000 in
set_option maxHeartbeats 4000000 in
theorem p_MO_about {X : ab_X} {d : Nat} {G : ab_G} {s : Int32} {w : Int32} (h80 : G[80]? = some (ab_ob 12 (m_f))) (h112 : G[112]? = some (ab_zf 6 ((fun _ => 0)))) (hd : 1 ≤ d) : ab_F X d y_MO_about (.code y_MO_about b_MO_about 3 (some (.int))) [vR 80, vI s, vI w] G (fun o G2 => o = .returned (some (vI (-1))) ∧ G2 = G.set 80 (ab_ob 12 (List.set m_f 2 (vI 0)))) := by
  refine ab_F_of (by decide +kernel) (Nat.le_of_ble_eq_true rfl) ?_
  obtain ⟨Q, hQ⟩ : ∃ z : Outcome → ab_G → Prop, z = (fun o G2 => o = .returned (some (vI (-1))) ∧ G2 = G.set 80 (ab_ob 12 (List.set m_f 2 (vI 0)))) := ⟨_, rfl⟩
  rw [← hQ]
  change ab_W X (ab_pl y_MO_about b_MO_about 3 (some (.int))) d G 0 [some (vR 80), some (vI s), some (vI w)] [] Q
  refine ab_aload_n d_MO_about_0 rfl ?_
  refine ab_iconst (v := 0) d_MO_about_1 (by decide) ?_
  refine ab_putf (fs := m_f) f_MO_220 (Or.inl rfl) d_MO_about_2 h80 (Nat.le_of_ble_eq_true rfl) (fun _ => ⟨rfl, rfl⟩) (by decide) ?_
  obtain ⟨G1, eG1⟩ : ∃ z : ab_G, z = List.set G 80 (ab_ob 12 (List.set m_f 2 (vI 0))) := ⟨_, rfl⟩
  have h112 : G1[112]? = some (ab_zf 6 ((fun _ => 0))) := by rw [eG1, List.getElem?_set_ne ((by decide))]; exact h112
  have h80 : G1[80]? = some (ab_ob 12 (List.set m_f 2 (vI 0))) := by rw [eG1]; exact List.getElem?_set_self (List.getElem?_eq_some_iff.mp h80).1
  change ab_W _ _ _ (List.set G 80 (ab_ob 12 (List.set m_f 2 (vI 0)))) 5 [some (vR 80), some (vI s), some (vI w)] [] _
  rw [← eG1]
  refine ab_aload_n d_MO_about_5 rfl ?_
  refine ab_iload_n d_MO_about_6 rfl ?_
  refine ab_callV (d' := d - 1) (as := [vI s]) (st := []) (r := _) (p_MO_isThere (s := s) h80 rfl h112) (fun o G2 h => ⟨_, h.1⟩) (by omega) m_MO_isThere ml_MO_507 im_MO_isThere se_MO_isThere c_MO h80 (Nat.le_of_ble_eq_true rfl) d_MO_about_7 rfl ?_
  intro v G2 hq
  obtain ⟨hv, eG2⟩ := hq
  cases hv
  rw [eG2]
  change ab_W _ _ _ G1 10 [some (vR 80), some (vI s), some (vI w)] [vI 0] _
  refine ab_if_ne (tgt := 17) d_MO_about_10 (by decide) (fun c => absurd c (by decide)) (fun _ => ?_)
  refine ab_iconst (v := (-1)) d_MO_about_13 (by decide) ?_
  refine ab_goto (tgt := 59) d_MO_about_14 (by decide) ?_
  exact ab_iret (rt := .int) rfl rfl d_MO_about_59 (by rw [hQ]; exact ⟨rfl, eG1⟩)
set_option maxRecDepth 100000 in
set_option maxHeartbeats 4000000 in
theorem p_MO_name {X : ab_X} {d : Nat} {G : ab_G} {s : Int32} {k : Int32} {i : Int32} (h80 : G[80]? = some (ab_ob 12 (m_f))) (h112 : G[112]? = some (ab_zf 6 ((fun _ => 0)))) (hd : 1 ≤ d) : ab_F X d y_MO_name (.code y_MO_name b_MO_name 4 (some (.int))) [vR 80, vI s, vI k, vI i] G (fun o G2 => o = .returned (some (vI (-1))) ∧ G2 = G.set 80 (ab_ob 12 (List.set m_f 2 (vI 0)))) := by
  refine ab_F_of (by decide +kernel) (Nat.le_of_ble_eq_true rfl) ?_
  obtain ⟨Q, hQ⟩ : ∃ z : Outcome → ab_G → Prop, z = (fun o G2 => o = .returned (some (vI (-1))) ∧ G2 = G.set 80 (ab_ob 12 (List.set m_f 2 (vI 0)))) := ⟨_, rfl⟩
  rw [← hQ]
  change ab_W X (ab_pl y_MO_name b_MO_name 4 (some (.int))) d G 0 [some (vR 80), some (vI s), some (vI k), some (vI i)] [] Q
  refine ab_aload_n d_MO_name_0 rfl ?_
  refine ab_iconst (v := 0) d_MO_name_1 (by decide) ?_
  refine ab_putf (fs := m_f) f_MO_220 (Or.inl rfl) d_MO_name_2 h80 (Nat.le_of_ble_eq_true rfl) (fun _ => ⟨rfl, rfl⟩) (by decide) ?_
  obtain ⟨G1, eG1⟩ : ∃ z : ab_G, z = List.set G 80 (ab_ob 12 (List.set m_f 2 (vI 0))) := ⟨_, rfl⟩
  have h112 : G1[112]? = some (ab_zf 6 ((fun _ => 0))) := by rw [eG1, List.getElem?_set_ne ((by decide))]; exact h112
  have h80 : G1[80]? = some (ab_ob 12 (List.set m_f 2 (vI 0))) := by rw [eG1]; exact List.getElem?_set_self (List.getElem?_eq_some_iff.mp h80).1
  change ab_W _ _ _ (List.set G 80 (ab_ob 12 (List.set m_f 2 (vI 0)))) 5 [some (vR 80), some (vI s), some (vI k), some (vI i)] [] _
  rw [← eG1]
  refine ab_aload_n d_MO_name_5 rfl ?_
  refine ab_iload_n d_MO_name_6 rfl ?_
  refine ab_callV (d' := d - 1) (as := [vI s]) (st := []) (r := _) (p_MO_isThere (s := s) h80 rfl h112) (fun o G2 h => ⟨_, h.1⟩) (by omega) m_MO_isThere ml_MO_507 im_MO_isThere se_MO_isThere c_MO h80 (Nat.le_of_ble_eq_true rfl) d_MO_name_7 rfl ?_
  intro v G2 hq
  obtain ⟨hv, eG2⟩ := hq
  cases hv
  rw [eG2]
  change ab_W _ _ _ G1 10 [some (vR 80), some (vI s), some (vI k), some (vI i)] [vI 0] _
  refine ab_if_eq (tgt := 43) d_MO_name_10 (by decide) (fun _ => ?_) (fun c => absurd c (by decide))
  refine ab_iconst (v := (-1)) d_MO_name_43 (by decide) ?_
  refine ab_goto (tgt := 63) d_MO_name_44 (by decide) ?_
  exact ab_iret (rt := .int) rfl rfl d_MO_name_63 (by rw [hQ]; exact ⟨rfl, eG1⟩)
set_option maxRecDepth 100000 in
set_option maxHeartbeats 4000000 in
theorem p_MO_match {X : ab_X} {d : Nat} {G : ab_G} {s : Int32} {how : Int32} {ma : Int32} {fr : Int32} (h80 : G[80]? = some (ab_ob 12 (m_f))) (h112 : G[112]? = some (ab_zf 6 ((fun _ => 0)))) (hd : 1 ≤ d) : ab_F X d y_MO_match (.code y_MO_match b_MO_match 6 (some (.int))) [vR 80, vI s, vI how, vI ma, vI fr] G (fun o G2 => o = .returned (some (vI 0)) ∧ G2 = G.set 80 (ab_ob 12 (List.set m_f 2 (vI 1)))) := by
  refine ab_F_of (by decide +kernel) (Nat.le_of_ble_eq_true rfl) ?_
  obtain ⟨Q, hQ⟩ : ∃ z : Outcome → ab_G → Prop, z = (fun o G2 => o = .returned (some (vI 0)) ∧ G2 = G.set 80 (ab_ob 12 (List.set m_f 2 (vI 1)))) := ⟨_, rfl⟩
  rw [← hQ]
  change ab_W X (ab_pl y_MO_match b_MO_match 6 (some (.int))) d G 0 [some (vR 80), some (vI s), some (vI how), some (vI ma), some (vI fr), none] [] Q
  refine ab_aload_n d_MO_match_0 rfl ?_
  refine ab_aload_n d_MO_match_1 rfl ?_
  refine ab_iload_n d_MO_match_2 rfl ?_
  refine ab_callV (d' := d - 1) (as := [vI s]) (st := [vR 80]) (r := _) (p_MO_isThere (s := s) h80 rfl h112) (fun o G2 h => ⟨_, h.1⟩) (by omega) m_MO_isThere ml_MO_507 im_MO_isThere se_MO_isThere c_MO h80 (Nat.le_of_ble_eq_true rfl) d_MO_match_3 rfl ?_
  intro v G1 hq
  obtain ⟨hv, eG1⟩ := hq
  cases hv
  rw [eG1]
  change ab_W _ _ _ G 6 [some (vR 80), some (vI s), some (vI how), some (vI ma), some (vI fr), none] [vI 0, vR 80] _
  refine ab_if_eq (tgt := 41) d_MO_match_6 (by decide) (fun _ => ?_) (fun c => absurd c (by decide))
  refine ab_iconst (v := 1) d_MO_match_41 (by decide) ?_
  refine ab_goto (tgt := 46) d_MO_match_42 (by decide) ?_
  refine ab_putf (fs := m_f) f_MO_220 (Or.inl rfl) d_MO_match_46 h80 (Nat.le_of_ble_eq_true rfl) (fun _ => ⟨rfl, rfl⟩) (by decide) ?_
  obtain ⟨G2, eG2⟩ : ∃ z : ab_G, z = List.set G 80 (ab_ob 12 (List.set m_f 2 (vI 1))) := ⟨_, rfl⟩
  have h112 : G2[112]? = some (ab_zf 6 ((fun _ => 0))) := by rw [eG2, List.getElem?_set_ne ((by decide))]; exact h112
  have h80 : G2[80]? = some (ab_ob 12 (List.set m_f 2 (vI 1))) := by rw [eG2]; exact List.getElem?_set_self (List.getElem?_eq_some_iff.mp h80).1
  change ab_W _ _ _ (List.set G 80 (ab_ob 12 (List.set m_f 2 (vI 1)))) 49 [some (vR 80), some (vI s), some (vI how), some (vI ma), some (vI fr), none] [] _
  rw [← eG2]
  refine ab_aload_n d_MO_match_49 rfl ?_
  refine ab_getf (fs := List.set m_f 2 (vI 1)) f_MO_220 d_MO_match_50 h80 rfl ?_
  refine ab_if_le (tgt := 58) d_MO_match_53 (by decide) (fun c => absurd c (by decide)) (fun _ => ?_)
  refine ab_iconst (v := 0) d_MO_match_56 (by decide) ?_
  exact ab_iret (rt := .int) rfl rfl d_MO_match_57 (by rw [hQ]; exact ⟨rfl, eG2⟩)
set_option maxRecDepth 100000 in
set_option maxHeartbeats 4000000 in
theorem p_MO_all {X : ab_X} {d : Nat} {G : ab_G} {s : Int32} (h80 : G[80]? = some (ab_ob 12 (m_f))) (h112 : G[112]? = some (ab_zf 6 ((fun _ => 0)))) (hd : 1 ≤ d) : ab_F X d y_MO_all (.code y_MO_all b_MO_all 2 (some (.int))) [vR 80, vI s] G (fun o G2 => o = .returned (some (vI 0)) ∧ G2 = G.set 80 (ab_ob 12 (List.set m_f 2 (vI 1)))) := by
  refine ab_F_of (by decide +kernel) (Nat.le_of_ble_eq_true rfl) ?_
  obtain ⟨Q, hQ⟩ : ∃ z : Outcome → ab_G → Prop, z = (fun o G2 => o = .returned (some (vI 0)) ∧ G2 = G.set 80 (ab_ob 12 (List.set m_f 2 (vI 1)))) := ⟨_, rfl⟩
  rw [← hQ]
  change ab_W X (ab_pl y_MO_all b_MO_all 2 (some (.int))) d G 0 [some (vR 80), some (vI s)] [] Q
  refine ab_aload_n d_MO_all_0 rfl ?_
  refine ab_aload_n d_MO_all_1 rfl ?_
  refine ab_iload_n d_MO_all_2 rfl ?_
  refine ab_callV (d' := d - 1) (as := [vI s]) (st := [vR 80]) (r := _) (p_MO_isThere (s := s) h80 rfl h112) (fun o G2 h => ⟨_, h.1⟩) (by omega) m_MO_isThere ml_MO_507 im_MO_isThere se_MO_isThere c_MO h80 (Nat.le_of_ble_eq_true rfl) d_MO_all_3 rfl ?_
  intro v G1 hq
  obtain ⟨hv, eG1⟩ := hq
  cases hv
  rw [eG1]
  change ab_W _ _ _ G 6 [some (vR 80), some (vI s)] [vI 0, vR 80] _
  refine ab_if_eq (tgt := 13) d_MO_all_6 (by decide) (fun _ => ?_) (fun c => absurd c (by decide))
  refine ab_iconst (v := 1) d_MO_all_13 (by decide) ?_
  refine ab_putf (fs := m_f) f_MO_220 (Or.inl rfl) d_MO_all_14 h80 (Nat.le_of_ble_eq_true rfl) (fun _ => ⟨rfl, rfl⟩) (by decide) ?_
  obtain ⟨G2, eG2⟩ : ∃ z : ab_G, z = List.set G 80 (ab_ob 12 (List.set m_f 2 (vI 1))) := ⟨_, rfl⟩
  have h112 : G2[112]? = some (ab_zf 6 ((fun _ => 0))) := by rw [eG2, List.getElem?_set_ne ((by decide))]; exact h112
  have h80 : G2[80]? = some (ab_ob 12 (List.set m_f 2 (vI 1))) := by rw [eG2]; exact List.getElem?_set_self (List.getElem?_eq_some_iff.mp h80).1
  change ab_W _ _ _ (List.set G 80 (ab_ob 12 (List.set m_f 2 (vI 1)))) 17 [some (vR 80), some (vI s)] [] _
  rw [← eG2]
  refine ab_aload_n d_MO_all_17 rfl ?_
  refine ab_getf (fs := List.set m_f 2 (vI 1)) f_MO_220 d_MO_all_18 h80 rfl ?_
  refine ab_if_le (tgt := 26) d_MO_all_21 (by decide) (fun c => absurd c (by decide)) (fun _ => ?_)
  refine ab_iconst (v := 0) d_MO_all_24 (by decide) ?_
  exact ab_iret (rt := .int) rfl rfl d_MO_all_25 (by rw [hQ]; exact ⟨rfl, eG2⟩)
set_option maxRecDepth 100000 in
set_option maxHeartbeats 4000000 in
theorem p_MO_split1 {X : ab_X} {d : Nat} {G : ab_G} {s : Int32} (h80 : G[80]? = some (ab_ob 12 (m_f))) (h112 : G[112]? = some (ab_zf 6 ((fun _ => 0)))) (hd : 1 ≤ d) : ab_F X d y_MO_split1 (.code y_MO_split1 b_MO_split1 3 (some (.int))) [vR 80, vI s] G (fun o G2 => o = .returned (some (vI 0)) ∧ G2 = G.set 80 (ab_ob 12 (List.set m_f 2 (vI 1)))) := by
  refine ab_F_of (by decide +kernel) (Nat.le_of_ble_eq_true rfl) ?_
  obtain ⟨Q, hQ⟩ : ∃ z : Outcome → ab_G → Prop, z = (fun o G2 => o = .returned (some (vI 0)) ∧ G2 = G.set 80 (ab_ob 12 (List.set m_f 2 (vI 1)))) := ⟨_, rfl⟩
  rw [← hQ]
  change ab_W X (ab_pl y_MO_split1 b_MO_split1 3 (some (.int))) d G 0 [some (vR 80), some (vI s), none] [] Q
  refine ab_aload_n d_MO_split1_0 rfl ?_
  refine ab_aload_n d_MO_split1_1 rfl ?_
  refine ab_iload_n d_MO_split1_2 rfl ?_
  refine ab_callV (d' := d - 1) (as := [vI s]) (st := [vR 80]) (r := _) (p_MO_isThere (s := s) h80 rfl h112) (fun o G2 h => ⟨_, h.1⟩) (by omega) m_MO_isThere ml_MO_507 im_MO_isThere se_MO_isThere c_MO h80 (Nat.le_of_ble_eq_true rfl) d_MO_split1_3 rfl ?_
  intro v G1 hq
  obtain ⟨hv, eG1⟩ := hq
  cases hv
  rw [eG1]
  change ab_W _ _ _ G 6 [some (vR 80), some (vI s), none] [vI 0, vR 80] _
  refine ab_if_eq (tgt := 13) d_MO_split1_6 (by decide) (fun _ => ?_) (fun c => absurd c (by decide))
  refine ab_iconst (v := 1) d_MO_split1_13 (by decide) ?_
  refine ab_putf (fs := m_f) f_MO_220 (Or.inl rfl) d_MO_split1_14 h80 (Nat.le_of_ble_eq_true rfl) (fun _ => ⟨rfl, rfl⟩) (by decide) ?_
  obtain ⟨G2, eG2⟩ : ∃ z : ab_G, z = List.set G 80 (ab_ob 12 (List.set m_f 2 (vI 1))) := ⟨_, rfl⟩
  have h112 : G2[112]? = some (ab_zf 6 ((fun _ => 0))) := by rw [eG2, List.getElem?_set_ne ((by decide))]; exact h112
  have h80 : G2[80]? = some (ab_ob 12 (List.set m_f 2 (vI 1))) := by rw [eG2]; exact List.getElem?_set_self (List.getElem?_eq_some_iff.mp h80).1
  change ab_W _ _ _ (List.set G 80 (ab_ob 12 (List.set m_f 2 (vI 1)))) 17 [some (vR 80), some (vI s), none] [] _
  rw [← eG2]
  refine ab_aload_n d_MO_split1_17 rfl ?_
  refine ab_getf (fs := List.set m_f 2 (vI 1)) f_MO_220 d_MO_split1_18 h80 rfl ?_
  refine ab_if_le (tgt := 26) d_MO_split1_21 (by decide) (fun c => absurd c (by decide)) (fun _ => ?_)
  refine ab_iconst (v := 0) d_MO_split1_24 (by decide) ?_
  exact ab_iret (rt := .int) rfl rfl d_MO_split1_25 (by rw [hQ]; exact ⟨rfl, eG2⟩)
set_option maxRecDepth 100000 in
set_option maxHeartbeats 4000000 in
theorem p_MO_replace {X : ab_X} {d : Nat} {G : ab_G} {s : Int32} (h80 : G[80]? = some (ab_ob 12 (m_f))) (h112 : G[112]? = some (ab_zf 6 ((fun _ => 0)))) (hd : 1 ≤ d) : ab_F X d y_MO_replace (.code y_MO_replace b_MO_replace 5 (some (.int))) [vR 80, vI s] G (fun o G2 => o = .returned (some (vI 0)) ∧ G2 = G.set 80 (ab_ob 12 (List.set m_f 2 (vI 1)))) := by
  refine ab_F_of (by decide +kernel) (Nat.le_of_ble_eq_true rfl) ?_
  obtain ⟨Q, hQ⟩ : ∃ z : Outcome → ab_G → Prop, z = (fun o G2 => o = .returned (some (vI 0)) ∧ G2 = G.set 80 (ab_ob 12 (List.set m_f 2 (vI 1)))) := ⟨_, rfl⟩
  rw [← hQ]
  change ab_W X (ab_pl y_MO_replace b_MO_replace 5 (some (.int))) d G 0 [some (vR 80), some (vI s), none, none, none] [] Q
  refine ab_aload_n d_MO_replace_0 rfl ?_
  refine ab_aload_n d_MO_replace_1 rfl ?_
  refine ab_iload_n d_MO_replace_2 rfl ?_
  refine ab_callV (d' := d - 1) (as := [vI s]) (st := [vR 80]) (r := _) (p_MO_isThere (s := s) h80 rfl h112) (fun o G2 h => ⟨_, h.1⟩) (by omega) m_MO_isThere ml_MO_507 im_MO_isThere se_MO_isThere c_MO h80 (Nat.le_of_ble_eq_true rfl) d_MO_replace_3 rfl ?_
  intro v G1 hq
  obtain ⟨hv, eG1⟩ := hq
  cases hv
  rw [eG1]
  change ab_W _ _ _ G 6 [some (vR 80), some (vI s), none, none, none] [vI 0, vR 80] _
  refine ab_if_eq (tgt := 13) d_MO_replace_6 (by decide) (fun _ => ?_) (fun c => absurd c (by decide))
  refine ab_iconst (v := 1) d_MO_replace_13 (by decide) ?_
  refine ab_putf (fs := m_f) f_MO_220 (Or.inl rfl) d_MO_replace_14 h80 (Nat.le_of_ble_eq_true rfl) (fun _ => ⟨rfl, rfl⟩) (by decide) ?_
  obtain ⟨G2, eG2⟩ : ∃ z : ab_G, z = List.set G 80 (ab_ob 12 (List.set m_f 2 (vI 1))) := ⟨_, rfl⟩
  have h112 : G2[112]? = some (ab_zf 6 ((fun _ => 0))) := by rw [eG2, List.getElem?_set_ne ((by decide))]; exact h112
  have h80 : G2[80]? = some (ab_ob 12 (List.set m_f 2 (vI 1))) := by rw [eG2]; exact List.getElem?_set_self (List.getElem?_eq_some_iff.mp h80).1
  change ab_W _ _ _ (List.set G 80 (ab_ob 12 (List.set m_f 2 (vI 1)))) 17 [some (vR 80), some (vI s), none, none, none] [] _
  rw [← eG2]
  refine ab_aload_n d_MO_replace_17 rfl ?_
  refine ab_getf (fs := List.set m_f 2 (vI 1)) f_MO_220 d_MO_replace_18 h80 rfl ?_
  refine ab_if_le (tgt := 26) d_MO_replace_21 (by decide) (fun c => absurd c (by decide)) (fun _ => ?_)
  refine ab_iconst (v := 0) d_MO_replace_24 (by decide) ?_
  exact ab_iret (rt := .int) rfl rfl d_MO_replace_25 (by rw [hQ]; exact ⟨rfl, eG2⟩)
set_option maxRecDepth 100000 in
set_option maxHeartbeats 4000000 in
theorem p_MO_keep {X : ab_X} {d : Nat} {G : ab_G} {n : Int32} (h80 : G[80]? = some (ab_ob 12 (m_f))) : ab_F X d y_MO_keep (.code y_MO_keep b_MO_keep 2 none) [vR 80, vI n] G (fun o G2 => o = .returned none ∧ G2 = G.set 80 (ab_ob 12 (List.set m_f 2 (vI (if n < 4 ∨ 64 < n then 1 else 0))))) := by
  refine ab_F_of (by decide +kernel) (Nat.le_of_ble_eq_true rfl) ?_
  obtain ⟨Q, hQ⟩ : ∃ z : Outcome → ab_G → Prop, z = (fun o G2 => o = .returned none ∧ G2 = G.set 80 (ab_ob 12 (List.set m_f 2 (vI (if n < 4 ∨ 64 < n then 1 else 0))))) := ⟨_, rfl⟩
  rw [← hQ]
  change ab_W X (ab_pl y_MO_keep b_MO_keep 2 none) d G 0 [some (vR 80), some (vI n)] [] Q
  refine ab_aload_n d_MO_keep_0 rfl ?_
  refine ab_iload_n d_MO_keep_1 rfl ?_
  refine ab_iconst (v := 4) d_MO_keep_2 (by decide) ?_
  refine ab_icmp_lt (tgt := 12) d_MO_keep_3 (by decide) (fun c0 => ?_) (fun c0 => ?_)
  · refine ab_iconst (v := 1) d_MO_keep_12 (by decide) ?_
    refine ab_goto (tgt := 17) d_MO_keep_13 (by decide) ?_
    refine ab_putf (fs := m_f) f_MO_220 (Or.inl rfl) d_MO_keep_17 h80 (Nat.le_of_ble_eq_true rfl) (fun _ => ⟨rfl, rfl⟩) (by decide) ?_
    obtain ⟨G1, eG1⟩ : ∃ z : ab_G, z = List.set G 80 (ab_ob 12 (List.set m_f 2 (vI 1))) := ⟨_, rfl⟩
    have h80 : G1[80]? = some (ab_ob 12 (List.set m_f 2 (vI 1))) := by rw [eG1]; exact List.getElem?_set_self (List.getElem?_eq_some_iff.mp h80).1
    change ab_W _ _ _ (List.set G 80 (ab_ob 12 (List.set m_f 2 (vI 1)))) 20 [some (vR 80), some (vI n)] [] _
    rw [← eG1]
    exact ab_vret rfl d_MO_keep_20 (by rw [hQ]; exact ⟨rfl, by rw [eG1, if_pos (by exact Or.inl c0)]⟩)
  · refine ab_iload_n d_MO_keep_6 rfl ?_
    refine ab_bipush (v := 64) d_MO_keep_7 (by decide) ?_
    refine ab_icmp_le (tgt := 16) d_MO_keep_9 (by decide) (fun c1 => ?_) (fun c1 => ?_)
    · refine ab_iconst (v := 0) d_MO_keep_16 (by decide) ?_
      refine ab_putf (fs := m_f) f_MO_220 (Or.inl rfl) d_MO_keep_17 h80 (Nat.le_of_ble_eq_true rfl) (fun _ => ⟨rfl, rfl⟩) (by decide) ?_
      obtain ⟨G1, eG1⟩ : ∃ z : ab_G, z = List.set G 80 (ab_ob 12 (List.set m_f 2 (vI 0))) := ⟨_, rfl⟩
      have h80 : G1[80]? = some (ab_ob 12 (List.set m_f 2 (vI 0))) := by rw [eG1]; exact List.getElem?_set_self (List.getElem?_eq_some_iff.mp h80).1
      change ab_W _ _ _ (List.set G 80 (ab_ob 12 (List.set m_f 2 (vI 0)))) 20 [some (vR 80), some (vI n)] [] _
      rw [← eG1]
      exact ab_vret rfl d_MO_keep_20 (by rw [hQ]; exact ⟨rfl, by rw [eG1, if_neg (fun h => h.elim c0 (fun h => absurd h (Int32.not_lt.mpr c1)))]⟩)
    · refine ab_iconst (v := 1) d_MO_keep_12 (by decide) ?_
      refine ab_goto (tgt := 17) d_MO_keep_13 (by decide) ?_
      refine ab_putf (fs := m_f) f_MO_220 (Or.inl rfl) d_MO_keep_17 h80 (Nat.le_of_ble_eq_true rfl) (fun _ => ⟨rfl, rfl⟩) (by decide) ?_
      obtain ⟨G1, eG1⟩ : ∃ z : ab_G, z = List.set G 80 (ab_ob 12 (List.set m_f 2 (vI 1))) := ⟨_, rfl⟩
      have h80 : G1[80]? = some (ab_ob 12 (List.set m_f 2 (vI 1))) := by rw [eG1]; exact List.getElem?_set_self (List.getElem?_eq_some_iff.mp h80).1
      change ab_W _ _ _ (List.set G 80 (ab_ob 12 (List.set m_f 2 (vI 1)))) 20 [some (vR 80), some (vI n)] [] _
      rw [← eG1]
      exact ab_vret rfl d_MO_keep_20 (by rw [hQ]; exact ⟨rfl, by rw [eG1, if_pos (by exact Or.inr (Int32.not_le.mp c1))]⟩)
set_option maxRecDepth 100000 in
set_option maxHeartbeats 4000000 in
theorem p_MO_quote {X : ab_X} {d : Nat} {G : ab_G}  (h80 : G[80]? = some (ab_ob 12 (m_f))) : ab_F X d y_MO_quote (.code y_MO_quote b_MO_quote 3 (some (.int))) [vR 80] G (fun o G2 => o = .returned (some (vI 0)) ∧ ∃ fs, G2 = G.set 80 (ab_ob 12 fs)) := by
  refine ab_F_of (by decide +kernel) (Nat.le_of_ble_eq_true rfl) ?_
  obtain ⟨Q, hQ⟩ : ∃ z : Outcome → ab_G → Prop, z = (fun o G2 => o = .returned (some (vI 0)) ∧ ∃ fs, G2 = G.set 80 (ab_ob 12 fs)) := ⟨_, rfl⟩
  rw [← hQ]
  change ab_W X (ab_pl y_MO_quote b_MO_quote 3 (some (.int))) d G 0 [some (vR 80), none, none] [] Q
  refine ab_aload_n d_MO_quote_0 rfl ?_
  refine ab_iconst (v := 0) d_MO_quote_1 (by decide) ?_
  refine ab_putf (fs := m_f) f_MO_220 (Or.inl rfl) d_MO_quote_2 h80 (Nat.le_of_ble_eq_true rfl) (fun _ => ⟨rfl, rfl⟩) (by decide) ?_
  obtain ⟨G1, eG1⟩ : ∃ z : ab_G, z = List.set G 80 (ab_ob 12 (List.set m_f 2 (vI 0))) := ⟨_, rfl⟩
  have h80 : G1[80]? = some (ab_ob 12 (List.set m_f 2 (vI 0))) := by rw [eG1]; exact List.getElem?_set_self (List.getElem?_eq_some_iff.mp h80).1
  change ab_W _ _ _ (List.set G 80 (ab_ob 12 (List.set m_f 2 (vI 0)))) 5 [some (vR 80), none, none] [] _
  rw [← eG1]
  refine ab_aload_n d_MO_quote_5 rfl ?_
  refine ab_iconst (v := 0) d_MO_quote_6 (by decide) ?_
  refine ab_putf (fs := List.set m_f 2 (vI 0)) f_MO_618 (Or.inl rfl) d_MO_quote_7 h80 (Nat.le_of_ble_eq_true rfl) (fun _ => ⟨rfl, rfl⟩) (by decide) ?_
  obtain ⟨G2, eG2⟩ : ∃ z : ab_G, z = List.set G1 80 (ab_ob 12 (List.set (List.set m_f 2 (vI 0)) 9 (vI 0))) := ⟨_, rfl⟩
  have h80 : G2[80]? = some (ab_ob 12 (List.set (List.set m_f 2 (vI 0)) 9 (vI 0))) := by rw [eG2]; exact List.getElem?_set_self (List.getElem?_eq_some_iff.mp h80).1
  change ab_W _ _ _ (List.set G1 80 (ab_ob 12 (List.set (List.set m_f 2 (vI 0)) 9 (vI 0)))) 10 [some (vR 80), none, none] [] _
  rw [← eG2]
  refine ab_iconst (v := 0) d_MO_quote_10 (by decide) ?_
  refine ab_istore_n d_MO_quote_11 (Nat.le_of_ble_eq_true rfl) (Nat.le_of_ble_eq_true rfl) rfl ?_
  change ab_W _ _ _ G2 12 [some (vR 80), some (vI 0), none] [] _
  refine ab_iload_n d_MO_quote_12 rfl ?_
  refine ab_aload_n d_MO_quote_13 rfl ?_
  refine ab_getf (fs := List.set (List.set m_f 2 (vI 0)) 9 (vI 0)) f_MO_223 d_MO_quote_14 h80 rfl ?_
  refine ab_icmp_ge (tgt := 105) d_MO_quote_17 (by decide) (fun _ => ?_) (fun c => absurd c (by decide))
  refine ab_aload_n d_MO_quote_105 rfl ?_
  refine ab_iconst (v := 0) d_MO_quote_106 (by decide) ?_
  refine ab_putf (fs := List.set (List.set m_f 2 (vI 0)) 9 (vI 0)) f_MO_223 (Or.inl rfl) d_MO_quote_107 h80 (Nat.le_of_ble_eq_true rfl) (fun _ => ⟨rfl, rfl⟩) (by decide) ?_
  obtain ⟨G3, eG3⟩ : ∃ z : ab_G, z = List.set G2 80 (ab_ob 12 (List.set (List.set (List.set m_f 2 (vI 0)) 9 (vI 0)) 7 (vI 0))) := ⟨_, rfl⟩
  have h80 : G3[80]? = some (ab_ob 12 (List.set (List.set (List.set m_f 2 (vI 0)) 9 (vI 0)) 7 (vI 0))) := by rw [eG3]; exact List.getElem?_set_self (List.getElem?_eq_some_iff.mp h80).1
  change ab_W _ _ _ (List.set G2 80 (ab_ob 12 (List.set (List.set (List.set m_f 2 (vI 0)) 9 (vI 0)) 7 (vI 0)))) 110 [some (vR 80), some (vI 0), none] [] _
  rw [← eG3]
  refine ab_aload_n d_MO_quote_110 rfl ?_
  refine ab_getf (fs := List.set (List.set (List.set m_f 2 (vI 0)) 9 (vI 0)) 7 (vI 0)) f_MO_618 d_MO_quote_111 h80 rfl ?_
  exact ab_iret (rt := .int) rfl rfl d_MO_quote_114 (by rw [hQ]; exact ⟨rfl, _, by rw [eG3, eG2, eG1]; simp only [List.set_set]⟩)
set_option maxRecDepth 100000 in
set_option maxHeartbeats 4000000 in
theorem p_MO_subject {X : ab_X} {d : Nat} {G : ab_G}  (h80 : G[80]? = some (ab_ob 12 (m_f))) : ab_F X d y_MO_subject (.code y_MO_subject b_MO_subject 2 (some (.int))) [vR 80] G (fun o G2 => o = .returned (some (vI 0)) ∧ ∃ fs, G2 = G.set 80 (ab_ob 12 fs)) := by
  refine ab_F_of (by decide +kernel) (Nat.le_of_ble_eq_true rfl) ?_
  obtain ⟨Q, hQ⟩ : ∃ z : Outcome → ab_G → Prop, z = (fun o G2 => o = .returned (some (vI 0)) ∧ ∃ fs, G2 = G.set 80 (ab_ob 12 fs)) := ⟨_, rfl⟩
  rw [← hQ]
  change ab_W X (ab_pl y_MO_subject b_MO_subject 2 (some (.int))) d G 0 [some (vR 80), none] [] Q
  refine ab_aload_n d_MO_subject_0 rfl ?_
  refine ab_iconst (v := 0) d_MO_subject_1 (by decide) ?_
  refine ab_putf (fs := m_f) f_MO_220 (Or.inl rfl) d_MO_subject_2 h80 (Nat.le_of_ble_eq_true rfl) (fun _ => ⟨rfl, rfl⟩) (by decide) ?_
  obtain ⟨G1, eG1⟩ : ∃ z : ab_G, z = List.set G 80 (ab_ob 12 (List.set m_f 2 (vI 0))) := ⟨_, rfl⟩
  have h80 : G1[80]? = some (ab_ob 12 (List.set m_f 2 (vI 0))) := by rw [eG1]; exact List.getElem?_set_self (List.getElem?_eq_some_iff.mp h80).1
  change ab_W _ _ _ (List.set G 80 (ab_ob 12 (List.set m_f 2 (vI 0)))) 5 [some (vR 80), none] [] _
  rw [← eG1]
  refine ab_aload_n d_MO_subject_5 rfl ?_
  refine ab_aload_n d_MO_subject_6 rfl ?_
  refine ab_getf (fs := List.set m_f 2 (vI 0)) f_MO_223 d_MO_subject_7 h80 rfl ?_
  refine ab_putf (fs := List.set m_f 2 (vI 0)) f_MO_510 (Or.inl rfl) d_MO_subject_10 h80 (Nat.le_of_ble_eq_true rfl) (fun _ => ⟨rfl, rfl⟩) (by decide) ?_
  obtain ⟨G2, eG2⟩ : ∃ z : ab_G, z = List.set G1 80 (ab_ob 12 (List.set (List.set m_f 2 (vI 0)) 8 (vI 0))) := ⟨_, rfl⟩
  have h80 : G2[80]? = some (ab_ob 12 (List.set (List.set m_f 2 (vI 0)) 8 (vI 0))) := by rw [eG2]; exact List.getElem?_set_self (List.getElem?_eq_some_iff.mp h80).1
  change ab_W _ _ _ (List.set G1 80 (ab_ob 12 (List.set (List.set m_f 2 (vI 0)) 8 (vI 0)))) 13 [some (vR 80), none] [] _
  rw [← eG2]
  refine ab_iconst (v := 0) d_MO_subject_13 (by decide) ?_
  refine ab_istore_n d_MO_subject_14 (Nat.le_of_ble_eq_true rfl) (Nat.le_of_ble_eq_true rfl) rfl ?_
  change ab_W _ _ _ G2 15 [some (vR 80), some (vI 0)] [] _
  refine ab_iload_n d_MO_subject_15 rfl ?_
  refine ab_aload_n d_MO_subject_16 rfl ?_
  refine ab_getf (fs := List.set (List.set m_f 2 (vI 0)) 8 (vI 0)) f_MO_510 d_MO_subject_17 h80 rfl ?_
  refine ab_icmp_ge (tgt := 41) d_MO_subject_20 (by decide) (fun _ => ?_) (fun c => absurd c (by decide))
  refine ab_aload_n d_MO_subject_41 rfl ?_
  refine ab_iconst (v := 0) d_MO_subject_42 (by decide) ?_
  refine ab_putf (fs := List.set (List.set m_f 2 (vI 0)) 8 (vI 0)) f_MO_223 (Or.inl rfl) d_MO_subject_43 h80 (Nat.le_of_ble_eq_true rfl) (fun _ => ⟨rfl, rfl⟩) (by decide) ?_
  obtain ⟨G3, eG3⟩ : ∃ z : ab_G, z = List.set G2 80 (ab_ob 12 (List.set (List.set (List.set m_f 2 (vI 0)) 8 (vI 0)) 7 (vI 0))) := ⟨_, rfl⟩
  have h80 : G3[80]? = some (ab_ob 12 (List.set (List.set (List.set m_f 2 (vI 0)) 8 (vI 0)) 7 (vI 0))) := by rw [eG3]; exact List.getElem?_set_self (List.getElem?_eq_some_iff.mp h80).1
  change ab_W _ _ _ (List.set G2 80 (ab_ob 12 (List.set (List.set (List.set m_f 2 (vI 0)) 8 (vI 0)) 7 (vI 0)))) 46 [some (vR 80), some (vI 0)] [] _
  rw [← eG3]
  refine ab_aload_n d_MO_subject_46 rfl ?_
  refine ab_getf (fs := List.set (List.set (List.set m_f 2 (vI 0)) 8 (vI 0)) 7 (vI 0)) f_MO_510 d_MO_subject_47 h80 rfl ?_
  exact ab_iret (rt := .int) rfl rfl d_MO_subject_50 (by rw [hQ]; exact ⟨rfl, _, by rw [eG3, eG2, eG1]; simp only [List.set_set]⟩)
set_option maxRecDepth 100000 in
set_option maxHeartbeats 4000000 in
theorem p_MO_which {X : ab_X} {d : Nat} {G : ab_G} {s w : Int32} (h80 : G[80]? = some (ab_ob 12 (m_f))) (h112 : G[112]? = some (ab_zf 6 ((fun _ => 0)))) : ab_F X d y_MO_which (.code y_MO_which b_MO_which 7 (some (.int))) [vR 80, vI s, vI w] G (fun o G2 => o = .returned (some (vI 0)) ∧ G2 = G.set 80 (ab_ob 12 (List.set m_f 2 (vI 0)))) := by
  refine ab_F_of (by decide +kernel) (Nat.le_of_ble_eq_true rfl) ?_
  obtain ⟨Q, hQ⟩ : ∃ z : Outcome → ab_G → Prop, z = (fun o G2 => o = .returned (some (vI 0)) ∧ G2 = G.set 80 (ab_ob 12 (List.set m_f 2 (vI 0)))) := ⟨_, rfl⟩
  rw [← hQ]
  change ab_W X (ab_pl y_MO_which b_MO_which 7 (some (.int))) d G 0 [some (vR 80), some (vI s), some (vI w), none, none, none, none] [] Q
  refine ab_aload_n d_MO_which_0 rfl ?_
  refine ab_iconst (v := 0) d_MO_which_1 (by decide) ?_
  refine ab_putf (fs := m_f) f_MO_220 (Or.inl rfl) d_MO_which_2 h80 (Nat.le_of_ble_eq_true rfl) (fun _ => ⟨rfl, rfl⟩) (by decide) ?_
  obtain ⟨G1, eG1⟩ : ∃ z : ab_G, z = List.set G 80 (ab_ob 12 (List.set m_f 2 (vI 0))) := ⟨_, rfl⟩
  have h112 : G1[112]? = some (ab_zf 6 ((fun _ => 0))) := by rw [eG1, List.getElem?_set_ne ((by decide))]; exact h112
  have h80 : G1[80]? = some (ab_ob 12 (List.set m_f 2 (vI 0))) := by rw [eG1]; exact List.getElem?_set_self (List.getElem?_eq_some_iff.mp h80).1
  change ab_W _ _ _ (List.set G 80 (ab_ob 12 (List.set m_f 2 (vI 0)))) 5 [some (vR 80), some (vI s), some (vI w), none, none, none, none] [] _
  rw [← eG1]
  refine ab_iconst (v := 0) d_MO_which_5 (by decide) ?_
  refine ab_istore_n d_MO_which_6 (Nat.le_of_ble_eq_true rfl) (Nat.le_of_ble_eq_true rfl) rfl ?_
  change ab_W _ _ _ G1 7 [some (vR 80), some (vI s), some (vI w), some (vI 0), none, none, none] [] _
  refine ab_iconst (v := 0) d_MO_which_7 (by decide) ?_
  refine ab_istore d_MO_which_8 (Nat.le_of_ble_eq_true rfl) (Nat.le_of_ble_eq_true rfl) rfl ?_
  change ab_W _ _ _ G1 10 [some (vR 80), some (vI s), some (vI w), some (vI 0), some (vI 0), none, none] [] _
  refine ab_iload d_MO_which_10 rfl ?_
  refine ab_bipush (v := 6) d_MO_which_12 (by decide) ?_
  refine ab_icmp_ge (tgt := 139) d_MO_which_14 (by decide) (fun c => absurd c (by decide)) (fun _ => ?_)
  refine ab_iload_n d_MO_which_17 rfl ?_
  refine ab_iload d_MO_which_18 rfl ?_
  refine ab_ishr d_MO_which_20 ?_
  refine ab_iconst (v := 1) d_MO_which_21 (by decide) ?_
  refine ab_iand d_MO_which_22 ?_
  refine ab_if_eq (tgt := 133) d_MO_which_23 (by decide) (fun c0 => ?_) (fun c0 => ?_)
  · refine ab_iinc (v := 1) d_MO_which_133 rfl (by decide) (Nat.le_of_ble_eq_true rfl) (Nat.le_of_ble_eq_true rfl) rfl ?_
    change ab_W _ _ _ G1 136 [some (vR 80), some (vI s), some (vI w), some (vI 0), some (vI 1), none, none] [] _
    refine ab_goto (tgt := 10) d_MO_which_136 (by decide) ?_
    refine ab_iload d_MO_which_10 rfl ?_
    refine ab_bipush (v := 6) d_MO_which_12 (by decide) ?_
    refine ab_icmp_ge (tgt := 139) d_MO_which_14 (by decide) (fun c => absurd c (by decide)) (fun _ => ?_)
    refine ab_iload_n d_MO_which_17 rfl ?_
    refine ab_iload d_MO_which_18 rfl ?_
    refine ab_ishr d_MO_which_20 ?_
    refine ab_iconst (v := 1) d_MO_which_21 (by decide) ?_
    refine ab_iand d_MO_which_22 ?_
    refine ab_if_eq (tgt := 133) d_MO_which_23 (by decide) (fun c1 => ?_) (fun c1 => ?_)
    · refine ab_iinc (v := 2) d_MO_which_133 rfl (by decide) (Nat.le_of_ble_eq_true rfl) (Nat.le_of_ble_eq_true rfl) rfl ?_
      change ab_W _ _ _ G1 136 [some (vR 80), some (vI s), some (vI w), some (vI 0), some (vI 2), none, none] [] _
      refine ab_goto (tgt := 10) d_MO_which_136 (by decide) ?_
      refine ab_iload d_MO_which_10 rfl ?_
      refine ab_bipush (v := 6) d_MO_which_12 (by decide) ?_
      refine ab_icmp_ge (tgt := 139) d_MO_which_14 (by decide) (fun c => absurd c (by decide)) (fun _ => ?_)
      refine ab_iload_n d_MO_which_17 rfl ?_
      refine ab_iload d_MO_which_18 rfl ?_
      refine ab_ishr d_MO_which_20 ?_
      refine ab_iconst (v := 1) d_MO_which_21 (by decide) ?_
      refine ab_iand d_MO_which_22 ?_
      refine ab_if_eq (tgt := 133) d_MO_which_23 (by decide) (fun c2 => ?_) (fun c2 => ?_)
      · refine ab_iinc (v := 3) d_MO_which_133 rfl (by decide) (Nat.le_of_ble_eq_true rfl) (Nat.le_of_ble_eq_true rfl) rfl ?_
        change ab_W _ _ _ G1 136 [some (vR 80), some (vI s), some (vI w), some (vI 0), some (vI 3), none, none] [] _
        refine ab_goto (tgt := 10) d_MO_which_136 (by decide) ?_
        refine ab_iload d_MO_which_10 rfl ?_
        refine ab_bipush (v := 6) d_MO_which_12 (by decide) ?_
        refine ab_icmp_ge (tgt := 139) d_MO_which_14 (by decide) (fun c => absurd c (by decide)) (fun _ => ?_)
        refine ab_iload_n d_MO_which_17 rfl ?_
        refine ab_iload d_MO_which_18 rfl ?_
        refine ab_ishr d_MO_which_20 ?_
        refine ab_iconst (v := 1) d_MO_which_21 (by decide) ?_
        refine ab_iand d_MO_which_22 ?_
        refine ab_if_eq (tgt := 133) d_MO_which_23 (by decide) (fun c3 => ?_) (fun c3 => ?_)
        · refine ab_iinc (v := 4) d_MO_which_133 rfl (by decide) (Nat.le_of_ble_eq_true rfl) (Nat.le_of_ble_eq_true rfl) rfl ?_
          change ab_W _ _ _ G1 136 [some (vR 80), some (vI s), some (vI w), some (vI 0), some (vI 4), none, none] [] _
          refine ab_goto (tgt := 10) d_MO_which_136 (by decide) ?_
          refine ab_iload d_MO_which_10 rfl ?_
          refine ab_bipush (v := 6) d_MO_which_12 (by decide) ?_
          refine ab_icmp_ge (tgt := 139) d_MO_which_14 (by decide) (fun c => absurd c (by decide)) (fun _ => ?_)
          refine ab_iload_n d_MO_which_17 rfl ?_
          refine ab_iload d_MO_which_18 rfl ?_
          refine ab_ishr d_MO_which_20 ?_
          refine ab_iconst (v := 1) d_MO_which_21 (by decide) ?_
          refine ab_iand d_MO_which_22 ?_
          refine ab_if_eq (tgt := 133) d_MO_which_23 (by decide) (fun c4 => ?_) (fun c4 => ?_)
          · refine ab_iinc (v := 5) d_MO_which_133 rfl (by decide) (Nat.le_of_ble_eq_true rfl) (Nat.le_of_ble_eq_true rfl) rfl ?_
            change ab_W _ _ _ G1 136 [some (vR 80), some (vI s), some (vI w), some (vI 0), some (vI 5), none, none] [] _
            refine ab_goto (tgt := 10) d_MO_which_136 (by decide) ?_
            refine ab_iload d_MO_which_10 rfl ?_
            refine ab_bipush (v := 6) d_MO_which_12 (by decide) ?_
            refine ab_icmp_ge (tgt := 139) d_MO_which_14 (by decide) (fun c => absurd c (by decide)) (fun _ => ?_)
            refine ab_iload_n d_MO_which_17 rfl ?_
            refine ab_iload d_MO_which_18 rfl ?_
            refine ab_ishr d_MO_which_20 ?_
            refine ab_iconst (v := 1) d_MO_which_21 (by decide) ?_
            refine ab_iand d_MO_which_22 ?_
            refine ab_if_eq (tgt := 133) d_MO_which_23 (by decide) (fun c5 => ?_) (fun c5 => ?_)
            · refine ab_iinc (v := 6) d_MO_which_133 rfl (by decide) (Nat.le_of_ble_eq_true rfl) (Nat.le_of_ble_eq_true rfl) rfl ?_
              change ab_W _ _ _ G1 136 [some (vR 80), some (vI s), some (vI w), some (vI 0), some (vI 6), none, none] [] _
              refine ab_goto (tgt := 10) d_MO_which_136 (by decide) ?_
              refine ab_iload d_MO_which_10 rfl ?_
              refine ab_bipush (v := 6) d_MO_which_12 (by decide) ?_
              refine ab_icmp_ge (tgt := 139) d_MO_which_14 (by decide) (fun _ => ?_) (fun c => absurd c (by decide))
              refine ab_iload_n d_MO_which_139 rfl ?_
              exact ab_iret (rt := .int) rfl rfl d_MO_which_140 (by rw [hQ]; exact ⟨rfl, eG1⟩)
            · refine ab_aload_n d_MO_which_26 rfl ?_
              refine ab_getf (fs := List.set m_f 2 (vI 0)) f_MO_109 d_MO_which_27 h80 rfl ?_
              refine ab_iload d_MO_which_30 rfl ?_
              refine ab_zald d_MO_which_32 h112 (by unfold vp_in; decide) ?_
              refine ab_topi (y := 0) rfl ?_
              refine ab_if_ne (tgt := 39) d_MO_which_33 (by decide) (fun c => absurd c (by decide)) (fun _ => ?_)
              refine ab_goto (tgt := 133) d_MO_which_36 (by decide) ?_
              refine ab_iinc (v := 6) d_MO_which_133 rfl (by decide) (Nat.le_of_ble_eq_true rfl) (Nat.le_of_ble_eq_true rfl) rfl ?_
              change ab_W _ _ _ G1 136 [some (vR 80), some (vI s), some (vI w), some (vI 0), some (vI 6), none, none] [] _
              refine ab_goto (tgt := 10) d_MO_which_136 (by decide) ?_
              refine ab_iload d_MO_which_10 rfl ?_
              refine ab_bipush (v := 6) d_MO_which_12 (by decide) ?_
              refine ab_icmp_ge (tgt := 139) d_MO_which_14 (by decide) (fun _ => ?_) (fun c => absurd c (by decide))
              refine ab_iload_n d_MO_which_139 rfl ?_
              exact ab_iret (rt := .int) rfl rfl d_MO_which_140 (by rw [hQ]; exact ⟨rfl, eG1⟩)
          · refine ab_aload_n d_MO_which_26 rfl ?_
            refine ab_getf (fs := List.set m_f 2 (vI 0)) f_MO_109 d_MO_which_27 h80 rfl ?_
            refine ab_iload d_MO_which_30 rfl ?_
            refine ab_zald d_MO_which_32 h112 (by unfold vp_in; decide) ?_
            refine ab_topi (y := 0) rfl ?_
            refine ab_if_ne (tgt := 39) d_MO_which_33 (by decide) (fun c => absurd c (by decide)) (fun _ => ?_)
            refine ab_goto (tgt := 133) d_MO_which_36 (by decide) ?_
            refine ab_iinc (v := 5) d_MO_which_133 rfl (by decide) (Nat.le_of_ble_eq_true rfl) (Nat.le_of_ble_eq_true rfl) rfl ?_
            change ab_W _ _ _ G1 136 [some (vR 80), some (vI s), some (vI w), some (vI 0), some (vI 5), none, none] [] _
            refine ab_goto (tgt := 10) d_MO_which_136 (by decide) ?_
            refine ab_iload d_MO_which_10 rfl ?_
            refine ab_bipush (v := 6) d_MO_which_12 (by decide) ?_
            refine ab_icmp_ge (tgt := 139) d_MO_which_14 (by decide) (fun c => absurd c (by decide)) (fun _ => ?_)
            refine ab_iload_n d_MO_which_17 rfl ?_
            refine ab_iload d_MO_which_18 rfl ?_
            refine ab_ishr d_MO_which_20 ?_
            refine ab_iconst (v := 1) d_MO_which_21 (by decide) ?_
            refine ab_iand d_MO_which_22 ?_
            refine ab_if_eq (tgt := 133) d_MO_which_23 (by decide) (fun c5 => ?_) (fun c5 => ?_)
            · refine ab_iinc (v := 6) d_MO_which_133 rfl (by decide) (Nat.le_of_ble_eq_true rfl) (Nat.le_of_ble_eq_true rfl) rfl ?_
              change ab_W _ _ _ G1 136 [some (vR 80), some (vI s), some (vI w), some (vI 0), some (vI 6), none, none] [] _
              refine ab_goto (tgt := 10) d_MO_which_136 (by decide) ?_
              refine ab_iload d_MO_which_10 rfl ?_
              refine ab_bipush (v := 6) d_MO_which_12 (by decide) ?_
              refine ab_icmp_ge (tgt := 139) d_MO_which_14 (by decide) (fun _ => ?_) (fun c => absurd c (by decide))
              refine ab_iload_n d_MO_which_139 rfl ?_
              exact ab_iret (rt := .int) rfl rfl d_MO_which_140 (by rw [hQ]; exact ⟨rfl, eG1⟩)
            · refine ab_aload_n d_MO_which_26 rfl ?_
              refine ab_getf (fs := List.set m_f 2 (vI 0)) f_MO_109 d_MO_which_27 h80 rfl ?_
              refine ab_iload d_MO_which_30 rfl ?_
              refine ab_zald d_MO_which_32 h112 (by unfold vp_in; decide) ?_
              refine ab_topi (y := 0) rfl ?_
              refine ab_if_ne (tgt := 39) d_MO_which_33 (by decide) (fun c => absurd c (by decide)) (fun _ => ?_)
              refine ab_goto (tgt := 133) d_MO_which_36 (by decide) ?_
              refine ab_iinc (v := 6) d_MO_which_133 rfl (by decide) (Nat.le_of_ble_eq_true rfl) (Nat.le_of_ble_eq_true rfl) rfl ?_
              change ab_W _ _ _ G1 136 [some (vR 80), some (vI s), some (vI w), some (vI 0), some (vI 6), none, none] [] _
              refine ab_goto (tgt := 10) d_MO_which_136 (by decide) ?_
              refine ab_iload d_MO_which_10 rfl ?_
              refine ab_bipush (v := 6) d_MO_which_12 (by decide) ?_
              refine ab_icmp_ge (tgt := 139) d_MO_which_14 (by decide) (fun _ => ?_) (fun c => absurd c (by decide))
              refine ab_iload_n d_MO_which_139 rfl ?_
              exact ab_iret (rt := .int) rfl rfl d_MO_which_140 (by rw [hQ]; exact ⟨rfl, eG1⟩)
        · refine ab_aload_n d_MO_which_26 rfl ?_
          refine ab_getf (fs := List.set m_f 2 (vI 0)) f_MO_109 d_MO_which_27 h80 rfl ?_
          refine ab_iload d_MO_which_30 rfl ?_
          refine ab_zald d_MO_which_32 h112 (by unfold vp_in; decide) ?_
          refine ab_topi (y := 0) rfl ?_
          refine ab_if_ne (tgt := 39) d_MO_which_33 (by decide) (fun c => absurd c (by decide)) (fun _ => ?_)
          refine ab_goto (tgt := 133) d_MO_which_36 (by decide) ?_
          refine ab_iinc (v := 4) d_MO_which_133 rfl (by decide) (Nat.le_of_ble_eq_true rfl) (Nat.le_of_ble_eq_true rfl) rfl ?_
          change ab_W _ _ _ G1 136 [some (vR 80), some (vI s), some (vI w), some (vI 0), some (vI 4), none, none] [] _
          refine ab_goto (tgt := 10) d_MO_which_136 (by decide) ?_
          refine ab_iload d_MO_which_10 rfl ?_
          refine ab_bipush (v := 6) d_MO_which_12 (by decide) ?_
          refine ab_icmp_ge (tgt := 139) d_MO_which_14 (by decide) (fun c => absurd c (by decide)) (fun _ => ?_)
          refine ab_iload_n d_MO_which_17 rfl ?_
          refine ab_iload d_MO_which_18 rfl ?_
          refine ab_ishr d_MO_which_20 ?_
          refine ab_iconst (v := 1) d_MO_which_21 (by decide) ?_
          refine ab_iand d_MO_which_22 ?_
          refine ab_if_eq (tgt := 133) d_MO_which_23 (by decide) (fun c4 => ?_) (fun c4 => ?_)
          · refine ab_iinc (v := 5) d_MO_which_133 rfl (by decide) (Nat.le_of_ble_eq_true rfl) (Nat.le_of_ble_eq_true rfl) rfl ?_
            change ab_W _ _ _ G1 136 [some (vR 80), some (vI s), some (vI w), some (vI 0), some (vI 5), none, none] [] _
            refine ab_goto (tgt := 10) d_MO_which_136 (by decide) ?_
            refine ab_iload d_MO_which_10 rfl ?_
            refine ab_bipush (v := 6) d_MO_which_12 (by decide) ?_
            refine ab_icmp_ge (tgt := 139) d_MO_which_14 (by decide) (fun c => absurd c (by decide)) (fun _ => ?_)
            refine ab_iload_n d_MO_which_17 rfl ?_
            refine ab_iload d_MO_which_18 rfl ?_
            refine ab_ishr d_MO_which_20 ?_
            refine ab_iconst (v := 1) d_MO_which_21 (by decide) ?_
            refine ab_iand d_MO_which_22 ?_
            refine ab_if_eq (tgt := 133) d_MO_which_23 (by decide) (fun c5 => ?_) (fun c5 => ?_)
            · refine ab_iinc (v := 6) d_MO_which_133 rfl (by decide) (Nat.le_of_ble_eq_true rfl) (Nat.le_of_ble_eq_true rfl) rfl ?_
              change ab_W _ _ _ G1 136 [some (vR 80), some (vI s), some (vI w), some (vI 0), some (vI 6), none, none] [] _
              refine ab_goto (tgt := 10) d_MO_which_136 (by decide) ?_
              refine ab_iload d_MO_which_10 rfl ?_
              refine ab_bipush (v := 6) d_MO_which_12 (by decide) ?_
              refine ab_icmp_ge (tgt := 139) d_MO_which_14 (by decide) (fun _ => ?_) (fun c => absurd c (by decide))
              refine ab_iload_n d_MO_which_139 rfl ?_
              exact ab_iret (rt := .int) rfl rfl d_MO_which_140 (by rw [hQ]; exact ⟨rfl, eG1⟩)
            · refine ab_aload_n d_MO_which_26 rfl ?_
              refine ab_getf (fs := List.set m_f 2 (vI 0)) f_MO_109 d_MO_which_27 h80 rfl ?_
              refine ab_iload d_MO_which_30 rfl ?_
              refine ab_zald d_MO_which_32 h112 (by unfold vp_in; decide) ?_
              refine ab_topi (y := 0) rfl ?_
              refine ab_if_ne (tgt := 39) d_MO_which_33 (by decide) (fun c => absurd c (by decide)) (fun _ => ?_)
              refine ab_goto (tgt := 133) d_MO_which_36 (by decide) ?_
              refine ab_iinc (v := 6) d_MO_which_133 rfl (by decide) (Nat.le_of_ble_eq_true rfl) (Nat.le_of_ble_eq_true rfl) rfl ?_
              change ab_W _ _ _ G1 136 [some (vR 80), some (vI s), some (vI w), some (vI 0), some (vI 6), none, none] [] _
              refine ab_goto (tgt := 10) d_MO_which_136 (by decide) ?_
              refine ab_iload d_MO_which_10 rfl ?_
              refine ab_bipush (v := 6) d_MO_which_12 (by decide) ?_
              refine ab_icmp_ge (tgt := 139) d_MO_which_14 (by decide) (fun _ => ?_) (fun c => absurd c (by decide))
              refine ab_iload_n d_MO_which_139 rfl ?_
              exact ab_iret (rt := .int) rfl rfl d_MO_which_140 (by rw [hQ]; exact ⟨rfl, eG1⟩)
          · refine ab_aload_n d_MO_which_26 rfl ?_
            refine ab_getf (fs := List.set m_f 2 (vI 0)) f_MO_109 d_MO_which_27 h80 rfl ?_
            refine ab_iload d_MO_which_30 rfl ?_
            refine ab_zald d_MO_which_32 h112 (by unfold vp_in; decide) ?_
            refine ab_topi (y := 0) rfl ?_
            refine ab_if_ne (tgt := 39) d_MO_which_33 (by decide) (fun c => absurd c (by decide)) (fun _ => ?_)
            refine ab_goto (tgt := 133) d_MO_which_36 (by decide) ?_
            refine ab_iinc (v := 5) d_MO_which_133 rfl (by decide) (Nat.le_of_ble_eq_true rfl) (Nat.le_of_ble_eq_true rfl) rfl ?_
            change ab_W _ _ _ G1 136 [some (vR 80), some (vI s), some (vI w), some (vI 0), some (vI 5), none, none] [] _
            refine ab_goto (tgt := 10) d_MO_which_136 (by decide) ?_
            refine ab_iload d_MO_which_10 rfl ?_
            refine ab_bipush (v := 6) d_MO_which_12 (by decide) ?_
            refine ab_icmp_ge (tgt := 139) d_MO_which_14 (by decide) (fun c => absurd c (by decide)) (fun _ => ?_)
            refine ab_iload_n d_MO_which_17 rfl ?_
            refine ab_iload d_MO_which_18 rfl ?_
            refine ab_ishr d_MO_which_20 ?_
            refine ab_iconst (v := 1) d_MO_which_21 (by decide) ?_
            refine ab_iand d_MO_which_22 ?_
            refine ab_if_eq (tgt := 133) d_MO_which_23 (by decide) (fun c5 => ?_) (fun c5 => ?_)
            · refine ab_iinc (v := 6) d_MO_which_133 rfl (by decide) (Nat.le_of_ble_eq_true rfl) (Nat.le_of_ble_eq_true rfl) rfl ?_
              change ab_W _ _ _ G1 136 [some (vR 80), some (vI s), some (vI w), some (vI 0), some (vI 6), none, none] [] _
              refine ab_goto (tgt := 10) d_MO_which_136 (by decide) ?_
              refine ab_iload d_MO_which_10 rfl ?_
              refine ab_bipush (v := 6) d_MO_which_12 (by decide) ?_
              refine ab_icmp_ge (tgt := 139) d_MO_which_14 (by decide) (fun _ => ?_) (fun c => absurd c (by decide))
              refine ab_iload_n d_MO_which_139 rfl ?_
              exact ab_iret (rt := .int) rfl rfl d_MO_which_140 (by rw [hQ]; exact ⟨rfl, eG1⟩)
            · refine ab_aload_n d_MO_which_26 rfl ?_
              refine ab_getf (fs := List.set m_f 2 (vI 0)) f_MO_109 d_MO_which_27 h80 rfl ?_
              refine ab_iload d_MO_which_30 rfl ?_
              refine ab_zald d_MO_which_32 h112 (by unfold vp_in; decide) ?_
              refine ab_topi (y := 0) rfl ?_
              refine ab_if_ne (tgt := 39) d_MO_which_33 (by decide) (fun c => absurd c (by decide)) (fun _ => ?_)
              refine ab_goto (tgt := 133) d_MO_which_36 (by decide) ?_
              refine ab_iinc (v := 6) d_MO_which_133 rfl (by decide) (Nat.le_of_ble_eq_true rfl) (Nat.le_of_ble_eq_true rfl) rfl ?_
              change ab_W _ _ _ G1 136 [some (vR 80), some (vI s), some (vI w), some (vI 0), some (vI 6), none, none] [] _
              refine ab_goto (tgt := 10) d_MO_which_136 (by decide) ?_
              refine ab_iload d_MO_which_10 rfl ?_
              refine ab_bipush (v := 6) d_MO_which_12 (by decide) ?_
              refine ab_icmp_ge (tgt := 139) d_MO_which_14 (by decide) (fun _ => ?_) (fun c => absurd c (by decide))
              refine ab_iload_n d_MO_which_139 rfl ?_
              exact ab_iret (rt := .int) rfl rfl d_MO_which_140 (by rw [hQ]; exact ⟨rfl, eG1⟩)
      · refine ab_aload_n d_MO_which_26 rfl ?_
        refine ab_getf (fs := List.set m_f 2 (vI 0)) f_MO_109 d_MO_which_27 h80 rfl ?_
        refine ab_iload d_MO_which_30 rfl ?_
        refine ab_zald d_MO_which_32 h112 (by unfold vp_in; decide) ?_
        refine ab_topi (y := 0) rfl ?_
        refine ab_if_ne (tgt := 39) d_MO_which_33 (by decide) (fun c => absurd c (by decide)) (fun _ => ?_)
        refine ab_goto (tgt := 133) d_MO_which_36 (by decide) ?_
        refine ab_iinc (v := 3) d_MO_which_133 rfl (by decide) (Nat.le_of_ble_eq_true rfl) (Nat.le_of_ble_eq_true rfl) rfl ?_
        change ab_W _ _ _ G1 136 [some (vR 80), some (vI s), some (vI w), some (vI 0), some (vI 3), none, none] [] _
        refine ab_goto (tgt := 10) d_MO_which_136 (by decide) ?_
        refine ab_iload d_MO_which_10 rfl ?_
        refine ab_bipush (v := 6) d_MO_which_12 (by decide) ?_
        refine ab_icmp_ge (tgt := 139) d_MO_which_14 (by decide) (fun c => absurd c (by decide)) (fun _ => ?_)
        refine ab_iload_n d_MO_which_17 rfl ?_
        refine ab_iload d_MO_which_18 rfl ?_
        refine ab_ishr d_MO_which_20 ?_
        refine ab_iconst (v := 1) d_MO_which_21 (by decide) ?_
        refine ab_iand d_MO_which_22 ?_
        refine ab_if_eq (tgt := 133) d_MO_which_23 (by decide) (fun c3 => ?_) (fun c3 => ?_)
        · refine ab_iinc (v := 4) d_MO_which_133 rfl (by decide) (Nat.le_of_ble_eq_true rfl) (Nat.le_of_ble_eq_true rfl) rfl ?_
          change ab_W _ _ _ G1 136 [some (vR 80), some (vI s), some (vI w), some (vI 0), some (vI 4), none, none] [] _
          refine ab_goto (tgt := 10) d_MO_which_136 (by decide) ?_
          refine ab_iload d_MO_which_10 rfl ?_
          refine ab_bipush (v := 6) d_MO_which_12 (by decide) ?_
          refine ab_icmp_ge (tgt := 139) d_MO_which_14 (by decide) (fun c => absurd c (by decide)) (fun _ => ?_)
          refine ab_iload_n d_MO_which_17 rfl ?_
          refine ab_iload d_MO_which_18 rfl ?_
          refine ab_ishr d_MO_which_20 ?_
          refine ab_iconst (v := 1) d_MO_which_21 (by decide) ?_
          refine ab_iand d_MO_which_22 ?_
          refine ab_if_eq (tgt := 133) d_MO_which_23 (by decide) (fun c4 => ?_) (fun c4 => ?_)
          · refine ab_iinc (v := 5) d_MO_which_133 rfl (by decide) (Nat.le_of_ble_eq_true rfl) (Nat.le_of_ble_eq_true rfl) rfl ?_
            change ab_W _ _ _ G1 136 [some (vR 80), some (vI s), some (vI w), some (vI 0), some (vI 5), none, none] [] _
            refine ab_goto (tgt := 10) d_MO_which_136 (by decide) ?_
            refine ab_iload d_MO_which_10 rfl ?_
            refine ab_bipush (v := 6) d_MO_which_12 (by decide) ?_
            refine ab_icmp_ge (tgt := 139) d_MO_which_14 (by decide) (fun c => absurd c (by decide)) (fun _ => ?_)
            refine ab_iload_n d_MO_which_17 rfl ?_
            refine ab_iload d_MO_which_18 rfl ?_
            refine ab_ishr d_MO_which_20 ?_
            refine ab_iconst (v := 1) d_MO_which_21 (by decide) ?_
            refine ab_iand d_MO_which_22 ?_
            refine ab_if_eq (tgt := 133) d_MO_which_23 (by decide) (fun c5 => ?_) (fun c5 => ?_)
            · refine ab_iinc (v := 6) d_MO_which_133 rfl (by decide) (Nat.le_of_ble_eq_true rfl) (Nat.le_of_ble_eq_true rfl) rfl ?_
              change ab_W _ _ _ G1 136 [some (vR 80), some (vI s), some (vI w), some (vI 0), some (vI 6), none, none] [] _
              refine ab_goto (tgt := 10) d_MO_which_136 (by decide) ?_
              refine ab_iload d_MO_which_10 rfl ?_
              refine ab_bipush (v := 6) d_MO_which_12 (by decide) ?_
              refine ab_icmp_ge (tgt := 139) d_MO_which_14 (by decide) (fun _ => ?_) (fun c => absurd c (by decide))
              refine ab_iload_n d_MO_which_139 rfl ?_
              exact ab_iret (rt := .int) rfl rfl d_MO_which_140 (by rw [hQ]; exact ⟨rfl, eG1⟩)
            · refine ab_aload_n d_MO_which_26 rfl ?_
              refine ab_getf (fs := List.set m_f 2 (vI 0)) f_MO_109 d_MO_which_27 h80 rfl ?_
              refine ab_iload d_MO_which_30 rfl ?_
              refine ab_zald d_MO_which_32 h112 (by unfold vp_in; decide) ?_
              refine ab_topi (y := 0) rfl ?_
              refine ab_if_ne (tgt := 39) d_MO_which_33 (by decide) (fun c => absurd c (by decide)) (fun _ => ?_)
              refine ab_goto (tgt := 133) d_MO_which_36 (by decide) ?_
              refine ab_iinc (v := 6) d_MO_which_133 rfl (by decide) (Nat.le_of_ble_eq_true rfl) (Nat.le_of_ble_eq_true rfl) rfl ?_
              change ab_W _ _ _ G1 136 [some (vR 80), some (vI s), some (vI w), some (vI 0), some (vI 6), none, none] [] _
              refine ab_goto (tgt := 10) d_MO_which_136 (by decide) ?_
              refine ab_iload d_MO_which_10 rfl ?_
              refine ab_bipush (v := 6) d_MO_which_12 (by decide) ?_
              refine ab_icmp_ge (tgt := 139) d_MO_which_14 (by decide) (fun _ => ?_) (fun c => absurd c (by decide))
              refine ab_iload_n d_MO_which_139 rfl ?_
              exact ab_iret (rt := .int) rfl rfl d_MO_which_140 (by rw [hQ]; exact ⟨rfl, eG1⟩)
          · refine ab_aload_n d_MO_which_26 rfl ?_
            refine ab_getf (fs := List.set m_f 2 (vI 0)) f_MO_109 d_MO_which_27 h80 rfl ?_
            refine ab_iload d_MO_which_30 rfl ?_
            refine ab_zald d_MO_which_32 h112 (by unfold vp_in; decide) ?_
            refine ab_topi (y := 0) rfl ?_
            refine ab_if_ne (tgt := 39) d_MO_which_33 (by decide) (fun c => absurd c (by decide)) (fun _ => ?_)
            refine ab_goto (tgt := 133) d_MO_which_36 (by decide) ?_
            refine ab_iinc (v := 5) d_MO_which_133 rfl (by decide) (Nat.le_of_ble_eq_true rfl) (Nat.le_of_ble_eq_true rfl) rfl ?_
            change ab_W _ _ _ G1 136 [some (vR 80), some (vI s), some (vI w), some (vI 0), some (vI 5), none, none] [] _
            refine ab_goto (tgt := 10) d_MO_which_136 (by decide) ?_
            refine ab_iload d_MO_which_10 rfl ?_
            refine ab_bipush (v := 6) d_MO_which_12 (by decide) ?_
            refine ab_icmp_ge (tgt := 139) d_MO_which_14 (by decide) (fun c => absurd c (by decide)) (fun _ => ?_)
            refine ab_iload_n d_MO_which_17 rfl ?_
            refine ab_iload d_MO_which_18 rfl ?_
            refine ab_ishr d_MO_which_20 ?_
            refine ab_iconst (v := 1) d_MO_which_21 (by decide) ?_
            refine ab_iand d_MO_which_22 ?_
            refine ab_if_eq (tgt := 133) d_MO_which_23 (by decide) (fun c5 => ?_) (fun c5 => ?_)
            · refine ab_iinc (v := 6) d_MO_which_133 rfl (by decide) (Nat.le_of_ble_eq_true rfl) (Nat.le_of_ble_eq_true rfl) rfl ?_
              change ab_W _ _ _ G1 136 [some (vR 80), some (vI s), some (vI w), some (vI 0), some (vI 6), none, none] [] _
              refine ab_goto (tgt := 10) d_MO_which_136 (by decide) ?_
              refine ab_iload d_MO_which_10 rfl ?_
              refine ab_bipush (v := 6) d_MO_which_12 (by decide) ?_
              refine ab_icmp_ge (tgt := 139) d_MO_which_14 (by decide) (fun _ => ?_) (fun c => absurd c (by decide))
              refine ab_iload_n d_MO_which_139 rfl ?_
              exact ab_iret (rt := .int) rfl rfl d_MO_which_140 (by rw [hQ]; exact ⟨rfl, eG1⟩)
            · refine ab_aload_n d_MO_which_26 rfl ?_
              refine ab_getf (fs := List.set m_f 2 (vI 0)) f_MO_109 d_MO_which_27 h80 rfl ?_
              refine ab_iload d_MO_which_30 rfl ?_
              refine ab_zald d_MO_which_32 h112 (by unfold vp_in; decide) ?_
              refine ab_topi (y := 0) rfl ?_
              refine ab_if_ne (tgt := 39) d_MO_which_33 (by decide) (fun c => absurd c (by decide)) (fun _ => ?_)
              refine ab_goto (tgt := 133) d_MO_which_36 (by decide) ?_
              refine ab_iinc (v := 6) d_MO_which_133 rfl (by decide) (Nat.le_of_ble_eq_true rfl) (Nat.le_of_ble_eq_true rfl) rfl ?_
              change ab_W _ _ _ G1 136 [some (vR 80), some (vI s), some (vI w), some (vI 0), some (vI 6), none, none] [] _
              refine ab_goto (tgt := 10) d_MO_which_136 (by decide) ?_
              refine ab_iload d_MO_which_10 rfl ?_
              refine ab_bipush (v := 6) d_MO_which_12 (by decide) ?_
              refine ab_icmp_ge (tgt := 139) d_MO_which_14 (by decide) (fun _ => ?_) (fun c => absurd c (by decide))
              refine ab_iload_n d_MO_which_139 rfl ?_
              exact ab_iret (rt := .int) rfl rfl d_MO_which_140 (by rw [hQ]; exact ⟨rfl, eG1⟩)
        · refine ab_aload_n d_MO_which_26 rfl ?_
          refine ab_getf (fs := List.set m_f 2 (vI 0)) f_MO_109 d_MO_which_27 h80 rfl ?_
          refine ab_iload d_MO_which_30 rfl ?_
          refine ab_zald d_MO_which_32 h112 (by unfold vp_in; decide) ?_
          refine ab_topi (y := 0) rfl ?_
          refine ab_if_ne (tgt := 39) d_MO_which_33 (by decide) (fun c => absurd c (by decide)) (fun _ => ?_)
          refine ab_goto (tgt := 133) d_MO_which_36 (by decide) ?_
          refine ab_iinc (v := 4) d_MO_which_133 rfl (by decide) (Nat.le_of_ble_eq_true rfl) (Nat.le_of_ble_eq_true rfl) rfl ?_
          change ab_W _ _ _ G1 136 [some (vR 80), some (vI s), some (vI w), some (vI 0), some (vI 4), none, none] [] _
          refine ab_goto (tgt := 10) d_MO_which_136 (by decide) ?_
          refine ab_iload d_MO_which_10 rfl ?_
          refine ab_bipush (v := 6) d_MO_which_12 (by decide) ?_
          refine ab_icmp_ge (tgt := 139) d_MO_which_14 (by decide) (fun c => absurd c (by decide)) (fun _ => ?_)
          refine ab_iload_n d_MO_which_17 rfl ?_
          refine ab_iload d_MO_which_18 rfl ?_
          refine ab_ishr d_MO_which_20 ?_
          refine ab_iconst (v := 1) d_MO_which_21 (by decide) ?_
          refine ab_iand d_MO_which_22 ?_
          refine ab_if_eq (tgt := 133) d_MO_which_23 (by decide) (fun c4 => ?_) (fun c4 => ?_)
          · refine ab_iinc (v := 5) d_MO_which_133 rfl (by decide) (Nat.le_of_ble_eq_true rfl) (Nat.le_of_ble_eq_true rfl) rfl ?_
            change ab_W _ _ _ G1 136 [some (vR 80), some (vI s), some (vI w), some (vI 0), some (vI 5), none, none] [] _
            refine ab_goto (tgt := 10) d_MO_which_136 (by decide) ?_
            refine ab_iload d_MO_which_10 rfl ?_
            refine ab_bipush (v := 6) d_MO_which_12 (by decide) ?_
            refine ab_icmp_ge (tgt := 139) d_MO_which_14 (by decide) (fun c => absurd c (by decide)) (fun _ => ?_)
            refine ab_iload_n d_MO_which_17 rfl ?_
            refine ab_iload d_MO_which_18 rfl ?_
            refine ab_ishr d_MO_which_20 ?_
            refine ab_iconst (v := 1) d_MO_which_21 (by decide) ?_
            refine ab_iand d_MO_which_22 ?_
            refine ab_if_eq (tgt := 133) d_MO_which_23 (by decide) (fun c5 => ?_) (fun c5 => ?_)
            · refine ab_iinc (v := 6) d_MO_which_133 rfl (by decide) (Nat.le_of_ble_eq_true rfl) (Nat.le_of_ble_eq_true rfl) rfl ?_
              change ab_W _ _ _ G1 136 [some (vR 80), some (vI s), some (vI w), some (vI 0), some (vI 6), none, none] [] _
              refine ab_goto (tgt := 10) d_MO_which_136 (by decide) ?_
              refine ab_iload d_MO_which_10 rfl ?_
              refine ab_bipush (v := 6) d_MO_which_12 (by decide) ?_
              refine ab_icmp_ge (tgt := 139) d_MO_which_14 (by decide) (fun _ => ?_) (fun c => absurd c (by decide))
              refine ab_iload_n d_MO_which_139 rfl ?_
              exact ab_iret (rt := .int) rfl rfl d_MO_which_140 (by rw [hQ]; exact ⟨rfl, eG1⟩)
            · refine ab_aload_n d_MO_which_26 rfl ?_
              refine ab_getf (fs := List.set m_f 2 (vI 0)) f_MO_109 d_MO_which_27 h80 rfl ?_
              refine ab_iload d_MO_which_30 rfl ?_
              refine ab_zald d_MO_which_32 h112 (by unfold vp_in; decide) ?_
              refine ab_topi (y := 0) rfl ?_
              refine ab_if_ne (tgt := 39) d_MO_which_33 (by decide) (fun c => absurd c (by decide)) (fun _ => ?_)
              refine ab_goto (tgt := 133) d_MO_which_36 (by decide) ?_
              refine ab_iinc (v := 6) d_MO_which_133 rfl (by decide) (Nat.le_of_ble_eq_true rfl) (Nat.le_of_ble_eq_true rfl) rfl ?_
              change ab_W _ _ _ G1 136 [some (vR 80), some (vI s), some (vI w), some (vI 0), some (vI 6), none, none] [] _
              refine ab_goto (tgt := 10) d_MO_which_136 (by decide) ?_
              refine ab_iload d_MO_which_10 rfl ?_
              refine ab_bipush (v := 6) d_MO_which_12 (by decide) ?_
              refine ab_icmp_ge (tgt := 139) d_MO_which_14 (by decide) (fun _ => ?_) (fun c => absurd c (by decide))
              refine ab_iload_n d_MO_which_139 rfl ?_
              exact ab_iret (rt := .int) rfl rfl d_MO_which_140 (by rw [hQ]; exact ⟨rfl, eG1⟩)
          · refine ab_aload_n d_MO_which_26 rfl ?_
            refine ab_getf (fs := List.set m_f 2 (vI 0)) f_MO_109 d_MO_which_27 h80 rfl ?_
            refine ab_iload d_MO_which_30 rfl ?_
            refine ab_zald d_MO_which_32 h112 (by unfold vp_in; decide) ?_
            refine ab_topi (y := 0) rfl ?_
            refine ab_if_ne (tgt := 39) d_MO_which_33 (by decide) (fun c => absurd c (by decide)) (fun _ => ?_)
            refine ab_goto (tgt := 133) d_MO_which_36 (by decide) ?_
            refine ab_iinc (v := 5) d_MO_which_133 rfl (by decide) (Nat.le_of_ble_eq_true rfl) (Nat.le_of_ble_eq_true rfl) rfl ?_
            change ab_W _ _ _ G1 136 [some (vR 80), some (vI s), some (vI w), some (vI 0), some (vI 5), none, none] [] _
            refine ab_goto (tgt := 10) d_MO_which_136 (by decide) ?_
            refine ab_iload d_MO_which_10 rfl ?_
            refine ab_bipush (v := 6) d_MO_which_12 (by decide) ?_
            refine ab_icmp_ge (tgt := 139) d_MO_which_14 (by decide) (fun c => absurd c (by decide)) (fun _ => ?_)
            refine ab_iload_n d_MO_which_17 rfl ?_
            refine ab_iload d_MO_which_18 rfl ?_
            refine ab_ishr d_MO_which_20 ?_
            refine ab_iconst (v := 1) d_MO_which_21 (by decide) ?_
            refine ab_iand d_MO_which_22 ?_
            refine ab_if_eq (tgt := 133) d_MO_which_23 (by decide) (fun c5 => ?_) (fun c5 => ?_)
            · refine ab_iinc (v := 6) d_MO_which_133 rfl (by decide) (Nat.le_of_ble_eq_true rfl) (Nat.le_of_ble_eq_true rfl) rfl ?_
              change ab_W _ _ _ G1 136 [some (vR 80), some (vI s), some (vI w), some (vI 0), some (vI 6), none, none] [] _
              refine ab_goto (tgt := 10) d_MO_which_136 (by decide) ?_
              refine ab_iload d_MO_which_10 rfl ?_
              refine ab_bipush (v := 6) d_MO_which_12 (by decide) ?_
              refine ab_icmp_ge (tgt := 139) d_MO_which_14 (by decide) (fun _ => ?_) (fun c => absurd c (by decide))
              refine ab_iload_n d_MO_which_139 rfl ?_
              exact ab_iret (rt := .int) rfl rfl d_MO_which_140 (by rw [hQ]; exact ⟨rfl, eG1⟩)
            · refine ab_aload_n d_MO_which_26 rfl ?_
              refine ab_getf (fs := List.set m_f 2 (vI 0)) f_MO_109 d_MO_which_27 h80 rfl ?_
              refine ab_iload d_MO_which_30 rfl ?_
              refine ab_zald d_MO_which_32 h112 (by unfold vp_in; decide) ?_
              refine ab_topi (y := 0) rfl ?_
              refine ab_if_ne (tgt := 39) d_MO_which_33 (by decide) (fun c => absurd c (by decide)) (fun _ => ?_)
              refine ab_goto (tgt := 133) d_MO_which_36 (by decide) ?_
              refine ab_iinc (v := 6) d_MO_which_133 rfl (by decide) (Nat.le_of_ble_eq_true rfl) (Nat.le_of_ble_eq_true rfl) rfl ?_
              change ab_W _ _ _ G1 136 [some (vR 80), some (vI s), some (vI w), some (vI 0), some (vI 6), none, none] [] _
              refine ab_goto (tgt := 10) d_MO_which_136 (by decide) ?_
              refine ab_iload d_MO_which_10 rfl ?_
              refine ab_bipush (v := 6) d_MO_which_12 (by decide) ?_
              refine ab_icmp_ge (tgt := 139) d_MO_which_14 (by decide) (fun _ => ?_) (fun c => absurd c (by decide))
              refine ab_iload_n d_MO_which_139 rfl ?_
              exact ab_iret (rt := .int) rfl rfl d_MO_which_140 (by rw [hQ]; exact ⟨rfl, eG1⟩)
    · refine ab_aload_n d_MO_which_26 rfl ?_
      refine ab_getf (fs := List.set m_f 2 (vI 0)) f_MO_109 d_MO_which_27 h80 rfl ?_
      refine ab_iload d_MO_which_30 rfl ?_
      refine ab_zald d_MO_which_32 h112 (by unfold vp_in; decide) ?_
      refine ab_topi (y := 0) rfl ?_
      refine ab_if_ne (tgt := 39) d_MO_which_33 (by decide) (fun c => absurd c (by decide)) (fun _ => ?_)
      refine ab_goto (tgt := 133) d_MO_which_36 (by decide) ?_
      refine ab_iinc (v := 2) d_MO_which_133 rfl (by decide) (Nat.le_of_ble_eq_true rfl) (Nat.le_of_ble_eq_true rfl) rfl ?_
      change ab_W _ _ _ G1 136 [some (vR 80), some (vI s), some (vI w), some (vI 0), some (vI 2), none, none] [] _
      refine ab_goto (tgt := 10) d_MO_which_136 (by decide) ?_
      refine ab_iload d_MO_which_10 rfl ?_
      refine ab_bipush (v := 6) d_MO_which_12 (by decide) ?_
      refine ab_icmp_ge (tgt := 139) d_MO_which_14 (by decide) (fun c => absurd c (by decide)) (fun _ => ?_)
      refine ab_iload_n d_MO_which_17 rfl ?_
      refine ab_iload d_MO_which_18 rfl ?_
      refine ab_ishr d_MO_which_20 ?_
      refine ab_iconst (v := 1) d_MO_which_21 (by decide) ?_
      refine ab_iand d_MO_which_22 ?_
      refine ab_if_eq (tgt := 133) d_MO_which_23 (by decide) (fun c2 => ?_) (fun c2 => ?_)
      · refine ab_iinc (v := 3) d_MO_which_133 rfl (by decide) (Nat.le_of_ble_eq_true rfl) (Nat.le_of_ble_eq_true rfl) rfl ?_
        change ab_W _ _ _ G1 136 [some (vR 80), some (vI s), some (vI w), some (vI 0), some (vI 3), none, none] [] _
        refine ab_goto (tgt := 10) d_MO_which_136 (by decide) ?_
        refine ab_iload d_MO_which_10 rfl ?_
        refine ab_bipush (v := 6) d_MO_which_12 (by decide) ?_
        refine ab_icmp_ge (tgt := 139) d_MO_which_14 (by decide) (fun c => absurd c (by decide)) (fun _ => ?_)
        refine ab_iload_n d_MO_which_17 rfl ?_
        refine ab_iload d_MO_which_18 rfl ?_
        refine ab_ishr d_MO_which_20 ?_
        refine ab_iconst (v := 1) d_MO_which_21 (by decide) ?_
        refine ab_iand d_MO_which_22 ?_
        refine ab_if_eq (tgt := 133) d_MO_which_23 (by decide) (fun c3 => ?_) (fun c3 => ?_)
        · refine ab_iinc (v := 4) d_MO_which_133 rfl (by decide) (Nat.le_of_ble_eq_true rfl) (Nat.le_of_ble_eq_true rfl) rfl ?_
          change ab_W _ _ _ G1 136 [some (vR 80), some (vI s), some (vI w), some (vI 0), some (vI 4), none, none] [] _
          refine ab_goto (tgt := 10) d_MO_which_136 (by decide) ?_
          refine ab_iload d_MO_which_10 rfl ?_
          refine ab_bipush (v := 6) d_MO_which_12 (by decide) ?_
          refine ab_icmp_ge (tgt := 139) d_MO_which_14 (by decide) (fun c => absurd c (by decide)) (fun _ => ?_)
          refine ab_iload_n d_MO_which_17 rfl ?_
          refine ab_iload d_MO_which_18 rfl ?_
          refine ab_ishr d_MO_which_20 ?_
          refine ab_iconst (v := 1) d_MO_which_21 (by decide) ?_
          refine ab_iand d_MO_which_22 ?_
          refine ab_if_eq (tgt := 133) d_MO_which_23 (by decide) (fun c4 => ?_) (fun c4 => ?_)
          · refine ab_iinc (v := 5) d_MO_which_133 rfl (by decide) (Nat.le_of_ble_eq_true rfl) (Nat.le_of_ble_eq_true rfl) rfl ?_
            change ab_W _ _ _ G1 136 [some (vR 80), some (vI s), some (vI w), some (vI 0), some (vI 5), none, none] [] _
            refine ab_goto (tgt := 10) d_MO_which_136 (by decide) ?_
            refine ab_iload d_MO_which_10 rfl ?_
            refine ab_bipush (v := 6) d_MO_which_12 (by decide) ?_
            refine ab_icmp_ge (tgt := 139) d_MO_which_14 (by decide) (fun c => absurd c (by decide)) (fun _ => ?_)
            refine ab_iload_n d_MO_which_17 rfl ?_
            refine ab_iload d_MO_which_18 rfl ?_
            refine ab_ishr d_MO_which_20 ?_
            refine ab_iconst (v := 1) d_MO_which_21 (by decide) ?_
            refine ab_iand d_MO_which_22 ?_
            refine ab_if_eq (tgt := 133) d_MO_which_23 (by decide) (fun c5 => ?_) (fun c5 => ?_)
            · refine ab_iinc (v := 6) d_MO_which_133 rfl (by decide) (Nat.le_of_ble_eq_true rfl) (Nat.le_of_ble_eq_true rfl) rfl ?_
              change ab_W _ _ _ G1 136 [some (vR 80), some (vI s), some (vI w), some (vI 0), some (vI 6), none, none] [] _
              refine ab_goto (tgt := 10) d_MO_which_136 (by decide) ?_
              refine ab_iload d_MO_which_10 rfl ?_
              refine ab_bipush (v := 6) d_MO_which_12 (by decide) ?_
              refine ab_icmp_ge (tgt := 139) d_MO_which_14 (by decide) (fun _ => ?_) (fun c => absurd c (by decide))
              refine ab_iload_n d_MO_which_139 rfl ?_
              exact ab_iret (rt := .int) rfl rfl d_MO_which_140 (by rw [hQ]; exact ⟨rfl, eG1⟩)
            · refine ab_aload_n d_MO_which_26 rfl ?_
              refine ab_getf (fs := List.set m_f 2 (vI 0)) f_MO_109 d_MO_which_27 h80 rfl ?_
              refine ab_iload d_MO_which_30 rfl ?_
              refine ab_zald d_MO_which_32 h112 (by unfold vp_in; decide) ?_
              refine ab_topi (y := 0) rfl ?_
              refine ab_if_ne (tgt := 39) d_MO_which_33 (by decide) (fun c => absurd c (by decide)) (fun _ => ?_)
              refine ab_goto (tgt := 133) d_MO_which_36 (by decide) ?_
              refine ab_iinc (v := 6) d_MO_which_133 rfl (by decide) (Nat.le_of_ble_eq_true rfl) (Nat.le_of_ble_eq_true rfl) rfl ?_
              change ab_W _ _ _ G1 136 [some (vR 80), some (vI s), some (vI w), some (vI 0), some (vI 6), none, none] [] _
              refine ab_goto (tgt := 10) d_MO_which_136 (by decide) ?_
              refine ab_iload d_MO_which_10 rfl ?_
              refine ab_bipush (v := 6) d_MO_which_12 (by decide) ?_
              refine ab_icmp_ge (tgt := 139) d_MO_which_14 (by decide) (fun _ => ?_) (fun c => absurd c (by decide))
              refine ab_iload_n d_MO_which_139 rfl ?_
              exact ab_iret (rt := .int) rfl rfl d_MO_which_140 (by rw [hQ]; exact ⟨rfl, eG1⟩)
          · refine ab_aload_n d_MO_which_26 rfl ?_
            refine ab_getf (fs := List.set m_f 2 (vI 0)) f_MO_109 d_MO_which_27 h80 rfl ?_
            refine ab_iload d_MO_which_30 rfl ?_
            refine ab_zald d_MO_which_32 h112 (by unfold vp_in; decide) ?_
            refine ab_topi (y := 0) rfl ?_
            refine ab_if_ne (tgt := 39) d_MO_which_33 (by decide) (fun c => absurd c (by decide)) (fun _ => ?_)
            refine ab_goto (tgt := 133) d_MO_which_36 (by decide) ?_
            refine ab_iinc (v := 5) d_MO_which_133 rfl (by decide) (Nat.le_of_ble_eq_true rfl) (Nat.le_of_ble_eq_true rfl) rfl ?_
            change ab_W _ _ _ G1 136 [some (vR 80), some (vI s), some (vI w), some (vI 0), some (vI 5), none, none] [] _
            refine ab_goto (tgt := 10) d_MO_which_136 (by decide) ?_
            refine ab_iload d_MO_which_10 rfl ?_
            refine ab_bipush (v := 6) d_MO_which_12 (by decide) ?_
            refine ab_icmp_ge (tgt := 139) d_MO_which_14 (by decide) (fun c => absurd c (by decide)) (fun _ => ?_)
            refine ab_iload_n d_MO_which_17 rfl ?_
            refine ab_iload d_MO_which_18 rfl ?_
            refine ab_ishr d_MO_which_20 ?_
            refine ab_iconst (v := 1) d_MO_which_21 (by decide) ?_
            refine ab_iand d_MO_which_22 ?_
            refine ab_if_eq (tgt := 133) d_MO_which_23 (by decide) (fun c5 => ?_) (fun c5 => ?_)
            · refine ab_iinc (v := 6) d_MO_which_133 rfl (by decide) (Nat.le_of_ble_eq_true rfl) (Nat.le_of_ble_eq_true rfl) rfl ?_
              change ab_W _ _ _ G1 136 [some (vR 80), some (vI s), some (vI w), some (vI 0), some (vI 6), none, none] [] _
              refine ab_goto (tgt := 10) d_MO_which_136 (by decide) ?_
              refine ab_iload d_MO_which_10 rfl ?_
              refine ab_bipush (v := 6) d_MO_which_12 (by decide) ?_
              refine ab_icmp_ge (tgt := 139) d_MO_which_14 (by decide) (fun _ => ?_) (fun c => absurd c (by decide))
              refine ab_iload_n d_MO_which_139 rfl ?_
              exact ab_iret (rt := .int) rfl rfl d_MO_which_140 (by rw [hQ]; exact ⟨rfl, eG1⟩)
            · refine ab_aload_n d_MO_which_26 rfl ?_
              refine ab_getf (fs := List.set m_f 2 (vI 0)) f_MO_109 d_MO_which_27 h80 rfl ?_
              refine ab_iload d_MO_which_30 rfl ?_
              refine ab_zald d_MO_which_32 h112 (by unfold vp_in; decide) ?_
              refine ab_topi (y := 0) rfl ?_
              refine ab_if_ne (tgt := 39) d_MO_which_33 (by decide) (fun c => absurd c (by decide)) (fun _ => ?_)
              refine ab_goto (tgt := 133) d_MO_which_36 (by decide) ?_
              refine ab_iinc (v := 6) d_MO_which_133 rfl (by decide) (Nat.le_of_ble_eq_true rfl) (Nat.le_of_ble_eq_true rfl) rfl ?_
              change ab_W _ _ _ G1 136 [some (vR 80), some (vI s), some (vI w), some (vI 0), some (vI 6), none, none] [] _
              refine ab_goto (tgt := 10) d_MO_which_136 (by decide) ?_
              refine ab_iload d_MO_which_10 rfl ?_
              refine ab_bipush (v := 6) d_MO_which_12 (by decide) ?_
              refine ab_icmp_ge (tgt := 139) d_MO_which_14 (by decide) (fun _ => ?_) (fun c => absurd c (by decide))
              refine ab_iload_n d_MO_which_139 rfl ?_
              exact ab_iret (rt := .int) rfl rfl d_MO_which_140 (by rw [hQ]; exact ⟨rfl, eG1⟩)
        · refine ab_aload_n d_MO_which_26 rfl ?_
          refine ab_getf (fs := List.set m_f 2 (vI 0)) f_MO_109 d_MO_which_27 h80 rfl ?_
          refine ab_iload d_MO_which_30 rfl ?_
          refine ab_zald d_MO_which_32 h112 (by unfold vp_in; decide) ?_
          refine ab_topi (y := 0) rfl ?_
          refine ab_if_ne (tgt := 39) d_MO_which_33 (by decide) (fun c => absurd c (by decide)) (fun _ => ?_)
          refine ab_goto (tgt := 133) d_MO_which_36 (by decide) ?_
          refine ab_iinc (v := 4) d_MO_which_133 rfl (by decide) (Nat.le_of_ble_eq_true rfl) (Nat.le_of_ble_eq_true rfl) rfl ?_
          change ab_W _ _ _ G1 136 [some (vR 80), some (vI s), some (vI w), some (vI 0), some (vI 4), none, none] [] _
          refine ab_goto (tgt := 10) d_MO_which_136 (by decide) ?_
          refine ab_iload d_MO_which_10 rfl ?_
          refine ab_bipush (v := 6) d_MO_which_12 (by decide) ?_
          refine ab_icmp_ge (tgt := 139) d_MO_which_14 (by decide) (fun c => absurd c (by decide)) (fun _ => ?_)
          refine ab_iload_n d_MO_which_17 rfl ?_
          refine ab_iload d_MO_which_18 rfl ?_
          refine ab_ishr d_MO_which_20 ?_
          refine ab_iconst (v := 1) d_MO_which_21 (by decide) ?_
          refine ab_iand d_MO_which_22 ?_
          refine ab_if_eq (tgt := 133) d_MO_which_23 (by decide) (fun c4 => ?_) (fun c4 => ?_)
          · refine ab_iinc (v := 5) d_MO_which_133 rfl (by decide) (Nat.le_of_ble_eq_true rfl) (Nat.le_of_ble_eq_true rfl) rfl ?_
            change ab_W _ _ _ G1 136 [some (vR 80), some (vI s), some (vI w), some (vI 0), some (vI 5), none, none] [] _
            refine ab_goto (tgt := 10) d_MO_which_136 (by decide) ?_
            refine ab_iload d_MO_which_10 rfl ?_
            refine ab_bipush (v := 6) d_MO_which_12 (by decide) ?_
            refine ab_icmp_ge (tgt := 139) d_MO_which_14 (by decide) (fun c => absurd c (by decide)) (fun _ => ?_)
            refine ab_iload_n d_MO_which_17 rfl ?_
            refine ab_iload d_MO_which_18 rfl ?_
            refine ab_ishr d_MO_which_20 ?_
            refine ab_iconst (v := 1) d_MO_which_21 (by decide) ?_
            refine ab_iand d_MO_which_22 ?_
            refine ab_if_eq (tgt := 133) d_MO_which_23 (by decide) (fun c5 => ?_) (fun c5 => ?_)
            · refine ab_iinc (v := 6) d_MO_which_133 rfl (by decide) (Nat.le_of_ble_eq_true rfl) (Nat.le_of_ble_eq_true rfl) rfl ?_
              change ab_W _ _ _ G1 136 [some (vR 80), some (vI s), some (vI w), some (vI 0), some (vI 6), none, none] [] _
              refine ab_goto (tgt := 10) d_MO_which_136 (by decide) ?_
              refine ab_iload d_MO_which_10 rfl ?_
              refine ab_bipush (v := 6) d_MO_which_12 (by decide) ?_
              refine ab_icmp_ge (tgt := 139) d_MO_which_14 (by decide) (fun _ => ?_) (fun c => absurd c (by decide))
              refine ab_iload_n d_MO_which_139 rfl ?_
              exact ab_iret (rt := .int) rfl rfl d_MO_which_140 (by rw [hQ]; exact ⟨rfl, eG1⟩)
            · refine ab_aload_n d_MO_which_26 rfl ?_
              refine ab_getf (fs := List.set m_f 2 (vI 0)) f_MO_109 d_MO_which_27 h80 rfl ?_
              refine ab_iload d_MO_which_30 rfl ?_
              refine ab_zald d_MO_which_32 h112 (by unfold vp_in; decide) ?_
              refine ab_topi (y := 0) rfl ?_
              refine ab_if_ne (tgt := 39) d_MO_which_33 (by decide) (fun c => absurd c (by decide)) (fun _ => ?_)
              refine ab_goto (tgt := 133) d_MO_which_36 (by decide) ?_
              refine ab_iinc (v := 6) d_MO_which_133 rfl (by decide) (Nat.le_of_ble_eq_true rfl) (Nat.le_of_ble_eq_true rfl) rfl ?_
              change ab_W _ _ _ G1 136 [some (vR 80), some (vI s), some (vI w), some (vI 0), some (vI 6), none, none] [] _
              refine ab_goto (tgt := 10) d_MO_which_136 (by decide) ?_
              refine ab_iload d_MO_which_10 rfl ?_
              refine ab_bipush (v := 6) d_MO_which_12 (by decide) ?_
              refine ab_icmp_ge (tgt := 139) d_MO_which_14 (by decide) (fun _ => ?_) (fun c => absurd c (by decide))
              refine ab_iload_n d_MO_which_139 rfl ?_
              exact ab_iret (rt := .int) rfl rfl d_MO_which_140 (by rw [hQ]; exact ⟨rfl, eG1⟩)
          · refine ab_aload_n d_MO_which_26 rfl ?_
            refine ab_getf (fs := List.set m_f 2 (vI 0)) f_MO_109 d_MO_which_27 h80 rfl ?_
            refine ab_iload d_MO_which_30 rfl ?_
            refine ab_zald d_MO_which_32 h112 (by unfold vp_in; decide) ?_
            refine ab_topi (y := 0) rfl ?_
            refine ab_if_ne (tgt := 39) d_MO_which_33 (by decide) (fun c => absurd c (by decide)) (fun _ => ?_)
            refine ab_goto (tgt := 133) d_MO_which_36 (by decide) ?_
            refine ab_iinc (v := 5) d_MO_which_133 rfl (by decide) (Nat.le_of_ble_eq_true rfl) (Nat.le_of_ble_eq_true rfl) rfl ?_
            change ab_W _ _ _ G1 136 [some (vR 80), some (vI s), some (vI w), some (vI 0), some (vI 5), none, none] [] _
            refine ab_goto (tgt := 10) d_MO_which_136 (by decide) ?_
            refine ab_iload d_MO_which_10 rfl ?_
            refine ab_bipush (v := 6) d_MO_which_12 (by decide) ?_
            refine ab_icmp_ge (tgt := 139) d_MO_which_14 (by decide) (fun c => absurd c (by decide)) (fun _ => ?_)
            refine ab_iload_n d_MO_which_17 rfl ?_
            refine ab_iload d_MO_which_18 rfl ?_
            refine ab_ishr d_MO_which_20 ?_
            refine ab_iconst (v := 1) d_MO_which_21 (by decide) ?_
            refine ab_iand d_MO_which_22 ?_
            refine ab_if_eq (tgt := 133) d_MO_which_23 (by decide) (fun c5 => ?_) (fun c5 => ?_)
            · refine ab_iinc (v := 6) d_MO_which_133 rfl (by decide) (Nat.le_of_ble_eq_true rfl) (Nat.le_of_ble_eq_true rfl) rfl ?_
              change ab_W _ _ _ G1 136 [some (vR 80), some (vI s), some (vI w), some (vI 0), some (vI 6), none, none] [] _
              refine ab_goto (tgt := 10) d_MO_which_136 (by decide) ?_
              refine ab_iload d_MO_which_10 rfl ?_
              refine ab_bipush (v := 6) d_MO_which_12 (by decide) ?_
              refine ab_icmp_ge (tgt := 139) d_MO_which_14 (by decide) (fun _ => ?_) (fun c => absurd c (by decide))
              refine ab_iload_n d_MO_which_139 rfl ?_
              exact ab_iret (rt := .int) rfl rfl d_MO_which_140 (by rw [hQ]; exact ⟨rfl, eG1⟩)
            · refine ab_aload_n d_MO_which_26 rfl ?_
              refine ab_getf (fs := List.set m_f 2 (vI 0)) f_MO_109 d_MO_which_27 h80 rfl ?_
              refine ab_iload d_MO_which_30 rfl ?_
              refine ab_zald d_MO_which_32 h112 (by unfold vp_in; decide) ?_
              refine ab_topi (y := 0) rfl ?_
              refine ab_if_ne (tgt := 39) d_MO_which_33 (by decide) (fun c => absurd c (by decide)) (fun _ => ?_)
              refine ab_goto (tgt := 133) d_MO_which_36 (by decide) ?_
              refine ab_iinc (v := 6) d_MO_which_133 rfl (by decide) (Nat.le_of_ble_eq_true rfl) (Nat.le_of_ble_eq_true rfl) rfl ?_
              change ab_W _ _ _ G1 136 [some (vR 80), some (vI s), some (vI w), some (vI 0), some (vI 6), none, none] [] _
              refine ab_goto (tgt := 10) d_MO_which_136 (by decide) ?_
              refine ab_iload d_MO_which_10 rfl ?_
              refine ab_bipush (v := 6) d_MO_which_12 (by decide) ?_
              refine ab_icmp_ge (tgt := 139) d_MO_which_14 (by decide) (fun _ => ?_) (fun c => absurd c (by decide))
              refine ab_iload_n d_MO_which_139 rfl ?_
              exact ab_iret (rt := .int) rfl rfl d_MO_which_140 (by rw [hQ]; exact ⟨rfl, eG1⟩)
      · refine ab_aload_n d_MO_which_26 rfl ?_
        refine ab_getf (fs := List.set m_f 2 (vI 0)) f_MO_109 d_MO_which_27 h80 rfl ?_
        refine ab_iload d_MO_which_30 rfl ?_
        refine ab_zald d_MO_which_32 h112 (by unfold vp_in; decide) ?_
        refine ab_topi (y := 0) rfl ?_
        refine ab_if_ne (tgt := 39) d_MO_which_33 (by decide) (fun c => absurd c (by decide)) (fun _ => ?_)
        refine ab_goto (tgt := 133) d_MO_which_36 (by decide) ?_
        refine ab_iinc (v := 3) d_MO_which_133 rfl (by decide) (Nat.le_of_ble_eq_true rfl) (Nat.le_of_ble_eq_true rfl) rfl ?_
        change ab_W _ _ _ G1 136 [some (vR 80), some (vI s), some (vI w), some (vI 0), some (vI 3), none, none] [] _
        refine ab_goto (tgt := 10) d_MO_which_136 (by decide) ?_
        refine ab_iload d_MO_which_10 rfl ?_
        refine ab_bipush (v := 6) d_MO_which_12 (by decide) ?_
        refine ab_icmp_ge (tgt := 139) d_MO_which_14 (by decide) (fun c => absurd c (by decide)) (fun _ => ?_)
        refine ab_iload_n d_MO_which_17 rfl ?_
        refine ab_iload d_MO_which_18 rfl ?_
        refine ab_ishr d_MO_which_20 ?_
        refine ab_iconst (v := 1) d_MO_which_21 (by decide) ?_
        refine ab_iand d_MO_which_22 ?_
        refine ab_if_eq (tgt := 133) d_MO_which_23 (by decide) (fun c3 => ?_) (fun c3 => ?_)
        · refine ab_iinc (v := 4) d_MO_which_133 rfl (by decide) (Nat.le_of_ble_eq_true rfl) (Nat.le_of_ble_eq_true rfl) rfl ?_
          change ab_W _ _ _ G1 136 [some (vR 80), some (vI s), some (vI w), some (vI 0), some (vI 4), none, none] [] _
          refine ab_goto (tgt := 10) d_MO_which_136 (by decide) ?_
          refine ab_iload d_MO_which_10 rfl ?_
          refine ab_bipush (v := 6) d_MO_which_12 (by decide) ?_
          refine ab_icmp_ge (tgt := 139) d_MO_which_14 (by decide) (fun c => absurd c (by decide)) (fun _ => ?_)
          refine ab_iload_n d_MO_which_17 rfl ?_
          refine ab_iload d_MO_which_18 rfl ?_
          refine ab_ishr d_MO_which_20 ?_
          refine ab_iconst (v := 1) d_MO_which_21 (by decide) ?_
          refine ab_iand d_MO_which_22 ?_
          refine ab_if_eq (tgt := 133) d_MO_which_23 (by decide) (fun c4 => ?_) (fun c4 => ?_)
          · refine ab_iinc (v := 5) d_MO_which_133 rfl (by decide) (Nat.le_of_ble_eq_true rfl) (Nat.le_of_ble_eq_true rfl) rfl ?_
            change ab_W _ _ _ G1 136 [some (vR 80), some (vI s), some (vI w), some (vI 0), some (vI 5), none, none] [] _
            refine ab_goto (tgt := 10) d_MO_which_136 (by decide) ?_
            refine ab_iload d_MO_which_10 rfl ?_
            refine ab_bipush (v := 6) d_MO_which_12 (by decide) ?_
            refine ab_icmp_ge (tgt := 139) d_MO_which_14 (by decide) (fun c => absurd c (by decide)) (fun _ => ?_)
            refine ab_iload_n d_MO_which_17 rfl ?_
            refine ab_iload d_MO_which_18 rfl ?_
            refine ab_ishr d_MO_which_20 ?_
            refine ab_iconst (v := 1) d_MO_which_21 (by decide) ?_
            refine ab_iand d_MO_which_22 ?_
            refine ab_if_eq (tgt := 133) d_MO_which_23 (by decide) (fun c5 => ?_) (fun c5 => ?_)
            · refine ab_iinc (v := 6) d_MO_which_133 rfl (by decide) (Nat.le_of_ble_eq_true rfl) (Nat.le_of_ble_eq_true rfl) rfl ?_
              change ab_W _ _ _ G1 136 [some (vR 80), some (vI s), some (vI w), some (vI 0), some (vI 6), none, none] [] _
              refine ab_goto (tgt := 10) d_MO_which_136 (by decide) ?_
              refine ab_iload d_MO_which_10 rfl ?_
              refine ab_bipush (v := 6) d_MO_which_12 (by decide) ?_
              refine ab_icmp_ge (tgt := 139) d_MO_which_14 (by decide) (fun _ => ?_) (fun c => absurd c (by decide))
              refine ab_iload_n d_MO_which_139 rfl ?_
              exact ab_iret (rt := .int) rfl rfl d_MO_which_140 (by rw [hQ]; exact ⟨rfl, eG1⟩)
            · refine ab_aload_n d_MO_which_26 rfl ?_
              refine ab_getf (fs := List.set m_f 2 (vI 0)) f_MO_109 d_MO_which_27 h80 rfl ?_
              refine ab_iload d_MO_which_30 rfl ?_
              refine ab_zald d_MO_which_32 h112 (by unfold vp_in; decide) ?_
              refine ab_topi (y := 0) rfl ?_
              refine ab_if_ne (tgt := 39) d_MO_which_33 (by decide) (fun c => absurd c (by decide)) (fun _ => ?_)
              refine ab_goto (tgt := 133) d_MO_which_36 (by decide) ?_
              refine ab_iinc (v := 6) d_MO_which_133 rfl (by decide) (Nat.le_of_ble_eq_true rfl) (Nat.le_of_ble_eq_true rfl) rfl ?_
              change ab_W _ _ _ G1 136 [some (vR 80), some (vI s), some (vI w), some (vI 0), some (vI 6), none, none] [] _
              refine ab_goto (tgt := 10) d_MO_which_136 (by decide) ?_
              refine ab_iload d_MO_which_10 rfl ?_
              refine ab_bipush (v := 6) d_MO_which_12 (by decide) ?_
              refine ab_icmp_ge (tgt := 139) d_MO_which_14 (by decide) (fun _ => ?_) (fun c => absurd c (by decide))
              refine ab_iload_n d_MO_which_139 rfl ?_
              exact ab_iret (rt := .int) rfl rfl d_MO_which_140 (by rw [hQ]; exact ⟨rfl, eG1⟩)
          · refine ab_aload_n d_MO_which_26 rfl ?_
            refine ab_getf (fs := List.set m_f 2 (vI 0)) f_MO_109 d_MO_which_27 h80 rfl ?_
            refine ab_iload d_MO_which_30 rfl ?_
            refine ab_zald d_MO_which_32 h112 (by unfold vp_in; decide) ?_
            refine ab_topi (y := 0) rfl ?_
            refine ab_if_ne (tgt := 39) d_MO_which_33 (by decide) (fun c => absurd c (by decide)) (fun _ => ?_)
            refine ab_goto (tgt := 133) d_MO_which_36 (by decide) ?_
            refine ab_iinc (v := 5) d_MO_which_133 rfl (by decide) (Nat.le_of_ble_eq_true rfl) (Nat.le_of_ble_eq_true rfl) rfl ?_
            change ab_W _ _ _ G1 136 [some (vR 80), some (vI s), some (vI w), some (vI 0), some (vI 5), none, none] [] _
            refine ab_goto (tgt := 10) d_MO_which_136 (by decide) ?_
            refine ab_iload d_MO_which_10 rfl ?_
            refine ab_bipush (v := 6) d_MO_which_12 (by decide) ?_
            refine ab_icmp_ge (tgt := 139) d_MO_which_14 (by decide) (fun c => absurd c (by decide)) (fun _ => ?_)
            refine ab_iload_n d_MO_which_17 rfl ?_
            refine ab_iload d_MO_which_18 rfl ?_
            refine ab_ishr d_MO_which_20 ?_
            refine ab_iconst (v := 1) d_MO_which_21 (by decide) ?_
            refine ab_iand d_MO_which_22 ?_
            refine ab_if_eq (tgt := 133) d_MO_which_23 (by decide) (fun c5 => ?_) (fun c5 => ?_)
            · refine ab_iinc (v := 6) d_MO_which_133 rfl (by decide) (Nat.le_of_ble_eq_true rfl) (Nat.le_of_ble_eq_true rfl) rfl ?_
              change ab_W _ _ _ G1 136 [some (vR 80), some (vI s), some (vI w), some (vI 0), some (vI 6), none, none] [] _
              refine ab_goto (tgt := 10) d_MO_which_136 (by decide) ?_
              refine ab_iload d_MO_which_10 rfl ?_
              refine ab_bipush (v := 6) d_MO_which_12 (by decide) ?_
              refine ab_icmp_ge (tgt := 139) d_MO_which_14 (by decide) (fun _ => ?_) (fun c => absurd c (by decide))
              refine ab_iload_n d_MO_which_139 rfl ?_
              exact ab_iret (rt := .int) rfl rfl d_MO_which_140 (by rw [hQ]; exact ⟨rfl, eG1⟩)
            · refine ab_aload_n d_MO_which_26 rfl ?_
              refine ab_getf (fs := List.set m_f 2 (vI 0)) f_MO_109 d_MO_which_27 h80 rfl ?_
              refine ab_iload d_MO_which_30 rfl ?_
              refine ab_zald d_MO_which_32 h112 (by unfold vp_in; decide) ?_
              refine ab_topi (y := 0) rfl ?_
              refine ab_if_ne (tgt := 39) d_MO_which_33 (by decide) (fun c => absurd c (by decide)) (fun _ => ?_)
              refine ab_goto (tgt := 133) d_MO_which_36 (by decide) ?_
              refine ab_iinc (v := 6) d_MO_which_133 rfl (by decide) (Nat.le_of_ble_eq_true rfl) (Nat.le_of_ble_eq_true rfl) rfl ?_
              change ab_W _ _ _ G1 136 [some (vR 80), some (vI s), some (vI w), some (vI 0), some (vI 6), none, none] [] _
              refine ab_goto (tgt := 10) d_MO_which_136 (by decide) ?_
              refine ab_iload d_MO_which_10 rfl ?_
              refine ab_bipush (v := 6) d_MO_which_12 (by decide) ?_
              refine ab_icmp_ge (tgt := 139) d_MO_which_14 (by decide) (fun _ => ?_) (fun c => absurd c (by decide))
              refine ab_iload_n d_MO_which_139 rfl ?_
              exact ab_iret (rt := .int) rfl rfl d_MO_which_140 (by rw [hQ]; exact ⟨rfl, eG1⟩)
        · refine ab_aload_n d_MO_which_26 rfl ?_
          refine ab_getf (fs := List.set m_f 2 (vI 0)) f_MO_109 d_MO_which_27 h80 rfl ?_
          refine ab_iload d_MO_which_30 rfl ?_
          refine ab_zald d_MO_which_32 h112 (by unfold vp_in; decide) ?_
          refine ab_topi (y := 0) rfl ?_
          refine ab_if_ne (tgt := 39) d_MO_which_33 (by decide) (fun c => absurd c (by decide)) (fun _ => ?_)
          refine ab_goto (tgt := 133) d_MO_which_36 (by decide) ?_
          refine ab_iinc (v := 4) d_MO_which_133 rfl (by decide) (Nat.le_of_ble_eq_true rfl) (Nat.le_of_ble_eq_true rfl) rfl ?_
          change ab_W _ _ _ G1 136 [some (vR 80), some (vI s), some (vI w), some (vI 0), some (vI 4), none, none] [] _
          refine ab_goto (tgt := 10) d_MO_which_136 (by decide) ?_
          refine ab_iload d_MO_which_10 rfl ?_
          refine ab_bipush (v := 6) d_MO_which_12 (by decide) ?_
          refine ab_icmp_ge (tgt := 139) d_MO_which_14 (by decide) (fun c => absurd c (by decide)) (fun _ => ?_)
          refine ab_iload_n d_MO_which_17 rfl ?_
          refine ab_iload d_MO_which_18 rfl ?_
          refine ab_ishr d_MO_which_20 ?_
          refine ab_iconst (v := 1) d_MO_which_21 (by decide) ?_
          refine ab_iand d_MO_which_22 ?_
          refine ab_if_eq (tgt := 133) d_MO_which_23 (by decide) (fun c4 => ?_) (fun c4 => ?_)
          · refine ab_iinc (v := 5) d_MO_which_133 rfl (by decide) (Nat.le_of_ble_eq_true rfl) (Nat.le_of_ble_eq_true rfl) rfl ?_
            change ab_W _ _ _ G1 136 [some (vR 80), some (vI s), some (vI w), some (vI 0), some (vI 5), none, none] [] _
            refine ab_goto (tgt := 10) d_MO_which_136 (by decide) ?_
            refine ab_iload d_MO_which_10 rfl ?_
            refine ab_bipush (v := 6) d_MO_which_12 (by decide) ?_
            refine ab_icmp_ge (tgt := 139) d_MO_which_14 (by decide) (fun c => absurd c (by decide)) (fun _ => ?_)
            refine ab_iload_n d_MO_which_17 rfl ?_
            refine ab_iload d_MO_which_18 rfl ?_
            refine ab_ishr d_MO_which_20 ?_
            refine ab_iconst (v := 1) d_MO_which_21 (by decide) ?_
            refine ab_iand d_MO_which_22 ?_
            refine ab_if_eq (tgt := 133) d_MO_which_23 (by decide) (fun c5 => ?_) (fun c5 => ?_)
            · refine ab_iinc (v := 6) d_MO_which_133 rfl (by decide) (Nat.le_of_ble_eq_true rfl) (Nat.le_of_ble_eq_true rfl) rfl ?_
              change ab_W _ _ _ G1 136 [some (vR 80), some (vI s), some (vI w), some (vI 0), some (vI 6), none, none] [] _
              refine ab_goto (tgt := 10) d_MO_which_136 (by decide) ?_
              refine ab_iload d_MO_which_10 rfl ?_
              refine ab_bipush (v := 6) d_MO_which_12 (by decide) ?_
              refine ab_icmp_ge (tgt := 139) d_MO_which_14 (by decide) (fun _ => ?_) (fun c => absurd c (by decide))
              refine ab_iload_n d_MO_which_139 rfl ?_
              exact ab_iret (rt := .int) rfl rfl d_MO_which_140 (by rw [hQ]; exact ⟨rfl, eG1⟩)
            · refine ab_aload_n d_MO_which_26 rfl ?_
              refine ab_getf (fs := List.set m_f 2 (vI 0)) f_MO_109 d_MO_which_27 h80 rfl ?_
              refine ab_iload d_MO_which_30 rfl ?_
              refine ab_zald d_MO_which_32 h112 (by unfold vp_in; decide) ?_
              refine ab_topi (y := 0) rfl ?_
              refine ab_if_ne (tgt := 39) d_MO_which_33 (by decide) (fun c => absurd c (by decide)) (fun _ => ?_)
              refine ab_goto (tgt := 133) d_MO_which_36 (by decide) ?_
              refine ab_iinc (v := 6) d_MO_which_133 rfl (by decide) (Nat.le_of_ble_eq_true rfl) (Nat.le_of_ble_eq_true rfl) rfl ?_
              change ab_W _ _ _ G1 136 [some (vR 80), some (vI s), some (vI w), some (vI 0), some (vI 6), none, none] [] _
              refine ab_goto (tgt := 10) d_MO_which_136 (by decide) ?_
              refine ab_iload d_MO_which_10 rfl ?_
              refine ab_bipush (v := 6) d_MO_which_12 (by decide) ?_
              refine ab_icmp_ge (tgt := 139) d_MO_which_14 (by decide) (fun _ => ?_) (fun c => absurd c (by decide))
              refine ab_iload_n d_MO_which_139 rfl ?_
              exact ab_iret (rt := .int) rfl rfl d_MO_which_140 (by rw [hQ]; exact ⟨rfl, eG1⟩)
          · refine ab_aload_n d_MO_which_26 rfl ?_
            refine ab_getf (fs := List.set m_f 2 (vI 0)) f_MO_109 d_MO_which_27 h80 rfl ?_
            refine ab_iload d_MO_which_30 rfl ?_
            refine ab_zald d_MO_which_32 h112 (by unfold vp_in; decide) ?_
            refine ab_topi (y := 0) rfl ?_
            refine ab_if_ne (tgt := 39) d_MO_which_33 (by decide) (fun c => absurd c (by decide)) (fun _ => ?_)
            refine ab_goto (tgt := 133) d_MO_which_36 (by decide) ?_
            refine ab_iinc (v := 5) d_MO_which_133 rfl (by decide) (Nat.le_of_ble_eq_true rfl) (Nat.le_of_ble_eq_true rfl) rfl ?_
            change ab_W _ _ _ G1 136 [some (vR 80), some (vI s), some (vI w), some (vI 0), some (vI 5), none, none] [] _
            refine ab_goto (tgt := 10) d_MO_which_136 (by decide) ?_
            refine ab_iload d_MO_which_10 rfl ?_
            refine ab_bipush (v := 6) d_MO_which_12 (by decide) ?_
            refine ab_icmp_ge (tgt := 139) d_MO_which_14 (by decide) (fun c => absurd c (by decide)) (fun _ => ?_)
            refine ab_iload_n d_MO_which_17 rfl ?_
            refine ab_iload d_MO_which_18 rfl ?_
            refine ab_ishr d_MO_which_20 ?_
            refine ab_iconst (v := 1) d_MO_which_21 (by decide) ?_
            refine ab_iand d_MO_which_22 ?_
            refine ab_if_eq (tgt := 133) d_MO_which_23 (by decide) (fun c5 => ?_) (fun c5 => ?_)
            · refine ab_iinc (v := 6) d_MO_which_133 rfl (by decide) (Nat.le_of_ble_eq_true rfl) (Nat.le_of_ble_eq_true rfl) rfl ?_
              change ab_W _ _ _ G1 136 [some (vR 80), some (vI s), some (vI w), some (vI 0), some (vI 6), none, none] [] _
              refine ab_goto (tgt := 10) d_MO_which_136 (by decide) ?_
              refine ab_iload d_MO_which_10 rfl ?_
              refine ab_bipush (v := 6) d_MO_which_12 (by decide) ?_
              refine ab_icmp_ge (tgt := 139) d_MO_which_14 (by decide) (fun _ => ?_) (fun c => absurd c (by decide))
              refine ab_iload_n d_MO_which_139 rfl ?_
              exact ab_iret (rt := .int) rfl rfl d_MO_which_140 (by rw [hQ]; exact ⟨rfl, eG1⟩)
            · refine ab_aload_n d_MO_which_26 rfl ?_
              refine ab_getf (fs := List.set m_f 2 (vI 0)) f_MO_109 d_MO_which_27 h80 rfl ?_
              refine ab_iload d_MO_which_30 rfl ?_
              refine ab_zald d_MO_which_32 h112 (by unfold vp_in; decide) ?_
              refine ab_topi (y := 0) rfl ?_
              refine ab_if_ne (tgt := 39) d_MO_which_33 (by decide) (fun c => absurd c (by decide)) (fun _ => ?_)
              refine ab_goto (tgt := 133) d_MO_which_36 (by decide) ?_
              refine ab_iinc (v := 6) d_MO_which_133 rfl (by decide) (Nat.le_of_ble_eq_true rfl) (Nat.le_of_ble_eq_true rfl) rfl ?_
              change ab_W _ _ _ G1 136 [some (vR 80), some (vI s), some (vI w), some (vI 0), some (vI 6), none, none] [] _
              refine ab_goto (tgt := 10) d_MO_which_136 (by decide) ?_
              refine ab_iload d_MO_which_10 rfl ?_
              refine ab_bipush (v := 6) d_MO_which_12 (by decide) ?_
              refine ab_icmp_ge (tgt := 139) d_MO_which_14 (by decide) (fun _ => ?_) (fun c => absurd c (by decide))
              refine ab_iload_n d_MO_which_139 rfl ?_
              exact ab_iret (rt := .int) rfl rfl d_MO_which_140 (by rw [hQ]; exact ⟨rfl, eG1⟩)
  · refine ab_aload_n d_MO_which_26 rfl ?_
    refine ab_getf (fs := List.set m_f 2 (vI 0)) f_MO_109 d_MO_which_27 h80 rfl ?_
    refine ab_iload d_MO_which_30 rfl ?_
    refine ab_zald d_MO_which_32 h112 (by unfold vp_in; decide) ?_
    refine ab_topi (y := 0) rfl ?_
    refine ab_if_ne (tgt := 39) d_MO_which_33 (by decide) (fun c => absurd c (by decide)) (fun _ => ?_)
    refine ab_goto (tgt := 133) d_MO_which_36 (by decide) ?_
    refine ab_iinc (v := 1) d_MO_which_133 rfl (by decide) (Nat.le_of_ble_eq_true rfl) (Nat.le_of_ble_eq_true rfl) rfl ?_
    change ab_W _ _ _ G1 136 [some (vR 80), some (vI s), some (vI w), some (vI 0), some (vI 1), none, none] [] _
    refine ab_goto (tgt := 10) d_MO_which_136 (by decide) ?_
    refine ab_iload d_MO_which_10 rfl ?_
    refine ab_bipush (v := 6) d_MO_which_12 (by decide) ?_
    refine ab_icmp_ge (tgt := 139) d_MO_which_14 (by decide) (fun c => absurd c (by decide)) (fun _ => ?_)
    refine ab_iload_n d_MO_which_17 rfl ?_
    refine ab_iload d_MO_which_18 rfl ?_
    refine ab_ishr d_MO_which_20 ?_
    refine ab_iconst (v := 1) d_MO_which_21 (by decide) ?_
    refine ab_iand d_MO_which_22 ?_
    refine ab_if_eq (tgt := 133) d_MO_which_23 (by decide) (fun c1 => ?_) (fun c1 => ?_)
    · refine ab_iinc (v := 2) d_MO_which_133 rfl (by decide) (Nat.le_of_ble_eq_true rfl) (Nat.le_of_ble_eq_true rfl) rfl ?_
      change ab_W _ _ _ G1 136 [some (vR 80), some (vI s), some (vI w), some (vI 0), some (vI 2), none, none] [] _
      refine ab_goto (tgt := 10) d_MO_which_136 (by decide) ?_
      refine ab_iload d_MO_which_10 rfl ?_
      refine ab_bipush (v := 6) d_MO_which_12 (by decide) ?_
      refine ab_icmp_ge (tgt := 139) d_MO_which_14 (by decide) (fun c => absurd c (by decide)) (fun _ => ?_)
      refine ab_iload_n d_MO_which_17 rfl ?_
      refine ab_iload d_MO_which_18 rfl ?_
      refine ab_ishr d_MO_which_20 ?_
      refine ab_iconst (v := 1) d_MO_which_21 (by decide) ?_
      refine ab_iand d_MO_which_22 ?_
      refine ab_if_eq (tgt := 133) d_MO_which_23 (by decide) (fun c2 => ?_) (fun c2 => ?_)
      · refine ab_iinc (v := 3) d_MO_which_133 rfl (by decide) (Nat.le_of_ble_eq_true rfl) (Nat.le_of_ble_eq_true rfl) rfl ?_
        change ab_W _ _ _ G1 136 [some (vR 80), some (vI s), some (vI w), some (vI 0), some (vI 3), none, none] [] _
        refine ab_goto (tgt := 10) d_MO_which_136 (by decide) ?_
        refine ab_iload d_MO_which_10 rfl ?_
        refine ab_bipush (v := 6) d_MO_which_12 (by decide) ?_
        refine ab_icmp_ge (tgt := 139) d_MO_which_14 (by decide) (fun c => absurd c (by decide)) (fun _ => ?_)
        refine ab_iload_n d_MO_which_17 rfl ?_
        refine ab_iload d_MO_which_18 rfl ?_
        refine ab_ishr d_MO_which_20 ?_
        refine ab_iconst (v := 1) d_MO_which_21 (by decide) ?_
        refine ab_iand d_MO_which_22 ?_
        refine ab_if_eq (tgt := 133) d_MO_which_23 (by decide) (fun c3 => ?_) (fun c3 => ?_)
        · refine ab_iinc (v := 4) d_MO_which_133 rfl (by decide) (Nat.le_of_ble_eq_true rfl) (Nat.le_of_ble_eq_true rfl) rfl ?_
          change ab_W _ _ _ G1 136 [some (vR 80), some (vI s), some (vI w), some (vI 0), some (vI 4), none, none] [] _
          refine ab_goto (tgt := 10) d_MO_which_136 (by decide) ?_
          refine ab_iload d_MO_which_10 rfl ?_
          refine ab_bipush (v := 6) d_MO_which_12 (by decide) ?_
          refine ab_icmp_ge (tgt := 139) d_MO_which_14 (by decide) (fun c => absurd c (by decide)) (fun _ => ?_)
          refine ab_iload_n d_MO_which_17 rfl ?_
          refine ab_iload d_MO_which_18 rfl ?_
          refine ab_ishr d_MO_which_20 ?_
          refine ab_iconst (v := 1) d_MO_which_21 (by decide) ?_
          refine ab_iand d_MO_which_22 ?_
          refine ab_if_eq (tgt := 133) d_MO_which_23 (by decide) (fun c4 => ?_) (fun c4 => ?_)
          · refine ab_iinc (v := 5) d_MO_which_133 rfl (by decide) (Nat.le_of_ble_eq_true rfl) (Nat.le_of_ble_eq_true rfl) rfl ?_
            change ab_W _ _ _ G1 136 [some (vR 80), some (vI s), some (vI w), some (vI 0), some (vI 5), none, none] [] _
            refine ab_goto (tgt := 10) d_MO_which_136 (by decide) ?_
            refine ab_iload d_MO_which_10 rfl ?_
            refine ab_bipush (v := 6) d_MO_which_12 (by decide) ?_
            refine ab_icmp_ge (tgt := 139) d_MO_which_14 (by decide) (fun c => absurd c (by decide)) (fun _ => ?_)
            refine ab_iload_n d_MO_which_17 rfl ?_
            refine ab_iload d_MO_which_18 rfl ?_
            refine ab_ishr d_MO_which_20 ?_
            refine ab_iconst (v := 1) d_MO_which_21 (by decide) ?_
            refine ab_iand d_MO_which_22 ?_
            refine ab_if_eq (tgt := 133) d_MO_which_23 (by decide) (fun c5 => ?_) (fun c5 => ?_)
            · refine ab_iinc (v := 6) d_MO_which_133 rfl (by decide) (Nat.le_of_ble_eq_true rfl) (Nat.le_of_ble_eq_true rfl) rfl ?_
              change ab_W _ _ _ G1 136 [some (vR 80), some (vI s), some (vI w), some (vI 0), some (vI 6), none, none] [] _
              refine ab_goto (tgt := 10) d_MO_which_136 (by decide) ?_
              refine ab_iload d_MO_which_10 rfl ?_
              refine ab_bipush (v := 6) d_MO_which_12 (by decide) ?_
              refine ab_icmp_ge (tgt := 139) d_MO_which_14 (by decide) (fun _ => ?_) (fun c => absurd c (by decide))
              refine ab_iload_n d_MO_which_139 rfl ?_
              exact ab_iret (rt := .int) rfl rfl d_MO_which_140 (by rw [hQ]; exact ⟨rfl, eG1⟩)
            · refine ab_aload_n d_MO_which_26 rfl ?_
              refine ab_getf (fs := List.set m_f 2 (vI 0)) f_MO_109 d_MO_which_27 h80 rfl ?_
              refine ab_iload d_MO_which_30 rfl ?_
              refine ab_zald d_MO_which_32 h112 (by unfold vp_in; decide) ?_
              refine ab_topi (y := 0) rfl ?_
              refine ab_if_ne (tgt := 39) d_MO_which_33 (by decide) (fun c => absurd c (by decide)) (fun _ => ?_)
              refine ab_goto (tgt := 133) d_MO_which_36 (by decide) ?_
              refine ab_iinc (v := 6) d_MO_which_133 rfl (by decide) (Nat.le_of_ble_eq_true rfl) (Nat.le_of_ble_eq_true rfl) rfl ?_
              change ab_W _ _ _ G1 136 [some (vR 80), some (vI s), some (vI w), some (vI 0), some (vI 6), none, none] [] _
              refine ab_goto (tgt := 10) d_MO_which_136 (by decide) ?_
              refine ab_iload d_MO_which_10 rfl ?_
              refine ab_bipush (v := 6) d_MO_which_12 (by decide) ?_
              refine ab_icmp_ge (tgt := 139) d_MO_which_14 (by decide) (fun _ => ?_) (fun c => absurd c (by decide))
              refine ab_iload_n d_MO_which_139 rfl ?_
              exact ab_iret (rt := .int) rfl rfl d_MO_which_140 (by rw [hQ]; exact ⟨rfl, eG1⟩)
          · refine ab_aload_n d_MO_which_26 rfl ?_
            refine ab_getf (fs := List.set m_f 2 (vI 0)) f_MO_109 d_MO_which_27 h80 rfl ?_
            refine ab_iload d_MO_which_30 rfl ?_
            refine ab_zald d_MO_which_32 h112 (by unfold vp_in; decide) ?_
            refine ab_topi (y := 0) rfl ?_
            refine ab_if_ne (tgt := 39) d_MO_which_33 (by decide) (fun c => absurd c (by decide)) (fun _ => ?_)
            refine ab_goto (tgt := 133) d_MO_which_36 (by decide) ?_
            refine ab_iinc (v := 5) d_MO_which_133 rfl (by decide) (Nat.le_of_ble_eq_true rfl) (Nat.le_of_ble_eq_true rfl) rfl ?_
            change ab_W _ _ _ G1 136 [some (vR 80), some (vI s), some (vI w), some (vI 0), some (vI 5), none, none] [] _
            refine ab_goto (tgt := 10) d_MO_which_136 (by decide) ?_
            refine ab_iload d_MO_which_10 rfl ?_
            refine ab_bipush (v := 6) d_MO_which_12 (by decide) ?_
            refine ab_icmp_ge (tgt := 139) d_MO_which_14 (by decide) (fun c => absurd c (by decide)) (fun _ => ?_)
            refine ab_iload_n d_MO_which_17 rfl ?_
            refine ab_iload d_MO_which_18 rfl ?_
            refine ab_ishr d_MO_which_20 ?_
            refine ab_iconst (v := 1) d_MO_which_21 (by decide) ?_
            refine ab_iand d_MO_which_22 ?_
            refine ab_if_eq (tgt := 133) d_MO_which_23 (by decide) (fun c5 => ?_) (fun c5 => ?_)
            · refine ab_iinc (v := 6) d_MO_which_133 rfl (by decide) (Nat.le_of_ble_eq_true rfl) (Nat.le_of_ble_eq_true rfl) rfl ?_
              change ab_W _ _ _ G1 136 [some (vR 80), some (vI s), some (vI w), some (vI 0), some (vI 6), none, none] [] _
              refine ab_goto (tgt := 10) d_MO_which_136 (by decide) ?_
              refine ab_iload d_MO_which_10 rfl ?_
              refine ab_bipush (v := 6) d_MO_which_12 (by decide) ?_
              refine ab_icmp_ge (tgt := 139) d_MO_which_14 (by decide) (fun _ => ?_) (fun c => absurd c (by decide))
              refine ab_iload_n d_MO_which_139 rfl ?_
              exact ab_iret (rt := .int) rfl rfl d_MO_which_140 (by rw [hQ]; exact ⟨rfl, eG1⟩)
            · refine ab_aload_n d_MO_which_26 rfl ?_
              refine ab_getf (fs := List.set m_f 2 (vI 0)) f_MO_109 d_MO_which_27 h80 rfl ?_
              refine ab_iload d_MO_which_30 rfl ?_
              refine ab_zald d_MO_which_32 h112 (by unfold vp_in; decide) ?_
              refine ab_topi (y := 0) rfl ?_
              refine ab_if_ne (tgt := 39) d_MO_which_33 (by decide) (fun c => absurd c (by decide)) (fun _ => ?_)
              refine ab_goto (tgt := 133) d_MO_which_36 (by decide) ?_
              refine ab_iinc (v := 6) d_MO_which_133 rfl (by decide) (Nat.le_of_ble_eq_true rfl) (Nat.le_of_ble_eq_true rfl) rfl ?_
              change ab_W _ _ _ G1 136 [some (vR 80), some (vI s), some (vI w), some (vI 0), some (vI 6), none, none] [] _
              refine ab_goto (tgt := 10) d_MO_which_136 (by decide) ?_
              refine ab_iload d_MO_which_10 rfl ?_
              refine ab_bipush (v := 6) d_MO_which_12 (by decide) ?_
              refine ab_icmp_ge (tgt := 139) d_MO_which_14 (by decide) (fun _ => ?_) (fun c => absurd c (by decide))
              refine ab_iload_n d_MO_which_139 rfl ?_
              exact ab_iret (rt := .int) rfl rfl d_MO_which_140 (by rw [hQ]; exact ⟨rfl, eG1⟩)
        · refine ab_aload_n d_MO_which_26 rfl ?_
          refine ab_getf (fs := List.set m_f 2 (vI 0)) f_MO_109 d_MO_which_27 h80 rfl ?_
          refine ab_iload d_MO_which_30 rfl ?_
          refine ab_zald d_MO_which_32 h112 (by unfold vp_in; decide) ?_
          refine ab_topi (y := 0) rfl ?_
          refine ab_if_ne (tgt := 39) d_MO_which_33 (by decide) (fun c => absurd c (by decide)) (fun _ => ?_)
          refine ab_goto (tgt := 133) d_MO_which_36 (by decide) ?_
          refine ab_iinc (v := 4) d_MO_which_133 rfl (by decide) (Nat.le_of_ble_eq_true rfl) (Nat.le_of_ble_eq_true rfl) rfl ?_
          change ab_W _ _ _ G1 136 [some (vR 80), some (vI s), some (vI w), some (vI 0), some (vI 4), none, none] [] _
          refine ab_goto (tgt := 10) d_MO_which_136 (by decide) ?_
          refine ab_iload d_MO_which_10 rfl ?_
          refine ab_bipush (v := 6) d_MO_which_12 (by decide) ?_
          refine ab_icmp_ge (tgt := 139) d_MO_which_14 (by decide) (fun c => absurd c (by decide)) (fun _ => ?_)
          refine ab_iload_n d_MO_which_17 rfl ?_
          refine ab_iload d_MO_which_18 rfl ?_
          refine ab_ishr d_MO_which_20 ?_
          refine ab_iconst (v := 1) d_MO_which_21 (by decide) ?_
          refine ab_iand d_MO_which_22 ?_
          refine ab_if_eq (tgt := 133) d_MO_which_23 (by decide) (fun c4 => ?_) (fun c4 => ?_)
          · refine ab_iinc (v := 5) d_MO_which_133 rfl (by decide) (Nat.le_of_ble_eq_true rfl) (Nat.le_of_ble_eq_true rfl) rfl ?_
            change ab_W _ _ _ G1 136 [some (vR 80), some (vI s), some (vI w), some (vI 0), some (vI 5), none, none] [] _
            refine ab_goto (tgt := 10) d_MO_which_136 (by decide) ?_
            refine ab_iload d_MO_which_10 rfl ?_
            refine ab_bipush (v := 6) d_MO_which_12 (by decide) ?_
            refine ab_icmp_ge (tgt := 139) d_MO_which_14 (by decide) (fun c => absurd c (by decide)) (fun _ => ?_)
            refine ab_iload_n d_MO_which_17 rfl ?_
            refine ab_iload d_MO_which_18 rfl ?_
            refine ab_ishr d_MO_which_20 ?_
            refine ab_iconst (v := 1) d_MO_which_21 (by decide) ?_
            refine ab_iand d_MO_which_22 ?_
            refine ab_if_eq (tgt := 133) d_MO_which_23 (by decide) (fun c5 => ?_) (fun c5 => ?_)
            · refine ab_iinc (v := 6) d_MO_which_133 rfl (by decide) (Nat.le_of_ble_eq_true rfl) (Nat.le_of_ble_eq_true rfl) rfl ?_
              change ab_W _ _ _ G1 136 [some (vR 80), some (vI s), some (vI w), some (vI 0), some (vI 6), none, none] [] _
              refine ab_goto (tgt := 10) d_MO_which_136 (by decide) ?_
              refine ab_iload d_MO_which_10 rfl ?_
              refine ab_bipush (v := 6) d_MO_which_12 (by decide) ?_
              refine ab_icmp_ge (tgt := 139) d_MO_which_14 (by decide) (fun _ => ?_) (fun c => absurd c (by decide))
              refine ab_iload_n d_MO_which_139 rfl ?_
              exact ab_iret (rt := .int) rfl rfl d_MO_which_140 (by rw [hQ]; exact ⟨rfl, eG1⟩)
            · refine ab_aload_n d_MO_which_26 rfl ?_
              refine ab_getf (fs := List.set m_f 2 (vI 0)) f_MO_109 d_MO_which_27 h80 rfl ?_
              refine ab_iload d_MO_which_30 rfl ?_
              refine ab_zald d_MO_which_32 h112 (by unfold vp_in; decide) ?_
              refine ab_topi (y := 0) rfl ?_
              refine ab_if_ne (tgt := 39) d_MO_which_33 (by decide) (fun c => absurd c (by decide)) (fun _ => ?_)
              refine ab_goto (tgt := 133) d_MO_which_36 (by decide) ?_
              refine ab_iinc (v := 6) d_MO_which_133 rfl (by decide) (Nat.le_of_ble_eq_true rfl) (Nat.le_of_ble_eq_true rfl) rfl ?_
              change ab_W _ _ _ G1 136 [some (vR 80), some (vI s), some (vI w), some (vI 0), some (vI 6), none, none] [] _
              refine ab_goto (tgt := 10) d_MO_which_136 (by decide) ?_
              refine ab_iload d_MO_which_10 rfl ?_
              refine ab_bipush (v := 6) d_MO_which_12 (by decide) ?_
              refine ab_icmp_ge (tgt := 139) d_MO_which_14 (by decide) (fun _ => ?_) (fun c => absurd c (by decide))
              refine ab_iload_n d_MO_which_139 rfl ?_
              exact ab_iret (rt := .int) rfl rfl d_MO_which_140 (by rw [hQ]; exact ⟨rfl, eG1⟩)
          · refine ab_aload_n d_MO_which_26 rfl ?_
            refine ab_getf (fs := List.set m_f 2 (vI 0)) f_MO_109 d_MO_which_27 h80 rfl ?_
            refine ab_iload d_MO_which_30 rfl ?_
            refine ab_zald d_MO_which_32 h112 (by unfold vp_in; decide) ?_
            refine ab_topi (y := 0) rfl ?_
            refine ab_if_ne (tgt := 39) d_MO_which_33 (by decide) (fun c => absurd c (by decide)) (fun _ => ?_)
            refine ab_goto (tgt := 133) d_MO_which_36 (by decide) ?_
            refine ab_iinc (v := 5) d_MO_which_133 rfl (by decide) (Nat.le_of_ble_eq_true rfl) (Nat.le_of_ble_eq_true rfl) rfl ?_
            change ab_W _ _ _ G1 136 [some (vR 80), some (vI s), some (vI w), some (vI 0), some (vI 5), none, none] [] _
            refine ab_goto (tgt := 10) d_MO_which_136 (by decide) ?_
            refine ab_iload d_MO_which_10 rfl ?_
            refine ab_bipush (v := 6) d_MO_which_12 (by decide) ?_
            refine ab_icmp_ge (tgt := 139) d_MO_which_14 (by decide) (fun c => absurd c (by decide)) (fun _ => ?_)
            refine ab_iload_n d_MO_which_17 rfl ?_
            refine ab_iload d_MO_which_18 rfl ?_
            refine ab_ishr d_MO_which_20 ?_
            refine ab_iconst (v := 1) d_MO_which_21 (by decide) ?_
            refine ab_iand d_MO_which_22 ?_
            refine ab_if_eq (tgt := 133) d_MO_which_23 (by decide) (fun c5 => ?_) (fun c5 => ?_)
            · refine ab_iinc (v := 6) d_MO_which_133 rfl (by decide) (Nat.le_of_ble_eq_true rfl) (Nat.le_of_ble_eq_true rfl) rfl ?_
              change ab_W _ _ _ G1 136 [some (vR 80), some (vI s), some (vI w), some (vI 0), some (vI 6), none, none] [] _
              refine ab_goto (tgt := 10) d_MO_which_136 (by decide) ?_
              refine ab_iload d_MO_which_10 rfl ?_
              refine ab_bipush (v := 6) d_MO_which_12 (by decide) ?_
              refine ab_icmp_ge (tgt := 139) d_MO_which_14 (by decide) (fun _ => ?_) (fun c => absurd c (by decide))
              refine ab_iload_n d_MO_which_139 rfl ?_
              exact ab_iret (rt := .int) rfl rfl d_MO_which_140 (by rw [hQ]; exact ⟨rfl, eG1⟩)
            · refine ab_aload_n d_MO_which_26 rfl ?_
              refine ab_getf (fs := List.set m_f 2 (vI 0)) f_MO_109 d_MO_which_27 h80 rfl ?_
              refine ab_iload d_MO_which_30 rfl ?_
              refine ab_zald d_MO_which_32 h112 (by unfold vp_in; decide) ?_
              refine ab_topi (y := 0) rfl ?_
              refine ab_if_ne (tgt := 39) d_MO_which_33 (by decide) (fun c => absurd c (by decide)) (fun _ => ?_)
              refine ab_goto (tgt := 133) d_MO_which_36 (by decide) ?_
              refine ab_iinc (v := 6) d_MO_which_133 rfl (by decide) (Nat.le_of_ble_eq_true rfl) (Nat.le_of_ble_eq_true rfl) rfl ?_
              change ab_W _ _ _ G1 136 [some (vR 80), some (vI s), some (vI w), some (vI 0), some (vI 6), none, none] [] _
              refine ab_goto (tgt := 10) d_MO_which_136 (by decide) ?_
              refine ab_iload d_MO_which_10 rfl ?_
              refine ab_bipush (v := 6) d_MO_which_12 (by decide) ?_
              refine ab_icmp_ge (tgt := 139) d_MO_which_14 (by decide) (fun _ => ?_) (fun c => absurd c (by decide))
              refine ab_iload_n d_MO_which_139 rfl ?_
              exact ab_iret (rt := .int) rfl rfl d_MO_which_140 (by rw [hQ]; exact ⟨rfl, eG1⟩)
      · refine ab_aload_n d_MO_which_26 rfl ?_
        refine ab_getf (fs := List.set m_f 2 (vI 0)) f_MO_109 d_MO_which_27 h80 rfl ?_
        refine ab_iload d_MO_which_30 rfl ?_
        refine ab_zald d_MO_which_32 h112 (by unfold vp_in; decide) ?_
        refine ab_topi (y := 0) rfl ?_
        refine ab_if_ne (tgt := 39) d_MO_which_33 (by decide) (fun c => absurd c (by decide)) (fun _ => ?_)
        refine ab_goto (tgt := 133) d_MO_which_36 (by decide) ?_
        refine ab_iinc (v := 3) d_MO_which_133 rfl (by decide) (Nat.le_of_ble_eq_true rfl) (Nat.le_of_ble_eq_true rfl) rfl ?_
        change ab_W _ _ _ G1 136 [some (vR 80), some (vI s), some (vI w), some (vI 0), some (vI 3), none, none] [] _
        refine ab_goto (tgt := 10) d_MO_which_136 (by decide) ?_
        refine ab_iload d_MO_which_10 rfl ?_
        refine ab_bipush (v := 6) d_MO_which_12 (by decide) ?_
        refine ab_icmp_ge (tgt := 139) d_MO_which_14 (by decide) (fun c => absurd c (by decide)) (fun _ => ?_)
        refine ab_iload_n d_MO_which_17 rfl ?_
        refine ab_iload d_MO_which_18 rfl ?_
        refine ab_ishr d_MO_which_20 ?_
        refine ab_iconst (v := 1) d_MO_which_21 (by decide) ?_
        refine ab_iand d_MO_which_22 ?_
        refine ab_if_eq (tgt := 133) d_MO_which_23 (by decide) (fun c3 => ?_) (fun c3 => ?_)
        · refine ab_iinc (v := 4) d_MO_which_133 rfl (by decide) (Nat.le_of_ble_eq_true rfl) (Nat.le_of_ble_eq_true rfl) rfl ?_
          change ab_W _ _ _ G1 136 [some (vR 80), some (vI s), some (vI w), some (vI 0), some (vI 4), none, none] [] _
          refine ab_goto (tgt := 10) d_MO_which_136 (by decide) ?_
          refine ab_iload d_MO_which_10 rfl ?_
          refine ab_bipush (v := 6) d_MO_which_12 (by decide) ?_
          refine ab_icmp_ge (tgt := 139) d_MO_which_14 (by decide) (fun c => absurd c (by decide)) (fun _ => ?_)
          refine ab_iload_n d_MO_which_17 rfl ?_
          refine ab_iload d_MO_which_18 rfl ?_
          refine ab_ishr d_MO_which_20 ?_
          refine ab_iconst (v := 1) d_MO_which_21 (by decide) ?_
          refine ab_iand d_MO_which_22 ?_
          refine ab_if_eq (tgt := 133) d_MO_which_23 (by decide) (fun c4 => ?_) (fun c4 => ?_)
          · refine ab_iinc (v := 5) d_MO_which_133 rfl (by decide) (Nat.le_of_ble_eq_true rfl) (Nat.le_of_ble_eq_true rfl) rfl ?_
            change ab_W _ _ _ G1 136 [some (vR 80), some (vI s), some (vI w), some (vI 0), some (vI 5), none, none] [] _
            refine ab_goto (tgt := 10) d_MO_which_136 (by decide) ?_
            refine ab_iload d_MO_which_10 rfl ?_
            refine ab_bipush (v := 6) d_MO_which_12 (by decide) ?_
            refine ab_icmp_ge (tgt := 139) d_MO_which_14 (by decide) (fun c => absurd c (by decide)) (fun _ => ?_)
            refine ab_iload_n d_MO_which_17 rfl ?_
            refine ab_iload d_MO_which_18 rfl ?_
            refine ab_ishr d_MO_which_20 ?_
            refine ab_iconst (v := 1) d_MO_which_21 (by decide) ?_
            refine ab_iand d_MO_which_22 ?_
            refine ab_if_eq (tgt := 133) d_MO_which_23 (by decide) (fun c5 => ?_) (fun c5 => ?_)
            · refine ab_iinc (v := 6) d_MO_which_133 rfl (by decide) (Nat.le_of_ble_eq_true rfl) (Nat.le_of_ble_eq_true rfl) rfl ?_
              change ab_W _ _ _ G1 136 [some (vR 80), some (vI s), some (vI w), some (vI 0), some (vI 6), none, none] [] _
              refine ab_goto (tgt := 10) d_MO_which_136 (by decide) ?_
              refine ab_iload d_MO_which_10 rfl ?_
              refine ab_bipush (v := 6) d_MO_which_12 (by decide) ?_
              refine ab_icmp_ge (tgt := 139) d_MO_which_14 (by decide) (fun _ => ?_) (fun c => absurd c (by decide))
              refine ab_iload_n d_MO_which_139 rfl ?_
              exact ab_iret (rt := .int) rfl rfl d_MO_which_140 (by rw [hQ]; exact ⟨rfl, eG1⟩)
            · refine ab_aload_n d_MO_which_26 rfl ?_
              refine ab_getf (fs := List.set m_f 2 (vI 0)) f_MO_109 d_MO_which_27 h80 rfl ?_
              refine ab_iload d_MO_which_30 rfl ?_
              refine ab_zald d_MO_which_32 h112 (by unfold vp_in; decide) ?_
              refine ab_topi (y := 0) rfl ?_
              refine ab_if_ne (tgt := 39) d_MO_which_33 (by decide) (fun c => absurd c (by decide)) (fun _ => ?_)
              refine ab_goto (tgt := 133) d_MO_which_36 (by decide) ?_
              refine ab_iinc (v := 6) d_MO_which_133 rfl (by decide) (Nat.le_of_ble_eq_true rfl) (Nat.le_of_ble_eq_true rfl) rfl ?_
              change ab_W _ _ _ G1 136 [some (vR 80), some (vI s), some (vI w), some (vI 0), some (vI 6), none, none] [] _
              refine ab_goto (tgt := 10) d_MO_which_136 (by decide) ?_
              refine ab_iload d_MO_which_10 rfl ?_
              refine ab_bipush (v := 6) d_MO_which_12 (by decide) ?_
              refine ab_icmp_ge (tgt := 139) d_MO_which_14 (by decide) (fun _ => ?_) (fun c => absurd c (by decide))
              refine ab_iload_n d_MO_which_139 rfl ?_
              exact ab_iret (rt := .int) rfl rfl d_MO_which_140 (by rw [hQ]; exact ⟨rfl, eG1⟩)
          · refine ab_aload_n d_MO_which_26 rfl ?_
            refine ab_getf (fs := List.set m_f 2 (vI 0)) f_MO_109 d_MO_which_27 h80 rfl ?_
            refine ab_iload d_MO_which_30 rfl ?_
            refine ab_zald d_MO_which_32 h112 (by unfold vp_in; decide) ?_
            refine ab_topi (y := 0) rfl ?_
            refine ab_if_ne (tgt := 39) d_MO_which_33 (by decide) (fun c => absurd c (by decide)) (fun _ => ?_)
            refine ab_goto (tgt := 133) d_MO_which_36 (by decide) ?_
            refine ab_iinc (v := 5) d_MO_which_133 rfl (by decide) (Nat.le_of_ble_eq_true rfl) (Nat.le_of_ble_eq_true rfl) rfl ?_
            change ab_W _ _ _ G1 136 [some (vR 80), some (vI s), some (vI w), some (vI 0), some (vI 5), none, none] [] _
            refine ab_goto (tgt := 10) d_MO_which_136 (by decide) ?_
            refine ab_iload d_MO_which_10 rfl ?_
            refine ab_bipush (v := 6) d_MO_which_12 (by decide) ?_
            refine ab_icmp_ge (tgt := 139) d_MO_which_14 (by decide) (fun c => absurd c (by decide)) (fun _ => ?_)
            refine ab_iload_n d_MO_which_17 rfl ?_
            refine ab_iload d_MO_which_18 rfl ?_
            refine ab_ishr d_MO_which_20 ?_
            refine ab_iconst (v := 1) d_MO_which_21 (by decide) ?_
            refine ab_iand d_MO_which_22 ?_
            refine ab_if_eq (tgt := 133) d_MO_which_23 (by decide) (fun c5 => ?_) (fun c5 => ?_)
            · refine ab_iinc (v := 6) d_MO_which_133 rfl (by decide) (Nat.le_of_ble_eq_true rfl) (Nat.le_of_ble_eq_true rfl) rfl ?_
              change ab_W _ _ _ G1 136 [some (vR 80), some (vI s), some (vI w), some (vI 0), some (vI 6), none, none] [] _
              refine ab_goto (tgt := 10) d_MO_which_136 (by decide) ?_
              refine ab_iload d_MO_which_10 rfl ?_
              refine ab_bipush (v := 6) d_MO_which_12 (by decide) ?_
              refine ab_icmp_ge (tgt := 139) d_MO_which_14 (by decide) (fun _ => ?_) (fun c => absurd c (by decide))
              refine ab_iload_n d_MO_which_139 rfl ?_
              exact ab_iret (rt := .int) rfl rfl d_MO_which_140 (by rw [hQ]; exact ⟨rfl, eG1⟩)
            · refine ab_aload_n d_MO_which_26 rfl ?_
              refine ab_getf (fs := List.set m_f 2 (vI 0)) f_MO_109 d_MO_which_27 h80 rfl ?_
              refine ab_iload d_MO_which_30 rfl ?_
              refine ab_zald d_MO_which_32 h112 (by unfold vp_in; decide) ?_
              refine ab_topi (y := 0) rfl ?_
              refine ab_if_ne (tgt := 39) d_MO_which_33 (by decide) (fun c => absurd c (by decide)) (fun _ => ?_)
              refine ab_goto (tgt := 133) d_MO_which_36 (by decide) ?_
              refine ab_iinc (v := 6) d_MO_which_133 rfl (by decide) (Nat.le_of_ble_eq_true rfl) (Nat.le_of_ble_eq_true rfl) rfl ?_
              change ab_W _ _ _ G1 136 [some (vR 80), some (vI s), some (vI w), some (vI 0), some (vI 6), none, none] [] _
              refine ab_goto (tgt := 10) d_MO_which_136 (by decide) ?_
              refine ab_iload d_MO_which_10 rfl ?_
              refine ab_bipush (v := 6) d_MO_which_12 (by decide) ?_
              refine ab_icmp_ge (tgt := 139) d_MO_which_14 (by decide) (fun _ => ?_) (fun c => absurd c (by decide))
              refine ab_iload_n d_MO_which_139 rfl ?_
              exact ab_iret (rt := .int) rfl rfl d_MO_which_140 (by rw [hQ]; exact ⟨rfl, eG1⟩)
        · refine ab_aload_n d_MO_which_26 rfl ?_
          refine ab_getf (fs := List.set m_f 2 (vI 0)) f_MO_109 d_MO_which_27 h80 rfl ?_
          refine ab_iload d_MO_which_30 rfl ?_
          refine ab_zald d_MO_which_32 h112 (by unfold vp_in; decide) ?_
          refine ab_topi (y := 0) rfl ?_
          refine ab_if_ne (tgt := 39) d_MO_which_33 (by decide) (fun c => absurd c (by decide)) (fun _ => ?_)
          refine ab_goto (tgt := 133) d_MO_which_36 (by decide) ?_
          refine ab_iinc (v := 4) d_MO_which_133 rfl (by decide) (Nat.le_of_ble_eq_true rfl) (Nat.le_of_ble_eq_true rfl) rfl ?_
          change ab_W _ _ _ G1 136 [some (vR 80), some (vI s), some (vI w), some (vI 0), some (vI 4), none, none] [] _
          refine ab_goto (tgt := 10) d_MO_which_136 (by decide) ?_
          refine ab_iload d_MO_which_10 rfl ?_
          refine ab_bipush (v := 6) d_MO_which_12 (by decide) ?_
          refine ab_icmp_ge (tgt := 139) d_MO_which_14 (by decide) (fun c => absurd c (by decide)) (fun _ => ?_)
          refine ab_iload_n d_MO_which_17 rfl ?_
          refine ab_iload d_MO_which_18 rfl ?_
          refine ab_ishr d_MO_which_20 ?_
          refine ab_iconst (v := 1) d_MO_which_21 (by decide) ?_
          refine ab_iand d_MO_which_22 ?_
          refine ab_if_eq (tgt := 133) d_MO_which_23 (by decide) (fun c4 => ?_) (fun c4 => ?_)
          · refine ab_iinc (v := 5) d_MO_which_133 rfl (by decide) (Nat.le_of_ble_eq_true rfl) (Nat.le_of_ble_eq_true rfl) rfl ?_
            change ab_W _ _ _ G1 136 [some (vR 80), some (vI s), some (vI w), some (vI 0), some (vI 5), none, none] [] _
            refine ab_goto (tgt := 10) d_MO_which_136 (by decide) ?_
            refine ab_iload d_MO_which_10 rfl ?_
            refine ab_bipush (v := 6) d_MO_which_12 (by decide) ?_
            refine ab_icmp_ge (tgt := 139) d_MO_which_14 (by decide) (fun c => absurd c (by decide)) (fun _ => ?_)
            refine ab_iload_n d_MO_which_17 rfl ?_
            refine ab_iload d_MO_which_18 rfl ?_
            refine ab_ishr d_MO_which_20 ?_
            refine ab_iconst (v := 1) d_MO_which_21 (by decide) ?_
            refine ab_iand d_MO_which_22 ?_
            refine ab_if_eq (tgt := 133) d_MO_which_23 (by decide) (fun c5 => ?_) (fun c5 => ?_)
            · refine ab_iinc (v := 6) d_MO_which_133 rfl (by decide) (Nat.le_of_ble_eq_true rfl) (Nat.le_of_ble_eq_true rfl) rfl ?_
              change ab_W _ _ _ G1 136 [some (vR 80), some (vI s), some (vI w), some (vI 0), some (vI 6), none, none] [] _
              refine ab_goto (tgt := 10) d_MO_which_136 (by decide) ?_
              refine ab_iload d_MO_which_10 rfl ?_
              refine ab_bipush (v := 6) d_MO_which_12 (by decide) ?_
              refine ab_icmp_ge (tgt := 139) d_MO_which_14 (by decide) (fun _ => ?_) (fun c => absurd c (by decide))
              refine ab_iload_n d_MO_which_139 rfl ?_
              exact ab_iret (rt := .int) rfl rfl d_MO_which_140 (by rw [hQ]; exact ⟨rfl, eG1⟩)
            · refine ab_aload_n d_MO_which_26 rfl ?_
              refine ab_getf (fs := List.set m_f 2 (vI 0)) f_MO_109 d_MO_which_27 h80 rfl ?_
              refine ab_iload d_MO_which_30 rfl ?_
              refine ab_zald d_MO_which_32 h112 (by unfold vp_in; decide) ?_
              refine ab_topi (y := 0) rfl ?_
              refine ab_if_ne (tgt := 39) d_MO_which_33 (by decide) (fun c => absurd c (by decide)) (fun _ => ?_)
              refine ab_goto (tgt := 133) d_MO_which_36 (by decide) ?_
              refine ab_iinc (v := 6) d_MO_which_133 rfl (by decide) (Nat.le_of_ble_eq_true rfl) (Nat.le_of_ble_eq_true rfl) rfl ?_
              change ab_W _ _ _ G1 136 [some (vR 80), some (vI s), some (vI w), some (vI 0), some (vI 6), none, none] [] _
              refine ab_goto (tgt := 10) d_MO_which_136 (by decide) ?_
              refine ab_iload d_MO_which_10 rfl ?_
              refine ab_bipush (v := 6) d_MO_which_12 (by decide) ?_
              refine ab_icmp_ge (tgt := 139) d_MO_which_14 (by decide) (fun _ => ?_) (fun c => absurd c (by decide))
              refine ab_iload_n d_MO_which_139 rfl ?_
              exact ab_iret (rt := .int) rfl rfl d_MO_which_140 (by rw [hQ]; exact ⟨rfl, eG1⟩)
          · refine ab_aload_n d_MO_which_26 rfl ?_
            refine ab_getf (fs := List.set m_f 2 (vI 0)) f_MO_109 d_MO_which_27 h80 rfl ?_
            refine ab_iload d_MO_which_30 rfl ?_
            refine ab_zald d_MO_which_32 h112 (by unfold vp_in; decide) ?_
            refine ab_topi (y := 0) rfl ?_
            refine ab_if_ne (tgt := 39) d_MO_which_33 (by decide) (fun c => absurd c (by decide)) (fun _ => ?_)
            refine ab_goto (tgt := 133) d_MO_which_36 (by decide) ?_
            refine ab_iinc (v := 5) d_MO_which_133 rfl (by decide) (Nat.le_of_ble_eq_true rfl) (Nat.le_of_ble_eq_true rfl) rfl ?_
            change ab_W _ _ _ G1 136 [some (vR 80), some (vI s), some (vI w), some (vI 0), some (vI 5), none, none] [] _
            refine ab_goto (tgt := 10) d_MO_which_136 (by decide) ?_
            refine ab_iload d_MO_which_10 rfl ?_
            refine ab_bipush (v := 6) d_MO_which_12 (by decide) ?_
            refine ab_icmp_ge (tgt := 139) d_MO_which_14 (by decide) (fun c => absurd c (by decide)) (fun _ => ?_)
            refine ab_iload_n d_MO_which_17 rfl ?_
            refine ab_iload d_MO_which_18 rfl ?_
            refine ab_ishr d_MO_which_20 ?_
            refine ab_iconst (v := 1) d_MO_which_21 (by decide) ?_
            refine ab_iand d_MO_which_22 ?_
            refine ab_if_eq (tgt := 133) d_MO_which_23 (by decide) (fun c5 => ?_) (fun c5 => ?_)
            · refine ab_iinc (v := 6) d_MO_which_133 rfl (by decide) (Nat.le_of_ble_eq_true rfl) (Nat.le_of_ble_eq_true rfl) rfl ?_
              change ab_W _ _ _ G1 136 [some (vR 80), some (vI s), some (vI w), some (vI 0), some (vI 6), none, none] [] _
              refine ab_goto (tgt := 10) d_MO_which_136 (by decide) ?_
              refine ab_iload d_MO_which_10 rfl ?_
              refine ab_bipush (v := 6) d_MO_which_12 (by decide) ?_
              refine ab_icmp_ge (tgt := 139) d_MO_which_14 (by decide) (fun _ => ?_) (fun c => absurd c (by decide))
              refine ab_iload_n d_MO_which_139 rfl ?_
              exact ab_iret (rt := .int) rfl rfl d_MO_which_140 (by rw [hQ]; exact ⟨rfl, eG1⟩)
            · refine ab_aload_n d_MO_which_26 rfl ?_
              refine ab_getf (fs := List.set m_f 2 (vI 0)) f_MO_109 d_MO_which_27 h80 rfl ?_
              refine ab_iload d_MO_which_30 rfl ?_
              refine ab_zald d_MO_which_32 h112 (by unfold vp_in; decide) ?_
              refine ab_topi (y := 0) rfl ?_
              refine ab_if_ne (tgt := 39) d_MO_which_33 (by decide) (fun c => absurd c (by decide)) (fun _ => ?_)
              refine ab_goto (tgt := 133) d_MO_which_36 (by decide) ?_
              refine ab_iinc (v := 6) d_MO_which_133 rfl (by decide) (Nat.le_of_ble_eq_true rfl) (Nat.le_of_ble_eq_true rfl) rfl ?_
              change ab_W _ _ _ G1 136 [some (vR 80), some (vI s), some (vI w), some (vI 0), some (vI 6), none, none] [] _
              refine ab_goto (tgt := 10) d_MO_which_136 (by decide) ?_
              refine ab_iload d_MO_which_10 rfl ?_
              refine ab_bipush (v := 6) d_MO_which_12 (by decide) ?_
              refine ab_icmp_ge (tgt := 139) d_MO_which_14 (by decide) (fun _ => ?_) (fun c => absurd c (by decide))
              refine ab_iload_n d_MO_which_139 rfl ?_
              exact ab_iret (rt := .int) rfl rfl d_MO_which_140 (by rw [hQ]; exact ⟨rfl, eG1⟩)
    · refine ab_aload_n d_MO_which_26 rfl ?_
      refine ab_getf (fs := List.set m_f 2 (vI 0)) f_MO_109 d_MO_which_27 h80 rfl ?_
      refine ab_iload d_MO_which_30 rfl ?_
      refine ab_zald d_MO_which_32 h112 (by unfold vp_in; decide) ?_
      refine ab_topi (y := 0) rfl ?_
      refine ab_if_ne (tgt := 39) d_MO_which_33 (by decide) (fun c => absurd c (by decide)) (fun _ => ?_)
      refine ab_goto (tgt := 133) d_MO_which_36 (by decide) ?_
      refine ab_iinc (v := 2) d_MO_which_133 rfl (by decide) (Nat.le_of_ble_eq_true rfl) (Nat.le_of_ble_eq_true rfl) rfl ?_
      change ab_W _ _ _ G1 136 [some (vR 80), some (vI s), some (vI w), some (vI 0), some (vI 2), none, none] [] _
      refine ab_goto (tgt := 10) d_MO_which_136 (by decide) ?_
      refine ab_iload d_MO_which_10 rfl ?_
      refine ab_bipush (v := 6) d_MO_which_12 (by decide) ?_
      refine ab_icmp_ge (tgt := 139) d_MO_which_14 (by decide) (fun c => absurd c (by decide)) (fun _ => ?_)
      refine ab_iload_n d_MO_which_17 rfl ?_
      refine ab_iload d_MO_which_18 rfl ?_
      refine ab_ishr d_MO_which_20 ?_
      refine ab_iconst (v := 1) d_MO_which_21 (by decide) ?_
      refine ab_iand d_MO_which_22 ?_
      refine ab_if_eq (tgt := 133) d_MO_which_23 (by decide) (fun c2 => ?_) (fun c2 => ?_)
      · refine ab_iinc (v := 3) d_MO_which_133 rfl (by decide) (Nat.le_of_ble_eq_true rfl) (Nat.le_of_ble_eq_true rfl) rfl ?_
        change ab_W _ _ _ G1 136 [some (vR 80), some (vI s), some (vI w), some (vI 0), some (vI 3), none, none] [] _
        refine ab_goto (tgt := 10) d_MO_which_136 (by decide) ?_
        refine ab_iload d_MO_which_10 rfl ?_
        refine ab_bipush (v := 6) d_MO_which_12 (by decide) ?_
        refine ab_icmp_ge (tgt := 139) d_MO_which_14 (by decide) (fun c => absurd c (by decide)) (fun _ => ?_)
        refine ab_iload_n d_MO_which_17 rfl ?_
        refine ab_iload d_MO_which_18 rfl ?_
        refine ab_ishr d_MO_which_20 ?_
        refine ab_iconst (v := 1) d_MO_which_21 (by decide) ?_
        refine ab_iand d_MO_which_22 ?_
        refine ab_if_eq (tgt := 133) d_MO_which_23 (by decide) (fun c3 => ?_) (fun c3 => ?_)
        · refine ab_iinc (v := 4) d_MO_which_133 rfl (by decide) (Nat.le_of_ble_eq_true rfl) (Nat.le_of_ble_eq_true rfl) rfl ?_
          change ab_W _ _ _ G1 136 [some (vR 80), some (vI s), some (vI w), some (vI 0), some (vI 4), none, none] [] _
          refine ab_goto (tgt := 10) d_MO_which_136 (by decide) ?_
          refine ab_iload d_MO_which_10 rfl ?_
          refine ab_bipush (v := 6) d_MO_which_12 (by decide) ?_
          refine ab_icmp_ge (tgt := 139) d_MO_which_14 (by decide) (fun c => absurd c (by decide)) (fun _ => ?_)
          refine ab_iload_n d_MO_which_17 rfl ?_
          refine ab_iload d_MO_which_18 rfl ?_
          refine ab_ishr d_MO_which_20 ?_
          refine ab_iconst (v := 1) d_MO_which_21 (by decide) ?_
          refine ab_iand d_MO_which_22 ?_
          refine ab_if_eq (tgt := 133) d_MO_which_23 (by decide) (fun c4 => ?_) (fun c4 => ?_)
          · refine ab_iinc (v := 5) d_MO_which_133 rfl (by decide) (Nat.le_of_ble_eq_true rfl) (Nat.le_of_ble_eq_true rfl) rfl ?_
            change ab_W _ _ _ G1 136 [some (vR 80), some (vI s), some (vI w), some (vI 0), some (vI 5), none, none] [] _
            refine ab_goto (tgt := 10) d_MO_which_136 (by decide) ?_
            refine ab_iload d_MO_which_10 rfl ?_
            refine ab_bipush (v := 6) d_MO_which_12 (by decide) ?_
            refine ab_icmp_ge (tgt := 139) d_MO_which_14 (by decide) (fun c => absurd c (by decide)) (fun _ => ?_)
            refine ab_iload_n d_MO_which_17 rfl ?_
            refine ab_iload d_MO_which_18 rfl ?_
            refine ab_ishr d_MO_which_20 ?_
            refine ab_iconst (v := 1) d_MO_which_21 (by decide) ?_
            refine ab_iand d_MO_which_22 ?_
            refine ab_if_eq (tgt := 133) d_MO_which_23 (by decide) (fun c5 => ?_) (fun c5 => ?_)
            · refine ab_iinc (v := 6) d_MO_which_133 rfl (by decide) (Nat.le_of_ble_eq_true rfl) (Nat.le_of_ble_eq_true rfl) rfl ?_
              change ab_W _ _ _ G1 136 [some (vR 80), some (vI s), some (vI w), some (vI 0), some (vI 6), none, none] [] _
              refine ab_goto (tgt := 10) d_MO_which_136 (by decide) ?_
              refine ab_iload d_MO_which_10 rfl ?_
              refine ab_bipush (v := 6) d_MO_which_12 (by decide) ?_
              refine ab_icmp_ge (tgt := 139) d_MO_which_14 (by decide) (fun _ => ?_) (fun c => absurd c (by decide))
              refine ab_iload_n d_MO_which_139 rfl ?_
              exact ab_iret (rt := .int) rfl rfl d_MO_which_140 (by rw [hQ]; exact ⟨rfl, eG1⟩)
            · refine ab_aload_n d_MO_which_26 rfl ?_
              refine ab_getf (fs := List.set m_f 2 (vI 0)) f_MO_109 d_MO_which_27 h80 rfl ?_
              refine ab_iload d_MO_which_30 rfl ?_
              refine ab_zald d_MO_which_32 h112 (by unfold vp_in; decide) ?_
              refine ab_topi (y := 0) rfl ?_
              refine ab_if_ne (tgt := 39) d_MO_which_33 (by decide) (fun c => absurd c (by decide)) (fun _ => ?_)
              refine ab_goto (tgt := 133) d_MO_which_36 (by decide) ?_
              refine ab_iinc (v := 6) d_MO_which_133 rfl (by decide) (Nat.le_of_ble_eq_true rfl) (Nat.le_of_ble_eq_true rfl) rfl ?_
              change ab_W _ _ _ G1 136 [some (vR 80), some (vI s), some (vI w), some (vI 0), some (vI 6), none, none] [] _
              refine ab_goto (tgt := 10) d_MO_which_136 (by decide) ?_
              refine ab_iload d_MO_which_10 rfl ?_
              refine ab_bipush (v := 6) d_MO_which_12 (by decide) ?_
              refine ab_icmp_ge (tgt := 139) d_MO_which_14 (by decide) (fun _ => ?_) (fun c => absurd c (by decide))
              refine ab_iload_n d_MO_which_139 rfl ?_
              exact ab_iret (rt := .int) rfl rfl d_MO_which_140 (by rw [hQ]; exact ⟨rfl, eG1⟩)
          · refine ab_aload_n d_MO_which_26 rfl ?_
            refine ab_getf (fs := List.set m_f 2 (vI 0)) f_MO_109 d_MO_which_27 h80 rfl ?_
            refine ab_iload d_MO_which_30 rfl ?_
            refine ab_zald d_MO_which_32 h112 (by unfold vp_in; decide) ?_
            refine ab_topi (y := 0) rfl ?_
            refine ab_if_ne (tgt := 39) d_MO_which_33 (by decide) (fun c => absurd c (by decide)) (fun _ => ?_)
            refine ab_goto (tgt := 133) d_MO_which_36 (by decide) ?_
            refine ab_iinc (v := 5) d_MO_which_133 rfl (by decide) (Nat.le_of_ble_eq_true rfl) (Nat.le_of_ble_eq_true rfl) rfl ?_
            change ab_W _ _ _ G1 136 [some (vR 80), some (vI s), some (vI w), some (vI 0), some (vI 5), none, none] [] _
            refine ab_goto (tgt := 10) d_MO_which_136 (by decide) ?_
            refine ab_iload d_MO_which_10 rfl ?_
            refine ab_bipush (v := 6) d_MO_which_12 (by decide) ?_
            refine ab_icmp_ge (tgt := 139) d_MO_which_14 (by decide) (fun c => absurd c (by decide)) (fun _ => ?_)
            refine ab_iload_n d_MO_which_17 rfl ?_
            refine ab_iload d_MO_which_18 rfl ?_
            refine ab_ishr d_MO_which_20 ?_
            refine ab_iconst (v := 1) d_MO_which_21 (by decide) ?_
            refine ab_iand d_MO_which_22 ?_
            refine ab_if_eq (tgt := 133) d_MO_which_23 (by decide) (fun c5 => ?_) (fun c5 => ?_)
            · refine ab_iinc (v := 6) d_MO_which_133 rfl (by decide) (Nat.le_of_ble_eq_true rfl) (Nat.le_of_ble_eq_true rfl) rfl ?_
              change ab_W _ _ _ G1 136 [some (vR 80), some (vI s), some (vI w), some (vI 0), some (vI 6), none, none] [] _
              refine ab_goto (tgt := 10) d_MO_which_136 (by decide) ?_
              refine ab_iload d_MO_which_10 rfl ?_
              refine ab_bipush (v := 6) d_MO_which_12 (by decide) ?_
              refine ab_icmp_ge (tgt := 139) d_MO_which_14 (by decide) (fun _ => ?_) (fun c => absurd c (by decide))
              refine ab_iload_n d_MO_which_139 rfl ?_
              exact ab_iret (rt := .int) rfl rfl d_MO_which_140 (by rw [hQ]; exact ⟨rfl, eG1⟩)
            · refine ab_aload_n d_MO_which_26 rfl ?_
              refine ab_getf (fs := List.set m_f 2 (vI 0)) f_MO_109 d_MO_which_27 h80 rfl ?_
              refine ab_iload d_MO_which_30 rfl ?_
              refine ab_zald d_MO_which_32 h112 (by unfold vp_in; decide) ?_
              refine ab_topi (y := 0) rfl ?_
              refine ab_if_ne (tgt := 39) d_MO_which_33 (by decide) (fun c => absurd c (by decide)) (fun _ => ?_)
              refine ab_goto (tgt := 133) d_MO_which_36 (by decide) ?_
              refine ab_iinc (v := 6) d_MO_which_133 rfl (by decide) (Nat.le_of_ble_eq_true rfl) (Nat.le_of_ble_eq_true rfl) rfl ?_
              change ab_W _ _ _ G1 136 [some (vR 80), some (vI s), some (vI w), some (vI 0), some (vI 6), none, none] [] _
              refine ab_goto (tgt := 10) d_MO_which_136 (by decide) ?_
              refine ab_iload d_MO_which_10 rfl ?_
              refine ab_bipush (v := 6) d_MO_which_12 (by decide) ?_
              refine ab_icmp_ge (tgt := 139) d_MO_which_14 (by decide) (fun _ => ?_) (fun c => absurd c (by decide))
              refine ab_iload_n d_MO_which_139 rfl ?_
              exact ab_iret (rt := .int) rfl rfl d_MO_which_140 (by rw [hQ]; exact ⟨rfl, eG1⟩)
        · refine ab_aload_n d_MO_which_26 rfl ?_
          refine ab_getf (fs := List.set m_f 2 (vI 0)) f_MO_109 d_MO_which_27 h80 rfl ?_
          refine ab_iload d_MO_which_30 rfl ?_
          refine ab_zald d_MO_which_32 h112 (by unfold vp_in; decide) ?_
          refine ab_topi (y := 0) rfl ?_
          refine ab_if_ne (tgt := 39) d_MO_which_33 (by decide) (fun c => absurd c (by decide)) (fun _ => ?_)
          refine ab_goto (tgt := 133) d_MO_which_36 (by decide) ?_
          refine ab_iinc (v := 4) d_MO_which_133 rfl (by decide) (Nat.le_of_ble_eq_true rfl) (Nat.le_of_ble_eq_true rfl) rfl ?_
          change ab_W _ _ _ G1 136 [some (vR 80), some (vI s), some (vI w), some (vI 0), some (vI 4), none, none] [] _
          refine ab_goto (tgt := 10) d_MO_which_136 (by decide) ?_
          refine ab_iload d_MO_which_10 rfl ?_
          refine ab_bipush (v := 6) d_MO_which_12 (by decide) ?_
          refine ab_icmp_ge (tgt := 139) d_MO_which_14 (by decide) (fun c => absurd c (by decide)) (fun _ => ?_)
          refine ab_iload_n d_MO_which_17 rfl ?_
          refine ab_iload d_MO_which_18 rfl ?_
          refine ab_ishr d_MO_which_20 ?_
          refine ab_iconst (v := 1) d_MO_which_21 (by decide) ?_
          refine ab_iand d_MO_which_22 ?_
          refine ab_if_eq (tgt := 133) d_MO_which_23 (by decide) (fun c4 => ?_) (fun c4 => ?_)
          · refine ab_iinc (v := 5) d_MO_which_133 rfl (by decide) (Nat.le_of_ble_eq_true rfl) (Nat.le_of_ble_eq_true rfl) rfl ?_
            change ab_W _ _ _ G1 136 [some (vR 80), some (vI s), some (vI w), some (vI 0), some (vI 5), none, none] [] _
            refine ab_goto (tgt := 10) d_MO_which_136 (by decide) ?_
            refine ab_iload d_MO_which_10 rfl ?_
            refine ab_bipush (v := 6) d_MO_which_12 (by decide) ?_
            refine ab_icmp_ge (tgt := 139) d_MO_which_14 (by decide) (fun c => absurd c (by decide)) (fun _ => ?_)
            refine ab_iload_n d_MO_which_17 rfl ?_
            refine ab_iload d_MO_which_18 rfl ?_
            refine ab_ishr d_MO_which_20 ?_
            refine ab_iconst (v := 1) d_MO_which_21 (by decide) ?_
            refine ab_iand d_MO_which_22 ?_
            refine ab_if_eq (tgt := 133) d_MO_which_23 (by decide) (fun c5 => ?_) (fun c5 => ?_)
            · refine ab_iinc (v := 6) d_MO_which_133 rfl (by decide) (Nat.le_of_ble_eq_true rfl) (Nat.le_of_ble_eq_true rfl) rfl ?_
              change ab_W _ _ _ G1 136 [some (vR 80), some (vI s), some (vI w), some (vI 0), some (vI 6), none, none] [] _
              refine ab_goto (tgt := 10) d_MO_which_136 (by decide) ?_
              refine ab_iload d_MO_which_10 rfl ?_
              refine ab_bipush (v := 6) d_MO_which_12 (by decide) ?_
              refine ab_icmp_ge (tgt := 139) d_MO_which_14 (by decide) (fun _ => ?_) (fun c => absurd c (by decide))
              refine ab_iload_n d_MO_which_139 rfl ?_
              exact ab_iret (rt := .int) rfl rfl d_MO_which_140 (by rw [hQ]; exact ⟨rfl, eG1⟩)
            · refine ab_aload_n d_MO_which_26 rfl ?_
              refine ab_getf (fs := List.set m_f 2 (vI 0)) f_MO_109 d_MO_which_27 h80 rfl ?_
              refine ab_iload d_MO_which_30 rfl ?_
              refine ab_zald d_MO_which_32 h112 (by unfold vp_in; decide) ?_
              refine ab_topi (y := 0) rfl ?_
              refine ab_if_ne (tgt := 39) d_MO_which_33 (by decide) (fun c => absurd c (by decide)) (fun _ => ?_)
              refine ab_goto (tgt := 133) d_MO_which_36 (by decide) ?_
              refine ab_iinc (v := 6) d_MO_which_133 rfl (by decide) (Nat.le_of_ble_eq_true rfl) (Nat.le_of_ble_eq_true rfl) rfl ?_
              change ab_W _ _ _ G1 136 [some (vR 80), some (vI s), some (vI w), some (vI 0), some (vI 6), none, none] [] _
              refine ab_goto (tgt := 10) d_MO_which_136 (by decide) ?_
              refine ab_iload d_MO_which_10 rfl ?_
              refine ab_bipush (v := 6) d_MO_which_12 (by decide) ?_
              refine ab_icmp_ge (tgt := 139) d_MO_which_14 (by decide) (fun _ => ?_) (fun c => absurd c (by decide))
              refine ab_iload_n d_MO_which_139 rfl ?_
              exact ab_iret (rt := .int) rfl rfl d_MO_which_140 (by rw [hQ]; exact ⟨rfl, eG1⟩)
          · refine ab_aload_n d_MO_which_26 rfl ?_
            refine ab_getf (fs := List.set m_f 2 (vI 0)) f_MO_109 d_MO_which_27 h80 rfl ?_
            refine ab_iload d_MO_which_30 rfl ?_
            refine ab_zald d_MO_which_32 h112 (by unfold vp_in; decide) ?_
            refine ab_topi (y := 0) rfl ?_
            refine ab_if_ne (tgt := 39) d_MO_which_33 (by decide) (fun c => absurd c (by decide)) (fun _ => ?_)
            refine ab_goto (tgt := 133) d_MO_which_36 (by decide) ?_
            refine ab_iinc (v := 5) d_MO_which_133 rfl (by decide) (Nat.le_of_ble_eq_true rfl) (Nat.le_of_ble_eq_true rfl) rfl ?_
            change ab_W _ _ _ G1 136 [some (vR 80), some (vI s), some (vI w), some (vI 0), some (vI 5), none, none] [] _
            refine ab_goto (tgt := 10) d_MO_which_136 (by decide) ?_
            refine ab_iload d_MO_which_10 rfl ?_
            refine ab_bipush (v := 6) d_MO_which_12 (by decide) ?_
            refine ab_icmp_ge (tgt := 139) d_MO_which_14 (by decide) (fun c => absurd c (by decide)) (fun _ => ?_)
            refine ab_iload_n d_MO_which_17 rfl ?_
            refine ab_iload d_MO_which_18 rfl ?_
            refine ab_ishr d_MO_which_20 ?_
            refine ab_iconst (v := 1) d_MO_which_21 (by decide) ?_
            refine ab_iand d_MO_which_22 ?_
            refine ab_if_eq (tgt := 133) d_MO_which_23 (by decide) (fun c5 => ?_) (fun c5 => ?_)
            · refine ab_iinc (v := 6) d_MO_which_133 rfl (by decide) (Nat.le_of_ble_eq_true rfl) (Nat.le_of_ble_eq_true rfl) rfl ?_
              change ab_W _ _ _ G1 136 [some (vR 80), some (vI s), some (vI w), some (vI 0), some (vI 6), none, none] [] _
              refine ab_goto (tgt := 10) d_MO_which_136 (by decide) ?_
              refine ab_iload d_MO_which_10 rfl ?_
              refine ab_bipush (v := 6) d_MO_which_12 (by decide) ?_
              refine ab_icmp_ge (tgt := 139) d_MO_which_14 (by decide) (fun _ => ?_) (fun c => absurd c (by decide))
              refine ab_iload_n d_MO_which_139 rfl ?_
              exact ab_iret (rt := .int) rfl rfl d_MO_which_140 (by rw [hQ]; exact ⟨rfl, eG1⟩)
            · refine ab_aload_n d_MO_which_26 rfl ?_
              refine ab_getf (fs := List.set m_f 2 (vI 0)) f_MO_109 d_MO_which_27 h80 rfl ?_
              refine ab_iload d_MO_which_30 rfl ?_
              refine ab_zald d_MO_which_32 h112 (by unfold vp_in; decide) ?_
              refine ab_topi (y := 0) rfl ?_
              refine ab_if_ne (tgt := 39) d_MO_which_33 (by decide) (fun c => absurd c (by decide)) (fun _ => ?_)
              refine ab_goto (tgt := 133) d_MO_which_36 (by decide) ?_
              refine ab_iinc (v := 6) d_MO_which_133 rfl (by decide) (Nat.le_of_ble_eq_true rfl) (Nat.le_of_ble_eq_true rfl) rfl ?_
              change ab_W _ _ _ G1 136 [some (vR 80), some (vI s), some (vI w), some (vI 0), some (vI 6), none, none] [] _
              refine ab_goto (tgt := 10) d_MO_which_136 (by decide) ?_
              refine ab_iload d_MO_which_10 rfl ?_
              refine ab_bipush (v := 6) d_MO_which_12 (by decide) ?_
              refine ab_icmp_ge (tgt := 139) d_MO_which_14 (by decide) (fun _ => ?_) (fun c => absurd c (by decide))
              refine ab_iload_n d_MO_which_139 rfl ?_
              exact ab_iret (rt := .int) rfl rfl d_MO_which_140 (by rw [hQ]; exact ⟨rfl, eG1⟩)
      · refine ab_aload_n d_MO_which_26 rfl ?_
        refine ab_getf (fs := List.set m_f 2 (vI 0)) f_MO_109 d_MO_which_27 h80 rfl ?_
        refine ab_iload d_MO_which_30 rfl ?_
        refine ab_zald d_MO_which_32 h112 (by unfold vp_in; decide) ?_
        refine ab_topi (y := 0) rfl ?_
        refine ab_if_ne (tgt := 39) d_MO_which_33 (by decide) (fun c => absurd c (by decide)) (fun _ => ?_)
        refine ab_goto (tgt := 133) d_MO_which_36 (by decide) ?_
        refine ab_iinc (v := 3) d_MO_which_133 rfl (by decide) (Nat.le_of_ble_eq_true rfl) (Nat.le_of_ble_eq_true rfl) rfl ?_
        change ab_W _ _ _ G1 136 [some (vR 80), some (vI s), some (vI w), some (vI 0), some (vI 3), none, none] [] _
        refine ab_goto (tgt := 10) d_MO_which_136 (by decide) ?_
        refine ab_iload d_MO_which_10 rfl ?_
        refine ab_bipush (v := 6) d_MO_which_12 (by decide) ?_
        refine ab_icmp_ge (tgt := 139) d_MO_which_14 (by decide) (fun c => absurd c (by decide)) (fun _ => ?_)
        refine ab_iload_n d_MO_which_17 rfl ?_
        refine ab_iload d_MO_which_18 rfl ?_
        refine ab_ishr d_MO_which_20 ?_
        refine ab_iconst (v := 1) d_MO_which_21 (by decide) ?_
        refine ab_iand d_MO_which_22 ?_
        refine ab_if_eq (tgt := 133) d_MO_which_23 (by decide) (fun c3 => ?_) (fun c3 => ?_)
        · refine ab_iinc (v := 4) d_MO_which_133 rfl (by decide) (Nat.le_of_ble_eq_true rfl) (Nat.le_of_ble_eq_true rfl) rfl ?_
          change ab_W _ _ _ G1 136 [some (vR 80), some (vI s), some (vI w), some (vI 0), some (vI 4), none, none] [] _
          refine ab_goto (tgt := 10) d_MO_which_136 (by decide) ?_
          refine ab_iload d_MO_which_10 rfl ?_
          refine ab_bipush (v := 6) d_MO_which_12 (by decide) ?_
          refine ab_icmp_ge (tgt := 139) d_MO_which_14 (by decide) (fun c => absurd c (by decide)) (fun _ => ?_)
          refine ab_iload_n d_MO_which_17 rfl ?_
          refine ab_iload d_MO_which_18 rfl ?_
          refine ab_ishr d_MO_which_20 ?_
          refine ab_iconst (v := 1) d_MO_which_21 (by decide) ?_
          refine ab_iand d_MO_which_22 ?_
          refine ab_if_eq (tgt := 133) d_MO_which_23 (by decide) (fun c4 => ?_) (fun c4 => ?_)
          · refine ab_iinc (v := 5) d_MO_which_133 rfl (by decide) (Nat.le_of_ble_eq_true rfl) (Nat.le_of_ble_eq_true rfl) rfl ?_
            change ab_W _ _ _ G1 136 [some (vR 80), some (vI s), some (vI w), some (vI 0), some (vI 5), none, none] [] _
            refine ab_goto (tgt := 10) d_MO_which_136 (by decide) ?_
            refine ab_iload d_MO_which_10 rfl ?_
            refine ab_bipush (v := 6) d_MO_which_12 (by decide) ?_
            refine ab_icmp_ge (tgt := 139) d_MO_which_14 (by decide) (fun c => absurd c (by decide)) (fun _ => ?_)
            refine ab_iload_n d_MO_which_17 rfl ?_
            refine ab_iload d_MO_which_18 rfl ?_
            refine ab_ishr d_MO_which_20 ?_
            refine ab_iconst (v := 1) d_MO_which_21 (by decide) ?_
            refine ab_iand d_MO_which_22 ?_
            refine ab_if_eq (tgt := 133) d_MO_which_23 (by decide) (fun c5 => ?_) (fun c5 => ?_)
            · refine ab_iinc (v := 6) d_MO_which_133 rfl (by decide) (Nat.le_of_ble_eq_true rfl) (Nat.le_of_ble_eq_true rfl) rfl ?_
              change ab_W _ _ _ G1 136 [some (vR 80), some (vI s), some (vI w), some (vI 0), some (vI 6), none, none] [] _
              refine ab_goto (tgt := 10) d_MO_which_136 (by decide) ?_
              refine ab_iload d_MO_which_10 rfl ?_
              refine ab_bipush (v := 6) d_MO_which_12 (by decide) ?_
              refine ab_icmp_ge (tgt := 139) d_MO_which_14 (by decide) (fun _ => ?_) (fun c => absurd c (by decide))
              refine ab_iload_n d_MO_which_139 rfl ?_
              exact ab_iret (rt := .int) rfl rfl d_MO_which_140 (by rw [hQ]; exact ⟨rfl, eG1⟩)
            · refine ab_aload_n d_MO_which_26 rfl ?_
              refine ab_getf (fs := List.set m_f 2 (vI 0)) f_MO_109 d_MO_which_27 h80 rfl ?_
              refine ab_iload d_MO_which_30 rfl ?_
              refine ab_zald d_MO_which_32 h112 (by unfold vp_in; decide) ?_
              refine ab_topi (y := 0) rfl ?_
              refine ab_if_ne (tgt := 39) d_MO_which_33 (by decide) (fun c => absurd c (by decide)) (fun _ => ?_)
              refine ab_goto (tgt := 133) d_MO_which_36 (by decide) ?_
              refine ab_iinc (v := 6) d_MO_which_133 rfl (by decide) (Nat.le_of_ble_eq_true rfl) (Nat.le_of_ble_eq_true rfl) rfl ?_
              change ab_W _ _ _ G1 136 [some (vR 80), some (vI s), some (vI w), some (vI 0), some (vI 6), none, none] [] _
              refine ab_goto (tgt := 10) d_MO_which_136 (by decide) ?_
              refine ab_iload d_MO_which_10 rfl ?_
              refine ab_bipush (v := 6) d_MO_which_12 (by decide) ?_
              refine ab_icmp_ge (tgt := 139) d_MO_which_14 (by decide) (fun _ => ?_) (fun c => absurd c (by decide))
              refine ab_iload_n d_MO_which_139 rfl ?_
              exact ab_iret (rt := .int) rfl rfl d_MO_which_140 (by rw [hQ]; exact ⟨rfl, eG1⟩)
          · refine ab_aload_n d_MO_which_26 rfl ?_
            refine ab_getf (fs := List.set m_f 2 (vI 0)) f_MO_109 d_MO_which_27 h80 rfl ?_
            refine ab_iload d_MO_which_30 rfl ?_
            refine ab_zald d_MO_which_32 h112 (by unfold vp_in; decide) ?_
            refine ab_topi (y := 0) rfl ?_
            refine ab_if_ne (tgt := 39) d_MO_which_33 (by decide) (fun c => absurd c (by decide)) (fun _ => ?_)
            refine ab_goto (tgt := 133) d_MO_which_36 (by decide) ?_
            refine ab_iinc (v := 5) d_MO_which_133 rfl (by decide) (Nat.le_of_ble_eq_true rfl) (Nat.le_of_ble_eq_true rfl) rfl ?_
            change ab_W _ _ _ G1 136 [some (vR 80), some (vI s), some (vI w), some (vI 0), some (vI 5), none, none] [] _
            refine ab_goto (tgt := 10) d_MO_which_136 (by decide) ?_
            refine ab_iload d_MO_which_10 rfl ?_
            refine ab_bipush (v := 6) d_MO_which_12 (by decide) ?_
            refine ab_icmp_ge (tgt := 139) d_MO_which_14 (by decide) (fun c => absurd c (by decide)) (fun _ => ?_)
            refine ab_iload_n d_MO_which_17 rfl ?_
            refine ab_iload d_MO_which_18 rfl ?_
            refine ab_ishr d_MO_which_20 ?_
            refine ab_iconst (v := 1) d_MO_which_21 (by decide) ?_
            refine ab_iand d_MO_which_22 ?_
            refine ab_if_eq (tgt := 133) d_MO_which_23 (by decide) (fun c5 => ?_) (fun c5 => ?_)
            · refine ab_iinc (v := 6) d_MO_which_133 rfl (by decide) (Nat.le_of_ble_eq_true rfl) (Nat.le_of_ble_eq_true rfl) rfl ?_
              change ab_W _ _ _ G1 136 [some (vR 80), some (vI s), some (vI w), some (vI 0), some (vI 6), none, none] [] _
              refine ab_goto (tgt := 10) d_MO_which_136 (by decide) ?_
              refine ab_iload d_MO_which_10 rfl ?_
              refine ab_bipush (v := 6) d_MO_which_12 (by decide) ?_
              refine ab_icmp_ge (tgt := 139) d_MO_which_14 (by decide) (fun _ => ?_) (fun c => absurd c (by decide))
              refine ab_iload_n d_MO_which_139 rfl ?_
              exact ab_iret (rt := .int) rfl rfl d_MO_which_140 (by rw [hQ]; exact ⟨rfl, eG1⟩)
            · refine ab_aload_n d_MO_which_26 rfl ?_
              refine ab_getf (fs := List.set m_f 2 (vI 0)) f_MO_109 d_MO_which_27 h80 rfl ?_
              refine ab_iload d_MO_which_30 rfl ?_
              refine ab_zald d_MO_which_32 h112 (by unfold vp_in; decide) ?_
              refine ab_topi (y := 0) rfl ?_
              refine ab_if_ne (tgt := 39) d_MO_which_33 (by decide) (fun c => absurd c (by decide)) (fun _ => ?_)
              refine ab_goto (tgt := 133) d_MO_which_36 (by decide) ?_
              refine ab_iinc (v := 6) d_MO_which_133 rfl (by decide) (Nat.le_of_ble_eq_true rfl) (Nat.le_of_ble_eq_true rfl) rfl ?_
              change ab_W _ _ _ G1 136 [some (vR 80), some (vI s), some (vI w), some (vI 0), some (vI 6), none, none] [] _
              refine ab_goto (tgt := 10) d_MO_which_136 (by decide) ?_
              refine ab_iload d_MO_which_10 rfl ?_
              refine ab_bipush (v := 6) d_MO_which_12 (by decide) ?_
              refine ab_icmp_ge (tgt := 139) d_MO_which_14 (by decide) (fun _ => ?_) (fun c => absurd c (by decide))
              refine ab_iload_n d_MO_which_139 rfl ?_
              exact ab_iret (rt := .int) rfl rfl d_MO_which_140 (by rw [hQ]; exact ⟨rfl, eG1⟩)
        · refine ab_aload_n d_MO_which_26 rfl ?_
          refine ab_getf (fs := List.set m_f 2 (vI 0)) f_MO_109 d_MO_which_27 h80 rfl ?_
          refine ab_iload d_MO_which_30 rfl ?_
          refine ab_zald d_MO_which_32 h112 (by unfold vp_in; decide) ?_
          refine ab_topi (y := 0) rfl ?_
          refine ab_if_ne (tgt := 39) d_MO_which_33 (by decide) (fun c => absurd c (by decide)) (fun _ => ?_)
          refine ab_goto (tgt := 133) d_MO_which_36 (by decide) ?_
          refine ab_iinc (v := 4) d_MO_which_133 rfl (by decide) (Nat.le_of_ble_eq_true rfl) (Nat.le_of_ble_eq_true rfl) rfl ?_
          change ab_W _ _ _ G1 136 [some (vR 80), some (vI s), some (vI w), some (vI 0), some (vI 4), none, none] [] _
          refine ab_goto (tgt := 10) d_MO_which_136 (by decide) ?_
          refine ab_iload d_MO_which_10 rfl ?_
          refine ab_bipush (v := 6) d_MO_which_12 (by decide) ?_
          refine ab_icmp_ge (tgt := 139) d_MO_which_14 (by decide) (fun c => absurd c (by decide)) (fun _ => ?_)
          refine ab_iload_n d_MO_which_17 rfl ?_
          refine ab_iload d_MO_which_18 rfl ?_
          refine ab_ishr d_MO_which_20 ?_
          refine ab_iconst (v := 1) d_MO_which_21 (by decide) ?_
          refine ab_iand d_MO_which_22 ?_
          refine ab_if_eq (tgt := 133) d_MO_which_23 (by decide) (fun c4 => ?_) (fun c4 => ?_)
          · refine ab_iinc (v := 5) d_MO_which_133 rfl (by decide) (Nat.le_of_ble_eq_true rfl) (Nat.le_of_ble_eq_true rfl) rfl ?_
            change ab_W _ _ _ G1 136 [some (vR 80), some (vI s), some (vI w), some (vI 0), some (vI 5), none, none] [] _
            refine ab_goto (tgt := 10) d_MO_which_136 (by decide) ?_
            refine ab_iload d_MO_which_10 rfl ?_
            refine ab_bipush (v := 6) d_MO_which_12 (by decide) ?_
            refine ab_icmp_ge (tgt := 139) d_MO_which_14 (by decide) (fun c => absurd c (by decide)) (fun _ => ?_)
            refine ab_iload_n d_MO_which_17 rfl ?_
            refine ab_iload d_MO_which_18 rfl ?_
            refine ab_ishr d_MO_which_20 ?_
            refine ab_iconst (v := 1) d_MO_which_21 (by decide) ?_
            refine ab_iand d_MO_which_22 ?_
            refine ab_if_eq (tgt := 133) d_MO_which_23 (by decide) (fun c5 => ?_) (fun c5 => ?_)
            · refine ab_iinc (v := 6) d_MO_which_133 rfl (by decide) (Nat.le_of_ble_eq_true rfl) (Nat.le_of_ble_eq_true rfl) rfl ?_
              change ab_W _ _ _ G1 136 [some (vR 80), some (vI s), some (vI w), some (vI 0), some (vI 6), none, none] [] _
              refine ab_goto (tgt := 10) d_MO_which_136 (by decide) ?_
              refine ab_iload d_MO_which_10 rfl ?_
              refine ab_bipush (v := 6) d_MO_which_12 (by decide) ?_
              refine ab_icmp_ge (tgt := 139) d_MO_which_14 (by decide) (fun _ => ?_) (fun c => absurd c (by decide))
              refine ab_iload_n d_MO_which_139 rfl ?_
              exact ab_iret (rt := .int) rfl rfl d_MO_which_140 (by rw [hQ]; exact ⟨rfl, eG1⟩)
            · refine ab_aload_n d_MO_which_26 rfl ?_
              refine ab_getf (fs := List.set m_f 2 (vI 0)) f_MO_109 d_MO_which_27 h80 rfl ?_
              refine ab_iload d_MO_which_30 rfl ?_
              refine ab_zald d_MO_which_32 h112 (by unfold vp_in; decide) ?_
              refine ab_topi (y := 0) rfl ?_
              refine ab_if_ne (tgt := 39) d_MO_which_33 (by decide) (fun c => absurd c (by decide)) (fun _ => ?_)
              refine ab_goto (tgt := 133) d_MO_which_36 (by decide) ?_
              refine ab_iinc (v := 6) d_MO_which_133 rfl (by decide) (Nat.le_of_ble_eq_true rfl) (Nat.le_of_ble_eq_true rfl) rfl ?_
              change ab_W _ _ _ G1 136 [some (vR 80), some (vI s), some (vI w), some (vI 0), some (vI 6), none, none] [] _
              refine ab_goto (tgt := 10) d_MO_which_136 (by decide) ?_
              refine ab_iload d_MO_which_10 rfl ?_
              refine ab_bipush (v := 6) d_MO_which_12 (by decide) ?_
              refine ab_icmp_ge (tgt := 139) d_MO_which_14 (by decide) (fun _ => ?_) (fun c => absurd c (by decide))
              refine ab_iload_n d_MO_which_139 rfl ?_
              exact ab_iret (rt := .int) rfl rfl d_MO_which_140 (by rw [hQ]; exact ⟨rfl, eG1⟩)
          · refine ab_aload_n d_MO_which_26 rfl ?_
            refine ab_getf (fs := List.set m_f 2 (vI 0)) f_MO_109 d_MO_which_27 h80 rfl ?_
            refine ab_iload d_MO_which_30 rfl ?_
            refine ab_zald d_MO_which_32 h112 (by unfold vp_in; decide) ?_
            refine ab_topi (y := 0) rfl ?_
            refine ab_if_ne (tgt := 39) d_MO_which_33 (by decide) (fun c => absurd c (by decide)) (fun _ => ?_)
            refine ab_goto (tgt := 133) d_MO_which_36 (by decide) ?_
            refine ab_iinc (v := 5) d_MO_which_133 rfl (by decide) (Nat.le_of_ble_eq_true rfl) (Nat.le_of_ble_eq_true rfl) rfl ?_
            change ab_W _ _ _ G1 136 [some (vR 80), some (vI s), some (vI w), some (vI 0), some (vI 5), none, none] [] _
            refine ab_goto (tgt := 10) d_MO_which_136 (by decide) ?_
            refine ab_iload d_MO_which_10 rfl ?_
            refine ab_bipush (v := 6) d_MO_which_12 (by decide) ?_
            refine ab_icmp_ge (tgt := 139) d_MO_which_14 (by decide) (fun c => absurd c (by decide)) (fun _ => ?_)
            refine ab_iload_n d_MO_which_17 rfl ?_
            refine ab_iload d_MO_which_18 rfl ?_
            refine ab_ishr d_MO_which_20 ?_
            refine ab_iconst (v := 1) d_MO_which_21 (by decide) ?_
            refine ab_iand d_MO_which_22 ?_
            refine ab_if_eq (tgt := 133) d_MO_which_23 (by decide) (fun c5 => ?_) (fun c5 => ?_)
            · refine ab_iinc (v := 6) d_MO_which_133 rfl (by decide) (Nat.le_of_ble_eq_true rfl) (Nat.le_of_ble_eq_true rfl) rfl ?_
              change ab_W _ _ _ G1 136 [some (vR 80), some (vI s), some (vI w), some (vI 0), some (vI 6), none, none] [] _
              refine ab_goto (tgt := 10) d_MO_which_136 (by decide) ?_
              refine ab_iload d_MO_which_10 rfl ?_
              refine ab_bipush (v := 6) d_MO_which_12 (by decide) ?_
              refine ab_icmp_ge (tgt := 139) d_MO_which_14 (by decide) (fun _ => ?_) (fun c => absurd c (by decide))
              refine ab_iload_n d_MO_which_139 rfl ?_
              exact ab_iret (rt := .int) rfl rfl d_MO_which_140 (by rw [hQ]; exact ⟨rfl, eG1⟩)
            · refine ab_aload_n d_MO_which_26 rfl ?_
              refine ab_getf (fs := List.set m_f 2 (vI 0)) f_MO_109 d_MO_which_27 h80 rfl ?_
              refine ab_iload d_MO_which_30 rfl ?_
              refine ab_zald d_MO_which_32 h112 (by unfold vp_in; decide) ?_
              refine ab_topi (y := 0) rfl ?_
              refine ab_if_ne (tgt := 39) d_MO_which_33 (by decide) (fun c => absurd c (by decide)) (fun _ => ?_)
              refine ab_goto (tgt := 133) d_MO_which_36 (by decide) ?_
              refine ab_iinc (v := 6) d_MO_which_133 rfl (by decide) (Nat.le_of_ble_eq_true rfl) (Nat.le_of_ble_eq_true rfl) rfl ?_
              change ab_W _ _ _ G1 136 [some (vR 80), some (vI s), some (vI w), some (vI 0), some (vI 6), none, none] [] _
              refine ab_goto (tgt := 10) d_MO_which_136 (by decide) ?_
              refine ab_iload d_MO_which_10 rfl ?_
              refine ab_bipush (v := 6) d_MO_which_12 (by decide) ?_
              refine ab_icmp_ge (tgt := 139) d_MO_which_14 (by decide) (fun _ => ?_) (fun c => absurd c (by decide))
              refine ab_iload_n d_MO_which_139 rfl ?_
              exact ab_iret (rt := .int) rfl rfl d_MO_which_140 (by rw [hQ]; exact ⟨rfl, eG1⟩)
