set_option maxRecDepth 100000 in
set_option maxHeartbeats 4000000 in
theorem c_RW_clear {X : ab_X} {d : Nat} {G : ab_G} {a : Nat} {f0 f1 f2 : Value} (ha : ab_n0 ≤ a) (h : G[a]? = some (ab_ob 7 [f0, f1, f2])) : ab_F X d y_RW_clear (.code y_RW_clear b_RW_clear 1 none) [vR a] G (fun o G2 => o = .returned none ∧ G2 = G.set a (ab_ob 7 [f0, f1, vI 0])) := by
  refine ab_F_of (by decide +kernel) (Nat.le_of_ble_eq_true rfl) ?_
  obtain ⟨Q, hQ⟩ : ∃ z : Outcome → ab_G → Prop, z = (fun o G2 => o = .returned none ∧ G2 = G.set a (ab_ob 7 [f0, f1, vI 0])) := ⟨_, rfl⟩
  rw [← hQ]
  change ab_W X (ab_pl y_RW_clear b_RW_clear 1 none) d G 0 [some (vR a)] [] Q
  refine ab_aload_n d_RW_clear_0 rfl ?_
  refine ab_iconst (v := 0) d_RW_clear_1 (by decide) ?_
  refine ab_putf (fs := [f0, f1, f2]) f_RW_19 (Or.inl rfl) d_RW_clear_2 h (Nat.le_of_ble_eq_true rfl) (fun _ => ⟨rfl, rfl⟩) ha ?_
  obtain ⟨G1, eG1⟩ : ∃ z : ab_G, z = List.set G a (ab_ob 7 [f0, f1, vI 0]) := ⟨_, rfl⟩
  have h : G1[a]? = some (ab_ob 7 [f0, f1, vI 0]) := by rw [eG1]; exact List.getElem?_set_self (List.getElem?_eq_some_iff.mp h).1
  change ab_W _ _ _ (List.set G a (ab_ob 7 [f0, f1, vI 0])) 5 [some (vR a)] [] _
  rw [← eG1]
  exact ab_vret rfl d_RW_clear_5 (by rw [hQ]; exact ⟨rfl, eG1⟩)
set_option maxRecDepth 100000 in
set_option maxHeartbeats 4000000 in
theorem c_RW_at {X : ab_X} {d : Nat} {G : ab_G} {a q n : Nat} {f0 : Value} {sz i : Int32} {g : Nat → Int32} (h : G[a]? = some (ab_ob 7 [f0, vR q, vI sz])) (hq : G[q]? = some (ab_if n (g))) (hb : ∀ k : Int32, 0 ≤ k → k < sz → vp_in k n) : ab_F X d y_RW_at (.code y_RW_at b_RW_at 2 (some (.int))) [vR a, vI i] G (fun o G2 => o = .returned (some (vI (if 0 ≤ i ∧ i < sz then g i.toNatClampNeg else -1))) ∧ G2 = G) := by
  refine ab_F_of (by decide +kernel) (Nat.le_of_ble_eq_true rfl) ?_
  obtain ⟨Q, hQ⟩ : ∃ z : Outcome → ab_G → Prop, z = (fun o G2 => o = .returned (some (vI (if 0 ≤ i ∧ i < sz then g i.toNatClampNeg else -1))) ∧ G2 = G) := ⟨_, rfl⟩
  rw [← hQ]
  change ab_W X (ab_pl y_RW_at b_RW_at 2 (some (.int))) d G 0 [some (vR a), some (vI i)] [] Q
  refine ab_iload_n d_RW_at_0 rfl ?_
  refine ab_if_lt (tgt := 21) d_RW_at_1 (by decide) (fun c0 => ?_) (fun c0 => ?_)
  · refine ab_iconst (v := (-1)) d_RW_at_21 (by decide) ?_
    exact ab_iret (rt := .int) rfl rfl d_RW_at_22 (by rw [hQ]; exact ⟨by rw [if_neg (fun h => absurd c0 (Int32.not_lt.mpr h.1))], rfl⟩)
  · refine ab_iload_n d_RW_at_4 rfl ?_
    refine ab_aload_n d_RW_at_5 rfl ?_
    refine ab_getf (fs := [f0, vR q, vI sz]) f_RW_19 d_RW_at_6 h rfl ?_
    refine ab_icmp_ge (tgt := 21) d_RW_at_9 (by decide) (fun c1 => ?_) (fun c1 => ?_)
    · refine ab_iconst (v := (-1)) d_RW_at_21 (by decide) ?_
      exact ab_iret (rt := .int) rfl rfl d_RW_at_22 (by rw [hQ]; exact ⟨by rw [if_neg (fun h => absurd h.2 (Int32.not_lt.mpr c1))], rfl⟩)
    · refine ab_aload_n d_RW_at_12 rfl ?_
      refine ab_getf (fs := [f0, vR q, vI sz]) f_RW_9 d_RW_at_13 h rfl ?_
      refine ab_iload_n d_RW_at_16 rfl ?_
      refine ab_iald d_RW_at_17 hq (hb _ (Int32.not_lt.mp c0) (Int32.not_le.mp c1)) ?_
      refine ab_goto (tgt := 22) d_RW_at_18 (by decide) ?_
      exact ab_iret (rt := .int) rfl rfl d_RW_at_22 (by rw [hQ]; exact ⟨by rw [if_pos ⟨Int32.not_lt.mp c0, Int32.not_le.mp c1⟩], rfl⟩)
