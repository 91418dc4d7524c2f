theorem ab_fill_u (g : Nat → Int32) (v : Int32) (i : Nat) : upd (fun j => if j < i then v else g j) i v = fun j => if j < i + 1 then v else g j := by
  funext j
  unfold upd
  by_cases h : j = i
  · subst h; rw [if_pos rfl, if_pos (Nat.lt_succ_self _)]
  · rw [if_neg h]
    show (if j < i then v else g j) = _
    by_cases h2 : j < i
    · rw [if_pos h2, if_pos (by omega)]
    · rw [if_neg h2, if_neg (by omega)]
theorem ab_in_i {i n : Nat} (h : i < n) (hn : n < 2 ^ 31) : vp_in (nI i) n := vp_in_nI h hn
set_option maxRecDepth 100000 in
set_option maxHeartbeats 4000000 in
theorem c_AR_fill {X : ab_X} {d : Nat} {G : ab_G} {a n : Nat} {v : Int32} {g : Nat → Int32} (ha : ab_n0 ≤ a) (h : G[a]? = some (ab_if n (g))) (hn : n < 2 ^ 31) : ab_F X d y_AR_fill (.code y_AR_fill b_AR_fill 4 none) [vR a, vI v] G (fun o G2 => o = .returned none ∧ G2 = G.set a (ab_if n (fun j => if j < n then v else g j))) := by
  refine ab_F_of (by decide +kernel) (Nat.le_of_ble_eq_true rfl) ?_
  obtain ⟨Q, hQ⟩ : ∃ z : Outcome → ab_G → Prop, z = (fun o G2 => o = .returned none ∧ G2 = G.set a (ab_if n (fun j => if j < n then v else g j))) := ⟨_, rfl⟩
  rw [← hQ]
  change ab_W X (ab_pl y_AR_fill b_AR_fill 4 none) d G 0 [some (vR a), some (vI v), none, none] [] Q
  have hal : a < G.length := (List.getElem?_eq_some_iff.mp h).1
  have loop : ∀ (k i : Nat), i + k = n → ab_W X (ab_pl y_AR_fill b_AR_fill 4 none) d (List.set G a (ab_if n (fun j => if j < i then v else g j))) 5 [some (vR a), some (vI v), some (vI (nI i)), some (vI (nI n))] [] Q := by
    intro k
    induction k with
    | zero =>
      intro i hi
      have hin : i = n := by omega
      subst hin
      refine ab_iload_n d_AR_fill_5 rfl ?_
      refine ab_iload_n d_AR_fill_6 rfl ?_
      refine ab_icmp_ge (tgt := 20) d_AR_fill_7 (by decide) (fun _ => ?_) (fun c => absurd (Int32.le_refl _) c)
      exact ab_vret rfl d_AR_fill_20 (by rw [hQ]; exact ⟨rfl, rfl⟩)
    | succ k ih =>
      intro i hi
      have hlt : i < n := by omega
      have h1 : (List.set G a (ab_if n (fun j => if j < i then v else g j)))[a]? = some (ab_if n (fun j => if j < i then v else g j)) := List.getElem?_set_self hal
      refine ab_iload_n d_AR_fill_5 rfl ?_
      refine ab_iload_n d_AR_fill_6 rfl ?_
      refine ab_icmp_ge (tgt := 20) d_AR_fill_7 (by decide) (fun c => absurd c (nI_ge hlt hn)) (fun _ => ?_)
      refine ab_aload_n d_AR_fill_10 rfl ?_
      refine ab_iload_n d_AR_fill_11 rfl ?_
      refine ab_iload_n d_AR_fill_12 rfl ?_
      refine ab_iast d_AR_fill_13 h1 (ab_in_i hlt hn) ha ?_
      rw [List.set_set, nI_clamp (by omega), ab_fill_u]
      refine ab_iinc (v := nI (i + 1)) d_AR_fill_14 rfl (nI_1 i) (Nat.le_of_ble_eq_true rfl) (Nat.le_of_ble_eq_true rfl) rfl ?_
      change ab_W _ _ _ (List.set G a (ab_if n (fun j => if j < i + 1 then v else g j))) 17 [some (vR a), some (vI v), some (vI (nI (i + 1))), some (vI (nI n))] [] _
      refine ab_goto (tgt := 5) d_AR_fill_17 (by decide) ?_
      exact ih (i + 1) (by omega)
  refine ab_iconst (v := 0) d_AR_fill_0 (by decide) ?_
  refine ab_istore_n d_AR_fill_1 (Nat.le_of_ble_eq_true rfl) (Nat.le_of_ble_eq_true rfl) rfl ?_
  change ab_W _ _ _ G 2 [some (vR a), some (vI v), some (vI 0), none] [] _
  refine ab_aload_n d_AR_fill_2 rfl ?_
  refine ab_alen (v := nI n) d_AR_fill_3 h rfl ?_
  refine ab_istore_n d_AR_fill_4 (Nat.le_of_ble_eq_true rfl) (Nat.le_of_ble_eq_true rfl) rfl ?_
  change ab_W _ _ _ G 5 [some (vR a), some (vI v), some (vI 0), some (vI (nI n))] [] _
  have e0 : List.set G a (ab_if n (fun j => if j < 0 then v else g j)) = G := by
    have hx := (List.getElem?_eq_some_iff.mp h).2
    have hf : (fun j => if j < 0 then v else g j) = g := by funext j; rw [if_neg (Nat.not_lt_zero j)]
    rw [hf]
    exact (congrArg (List.set G a) hx.symm).trans (List.set_getElem_self hal)
  have l0 := loop n 0 (by omega)
  rw [e0] at l0
  exact l0
