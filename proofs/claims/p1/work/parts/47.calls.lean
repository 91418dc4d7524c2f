set_option maxRecDepth 100000 in
set_option maxHeartbeats 4000000 in
theorem q_MO_closeAll_1 {X : ab_X} {d : Nat} {G : ab_G} {xs : Nat → Int32} (hlen : G.length = 158) (hsl : ab_slots G = 1893385) (h80 : G[80]? = some (ab_ob 12 (m_fv (vI 0) (vI 0) (vI 0) (vI 0) (vI 0) (vI 0) (vI 0) (vI 0) (vI 0) (vI 0) (vI ((xs 2) &&& 15)) (vI 0) (vI (-1)) (vI 0) (vI 0) (vI 0) (vI 0) (vI 0) (vI 0) (vI 0) (vI 0) (vI 0) (vI 0) (vI 0) (vI 0) (vI 0) (vI 0) (vI 0) (vI 0) (vI 0) (vI 0) (vI 0) (vI 0) (vI 0) (vI 0)))) (h94 : G[94]? = some (ab_if 4200 ((fun _ => 0)))) (h95 : G[95]? = some (ab_if 4200 ((fun _ => 0)))) (h96 : G[96]? = some (ab_if 4200 ((fun _ => 0)))) (h97 : G[97]? = some (ab_if 4200 ((fun _ => 0)))) (h100 : G[100]? = some (.inl (2, 4200, .inr (.inl (fun _ => 0))))) (h105 : G[105]? = some (ab_if 32 ((upd (fun _ => 0) 0 (-1))))) (h107 : G[107]? = some (ab_if 32 ((upd (fun _ => 0) 0 (-1))))) (h108 : G[108]? = some (ab_if 32 ((fun _ => 0)))) (h109 : G[109]? = some (ab_if 32 ((upd (fun _ => 0) 0 0)))) (hd : 2 ≤ d) : ab_F X d y_MO_closeAll (.code y_MO_closeAll b_MO_closeAll 4 (some (.int))) [vR 80] G (fun o G2 => o = .returned (some (vI 1)) ∧ ab_fr [80, 94, 95, 96, 97, 100, 105, 107, 108, 109] G G2 ∧ G2.length = 158 ∧ ab_slots G2 = 1893385 ∧ G2[80]? = some (ab_ob 12 (m_fv (vI 0) (vI 0) (vI 0) (vI 0) (vI 0) (vI 0) (vI 0) (vI 0) (vI 2) (vI 0) (vI ((xs 2) &&& 15)) (vI 0) (vI (-1)) (vI 0) (vI 0) (vI 0) (vI 0) (vI 0) (vI 0) (vI 0) (vI 0) (vI 0) (vI 0) (vI 0) (vI 0) (vI 0) (vI 0) (vI 0) (vI 0) (vI 0) (vI 0) (vI 0) (vI 0) (vI 0) (vI 0))) ∧ G2[94]? = some (ab_if 4200 ((upd (upd (fun _ => 0) 0 4) 1 5))) ∧ G2[95]? = some (ab_if 4200 ((upd (upd (fun _ => 0) 0 0) 1 0))) ∧ G2[96]? = some (ab_if 4200 ((upd (upd (upd (upd (fun _ => 0) 0 (-1)) 0 (-1)) 1 (-1)) 1 0))) ∧ G2[97]? = some (ab_if 4200 ((upd (upd (fun _ => 0) 0 (-1)) 1 (-1)))) ∧ G2[100]? = some (.inl (2, 4200, .inr (.inl (vp_updL (vp_updL (fun _ => 0) 0 0) 1 0)))) ∧ G2[105]? = some (ab_if 32 ((upd (upd (fun _ => 0) 0 (-1)) 0 (-1)))) ∧ G2[107]? = some (ab_if 32 ((upd (upd (fun _ => 0) 0 (-1)) 0 0))) ∧ G2[108]? = some (ab_if 32 ((upd (fun _ => 0) 0 0))) ∧ G2[109]? = some (ab_if 32 ((upd (upd (fun _ => 0) 0 0) 0 0)))) := by
  refine ab_F_of (by decide +kernel) (Nat.le_of_ble_eq_true rfl) ?_
  obtain ⟨Q, hQ⟩ : ∃ z : Outcome → ab_G → Prop, z = (fun o G2 => o = .returned (some (vI 1)) ∧ ab_fr [80, 94, 95, 96, 97, 100, 105, 107, 108, 109] G G2 ∧ G2.length = 158 ∧ ab_slots G2 = 1893385 ∧ G2[80]? = some (ab_ob 12 (m_fv (vI 0) (vI 0) (vI 0) (vI 0) (vI 0) (vI 0) (vI 0) (vI 0) (vI 2) (vI 0) (vI ((xs 2) &&& 15)) (vI 0) (vI (-1)) (vI 0) (vI 0) (vI 0) (vI 0) (vI 0) (vI 0) (vI 0) (vI 0) (vI 0) (vI 0) (vI 0) (vI 0) (vI 0) (vI 0) (vI 0) (vI 0) (vI 0) (vI 0) (vI 0) (vI 0) (vI 0) (vI 0))) ∧ G2[94]? = some (ab_if 4200 ((upd (upd (fun _ => 0) 0 4) 1 5))) ∧ G2[95]? = some (ab_if 4200 ((upd (upd (fun _ => 0) 0 0) 1 0))) ∧ G2[96]? = some (ab_if 4200 ((upd (upd (upd (upd (fun _ => 0) 0 (-1)) 0 (-1)) 1 (-1)) 1 0))) ∧ G2[97]? = some (ab_if 4200 ((upd (upd (fun _ => 0) 0 (-1)) 1 (-1)))) ∧ G2[100]? = some (.inl (2, 4200, .inr (.inl (vp_updL (vp_updL (fun _ => 0) 0 0) 1 0)))) ∧ G2[105]? = some (ab_if 32 ((upd (upd (fun _ => 0) 0 (-1)) 0 (-1)))) ∧ G2[107]? = some (ab_if 32 ((upd (upd (fun _ => 0) 0 (-1)) 0 0))) ∧ G2[108]? = some (ab_if 32 ((upd (fun _ => 0) 0 0))) ∧ G2[109]? = some (ab_if 32 ((upd (upd (fun _ => 0) 0 0) 0 0)))) := ⟨_, rfl⟩
  rw [← hQ]
  change ab_W X (ab_pl y_MO_closeAll b_MO_closeAll 4 (some (.int))) d G 0 [some (vR 80), none, none, none] [] Q
  have hfr : ab_fr [80, 94, 95, 96, 97, 100, 105, 107, 108, 109] G G := ab_fr.rf
  refine ab_aload_n d_MO_closeAll_0 rfl ?_
  refine ab_callV (d' := d - 1) (as := []) (st := []) (r := _) (q_MO_closeRow_1 (xs := xs) hlen hsl h80 h94 h95 h96 h97 h100 h105 h107 h108 h109 (by omega)) (fun o G2 h => ⟨_, h.1⟩) (by omega) m_MO_closeRow ml_MO_292 im_MO_closeRow se_MO_closeRow c_MO h80 (Nat.le_of_ble_eq_true rfl) d_MO_closeAll_1 rfl ?_
  intro v G1 hq
  obtain ⟨hv, hfk, hlen, hsl, h80, h94, h95, h96, h97, h100, h105, h107, h108, h109⟩ := hq
  cases hv
  have hfr := hfr.cl hfk (by decide)
  change ab_W _ _ _ G1 4 [some (vR 80), none, none, none] [] _
  refine ab_ldc2 (v := (-1)) d_MO_closeAll_4 cn_MO_295 ?_
  refine ab_lstore_n d_MO_closeAll_7 (Nat.le_of_ble_eq_true rfl) (Nat.le_of_ble_eq_true rfl) rfl ?_
  change ab_W _ _ _ G1 8 [some (vR 80), some (vJ (-1)), none, none] [] _
  refine ab_aload_n d_MO_closeAll_8 rfl ?_
  refine ab_getf (fs := (m_fv (vI 0) (vI 0) (vI 0) (vI 0) (vI 0) (vI 0) (vI 0) (vI 0) (vI 1) (vI 0) (vI ((xs 2) &&& 15)) (vI 0) (vI (-1)) (vI 0) (vI 0) (vI 0) (vI 0) (vI 0) (vI 0) (vI 0) (vI 0) (vI 0) (vI 0) (vI 0) (vI 0) (vI 0) (vI 0) (vI 0) (vI 0) (vI 0) (vI 0) (vI 0) (vI 0) (vI 0) (vI 0))) f_MO_94 d_MO_closeAll_9 h80 rfl ?_
  refine ab_aload_n d_MO_closeAll_12 rfl ?_
  refine ab_getf (fs := (m_fv (vI 0) (vI 0) (vI 0) (vI 0) (vI 0) (vI 0) (vI 0) (vI 0) (vI 1) (vI 0) (vI ((xs 2) &&& 15)) (vI 0) (vI (-1)) (vI 0) (vI 0) (vI 0) (vI 0) (vI 0) (vI 0) (vI 0) (vI 0) (vI 0) (vI 0) (vI 0) (vI 0) (vI 0) (vI 0) (vI 0) (vI 0) (vI 0) (vI 0) (vI 0) (vI 0) (vI 0) (vI 0))) f_MO_282 d_MO_closeAll_13 h80 rfl ?_
  refine ab_iald d_MO_closeAll_16 h107 (by unfold vp_in; decide) ?_
  refine ab_topi (y := 0) rfl ?_
  refine ab_istore_n d_MO_closeAll_17 (Nat.le_of_ble_eq_true rfl) (Nat.le_of_ble_eq_true rfl) rfl ?_
  change ab_W _ _ _ G1 18 [some (vR 80), some (vJ (-1)), none, some (vI 0)] [] _
  refine ab_iload_n d_MO_closeAll_18 rfl ?_
  refine ab_if_lt (tgt := 46) d_MO_closeAll_19 (by decide) (fun c => absurd c (by decide)) (fun _ => ?_)
  refine ab_lload_n d_MO_closeAll_22 rfl ?_
  refine ab_lconst (v := 1) d_MO_closeAll_23 (by decide) ?_
  refine ab_ladd d_MO_closeAll_24 ?_
  refine ab_topl (y := 0) (by decide) ?_
  refine ab_aload_n d_MO_closeAll_25 rfl ?_
  refine ab_getf (fs := (m_fv (vI 0) (vI 0) (vI 0) (vI 0) (vI 0) (vI 0) (vI 0) (vI 0) (vI 1) (vI 0) (vI ((xs 2) &&& 15)) (vI 0) (vI (-1)) (vI 0) (vI 0) (vI 0) (vI 0) (vI 0) (vI 0) (vI 0) (vI 0) (vI 0) (vI 0) (vI 0) (vI 0) (vI 0) (vI 0) (vI 0) (vI 0) (vI 0) (vI 0) (vI 0) (vI 0) (vI 0) (vI 0))) f_MO_68 d_MO_closeAll_26 h80 rfl ?_
  refine ab_iload_n d_MO_closeAll_29 rfl ?_
  refine ab_lald d_MO_closeAll_30 h100 (by unfold vp_in; decide) ?_
  refine ab_topl (y := 0) rfl ?_
  refine ab_ladd d_MO_closeAll_31 ?_
  refine ab_topl (y := 0) (by decide) ?_
  refine ab_callS (d' := d - 1) (as := [vJ 0]) (st := []) (q_MO_atMost_1  hlen hsl) (fun o G2 h => ⟨_, h.1⟩) (by omega) m_MO_atMost ml_MO_288 st_MO_atMost (Nat.le_of_ble_eq_true rfl) d_MO_closeAll_32 rfl ?_
  intro v G2 hq
  obtain ⟨hv, hfk, hlen, hsl⟩ := hq
  cases hv
  have h80 := hfk.get (by decide) h80
  have h94 := hfk.get (by decide) h94
  have h95 := hfk.get (by decide) h95
  have h96 := hfk.get (by decide) h96
  have h97 := hfk.get (by decide) h97
  have h100 := hfk.get (by decide) h100
  have h105 := hfk.get (by decide) h105
  have h107 := hfk.get (by decide) h107
  have h108 := hfk.get (by decide) h108
  have h109 := hfk.get (by decide) h109
  have hfr := hfr.cl hfk (by decide)
  change ab_W _ _ _ G2 35 [some (vR 80), some (vJ (-1)), none, some (vI 0)] [vJ 0] _
  refine ab_lstore_n d_MO_closeAll_35 (Nat.le_of_ble_eq_true rfl) (Nat.le_of_ble_eq_true rfl) rfl ?_
  change ab_W _ _ _ G2 36 [some (vR 80), some (vJ 0), none, some (vI 0)] [] _
  refine ab_aload_n d_MO_closeAll_36 rfl ?_
  refine ab_getf (fs := (m_fv (vI 0) (vI 0) (vI 0) (vI 0) (vI 0) (vI 0) (vI 0) (vI 0) (vI 1) (vI 0) (vI ((xs 2) &&& 15)) (vI 0) (vI (-1)) (vI 0) (vI 0) (vI 0) (vI 0) (vI 0) (vI 0) (vI 0) (vI 0) (vI 0) (vI 0) (vI 0) (vI 0) (vI 0) (vI 0) (vI 0) (vI 0) (vI 0) (vI 0) (vI 0) (vI 0) (vI 0) (vI 0))) f_MO_59 d_MO_closeAll_37 h80 rfl ?_
  refine ab_iload_n d_MO_closeAll_40 rfl ?_
  refine ab_iald d_MO_closeAll_41 h97 (by unfold vp_in; decide) ?_
  refine ab_topi (y := (-1)) rfl ?_
  refine ab_istore_n d_MO_closeAll_42 (Nat.le_of_ble_eq_true rfl) (Nat.le_of_ble_eq_true rfl) rfl ?_
  change ab_W _ _ _ G2 43 [some (vR 80), some (vJ 0), none, some (vI (-1))] [] _
  refine ab_goto (tgt := 18) d_MO_closeAll_43 (by decide) ?_
  refine ab_iload_n d_MO_closeAll_18 rfl ?_
  refine ab_if_lt (tgt := 46) d_MO_closeAll_19 (by decide) (fun _ => ?_) (fun c => absurd c (by decide))
  refine ab_aload_n d_MO_closeAll_46 rfl ?_
  refine ab_iconst (v := 5) d_MO_closeAll_47 (by decide) ?_
  refine ab_iconst (v := 0) d_MO_closeAll_48 (by decide) ?_
  refine ab_lload_n d_MO_closeAll_49 rfl ?_
  refine ab_callV (d' := d - 1) (as := [vI 5, vI 0, vJ 0]) (st := []) (r := _) (q_MO_node_3 (xs := xs) hlen hsl h80 h94 h95 h96 h97 h100) (fun o G2 h => ⟨_, h.1⟩) (by omega) m_MO_node ml_MO_269 im_MO_node se_MO_node c_MO h80 (Nat.le_of_ble_eq_true rfl) d_MO_closeAll_50 rfl ?_
  intro v G3 hq
  obtain ⟨hv, hfk, hlen, hsl, h80, h94, h95, h96, h97, h100⟩ := hq
  cases hv
  have h105 := hfk.get (by decide) h105
  have h107 := hfk.get (by decide) h107
  have h108 := hfk.get (by decide) h108
  have h109 := hfk.get (by decide) h109
  have hfr := hfr.cl hfk (by decide)
  change ab_W _ _ _ G3 53 [some (vR 80), some (vJ 0), none, some (vI (-1))] [vI 1] _
  refine ab_istore_n d_MO_closeAll_53 (Nat.le_of_ble_eq_true rfl) (Nat.le_of_ble_eq_true rfl) rfl ?_
  change ab_W _ _ _ G3 54 [some (vR 80), some (vJ 0), none, some (vI 1)] [] _
  refine ab_aload_n d_MO_closeAll_54 rfl ?_
  refine ab_getf (fs := (m_fv (vI 0) (vI 0) (vI 0) (vI 0) (vI 0) (vI 0) (vI 0) (vI 0) (vI 2) (vI 0) (vI ((xs 2) &&& 15)) (vI 0) (vI (-1)) (vI 0) (vI 0) (vI 0) (vI 0) (vI 0) (vI 0) (vI 0) (vI 0) (vI 0) (vI 0) (vI 0) (vI 0) (vI 0) (vI 0) (vI 0) (vI 0) (vI 0) (vI 0) (vI 0) (vI 0) (vI 0) (vI 0))) f_MO_56 d_MO_closeAll_55 h80 rfl ?_
  refine ab_iload_n d_MO_closeAll_58 rfl ?_
  refine ab_aload_n d_MO_closeAll_59 rfl ?_
  refine ab_getf (fs := (m_fv (vI 0) (vI 0) (vI 0) (vI 0) (vI 0) (vI 0) (vI 0) (vI 0) (vI 2) (vI 0) (vI ((xs 2) &&& 15)) (vI 0) (vI (-1)) (vI 0) (vI 0) (vI 0) (vI 0) (vI 0) (vI 0) (vI 0) (vI 0) (vI 0) (vI 0) (vI 0) (vI 0) (vI 0) (vI 0) (vI 0) (vI 0) (vI 0) (vI 0) (vI 0) (vI 0) (vI 0) (vI 0))) f_MO_94 d_MO_closeAll_60 h80 rfl ?_
  refine ab_aload_n d_MO_closeAll_63 rfl ?_
  refine ab_getf (fs := (m_fv (vI 0) (vI 0) (vI 0) (vI 0) (vI 0) (vI 0) (vI 0) (vI 0) (vI 2) (vI 0) (vI ((xs 2) &&& 15)) (vI 0) (vI (-1)) (vI 0) (vI 0) (vI 0) (vI 0) (vI 0) (vI 0) (vI 0) (vI 0) (vI 0) (vI 0) (vI 0) (vI 0) (vI 0) (vI 0) (vI 0) (vI 0) (vI 0) (vI 0) (vI 0) (vI 0) (vI 0) (vI 0))) f_MO_282 d_MO_closeAll_64 h80 rfl ?_
  refine ab_iald d_MO_closeAll_67 h107 (by unfold vp_in; decide) ?_
  refine ab_topi (y := 0) rfl ?_
  refine ab_iast d_MO_closeAll_68 h96 (by unfold vp_in; decide) (by decide) ?_
  obtain ⟨G4, eG4⟩ : ∃ z : ab_G, z = List.set G3 96 (ab_if 4200 ((upd (upd (upd (upd (fun _ => 0) 0 (-1)) 0 (-1)) 1 (-1)) 1 0))) := ⟨_, rfl⟩
  have h80 := ab_keep eG4 (by decide) h80
  have h94 := ab_keep eG4 (by decide) h94
  have h95 := ab_keep eG4 (by decide) h95
  have h97 := ab_keep eG4 (by decide) h97
  have h100 := ab_keep eG4 (by decide) h100
  have h105 := ab_keep eG4 (by decide) h105
  have h107 := ab_keep eG4 (by decide) h107
  have h108 := ab_keep eG4 (by decide) h108
  have h109 := ab_keep eG4 (by decide) h109
  have hlen := ab_klen eG4 hlen
  have hsl := ab_ksl 4200 eG4 h96 rfl rfl hsl
  have hfr := hfr.wr eG4 (by decide)
  have h96 := ab_kept eG4 h96
  change ab_W _ _ _ (List.set G3 96 (ab_if 4200 ((upd (upd (upd (upd (fun _ => 0) 0 (-1)) 0 (-1)) 1 (-1)) 1 0)))) 69 [some (vR 80), some (vJ 0), none, some (vI 1)] [] _
  rw [← eG4]
  refine ab_iload_n d_MO_closeAll_69 rfl ?_
  exact ab_iret (rt := .int) rfl rfl d_MO_closeAll_70 (by rw [hQ]; exact ⟨rfl, hfr, hlen, hsl, h80, h94, h95, h96, h97, h100, h105, h107, h108, h109⟩)
set_option maxRecDepth 100000 in
set_option maxHeartbeats 4000000 in
theorem q_MO_read_1 {X : ab_X} {d : Nat} {G : ab_G} {xs : Nat → Int32} (hlen : G.length = 158) (hsl : ab_slots G = 1893385) (h80 : G[80]? = some (ab_ob 12 (m_fv (vI 0) (vI 0) (vI 0) (vI 0) (vI 0) (vI 0) (vI 0) (vI 0) (vI 0) (vI 0) (vI 0) (vI 0) (vI (-1)) (vI 0) (vI 0) (vI 0) (vI 0) (vI 0) (vI 0) (vI 0) (vI 0) (vI 0) (vI 0) (vI 0) (vI 0) (vI 0) (vI 0) (vI 0) (vI 0) (vI 0) (vI 0) (vI 0) (vI 0) (vI 0) (vI 0)))) (h94 : G[94]? = some (ab_if 4200 ((fun _ => 0)))) (h95 : G[95]? = some (ab_if 4200 ((fun _ => 0)))) (h96 : G[96]? = some (ab_if 4200 ((fun _ => 0)))) (h97 : G[97]? = some (ab_if 4200 ((fun _ => 0)))) (h100 : G[100]? = some (.inl (2, 4200, .inr (.inl (fun _ => 0))))) (h102 : G[102]? = some (ab_if 32 ((fun _ => 0)))) (h103 : G[103]? = some (ab_if 32 ((fun _ => 0)))) (h104 : G[104]? = some (ab_if 32 ((fun _ => 0)))) (h105 : G[105]? = some (ab_if 32 ((fun _ => 0)))) (h107 : G[107]? = some (ab_if 32 ((fun _ => 0)))) (h108 : G[108]? = some (ab_if 32 ((fun _ => 0)))) (h109 : G[109]? = some (ab_if 32 ((fun _ => 0)))) (hd : 3 ≤ d) : ab_F X d y_MO_read (.code y_MO_read b_MO_read 3 (some (.int))) [vR 80, vI ((xs 2) &&& 15)] G (fun o G2 => o = .returned (some (vI 1)) ∧ ab_fr [80, 94, 95, 96, 97, 100, 102, 103, 104, 105, 107, 108, 109] G G2 ∧ G2.length = 158 ∧ ab_slots G2 = 1893385 ∧ G2[80]? = some (ab_ob 12 (m_fv (vI 0) (vI 0) (vI 0) (vI 0) (vI 0) (vI 0) (vI 0) (vI 0) (vI 2) (vI 0) (vI ((xs 2) &&& 15)) (vI 0) (vI (-1)) (vI 0) (vI 0) (vI 0) (vI 0) (vI 0) (vI 0) (vI 0) (vI 0) (vI 0) (vI 0) (vI 0) (vI 0) (vI 0) (vI 0) (vI 0) (vI 0) (vI 0) (vI 0) (vI 0) (vI 0) (vI 0) (vI 0))) ∧ G2[94]? = some (ab_if 4200 ((upd (upd (fun _ => 0) 0 4) 1 5))) ∧ G2[95]? = some (ab_if 4200 ((upd (upd (fun _ => 0) 0 0) 1 0))) ∧ G2[96]? = some (ab_if 4200 ((upd (upd (upd (upd (fun _ => 0) 0 (-1)) 0 (-1)) 1 (-1)) 1 0))) ∧ G2[97]? = some (ab_if 4200 ((upd (upd (fun _ => 0) 0 (-1)) 1 (-1)))) ∧ G2[100]? = some (.inl (2, 4200, .inr (.inl (vp_updL (vp_updL (fun _ => 0) 0 0) 1 0)))) ∧ G2[102]? = some (ab_if 32 ((upd (fun _ => 0) 0 (-1)))) ∧ G2[103]? = some (ab_if 32 ((upd (fun _ => 0) 0 ((xs 2) &&& 15)))) ∧ G2[104]? = some (ab_if 32 ((upd (fun _ => 0) 0 0))) ∧ G2[105]? = some (ab_if 32 ((upd (upd (fun _ => 0) 0 (-1)) 0 (-1)))) ∧ G2[107]? = some (ab_if 32 ((upd (upd (fun _ => 0) 0 (-1)) 0 0))) ∧ G2[108]? = some (ab_if 32 ((upd (fun _ => 0) 0 0))) ∧ G2[109]? = some (ab_if 32 ((upd (upd (fun _ => 0) 0 0) 0 0)))) := by
  refine ab_F_of (by decide +kernel) (Nat.le_of_ble_eq_true rfl) ?_
  obtain ⟨Q, hQ⟩ : ∃ z : Outcome → ab_G → Prop, z = (fun o G2 => o = .returned (some (vI 1)) ∧ ab_fr [80, 94, 95, 96, 97, 100, 102, 103, 104, 105, 107, 108, 109] G G2 ∧ G2.length = 158 ∧ ab_slots G2 = 1893385 ∧ G2[80]? = some (ab_ob 12 (m_fv (vI 0) (vI 0) (vI 0) (vI 0) (vI 0) (vI 0) (vI 0) (vI 0) (vI 2) (vI 0) (vI ((xs 2) &&& 15)) (vI 0) (vI (-1)) (vI 0) (vI 0) (vI 0) (vI 0) (vI 0) (vI 0) (vI 0) (vI 0) (vI 0) (vI 0) (vI 0) (vI 0) (vI 0) (vI 0) (vI 0) (vI 0) (vI 0) (vI 0) (vI 0) (vI 0) (vI 0) (vI 0))) ∧ G2[94]? = some (ab_if 4200 ((upd (upd (fun _ => 0) 0 4) 1 5))) ∧ G2[95]? = some (ab_if 4200 ((upd (upd (fun _ => 0) 0 0) 1 0))) ∧ G2[96]? = some (ab_if 4200 ((upd (upd (upd (upd (fun _ => 0) 0 (-1)) 0 (-1)) 1 (-1)) 1 0))) ∧ G2[97]? = some (ab_if 4200 ((upd (upd (fun _ => 0) 0 (-1)) 1 (-1)))) ∧ G2[100]? = some (.inl (2, 4200, .inr (.inl (vp_updL (vp_updL (fun _ => 0) 0 0) 1 0)))) ∧ G2[102]? = some (ab_if 32 ((upd (fun _ => 0) 0 (-1)))) ∧ G2[103]? = some (ab_if 32 ((upd (fun _ => 0) 0 ((xs 2) &&& 15)))) ∧ G2[104]? = some (ab_if 32 ((upd (fun _ => 0) 0 0))) ∧ G2[105]? = some (ab_if 32 ((upd (upd (fun _ => 0) 0 (-1)) 0 (-1)))) ∧ G2[107]? = some (ab_if 32 ((upd (upd (fun _ => 0) 0 (-1)) 0 0))) ∧ G2[108]? = some (ab_if 32 ((upd (fun _ => 0) 0 0))) ∧ G2[109]? = some (ab_if 32 ((upd (upd (fun _ => 0) 0 0) 0 0)))) := ⟨_, rfl⟩
  rw [← hQ]
  change ab_W X (ab_pl y_MO_read b_MO_read 3 (some (.int))) d G 0 [some (vR 80), some (vI ((xs 2) &&& 15)), none] [] Q
  have hfr : ab_fr [80, 94, 95, 96, 97, 100, 102, 103, 104, 105, 107, 108, 109] G G := ab_fr.rf
  refine ab_aload_n d_MO_read_0 rfl ?_
  refine ab_iconst (v := 0) d_MO_read_1 (by decide) ?_
  refine ab_putf (fs := (m_fv (vI 0) (vI 0) (vI 0) (vI 0) (vI 0) (vI 0) (vI 0) (vI 0) (vI 0) (vI 0) (vI 0) (vI 0) (vI (-1)) (vI 0) (vI 0) (vI 0) (vI 0) (vI 0) (vI 0) (vI 0) (vI 0) (vI 0) (vI 0) (vI 0) (vI 0) (vI 0) (vI 0) (vI 0) (vI 0) (vI 0) (vI 0) (vI 0) (vI 0) (vI 0) (vI 0))) f_MO_279 (Or.inl rfl) d_MO_read_2 h80 (Nat.le_of_ble_eq_true rfl) (fun _ => ⟨rfl, rfl⟩) (by decide) ?_
  obtain ⟨G1, eG1⟩ : ∃ z : ab_G, z = List.set G 80 (ab_ob 12 (m_fv (vI 0) (vI 0) (vI 0) (vI 0) (vI 0) (vI 0) (vI 0) (vI 0) (vI 0) (vI 0) (vI 0) (vI 0) (vI (-1)) (vI 0) (vI 0) (vI 0) (vI 0) (vI 0) (vI 0) (vI 0) (vI 0) (vI 0) (vI 0) (vI 0) (vI 0) (vI 0) (vI 0) (vI 0) (vI 0) (vI 0) (vI 0) (vI 0) (vI 0) (vI 0) (vI 0))) := ⟨_, rfl⟩
  have h94 := ab_keep eG1 (by decide) h94
  have h95 := ab_keep eG1 (by decide) h95
  have h96 := ab_keep eG1 (by decide) h96
  have h97 := ab_keep eG1 (by decide) h97
  have h100 := ab_keep eG1 (by decide) h100
  have h102 := ab_keep eG1 (by decide) h102
  have h103 := ab_keep eG1 (by decide) h103
  have h104 := ab_keep eG1 (by decide) h104
  have h105 := ab_keep eG1 (by decide) h105
  have h107 := ab_keep eG1 (by decide) h107
  have h108 := ab_keep eG1 (by decide) h108
  have h109 := ab_keep eG1 (by decide) h109
  have hlen := ab_klen eG1 hlen
  have hsl := ab_ksl 102 eG1 h80 rfl rfl hsl
  have hfr := hfr.wr eG1 (by decide)
  have h80 := ab_kept eG1 h80
  change ab_W _ _ _ (List.set G 80 (ab_ob 12 (m_fv (vI 0) (vI 0) (vI 0) (vI 0) (vI 0) (vI 0) (vI 0) (vI 0) (vI 0) (vI 0) (vI 0) (vI 0) (vI (-1)) (vI 0) (vI 0) (vI 0) (vI 0) (vI 0) (vI 0) (vI 0) (vI 0) (vI 0) (vI 0) (vI 0) (vI 0) (vI 0) (vI 0) (vI 0) (vI 0) (vI 0) (vI 0) (vI 0) (vI 0) (vI 0) (vI 0)))) 5 [some (vR 80), some (vI ((xs 2) &&& 15)), none] [] _
  rw [← eG1]
  refine ab_aload_n d_MO_read_5 rfl ?_
  refine ab_iload_n d_MO_read_6 rfl ?_
  refine ab_putf (fs := (m_fv (vI 0) (vI 0) (vI 0) (vI 0) (vI 0) (vI 0) (vI 0) (vI 0) (vI 0) (vI 0) (vI 0) (vI 0) (vI (-1)) (vI 0) (vI 0) (vI 0) (vI 0) (vI 0) (vI 0) (vI 0) (vI 0) (vI 0) (vI 0) (vI 0) (vI 0) (vI 0) (vI 0) (vI 0) (vI 0) (vI 0) (vI 0) (vI 0) (vI 0) (vI 0) (vI 0))) f_MO_276 (Or.inl rfl) d_MO_read_7 h80 (Nat.le_of_ble_eq_true rfl) (fun _ => ⟨rfl, rfl⟩) (by decide) ?_
  obtain ⟨G2, eG2⟩ : ∃ z : ab_G, z = List.set G1 80 (ab_ob 12 (m_fv (vI 0) (vI 0) (vI 0) (vI 0) (vI 0) (vI 0) (vI 0) (vI 0) (vI 0) (vI 0) (vI ((xs 2) &&& 15)) (vI 0) (vI (-1)) (vI 0) (vI 0) (vI 0) (vI 0) (vI 0) (vI 0) (vI 0) (vI 0) (vI 0) (vI 0) (vI 0) (vI 0) (vI 0) (vI 0) (vI 0) (vI 0) (vI 0) (vI 0) (vI 0) (vI 0) (vI 0) (vI 0))) := ⟨_, rfl⟩
  have h94 := ab_keep eG2 (by decide) h94
  have h95 := ab_keep eG2 (by decide) h95
  have h96 := ab_keep eG2 (by decide) h96
  have h97 := ab_keep eG2 (by decide) h97
  have h100 := ab_keep eG2 (by decide) h100
  have h102 := ab_keep eG2 (by decide) h102
  have h103 := ab_keep eG2 (by decide) h103
  have h104 := ab_keep eG2 (by decide) h104
  have h105 := ab_keep eG2 (by decide) h105
  have h107 := ab_keep eG2 (by decide) h107
  have h108 := ab_keep eG2 (by decide) h108
  have h109 := ab_keep eG2 (by decide) h109
  have hlen := ab_klen eG2 hlen
  have hsl := ab_ksl 102 eG2 h80 rfl rfl hsl
  have hfr := hfr.wr eG2 (by decide)
  have h80 := ab_kept eG2 h80
  change ab_W _ _ _ (List.set G1 80 (ab_ob 12 (m_fv (vI 0) (vI 0) (vI 0) (vI 0) (vI 0) (vI 0) (vI 0) (vI 0) (vI 0) (vI 0) (vI ((xs 2) &&& 15)) (vI 0) (vI (-1)) (vI 0) (vI 0) (vI 0) (vI 0) (vI 0) (vI 0) (vI 0) (vI 0) (vI 0) (vI 0) (vI 0) (vI 0) (vI 0) (vI 0) (vI 0) (vI 0) (vI 0) (vI 0) (vI 0) (vI 0) (vI 0) (vI 0)))) 10 [some (vR 80), some (vI ((xs 2) &&& 15)), none] [] _
  rw [← eG2]
  refine ab_aload_n d_MO_read_10 rfl ?_
  refine ab_iconst (v := 0) d_MO_read_11 (by decide) ?_
  refine ab_putf (fs := (m_fv (vI 0) (vI 0) (vI 0) (vI 0) (vI 0) (vI 0) (vI 0) (vI 0) (vI 0) (vI 0) (vI ((xs 2) &&& 15)) (vI 0) (vI (-1)) (vI 0) (vI 0) (vI 0) (vI 0) (vI 0) (vI 0) (vI 0) (vI 0) (vI 0) (vI 0) (vI 0) (vI 0) (vI 0) (vI 0) (vI 0) (vI 0) (vI 0) (vI 0) (vI 0) (vI 0) (vI 0) (vI 0))) f_MO_273 (Or.inl rfl) d_MO_read_12 h80 (Nat.le_of_ble_eq_true rfl) (fun _ => ⟨rfl, rfl⟩) (by decide) ?_
  obtain ⟨G3, eG3⟩ : ∃ z : ab_G, z = List.set G2 80 (ab_ob 12 (m_fv (vI 0) (vI 0) (vI 0) (vI 0) (vI 0) (vI 0) (vI 0) (vI 0) (vI 0) (vI 0) (vI ((xs 2) &&& 15)) (vI 0) (vI (-1)) (vI 0) (vI 0) (vI 0) (vI 0) (vI 0) (vI 0) (vI 0) (vI 0) (vI 0) (vI 0) (vI 0) (vI 0) (vI 0) (vI 0) (vI 0) (vI 0) (vI 0) (vI 0) (vI 0) (vI 0) (vI 0) (vI 0))) := ⟨_, rfl⟩
  have h94 := ab_keep eG3 (by decide) h94
  have h95 := ab_keep eG3 (by decide) h95
  have h96 := ab_keep eG3 (by decide) h96
  have h97 := ab_keep eG3 (by decide) h97
  have h100 := ab_keep eG3 (by decide) h100
  have h102 := ab_keep eG3 (by decide) h102
  have h103 := ab_keep eG3 (by decide) h103
  have h104 := ab_keep eG3 (by decide) h104
  have h105 := ab_keep eG3 (by decide) h105
  have h107 := ab_keep eG3 (by decide) h107
  have h108 := ab_keep eG3 (by decide) h108
  have h109 := ab_keep eG3 (by decide) h109
  have hlen := ab_klen eG3 hlen
  have hsl := ab_ksl 102 eG3 h80 rfl rfl hsl
  have hfr := hfr.wr eG3 (by decide)
  have h80 := ab_kept eG3 h80
  change ab_W _ _ _ (List.set G2 80 (ab_ob 12 (m_fv (vI 0) (vI 0) (vI 0) (vI 0) (vI 0) (vI 0) (vI 0) (vI 0) (vI 0) (vI 0) (vI ((xs 2) &&& 15)) (vI 0) (vI (-1)) (vI 0) (vI 0) (vI 0) (vI 0) (vI 0) (vI 0) (vI 0) (vI 0) (vI 0) (vI 0) (vI 0) (vI 0) (vI 0) (vI 0) (vI 0) (vI 0) (vI 0) (vI 0) (vI 0) (vI 0) (vI 0) (vI 0)))) 15 [some (vR 80), some (vI ((xs 2) &&& 15)), none] [] _
  rw [← eG3]
  refine ab_aload_n d_MO_read_15 rfl ?_
  refine ab_iconst (v := (-1)) d_MO_read_16 (by decide) ?_
  refine ab_putf (fs := (m_fv (vI 0) (vI 0) (vI 0) (vI 0) (vI 0) (vI 0) (vI 0) (vI 0) (vI 0) (vI 0) (vI ((xs 2) &&& 15)) (vI 0) (vI (-1)) (vI 0) (vI 0) (vI 0) (vI 0) (vI 0) (vI 0) (vI 0) (vI 0) (vI 0) (vI 0) (vI 0) (vI 0) (vI 0) (vI 0) (vI 0) (vI 0) (vI 0) (vI 0) (vI 0) (vI 0) (vI 0) (vI 0))) f_MO_75 (Or.inl rfl) d_MO_read_17 h80 (Nat.le_of_ble_eq_true rfl) (fun _ => ⟨rfl, rfl⟩) (by decide) ?_
  obtain ⟨G4, eG4⟩ : ∃ z : ab_G, z = List.set G3 80 (ab_ob 12 (m_fv (vI 0) (vI 0) (vI 0) (vI 0) (vI 0) (vI 0) (vI 0) (vI 0) (vI 0) (vI 0) (vI ((xs 2) &&& 15)) (vI 0) (vI (-1)) (vI 0) (vI 0) (vI 0) (vI 0) (vI 0) (vI 0) (vI 0) (vI 0) (vI 0) (vI 0) (vI 0) (vI 0) (vI 0) (vI 0) (vI 0) (vI 0) (vI 0) (vI 0) (vI 0) (vI 0) (vI 0) (vI 0))) := ⟨_, rfl⟩
  have h94 := ab_keep eG4 (by decide) h94
  have h95 := ab_keep eG4 (by decide) h95
  have h96 := ab_keep eG4 (by decide) h96
  have h97 := ab_keep eG4 (by decide) h97
  have h100 := ab_keep eG4 (by decide) h100
  have h102 := ab_keep eG4 (by decide) h102
  have h103 := ab_keep eG4 (by decide) h103
  have h104 := ab_keep eG4 (by decide) h104
  have h105 := ab_keep eG4 (by decide) h105
  have h107 := ab_keep eG4 (by decide) h107
  have h108 := ab_keep eG4 (by decide) h108
  have h109 := ab_keep eG4 (by decide) h109
  have hlen := ab_klen eG4 hlen
  have hsl := ab_ksl 102 eG4 h80 rfl rfl hsl
  have hfr := hfr.wr eG4 (by decide)
  have h80 := ab_kept eG4 h80
  change ab_W _ _ _ (List.set G3 80 (ab_ob 12 (m_fv (vI 0) (vI 0) (vI 0) (vI 0) (vI 0) (vI 0) (vI 0) (vI 0) (vI 0) (vI 0) (vI ((xs 2) &&& 15)) (vI 0) (vI (-1)) (vI 0) (vI 0) (vI 0) (vI 0) (vI 0) (vI 0) (vI 0) (vI 0) (vI 0) (vI 0) (vI 0) (vI 0) (vI 0) (vI 0) (vI 0) (vI 0) (vI 0) (vI 0) (vI 0) (vI 0) (vI 0) (vI 0)))) 20 [some (vR 80), some (vI ((xs 2) &&& 15)), none] [] _
  rw [← eG4]
  refine ab_aload_n d_MO_read_20 rfl ?_
  refine ab_iconst (v := 0) d_MO_read_21 (by decide) ?_
  refine ab_putf (fs := (m_fv (vI 0) (vI 0) (vI 0) (vI 0) (vI 0) (vI 0) (vI 0) (vI 0) (vI 0) (vI 0) (vI ((xs 2) &&& 15)) (vI 0) (vI (-1)) (vI 0) (vI 0) (vI 0) (vI 0) (vI 0) (vI 0) (vI 0) (vI 0) (vI 0) (vI 0) (vI 0) (vI 0) (vI 0) (vI 0) (vI 0) (vI 0) (vI 0) (vI 0) (vI 0) (vI 0) (vI 0) (vI 0))) f_MO_395 (Or.inl rfl) d_MO_read_22 h80 (Nat.le_of_ble_eq_true rfl) (fun _ => ⟨rfl, rfl⟩) (by decide) ?_
  obtain ⟨G5, eG5⟩ : ∃ z : ab_G, z = List.set G4 80 (ab_ob 12 (m_fv (vI 0) (vI 0) (vI 0) (vI 0) (vI 0) (vI 0) (vI 0) (vI 0) (vI 0) (vI 0) (vI ((xs 2) &&& 15)) (vI 0) (vI (-1)) (vI 0) (vI 0) (vI 0) (vI 0) (vI 0) (vI 0) (vI 0) (vI 0) (vI 0) (vI 0) (vI 0) (vI 0) (vI 0) (vI 0) (vI 0) (vI 0) (vI 0) (vI 0) (vI 0) (vI 0) (vI 0) (vI 0))) := ⟨_, rfl⟩
  have h94 := ab_keep eG5 (by decide) h94
  have h95 := ab_keep eG5 (by decide) h95
  have h96 := ab_keep eG5 (by decide) h96
  have h97 := ab_keep eG5 (by decide) h97
  have h100 := ab_keep eG5 (by decide) h100
  have h102 := ab_keep eG5 (by decide) h102
  have h103 := ab_keep eG5 (by decide) h103
  have h104 := ab_keep eG5 (by decide) h104
  have h105 := ab_keep eG5 (by decide) h105
  have h107 := ab_keep eG5 (by decide) h107
  have h108 := ab_keep eG5 (by decide) h108
  have h109 := ab_keep eG5 (by decide) h109
  have hlen := ab_klen eG5 hlen
  have hsl := ab_ksl 102 eG5 h80 rfl rfl hsl
  have hfr := hfr.wr eG5 (by decide)
  have h80 := ab_kept eG5 h80
  change ab_W _ _ _ (List.set G4 80 (ab_ob 12 (m_fv (vI 0) (vI 0) (vI 0) (vI 0) (vI 0) (vI 0) (vI 0) (vI 0) (vI 0) (vI 0) (vI ((xs 2) &&& 15)) (vI 0) (vI (-1)) (vI 0) (vI 0) (vI 0) (vI 0) (vI 0) (vI 0) (vI 0) (vI 0) (vI 0) (vI 0) (vI 0) (vI 0) (vI 0) (vI 0) (vI 0) (vI 0) (vI 0) (vI 0) (vI 0) (vI 0) (vI 0) (vI 0)))) 25 [some (vR 80), some (vI ((xs 2) &&& 15)), none] [] _
  rw [← eG5]
  refine ab_aload_n d_MO_read_25 rfl ?_
  refine ab_iconst (v := 0) d_MO_read_26 (by decide) ?_
  refine ab_putf (fs := (m_fv (vI 0) (vI 0) (vI 0) (vI 0) (vI 0) (vI 0) (vI 0) (vI 0) (vI 0) (vI 0) (vI ((xs 2) &&& 15)) (vI 0) (vI (-1)) (vI 0) (vI 0) (vI 0) (vI 0) (vI 0) (vI 0) (vI 0) (vI 0) (vI 0) (vI 0) (vI 0) (vI 0) (vI 0) (vI 0) (vI 0) (vI 0) (vI 0) (vI 0) (vI 0) (vI 0) (vI 0) (vI 0))) f_MO_282 (Or.inl rfl) d_MO_read_27 h80 (Nat.le_of_ble_eq_true rfl) (fun _ => ⟨rfl, rfl⟩) (by decide) ?_
  obtain ⟨G6, eG6⟩ : ∃ z : ab_G, z = List.set G5 80 (ab_ob 12 (m_fv (vI 0) (vI 0) (vI 0) (vI 0) (vI 0) (vI 0) (vI 0) (vI 0) (vI 0) (vI 0) (vI ((xs 2) &&& 15)) (vI 0) (vI (-1)) (vI 0) (vI 0) (vI 0) (vI 0) (vI 0) (vI 0) (vI 0) (vI 0) (vI 0) (vI 0) (vI 0) (vI 0) (vI 0) (vI 0) (vI 0) (vI 0) (vI 0) (vI 0) (vI 0) (vI 0) (vI 0) (vI 0))) := ⟨_, rfl⟩
  have h94 := ab_keep eG6 (by decide) h94
  have h95 := ab_keep eG6 (by decide) h95
  have h96 := ab_keep eG6 (by decide) h96
  have h97 := ab_keep eG6 (by decide) h97
  have h100 := ab_keep eG6 (by decide) h100
  have h102 := ab_keep eG6 (by decide) h102
  have h103 := ab_keep eG6 (by decide) h103
  have h104 := ab_keep eG6 (by decide) h104
  have h105 := ab_keep eG6 (by decide) h105
  have h107 := ab_keep eG6 (by decide) h107
  have h108 := ab_keep eG6 (by decide) h108
  have h109 := ab_keep eG6 (by decide) h109
  have hlen := ab_klen eG6 hlen
  have hsl := ab_ksl 102 eG6 h80 rfl rfl hsl
  have hfr := hfr.wr eG6 (by decide)
  have h80 := ab_kept eG6 h80
  change ab_W _ _ _ (List.set G5 80 (ab_ob 12 (m_fv (vI 0) (vI 0) (vI 0) (vI 0) (vI 0) (vI 0) (vI 0) (vI 0) (vI 0) (vI 0) (vI ((xs 2) &&& 15)) (vI 0) (vI (-1)) (vI 0) (vI 0) (vI 0) (vI 0) (vI 0) (vI 0) (vI 0) (vI 0) (vI 0) (vI 0) (vI 0) (vI 0) (vI 0) (vI 0) (vI 0) (vI 0) (vI 0) (vI 0) (vI 0) (vI 0) (vI 0) (vI 0)))) 30 [some (vR 80), some (vI ((xs 2) &&& 15)), none] [] _
  rw [← eG6]
  refine ab_aload_n d_MO_read_30 rfl ?_
  refine ab_iconst (v := 0) d_MO_read_31 (by decide) ?_
  refine ab_putf (fs := (m_fv (vI 0) (vI 0) (vI 0) (vI 0) (vI 0) (vI 0) (vI 0) (vI 0) (vI 0) (vI 0) (vI ((xs 2) &&& 15)) (vI 0) (vI (-1)) (vI 0) (vI 0) (vI 0) (vI 0) (vI 0) (vI 0) (vI 0) (vI 0) (vI 0) (vI 0) (vI 0) (vI 0) (vI 0) (vI 0) (vI 0) (vI 0) (vI 0) (vI 0) (vI 0) (vI 0) (vI 0) (vI 0))) f_MO_264 (Or.inl rfl) d_MO_read_32 h80 (Nat.le_of_ble_eq_true rfl) (fun _ => ⟨rfl, rfl⟩) (by decide) ?_
  obtain ⟨G7, eG7⟩ : ∃ z : ab_G, z = List.set G6 80 (ab_ob 12 (m_fv (vI 0) (vI 0) (vI 0) (vI 0) (vI 0) (vI 0) (vI 0) (vI 0) (vI 0) (vI 0) (vI ((xs 2) &&& 15)) (vI 0) (vI (-1)) (vI 0) (vI 0) (vI 0) (vI 0) (vI 0) (vI 0) (vI 0) (vI 0) (vI 0) (vI 0) (vI 0) (vI 0) (vI 0) (vI 0) (vI 0) (vI 0) (vI 0) (vI 0) (vI 0) (vI 0) (vI 0) (vI 0))) := ⟨_, rfl⟩
  have h94 := ab_keep eG7 (by decide) h94
  have h95 := ab_keep eG7 (by decide) h95
  have h96 := ab_keep eG7 (by decide) h96
  have h97 := ab_keep eG7 (by decide) h97
  have h100 := ab_keep eG7 (by decide) h100
  have h102 := ab_keep eG7 (by decide) h102
  have h103 := ab_keep eG7 (by decide) h103
  have h104 := ab_keep eG7 (by decide) h104
  have h105 := ab_keep eG7 (by decide) h105
  have h107 := ab_keep eG7 (by decide) h107
  have h108 := ab_keep eG7 (by decide) h108
  have h109 := ab_keep eG7 (by decide) h109
  have hlen := ab_klen eG7 hlen
  have hsl := ab_ksl 102 eG7 h80 rfl rfl hsl
  have hfr := hfr.wr eG7 (by decide)
  have h80 := ab_kept eG7 h80
  change ab_W _ _ _ (List.set G6 80 (ab_ob 12 (m_fv (vI 0) (vI 0) (vI 0) (vI 0) (vI 0) (vI 0) (vI 0) (vI 0) (vI 0) (vI 0) (vI ((xs 2) &&& 15)) (vI 0) (vI (-1)) (vI 0) (vI 0) (vI 0) (vI 0) (vI 0) (vI 0) (vI 0) (vI 0) (vI 0) (vI 0) (vI 0) (vI 0) (vI 0) (vI 0) (vI 0) (vI 0) (vI 0) (vI 0) (vI 0) (vI 0) (vI 0) (vI 0)))) 35 [some (vR 80), some (vI ((xs 2) &&& 15)), none] [] _
  rw [← eG7]
  refine ab_aload_n d_MO_read_35 rfl ?_
  refine ab_iconst (v := 0) d_MO_read_36 (by decide) ?_
  refine ab_putf (fs := (m_fv (vI 0) (vI 0) (vI 0) (vI 0) (vI 0) (vI 0) (vI 0) (vI 0) (vI 0) (vI 0) (vI ((xs 2) &&& 15)) (vI 0) (vI (-1)) (vI 0) (vI 0) (vI 0) (vI 0) (vI 0) (vI 0) (vI 0) (vI 0) (vI 0) (vI 0) (vI 0) (vI 0) (vI 0) (vI 0) (vI 0) (vI 0) (vI 0) (vI 0) (vI 0) (vI 0) (vI 0) (vI 0))) f_MO_258 (Or.inl rfl) d_MO_read_37 h80 (Nat.le_of_ble_eq_true rfl) (fun _ => ⟨rfl, rfl⟩) (by decide) ?_
  obtain ⟨G8, eG8⟩ : ∃ z : ab_G, z = List.set G7 80 (ab_ob 12 (m_fv (vI 0) (vI 0) (vI 0) (vI 0) (vI 0) (vI 0) (vI 0) (vI 0) (vI 0) (vI 0) (vI ((xs 2) &&& 15)) (vI 0) (vI (-1)) (vI 0) (vI 0) (vI 0) (vI 0) (vI 0) (vI 0) (vI 0) (vI 0) (vI 0) (vI 0) (vI 0) (vI 0) (vI 0) (vI 0) (vI 0) (vI 0) (vI 0) (vI 0) (vI 0) (vI 0) (vI 0) (vI 0))) := ⟨_, rfl⟩
  have h94 := ab_keep eG8 (by decide) h94
  have h95 := ab_keep eG8 (by decide) h95
  have h96 := ab_keep eG8 (by decide) h96
  have h97 := ab_keep eG8 (by decide) h97
  have h100 := ab_keep eG8 (by decide) h100
  have h102 := ab_keep eG8 (by decide) h102
  have h103 := ab_keep eG8 (by decide) h103
  have h104 := ab_keep eG8 (by decide) h104
  have h105 := ab_keep eG8 (by decide) h105
  have h107 := ab_keep eG8 (by decide) h107
  have h108 := ab_keep eG8 (by decide) h108
  have h109 := ab_keep eG8 (by decide) h109
  have hlen := ab_klen eG8 hlen
  have hsl := ab_ksl 102 eG8 h80 rfl rfl hsl
  have hfr := hfr.wr eG8 (by decide)
  have h80 := ab_kept eG8 h80
  change ab_W _ _ _ (List.set G7 80 (ab_ob 12 (m_fv (vI 0) (vI 0) (vI 0) (vI 0) (vI 0) (vI 0) (vI 0) (vI 0) (vI 0) (vI 0) (vI ((xs 2) &&& 15)) (vI 0) (vI (-1)) (vI 0) (vI 0) (vI 0) (vI 0) (vI 0) (vI 0) (vI 0) (vI 0) (vI 0) (vI 0) (vI 0) (vI 0) (vI 0) (vI 0) (vI 0) (vI 0) (vI 0) (vI 0) (vI 0) (vI 0) (vI 0) (vI 0)))) 40 [some (vR 80), some (vI ((xs 2) &&& 15)), none] [] _
  rw [← eG8]
  refine ab_aload_n d_MO_read_40 rfl ?_
  refine ab_iconst (v := 0) d_MO_read_41 (by decide) ?_
  refine ab_putf (fs := (m_fv (vI 0) (vI 0) (vI 0) (vI 0) (vI 0) (vI 0) (vI 0) (vI 0) (vI 0) (vI 0) (vI ((xs 2) &&& 15)) (vI 0) (vI (-1)) (vI 0) (vI 0) (vI 0) (vI 0) (vI 0) (vI 0) (vI 0) (vI 0) (vI 0) (vI 0) (vI 0) (vI 0) (vI 0) (vI 0) (vI 0) (vI 0) (vI 0) (vI 0) (vI 0) (vI 0) (vI 0) (vI 0))) f_MO_248 (Or.inl rfl) d_MO_read_42 h80 (Nat.le_of_ble_eq_true rfl) (fun _ => ⟨rfl, rfl⟩) (by decide) ?_
  obtain ⟨G9, eG9⟩ : ∃ z : ab_G, z = List.set G8 80 (ab_ob 12 (m_fv (vI 0) (vI 0) (vI 0) (vI 0) (vI 0) (vI 0) (vI 0) (vI 0) (vI 0) (vI 0) (vI ((xs 2) &&& 15)) (vI 0) (vI (-1)) (vI 0) (vI 0) (vI 0) (vI 0) (vI 0) (vI 0) (vI 0) (vI 0) (vI 0) (vI 0) (vI 0) (vI 0) (vI 0) (vI 0) (vI 0) (vI 0) (vI 0) (vI 0) (vI 0) (vI 0) (vI 0) (vI 0))) := ⟨_, rfl⟩
  have h94 := ab_keep eG9 (by decide) h94
  have h95 := ab_keep eG9 (by decide) h95
  have h96 := ab_keep eG9 (by decide) h96
  have h97 := ab_keep eG9 (by decide) h97
  have h100 := ab_keep eG9 (by decide) h100
  have h102 := ab_keep eG9 (by decide) h102
  have h103 := ab_keep eG9 (by decide) h103
  have h104 := ab_keep eG9 (by decide) h104
  have h105 := ab_keep eG9 (by decide) h105
  have h107 := ab_keep eG9 (by decide) h107
  have h108 := ab_keep eG9 (by decide) h108
  have h109 := ab_keep eG9 (by decide) h109
  have hlen := ab_klen eG9 hlen
  have hsl := ab_ksl 102 eG9 h80 rfl rfl hsl
  have hfr := hfr.wr eG9 (by decide)
  have h80 := ab_kept eG9 h80
  change ab_W _ _ _ (List.set G8 80 (ab_ob 12 (m_fv (vI 0) (vI 0) (vI 0) (vI 0) (vI 0) (vI 0) (vI 0) (vI 0) (vI 0) (vI 0) (vI ((xs 2) &&& 15)) (vI 0) (vI (-1)) (vI 0) (vI 0) (vI 0) (vI 0) (vI 0) (vI 0) (vI 0) (vI 0) (vI 0) (vI 0) (vI 0) (vI 0) (vI 0) (vI 0) (vI 0) (vI 0) (vI 0) (vI 0) (vI 0) (vI 0) (vI 0) (vI 0)))) 45 [some (vR 80), some (vI ((xs 2) &&& 15)), none] [] _
  rw [← eG9]
  refine ab_aload_n d_MO_read_45 rfl ?_
  refine ab_iconst (v := (-1)) d_MO_read_46 (by decide) ?_
  refine ab_aload_n d_MO_read_47 rfl ?_
  refine ab_getf (fs := (m_fv (vI 0) (vI 0) (vI 0) (vI 0) (vI 0) (vI 0) (vI 0) (vI 0) (vI 0) (vI 0) (vI ((xs 2) &&& 15)) (vI 0) (vI (-1)) (vI 0) (vI 0) (vI 0) (vI 0) (vI 0) (vI 0) (vI 0) (vI 0) (vI 0) (vI 0) (vI 0) (vI 0) (vI 0) (vI 0) (vI 0) (vI 0) (vI 0) (vI 0) (vI 0) (vI 0) (vI 0) (vI 0))) f_MO_276 d_MO_read_48 h80 rfl ?_
  refine ab_iconst (v := 0) d_MO_read_51 (by decide) ?_
  refine ab_callV (d' := d - 1) (as := [vI (-1), vI ((xs 2) &&& 15), vI 0]) (st := []) (r := _) (q_MO_openGroup_1 (xs := xs) hlen hsl h80 h102 h103 h104 h105 h107 h109 (by omega)) (fun o G2 h => ⟨_, h.1⟩) (by omega) m_MO_openGroup ml_MO_392 im_MO_openGroup se_MO_openGroup c_MO h80 (Nat.le_of_ble_eq_true rfl) d_MO_read_52 rfl ?_
  intro v G10 hq
  obtain ⟨hv, hfk, hlen, hsl, h102, h103, h104, h105, h107, h109⟩ := hq
  cases hv
  have h80 := hfk.get (by decide) h80
  have h94 := hfk.get (by decide) h94
  have h95 := hfk.get (by decide) h95
  have h96 := hfk.get (by decide) h96
  have h97 := hfk.get (by decide) h97
  have h100 := hfk.get (by decide) h100
  have h108 := hfk.get (by decide) h108
  have hfr := hfr.cl hfk (by decide)
  change ab_W _ _ _ G10 55 [some (vR 80), some (vI ((xs 2) &&& 15)), none] [] _
  refine ab_aload_n d_MO_read_55 rfl ?_
  refine ab_getf (fs := (m_fv (vI 0) (vI 0) (vI 0) (vI 0) (vI 0) (vI 0) (vI 0) (vI 0) (vI 0) (vI 0) (vI ((xs 2) &&& 15)) (vI 0) (vI (-1)) (vI 0) (vI 0) (vI 0) (vI 0) (vI 0) (vI 0) (vI 0) (vI 0) (vI 0) (vI 0) (vI 0) (vI 0) (vI 0) (vI 0) (vI 0) (vI 0) (vI 0) (vI 0) (vI 0) (vI 0) (vI 0) (vI 0))) f_MO_273 d_MO_read_56 h80 rfl ?_
  refine ab_if_ne (tgt := 80) d_MO_read_59 (by decide) (fun c => absurd c (by decide)) (fun _ => ?_)
  refine ab_aload_n d_MO_read_62 rfl ?_
  refine ab_getf (fs := (m_fv (vI 0) (vI 0) (vI 0) (vI 0) (vI 0) (vI 0) (vI 0) (vI 0) (vI 0) (vI 0) (vI ((xs 2) &&& 15)) (vI 0) (vI (-1)) (vI 0) (vI 0) (vI 0) (vI 0) (vI 0) (vI 0) (vI 0) (vI 0) (vI 0) (vI 0) (vI 0) (vI 0) (vI 0) (vI 0) (vI 0) (vI 0) (vI 0) (vI 0) (vI 0) (vI 0) (vI 0) (vI 0))) f_MO_279 d_MO_read_63 h80 rfl ?_
  refine ab_aload_n d_MO_read_66 rfl ?_
  refine ab_getf (fs := (m_fv (vI 0) (vI 0) (vI 0) (vI 0) (vI 0) (vI 0) (vI 0) (vI 0) (vI 0) (vI 0) (vI ((xs 2) &&& 15)) (vI 0) (vI (-1)) (vI 0) (vI 0) (vI 0) (vI 0) (vI 0) (vI 0) (vI 0) (vI 0) (vI 0) (vI 0) (vI 0) (vI 0) (vI 0) (vI 0) (vI 0) (vI 0) (vI 0) (vI 0) (vI 0) (vI 0) (vI 0) (vI 0))) f_MO_223 d_MO_read_67 h80 rfl ?_
  refine ab_icmp_ge (tgt := 80) d_MO_read_70 (by decide) (fun _ => ?_) (fun c => absurd c (by decide))
  refine ab_aload_n d_MO_read_80 rfl ?_
  refine ab_getf (fs := (m_fv (vI 0) (vI 0) (vI 0) (vI 0) (vI 0) (vI 0) (vI 0) (vI 0) (vI 0) (vI 0) (vI ((xs 2) &&& 15)) (vI 0) (vI (-1)) (vI 0) (vI 0) (vI 0) (vI 0) (vI 0) (vI 0) (vI 0) (vI 0) (vI 0) (vI 0) (vI 0) (vI 0) (vI 0) (vI 0) (vI 0) (vI 0) (vI 0) (vI 0) (vI 0) (vI 0) (vI 0) (vI 0))) f_MO_273 d_MO_read_81 h80 rfl ?_
  refine ab_if_ne (tgt := 108) d_MO_read_84 (by decide) (fun c => absurd c (by decide)) (fun _ => ?_)
  refine ab_aload_n d_MO_read_87 rfl ?_
  refine ab_getf (fs := (m_fv (vI 0) (vI 0) (vI 0) (vI 0) (vI 0) (vI 0) (vI 0) (vI 0) (vI 0) (vI 0) (vI ((xs 2) &&& 15)) (vI 0) (vI (-1)) (vI 0) (vI 0) (vI 0) (vI 0) (vI 0) (vI 0) (vI 0) (vI 0) (vI 0) (vI 0) (vI 0) (vI 0) (vI 0) (vI 0) (vI 0) (vI 0) (vI 0) (vI 0) (vI 0) (vI 0) (vI 0) (vI 0))) f_MO_282 d_MO_read_88 h80 rfl ?_
  refine ab_if_le (tgt := 108) d_MO_read_91 (by decide) (fun _ => ?_) (fun c => absurd c (by decide))
  refine ab_aload_n d_MO_read_108 rfl ?_
  refine ab_getf (fs := (m_fv (vI 0) (vI 0) (vI 0) (vI 0) (vI 0) (vI 0) (vI 0) (vI 0) (vI 0) (vI 0) (vI ((xs 2) &&& 15)) (vI 0) (vI (-1)) (vI 0) (vI 0) (vI 0) (vI 0) (vI 0) (vI 0) (vI 0) (vI 0) (vI 0) (vI 0) (vI 0) (vI 0) (vI 0) (vI 0) (vI 0) (vI 0) (vI 0) (vI 0) (vI 0) (vI 0) (vI 0) (vI 0))) f_MO_273 d_MO_read_109 h80 rfl ?_
  refine ab_if_le (tgt := 117) d_MO_read_112 (by decide) (fun _ => ?_) (fun c => absurd c (by decide))
  refine ab_aload_n d_MO_read_117 rfl ?_
  refine ab_callV (d' := d - 1) (as := []) (st := []) (r := _) (q_MO_closeAll_1 (xs := xs) hlen hsl h80 h94 h95 h96 h97 h100 h105 h107 h108 h109 (by omega)) (fun o G2 h => ⟨_, h.1⟩) (by omega) m_MO_closeAll ml_MO_398 im_MO_closeAll se_MO_closeAll c_MO h80 (Nat.le_of_ble_eq_true rfl) d_MO_read_118 rfl ?_
  intro v G11 hq
  obtain ⟨hv, hfk, hlen, hsl, h80, h94, h95, h96, h97, h100, h105, h107, h108, h109⟩ := hq
  cases hv
  have h102 := hfk.get (by decide) h102
  have h103 := hfk.get (by decide) h103
  have h104 := hfk.get (by decide) h104
  have hfr := hfr.cl hfk (by decide)
  change ab_W _ _ _ G11 121 [some (vR 80), some (vI ((xs 2) &&& 15)), none] [vI 1] _
  refine ab_istore_n d_MO_read_121 (Nat.le_of_ble_eq_true rfl) (Nat.le_of_ble_eq_true rfl) rfl ?_
  change ab_W _ _ _ G11 122 [some (vR 80), some (vI ((xs 2) &&& 15)), some (vI 1)] [] _
  refine ab_aload_n d_MO_read_122 rfl ?_
  refine ab_getf (fs := (m_fv (vI 0) (vI 0) (vI 0) (vI 0) (vI 0) (vI 0) (vI 0) (vI 0) (vI 2) (vI 0) (vI ((xs 2) &&& 15)) (vI 0) (vI (-1)) (vI 0) (vI 0) (vI 0) (vI 0) (vI 0) (vI 0) (vI 0) (vI 0) (vI 0) (vI 0) (vI 0) (vI 0) (vI 0) (vI 0) (vI 0) (vI 0) (vI 0) (vI 0) (vI 0) (vI 0) (vI 0) (vI 0))) f_MO_68 d_MO_read_123 h80 rfl ?_
  refine ab_iload_n d_MO_read_126 rfl ?_
  refine ab_lald d_MO_read_127 h100 (by unfold vp_in; decide) ?_
  refine ab_topl (y := 0) rfl ?_
  refine ab_ldc2 (v := 400) d_MO_read_128 cn_MO_436 ?_
  refine ab_lcmp d_MO_read_131 ?_
  refine ab_topi (y := (-1)) (by decide +kernel) ?_
  refine ab_if_le (tgt := 142) d_MO_read_132 (by decide) (fun _ => ?_) (fun c => absurd c (by decide))
  refine ab_iload_n d_MO_read_142 rfl ?_
  exact ab_iret (rt := .int) rfl rfl d_MO_read_143 (by rw [hQ]; exact ⟨rfl, hfr, hlen, hsl, h80, h94, h95, h96, h97, h100, h102, h103, h104, h105, h107, h108, h109⟩)
set_option maxRecDepth 100000 in
set_option maxHeartbeats 4000000 in
theorem q_MO_row_1 {X : ab_X} {d : Nat} {G : ab_G} {xs : Nat → Int32} (hlen : G.length = 158) (hsl : ab_slots G = 1893385) (h80 : G[80]? = some (ab_ob 12 (m_fv (vI 0) (vI 0) (vI 0) (vI 0) (vI 0) (vI 0) (vI 0) (vI 0) (vI 2) (vI 0) (vI ((xs 2) &&& 15)) (vI 0) (vI (-1)) (vI 0) (vI 0) (vI 0) (vI 0) (vI 0) (vI 0) (vI (xs 1)) (vI 0) (vI 0) (vI 0) (vI 0) (vI 0) (vI 0) (vI 0) (vI 0) (vI 0) (vI 0) (vI 0) (vI 0) (vI 0) (vI 0) (vI 0)))) : ab_F X d y_MO_row (.code y_MO_row b_MO_row 1 (some (.int))) [vR 80] G (fun o G2 => o = .returned (some (vI 0)) ∧ ab_fr [80] G G2 ∧ G2.length = 158 ∧ ab_slots G2 = 1893385 ∧ G2[80]? = some (ab_ob 12 (m_fv (vI 0) (vI 0) (vI 0) (vI 0) (vI 0) (vI 0) (vI 0) (vI 0) (vI 2) (vI 0) (vI ((xs 2) &&& 15)) (vI 0) (vI (-1)) (vI 0) (vI 0) (vI 0) (vI 0) (vI 0) (vI 0) (vI (xs 1)) (vI 0) (vI 0) (vI 1) (vI 0) (vI 0) (vI 0) (vI 0) (vI 0) (vI 0) (vI 0) (vI 0) (vI 0) (vI 0) (vI 0) (vI 0)))) := by
  refine ab_F_of (by decide +kernel) (Nat.le_of_ble_eq_true rfl) ?_
  obtain ⟨Q, hQ⟩ : ∃ z : Outcome → ab_G → Prop, z = (fun o G2 => o = .returned (some (vI 0)) ∧ ab_fr [80] G G2 ∧ G2.length = 158 ∧ ab_slots G2 = 1893385 ∧ G2[80]? = some (ab_ob 12 (m_fv (vI 0) (vI 0) (vI 0) (vI 0) (vI 0) (vI 0) (vI 0) (vI 0) (vI 2) (vI 0) (vI ((xs 2) &&& 15)) (vI 0) (vI (-1)) (vI 0) (vI 0) (vI 0) (vI 0) (vI 0) (vI 0) (vI (xs 1)) (vI 0) (vI 0) (vI 1) (vI 0) (vI 0) (vI 0) (vI 0) (vI 0) (vI 0) (vI 0) (vI 0) (vI 0) (vI 0) (vI 0) (vI 0)))) := ⟨_, rfl⟩
  rw [← hQ]
  change ab_W X (ab_pl y_MO_row b_MO_row 1 (some (.int))) d G 0 [some (vR 80)] [] Q
  have hfr : ab_fr [80] G G := ab_fr.rf
  refine ab_aload_n d_MO_row_0 rfl ?_
  refine ab_dup d_MO_row_1 rfl ?_
  refine ab_getf (fs := (m_fv (vI 0) (vI 0) (vI 0) (vI 0) (vI 0) (vI 0) (vI 0) (vI 0) (vI 2) (vI 0) (vI ((xs 2) &&& 15)) (vI 0) (vI (-1)) (vI 0) (vI 0) (vI 0) (vI 0) (vI 0) (vI 0) (vI (xs 1)) (vI 0) (vI 0) (vI 0) (vI 0) (vI 0) (vI 0) (vI 0) (vI 0) (vI 0) (vI 0) (vI 0) (vI 0) (vI 0) (vI 0) (vI 0))) f_MO_451 d_MO_row_2 h80 rfl ?_
  refine ab_iconst (v := 1) d_MO_row_5 (by decide) ?_
  refine ab_iadd d_MO_row_6 ?_
  refine ab_topi (y := 1) (by decide) ?_
  refine ab_putf (fs := (m_fv (vI 0) (vI 0) (vI 0) (vI 0) (vI 0) (vI 0) (vI 0) (vI 0) (vI 2) (vI 0) (vI ((xs 2) &&& 15)) (vI 0) (vI (-1)) (vI 0) (vI 0) (vI 0) (vI 0) (vI 0) (vI 0) (vI (xs 1)) (vI 0) (vI 0) (vI 0) (vI 0) (vI 0) (vI 0) (vI 0) (vI 0) (vI 0) (vI 0) (vI 0) (vI 0) (vI 0) (vI 0) (vI 0))) f_MO_451 (Or.inl rfl) d_MO_row_7 h80 (Nat.le_of_ble_eq_true rfl) (fun _ => ⟨rfl, rfl⟩) (by decide) ?_
  obtain ⟨G1, eG1⟩ : ∃ z : ab_G, z = List.set G 80 (ab_ob 12 (m_fv (vI 0) (vI 0) (vI 0) (vI 0) (vI 0) (vI 0) (vI 0) (vI 0) (vI 2) (vI 0) (vI ((xs 2) &&& 15)) (vI 0) (vI (-1)) (vI 0) (vI 0) (vI 0) (vI 0) (vI 0) (vI 0) (vI (xs 1)) (vI 0) (vI 0) (vI 1) (vI 0) (vI 0) (vI 0) (vI 0) (vI 0) (vI 0) (vI 0) (vI 0) (vI 0) (vI 0) (vI 0) (vI 0))) := ⟨_, rfl⟩
  have hlen := ab_klen eG1 hlen
  have hsl := ab_ksl 102 eG1 h80 rfl rfl hsl
  have hfr := hfr.wr eG1 (by decide)
  have h80 := ab_kept eG1 h80
  change ab_W _ _ _ (List.set G 80 (ab_ob 12 (m_fv (vI 0) (vI 0) (vI 0) (vI 0) (vI 0) (vI 0) (vI 0) (vI 0) (vI 2) (vI 0) (vI ((xs 2) &&& 15)) (vI 0) (vI (-1)) (vI 0) (vI 0) (vI 0) (vI 0) (vI 0) (vI 0) (vI (xs 1)) (vI 0) (vI 0) (vI 1) (vI 0) (vI 0) (vI 0) (vI 0) (vI 0) (vI 0) (vI 0) (vI 0) (vI 0) (vI 0) (vI 0) (vI 0)))) 10 [some (vR 80)] [] _
  rw [← eG1]
  refine ab_bipush (v := 32) d_MO_row_10 (by decide) ?_
  refine ab_aload_n d_MO_row_12 rfl ?_
  refine ab_getf (fs := (m_fv (vI 0) (vI 0) (vI 0) (vI 0) (vI 0) (vI 0) (vI 0) (vI 0) (vI 2) (vI 0) (vI ((xs 2) &&& 15)) (vI 0) (vI (-1)) (vI 0) (vI 0) (vI 0) (vI 0) (vI 0) (vI 0) (vI (xs 1)) (vI 0) (vI 0) (vI 1) (vI 0) (vI 0) (vI 0) (vI 0) (vI 0) (vI 0) (vI 0) (vI 0) (vI 0) (vI 0) (vI 0) (vI 0))) f_MO_451 d_MO_row_13 h80 rfl ?_
  refine ab_iconst (v := 1) d_MO_row_16 (by decide) ?_
  refine ab_isub d_MO_row_17 ?_
  refine ab_topi (y := 0) (by decide) ?_
  refine ab_imul d_MO_row_18 ?_
  refine ab_topi (y := 0) (by decide) ?_
  exact ab_iret (rt := .int) rfl rfl d_MO_row_19 (by rw [hQ]; exact ⟨rfl, hfr, hlen, hsl, h80⟩)
set_option maxRecDepth 100000 in
set_option maxHeartbeats 4000000 in
theorem q_MO_open_1 {X : ab_X} {d : Nat} {G : ab_G} {xs : Nat → Int32} (hlen : G.length = 158) (hsl : ab_slots G = 1893385) (h80 : G[80]? = some (ab_ob 12 (m_fv (vI 0) (vI 0) (vI 0) (vI 0) (vI 0) (vI 0) (vI 0) (vI 0) (vI 2) (vI 0) (vI ((xs 2) &&& 15)) (vI 0) (vI (-1)) (vI 0) (vI 0) (vI 0) (vI 0) (vI 0) (vI 0) (vI (xs 1)) (vI 0) (vI 0) (vI 1) (vI 0) (vI 0) (vI 0) (vI 0) (vI 0) (vI 0) (vI 0) (vI 0) (vI 0) (vI 0) (vI 0) (vI 0)))) (h128 : G[128]? = some (ab_if 300 ((fun _ => 0)))) (h129 : G[129]? = some (ab_if 300 ((fun _ => 0)))) (h130 : G[130]? = some (ab_if 300 ((fun _ => 0)))) (h131 : G[131]? = some (ab_if 300 ((fun _ => 0)))) (h132 : G[132]? = some (ab_if 300 ((fun _ => 0)))) : ab_F X d y_MO_open (.code y_MO_open b_MO_open 4 none) [vR 80, vI 1, vI 0, vI 0] G (fun o G2 => o = .returned none ∧ ab_fr [80, 128, 129, 130, 131, 132] G G2 ∧ G2.length = 158 ∧ ab_slots G2 = 1893385 ∧ G2[80]? = some (ab_ob 12 (m_fv (vI 0) (vI 0) (vI 0) (vI 0) (vI 0) (vI 0) (vI 0) (vI 0) (vI 2) (vI 0) (vI ((xs 2) &&& 15)) (vI 0) (vI (-1)) (vI 0) (vI 0) (vI 0) (vI 0) (vI 0) (vI 0) (vI (xs 1)) (vI 1) (vI 0) (vI 1) (vI 0) (vI 0) (vI 0) (vI 0) (vI 0) (vI 0) (vI 0) (vI 0) (vI 0) (vI 0) (vI 0) (vI 0))) ∧ G2[128]? = some (ab_if 300 ((upd (fun _ => 0) 0 1))) ∧ G2[129]? = some (ab_if 300 ((upd (fun _ => 0) 0 0))) ∧ G2[130]? = some (ab_if 300 ((upd (fun _ => 0) 0 0))) ∧ G2[131]? = some (ab_if 300 ((upd (fun _ => 0) 0 0))) ∧ G2[132]? = some (ab_if 300 ((upd (fun _ => 0) 0 0)))) := by
  refine ab_F_of (by decide +kernel) (Nat.le_of_ble_eq_true rfl) ?_
  obtain ⟨Q, hQ⟩ : ∃ z : Outcome → ab_G → Prop, z = (fun o G2 => o = .returned none ∧ ab_fr [80, 128, 129, 130, 131, 132] G G2 ∧ G2.length = 158 ∧ ab_slots G2 = 1893385 ∧ G2[80]? = some (ab_ob 12 (m_fv (vI 0) (vI 0) (vI 0) (vI 0) (vI 0) (vI 0) (vI 0) (vI 0) (vI 2) (vI 0) (vI ((xs 2) &&& 15)) (vI 0) (vI (-1)) (vI 0) (vI 0) (vI 0) (vI 0) (vI 0) (vI 0) (vI (xs 1)) (vI 1) (vI 0) (vI 1) (vI 0) (vI 0) (vI 0) (vI 0) (vI 0) (vI 0) (vI 0) (vI 0) (vI 0) (vI 0) (vI 0) (vI 0))) ∧ G2[128]? = some (ab_if 300 ((upd (fun _ => 0) 0 1))) ∧ G2[129]? = some (ab_if 300 ((upd (fun _ => 0) 0 0))) ∧ G2[130]? = some (ab_if 300 ((upd (fun _ => 0) 0 0))) ∧ G2[131]? = some (ab_if 300 ((upd (fun _ => 0) 0 0))) ∧ G2[132]? = some (ab_if 300 ((upd (fun _ => 0) 0 0)))) := ⟨_, rfl⟩
  rw [← hQ]
  change ab_W X (ab_pl y_MO_open b_MO_open 4 none) d G 0 [some (vR 80), some (vI 1), some (vI 0), some (vI 0)] [] Q
  have hfr : ab_fr [80, 128, 129, 130, 131, 132] G G := ab_fr.rf
  refine ab_aload_n d_MO_open_0 rfl ?_
  refine ab_getf (fs := (m_fv (vI 0) (vI 0) (vI 0) (vI 0) (vI 0) (vI 0) (vI 0) (vI 0) (vI 2) (vI 0) (vI ((xs 2) &&& 15)) (vI 0) (vI (-1)) (vI 0) (vI 0) (vI 0) (vI 0) (vI 0) (vI 0) (vI (xs 1)) (vI 0) (vI 0) (vI 1) (vI 0) (vI 0) (vI 0) (vI 0) (vI 0) (vI 0) (vI 0) (vI 0) (vI 0) (vI 0) (vI 0) (vI 0))) f_MO_158 d_MO_open_1 h80 rfl ?_
  refine ab_aload_n d_MO_open_4 rfl ?_
  refine ab_getf (fs := (m_fv (vI 0) (vI 0) (vI 0) (vI 0) (vI 0) (vI 0) (vI 0) (vI 0) (vI 2) (vI 0) (vI ((xs 2) &&& 15)) (vI 0) (vI (-1)) (vI 0) (vI 0) (vI 0) (vI 0) (vI 0) (vI 0) (vI (xs 1)) (vI 0) (vI 0) (vI 1) (vI 0) (vI 0) (vI 0) (vI 0) (vI 0) (vI 0) (vI 0) (vI 0) (vI 0) (vI 0) (vI 0) (vI 0))) f_MO_445 d_MO_open_5 h80 rfl ?_
  refine ab_iload_n d_MO_open_8 rfl ?_
  refine ab_iast d_MO_open_9 h128 (by unfold vp_in; decide) (by decide) ?_
  obtain ⟨G1, eG1⟩ : ∃ z : ab_G, z = List.set G 128 (ab_if 300 ((upd (fun _ => 0) 0 1))) := ⟨_, rfl⟩
  have h80 := ab_keep eG1 (by decide) h80
  have h129 := ab_keep eG1 (by decide) h129
  have h130 := ab_keep eG1 (by decide) h130
  have h131 := ab_keep eG1 (by decide) h131
  have h132 := ab_keep eG1 (by decide) h132
  have hlen := ab_klen eG1 hlen
  have hsl := ab_ksl 300 eG1 h128 rfl rfl hsl
  have hfr := hfr.wr eG1 (by decide)
  have h128 := ab_kept eG1 h128
  change ab_W _ _ _ (List.set G 128 (ab_if 300 ((upd (fun _ => 0) 0 1)))) 10 [some (vR 80), some (vI 1), some (vI 0), some (vI 0)] [] _
  rw [← eG1]
  refine ab_aload_n d_MO_open_10 rfl ?_
  refine ab_getf (fs := (m_fv (vI 0) (vI 0) (vI 0) (vI 0) (vI 0) (vI 0) (vI 0) (vI 0) (vI 2) (vI 0) (vI ((xs 2) &&& 15)) (vI 0) (vI (-1)) (vI 0) (vI 0) (vI 0) (vI 0) (vI 0) (vI 0) (vI (xs 1)) (vI 0) (vI 0) (vI 1) (vI 0) (vI 0) (vI 0) (vI 0) (vI 0) (vI 0) (vI 0) (vI 0) (vI 0) (vI 0) (vI 0) (vI 0))) f_MO_161 d_MO_open_11 h80 rfl ?_
  refine ab_aload_n d_MO_open_14 rfl ?_
  refine ab_getf (fs := (m_fv (vI 0) (vI 0) (vI 0) (vI 0) (vI 0) (vI 0) (vI 0) (vI 0) (vI 2) (vI 0) (vI ((xs 2) &&& 15)) (vI 0) (vI (-1)) (vI 0) (vI 0) (vI 0) (vI 0) (vI 0) (vI 0) (vI (xs 1)) (vI 0) (vI 0) (vI 1) (vI 0) (vI 0) (vI 0) (vI 0) (vI 0) (vI 0) (vI 0) (vI 0) (vI 0) (vI 0) (vI 0) (vI 0))) f_MO_445 d_MO_open_15 h80 rfl ?_
  refine ab_iload_n d_MO_open_18 rfl ?_
  refine ab_iast d_MO_open_19 h129 (by unfold vp_in; decide) (by decide) ?_
  obtain ⟨G2, eG2⟩ : ∃ z : ab_G, z = List.set G1 129 (ab_if 300 ((upd (fun _ => 0) 0 0))) := ⟨_, rfl⟩
  have h80 := ab_keep eG2 (by decide) h80
  have h128 := ab_keep eG2 (by decide) h128
  have h130 := ab_keep eG2 (by decide) h130
  have h131 := ab_keep eG2 (by decide) h131
  have h132 := ab_keep eG2 (by decide) h132
  have hlen := ab_klen eG2 hlen
  have hsl := ab_ksl 300 eG2 h129 rfl rfl hsl
  have hfr := hfr.wr eG2 (by decide)
  have h129 := ab_kept eG2 h129
  change ab_W _ _ _ (List.set G1 129 (ab_if 300 ((upd (fun _ => 0) 0 0)))) 20 [some (vR 80), some (vI 1), some (vI 0), some (vI 0)] [] _
  rw [← eG2]
  refine ab_aload_n d_MO_open_20 rfl ?_
  refine ab_getf (fs := (m_fv (vI 0) (vI 0) (vI 0) (vI 0) (vI 0) (vI 0) (vI 0) (vI 0) (vI 2) (vI 0) (vI ((xs 2) &&& 15)) (vI 0) (vI (-1)) (vI 0) (vI 0) (vI 0) (vI 0) (vI 0) (vI 0) (vI (xs 1)) (vI 0) (vI 0) (vI 1) (vI 0) (vI 0) (vI 0) (vI 0) (vI 0) (vI 0) (vI 0) (vI 0) (vI 0) (vI 0) (vI 0) (vI 0))) f_MO_164 d_MO_open_21 h80 rfl ?_
  refine ab_aload_n d_MO_open_24 rfl ?_
  refine ab_getf (fs := (m_fv (vI 0) (vI 0) (vI 0) (vI 0) (vI 0) (vI 0) (vI 0) (vI 0) (vI 2) (vI 0) (vI ((xs 2) &&& 15)) (vI 0) (vI (-1)) (vI 0) (vI 0) (vI 0) (vI 0) (vI 0) (vI 0) (vI (xs 1)) (vI 0) (vI 0) (vI 1) (vI 0) (vI 0) (vI 0) (vI 0) (vI 0) (vI 0) (vI 0) (vI 0) (vI 0) (vI 0) (vI 0) (vI 0))) f_MO_445 d_MO_open_25 h80 rfl ?_
  refine ab_iload_n d_MO_open_28 rfl ?_
  refine ab_iast d_MO_open_29 h130 (by unfold vp_in; decide) (by decide) ?_
  obtain ⟨G3, eG3⟩ : ∃ z : ab_G, z = List.set G2 130 (ab_if 300 ((upd (fun _ => 0) 0 0))) := ⟨_, rfl⟩
  have h80 := ab_keep eG3 (by decide) h80
  have h128 := ab_keep eG3 (by decide) h128
  have h129 := ab_keep eG3 (by decide) h129
  have h131 := ab_keep eG3 (by decide) h131
  have h132 := ab_keep eG3 (by decide) h132
  have hlen := ab_klen eG3 hlen
  have hsl := ab_ksl 300 eG3 h130 rfl rfl hsl
  have hfr := hfr.wr eG3 (by decide)
  have h130 := ab_kept eG3 h130
  change ab_W _ _ _ (List.set G2 130 (ab_if 300 ((upd (fun _ => 0) 0 0)))) 30 [some (vR 80), some (vI 1), some (vI 0), some (vI 0)] [] _
  rw [← eG3]
  refine ab_aload_n d_MO_open_30 rfl ?_
  refine ab_getf (fs := (m_fv (vI 0) (vI 0) (vI 0) (vI 0) (vI 0) (vI 0) (vI 0) (vI 0) (vI 2) (vI 0) (vI ((xs 2) &&& 15)) (vI 0) (vI (-1)) (vI 0) (vI 0) (vI 0) (vI 0) (vI 0) (vI 0) (vI (xs 1)) (vI 0) (vI 0) (vI 1) (vI 0) (vI 0) (vI 0) (vI 0) (vI 0) (vI 0) (vI 0) (vI 0) (vI 0) (vI 0) (vI 0) (vI 0))) f_MO_167 d_MO_open_31 h80 rfl ?_
  refine ab_aload_n d_MO_open_34 rfl ?_
  refine ab_getf (fs := (m_fv (vI 0) (vI 0) (vI 0) (vI 0) (vI 0) (vI 0) (vI 0) (vI 0) (vI 2) (vI 0) (vI ((xs 2) &&& 15)) (vI 0) (vI (-1)) (vI 0) (vI 0) (vI 0) (vI 0) (vI 0) (vI 0) (vI (xs 1)) (vI 0) (vI 0) (vI 1) (vI 0) (vI 0) (vI 0) (vI 0) (vI 0) (vI 0) (vI 0) (vI 0) (vI 0) (vI 0) (vI 0) (vI 0))) f_MO_445 d_MO_open_35 h80 rfl ?_
  refine ab_iload_n d_MO_open_38 rfl ?_
  refine ab_iast d_MO_open_39 h131 (by unfold vp_in; decide) (by decide) ?_
  obtain ⟨G4, eG4⟩ : ∃ z : ab_G, z = List.set G3 131 (ab_if 300 ((upd (fun _ => 0) 0 0))) := ⟨_, rfl⟩
  have h80 := ab_keep eG4 (by decide) h80
  have h128 := ab_keep eG4 (by decide) h128
  have h129 := ab_keep eG4 (by decide) h129
  have h130 := ab_keep eG4 (by decide) h130
  have h132 := ab_keep eG4 (by decide) h132
  have hlen := ab_klen eG4 hlen
  have hsl := ab_ksl 300 eG4 h131 rfl rfl hsl
  have hfr := hfr.wr eG4 (by decide)
  have h131 := ab_kept eG4 h131
  change ab_W _ _ _ (List.set G3 131 (ab_if 300 ((upd (fun _ => 0) 0 0)))) 40 [some (vR 80), some (vI 1), some (vI 0), some (vI 0)] [] _
  rw [← eG4]
  refine ab_aload_n d_MO_open_40 rfl ?_
  refine ab_getf (fs := (m_fv (vI 0) (vI 0) (vI 0) (vI 0) (vI 0) (vI 0) (vI 0) (vI 0) (vI 2) (vI 0) (vI ((xs 2) &&& 15)) (vI 0) (vI (-1)) (vI 0) (vI 0) (vI 0) (vI 0) (vI 0) (vI 0) (vI (xs 1)) (vI 0) (vI 0) (vI 1) (vI 0) (vI 0) (vI 0) (vI 0) (vI 0) (vI 0) (vI 0) (vI 0) (vI 0) (vI 0) (vI 0) (vI 0))) f_MO_170 d_MO_open_41 h80 rfl ?_
  refine ab_aload_n d_MO_open_44 rfl ?_
  refine ab_getf (fs := (m_fv (vI 0) (vI 0) (vI 0) (vI 0) (vI 0) (vI 0) (vI 0) (vI 0) (vI 2) (vI 0) (vI ((xs 2) &&& 15)) (vI 0) (vI (-1)) (vI 0) (vI 0) (vI 0) (vI 0) (vI 0) (vI 0) (vI (xs 1)) (vI 0) (vI 0) (vI 1) (vI 0) (vI 0) (vI 0) (vI 0) (vI 0) (vI 0) (vI 0) (vI 0) (vI 0) (vI 0) (vI 0) (vI 0))) f_MO_445 d_MO_open_45 h80 rfl ?_
  refine ab_iconst (v := 0) d_MO_open_48 (by decide) ?_
  refine ab_iast d_MO_open_49 h132 (by unfold vp_in; decide) (by decide) ?_
  obtain ⟨G5, eG5⟩ : ∃ z : ab_G, z = List.set G4 132 (ab_if 300 ((upd (fun _ => 0) 0 0))) := ⟨_, rfl⟩
  have h80 := ab_keep eG5 (by decide) h80
  have h128 := ab_keep eG5 (by decide) h128
  have h129 := ab_keep eG5 (by decide) h129
  have h130 := ab_keep eG5 (by decide) h130
  have h131 := ab_keep eG5 (by decide) h131
  have hlen := ab_klen eG5 hlen
  have hsl := ab_ksl 300 eG5 h132 rfl rfl hsl
  have hfr := hfr.wr eG5 (by decide)
  have h132 := ab_kept eG5 h132
  change ab_W _ _ _ (List.set G4 132 (ab_if 300 ((upd (fun _ => 0) 0 0)))) 50 [some (vR 80), some (vI 1), some (vI 0), some (vI 0)] [] _
  rw [← eG5]
  refine ab_aload_n d_MO_open_50 rfl ?_
  refine ab_dup d_MO_open_51 rfl ?_
  refine ab_getf (fs := (m_fv (vI 0) (vI 0) (vI 0) (vI 0) (vI 0) (vI 0) (vI 0) (vI 0) (vI 2) (vI 0) (vI ((xs 2) &&& 15)) (vI 0) (vI (-1)) (vI 0) (vI 0) (vI 0) (vI 0) (vI 0) (vI 0) (vI (xs 1)) (vI 0) (vI 0) (vI 1) (vI 0) (vI 0) (vI 0) (vI 0) (vI 0) (vI 0) (vI 0) (vI 0) (vI 0) (vI 0) (vI 0) (vI 0))) f_MO_445 d_MO_open_52 h80 rfl ?_
  refine ab_iconst (v := 1) d_MO_open_55 (by decide) ?_
  refine ab_iadd d_MO_open_56 ?_
  refine ab_topi (y := 1) (by decide) ?_
  refine ab_putf (fs := (m_fv (vI 0) (vI 0) (vI 0) (vI 0) (vI 0) (vI 0) (vI 0) (vI 0) (vI 2) (vI 0) (vI ((xs 2) &&& 15)) (vI 0) (vI (-1)) (vI 0) (vI 0) (vI 0) (vI 0) (vI 0) (vI 0) (vI (xs 1)) (vI 0) (vI 0) (vI 1) (vI 0) (vI 0) (vI 0) (vI 0) (vI 0) (vI 0) (vI 0) (vI 0) (vI 0) (vI 0) (vI 0) (vI 0))) f_MO_445 (Or.inl rfl) d_MO_open_57 h80 (Nat.le_of_ble_eq_true rfl) (fun _ => ⟨rfl, rfl⟩) (by decide) ?_
  obtain ⟨G6, eG6⟩ : ∃ z : ab_G, z = List.set G5 80 (ab_ob 12 (m_fv (vI 0) (vI 0) (vI 0) (vI 0) (vI 0) (vI 0) (vI 0) (vI 0) (vI 2) (vI 0) (vI ((xs 2) &&& 15)) (vI 0) (vI (-1)) (vI 0) (vI 0) (vI 0) (vI 0) (vI 0) (vI 0) (vI (xs 1)) (vI 1) (vI 0) (vI 1) (vI 0) (vI 0) (vI 0) (vI 0) (vI 0) (vI 0) (vI 0) (vI 0) (vI 0) (vI 0) (vI 0) (vI 0))) := ⟨_, rfl⟩
  have h128 := ab_keep eG6 (by decide) h128
  have h129 := ab_keep eG6 (by decide) h129
  have h130 := ab_keep eG6 (by decide) h130
  have h131 := ab_keep eG6 (by decide) h131
  have h132 := ab_keep eG6 (by decide) h132
  have hlen := ab_klen eG6 hlen
  have hsl := ab_ksl 102 eG6 h80 rfl rfl hsl
  have hfr := hfr.wr eG6 (by decide)
  have h80 := ab_kept eG6 h80
  change ab_W _ _ _ (List.set G5 80 (ab_ob 12 (m_fv (vI 0) (vI 0) (vI 0) (vI 0) (vI 0) (vI 0) (vI 0) (vI 0) (vI 2) (vI 0) (vI ((xs 2) &&& 15)) (vI 0) (vI (-1)) (vI 0) (vI 0) (vI 0) (vI 0) (vI 0) (vI 0) (vI (xs 1)) (vI 1) (vI 0) (vI 1) (vI 0) (vI 0) (vI 0) (vI 0) (vI 0) (vI 0) (vI 0) (vI 0) (vI 0) (vI 0) (vI 0) (vI 0)))) 60 [some (vR 80), some (vI 1), some (vI 0), some (vI 0)] [] _
  rw [← eG6]
  exact ab_vret rfl d_MO_open_60 (by rw [hQ]; exact ⟨rfl, hfr, hlen, hsl, h80, h128, h129, h130, h131, h132⟩)
set_option maxRecDepth 100000 in
set_option maxHeartbeats 4000000 in
theorem q_MO_done_1 {X : ab_X} {d : Nat} {G : ab_G} {xs : Nat → Int32} (hlen : G.length = 158) (hsl : ab_slots G = 1893385) (h80 : G[80]? = some (ab_ob 12 (m_fv (vI 0) (vI 0) (vI 0) (vI 0) (vI 0) (vI 0) (vI 0) (vI 0) (vI 2) (vI 0) (vI ((xs 2) &&& 15)) (vI 0) (vI (-1)) (vI 0) (vI 0) (vI 0) (vI 0) (vI 0) (vI 0) (vI (xs 1)) (vI 1) (vI 0) (vI 1) (vI 0) (vI 0) (vI 0) (vI 0) (vI 0) (vI 0) (vI 0) (vI 0) (vI 0) (vI 0) (vI 0) (vI 0)))) : ab_F X d y_MO_done (.code y_MO_done b_MO_done 2 none) [vR 80, vI 0] G (fun o G2 => o = .returned none ∧ ab_fr [80] G G2 ∧ G2.length = 158 ∧ ab_slots G2 = 1893385 ∧ G2[80]? = some (ab_ob 12 (m_fv (vI 0) (vI 0) (vI 0) (vI 0) (vI 0) (vI 0) (vI 0) (vI 0) (vI 2) (vI 0) (vI ((xs 2) &&& 15)) (vI 0) (vI (-1)) (vI 0) (vI 0) (vI 0) (vI 0) (vI 0) (vI 0) (vI (xs 1)) (vI 0) (vI 0) (vI 1) (vI 0) (vI 0) (vI 0) (vI 0) (vI 0) (vI 0) (vI 0) (vI 0) (vI 0) (vI 0) (vI 0) (vI 0)))) := by
  refine ab_F_of (by decide +kernel) (Nat.le_of_ble_eq_true rfl) ?_
  obtain ⟨Q, hQ⟩ : ∃ z : Outcome → ab_G → Prop, z = (fun o G2 => o = .returned none ∧ ab_fr [80] G G2 ∧ G2.length = 158 ∧ ab_slots G2 = 1893385 ∧ G2[80]? = some (ab_ob 12 (m_fv (vI 0) (vI 0) (vI 0) (vI 0) (vI 0) (vI 0) (vI 0) (vI 0) (vI 2) (vI 0) (vI ((xs 2) &&& 15)) (vI 0) (vI (-1)) (vI 0) (vI 0) (vI 0) (vI 0) (vI 0) (vI 0) (vI (xs 1)) (vI 0) (vI 0) (vI 1) (vI 0) (vI 0) (vI 0) (vI 0) (vI 0) (vI 0) (vI 0) (vI 0) (vI 0) (vI 0) (vI 0) (vI 0)))) := ⟨_, rfl⟩
  rw [← hQ]
  change ab_W X (ab_pl y_MO_done b_MO_done 2 none) d G 0 [some (vR 80), some (vI 0)] [] Q
  have hfr : ab_fr [80] G G := ab_fr.rf
  refine ab_aload_n d_MO_done_0 rfl ?_
  refine ab_dup d_MO_done_1 rfl ?_
  refine ab_getf (fs := (m_fv (vI 0) (vI 0) (vI 0) (vI 0) (vI 0) (vI 0) (vI 0) (vI 0) (vI 2) (vI 0) (vI ((xs 2) &&& 15)) (vI 0) (vI (-1)) (vI 0) (vI 0) (vI 0) (vI 0) (vI 0) (vI 0) (vI (xs 1)) (vI 1) (vI 0) (vI 1) (vI 0) (vI 0) (vI 0) (vI 0) (vI 0) (vI 0) (vI 0) (vI 0) (vI 0) (vI 0) (vI 0) (vI 0))) f_MO_445 d_MO_done_2 h80 rfl ?_
  refine ab_iconst (v := 1) d_MO_done_5 (by decide) ?_
  refine ab_isub d_MO_done_6 ?_
  refine ab_topi (y := 0) (by decide) ?_
  refine ab_putf (fs := (m_fv (vI 0) (vI 0) (vI 0) (vI 0) (vI 0) (vI 0) (vI 0) (vI 0) (vI 2) (vI 0) (vI ((xs 2) &&& 15)) (vI 0) (vI (-1)) (vI 0) (vI 0) (vI 0) (vI 0) (vI 0) (vI 0) (vI (xs 1)) (vI 1) (vI 0) (vI 1) (vI 0) (vI 0) (vI 0) (vI 0) (vI 0) (vI 0) (vI 0) (vI 0) (vI 0) (vI 0) (vI 0) (vI 0))) f_MO_445 (Or.inl rfl) d_MO_done_7 h80 (Nat.le_of_ble_eq_true rfl) (fun _ => ⟨rfl, rfl⟩) (by decide) ?_
  obtain ⟨G1, eG1⟩ : ∃ z : ab_G, z = List.set G 80 (ab_ob 12 (m_fv (vI 0) (vI 0) (vI 0) (vI 0) (vI 0) (vI 0) (vI 0) (vI 0) (vI 2) (vI 0) (vI ((xs 2) &&& 15)) (vI 0) (vI (-1)) (vI 0) (vI 0) (vI 0) (vI 0) (vI 0) (vI 0) (vI (xs 1)) (vI 0) (vI 0) (vI 1) (vI 0) (vI 0) (vI 0) (vI 0) (vI 0) (vI 0) (vI 0) (vI 0) (vI 0) (vI 0) (vI 0) (vI 0))) := ⟨_, rfl⟩
  have hlen := ab_klen eG1 hlen
  have hsl := ab_ksl 102 eG1 h80 rfl rfl hsl
  have hfr := hfr.wr eG1 (by decide)
  have h80 := ab_kept eG1 h80
  change ab_W _ _ _ (List.set G 80 (ab_ob 12 (m_fv (vI 0) (vI 0) (vI 0) (vI 0) (vI 0) (vI 0) (vI 0) (vI 0) (vI 2) (vI 0) (vI ((xs 2) &&& 15)) (vI 0) (vI (-1)) (vI 0) (vI 0) (vI 0) (vI 0) (vI 0) (vI 0) (vI (xs 1)) (vI 0) (vI 0) (vI 1) (vI 0) (vI 0) (vI 0) (vI 0) (vI 0) (vI 0) (vI 0) (vI 0) (vI 0) (vI 0) (vI 0) (vI 0)))) 10 [some (vR 80), some (vI 0)] [] _
  rw [← eG1]
  refine ab_aload_n d_MO_done_10 rfl ?_
  refine ab_iload_n d_MO_done_11 rfl ?_
  refine ab_putf (fs := (m_fv (vI 0) (vI 0) (vI 0) (vI 0) (vI 0) (vI 0) (vI 0) (vI 0) (vI 2) (vI 0) (vI ((xs 2) &&& 15)) (vI 0) (vI (-1)) (vI 0) (vI 0) (vI 0) (vI 0) (vI 0) (vI 0) (vI (xs 1)) (vI 0) (vI 0) (vI 1) (vI 0) (vI 0) (vI 0) (vI 0) (vI 0) (vI 0) (vI 0) (vI 0) (vI 0) (vI 0) (vI 0) (vI 0))) f_MO_448 (Or.inl rfl) d_MO_done_12 h80 (Nat.le_of_ble_eq_true rfl) (fun _ => ⟨rfl, rfl⟩) (by decide) ?_
  obtain ⟨G2, eG2⟩ : ∃ z : ab_G, z = List.set G1 80 (ab_ob 12 (m_fv (vI 0) (vI 0) (vI 0) (vI 0) (vI 0) (vI 0) (vI 0) (vI 0) (vI 2) (vI 0) (vI ((xs 2) &&& 15)) (vI 0) (vI (-1)) (vI 0) (vI 0) (vI 0) (vI 0) (vI 0) (vI 0) (vI (xs 1)) (vI 0) (vI 0) (vI 1) (vI 0) (vI 0) (vI 0) (vI 0) (vI 0) (vI 0) (vI 0) (vI 0) (vI 0) (vI 0) (vI 0) (vI 0))) := ⟨_, rfl⟩
  have hlen := ab_klen eG2 hlen
  have hsl := ab_ksl 102 eG2 h80 rfl rfl hsl
  have hfr := hfr.wr eG2 (by decide)
  have h80 := ab_kept eG2 h80
  change ab_W _ _ _ (List.set G1 80 (ab_ob 12 (m_fv (vI 0) (vI 0) (vI 0) (vI 0) (vI 0) (vI 0) (vI 0) (vI 0) (vI 2) (vI 0) (vI ((xs 2) &&& 15)) (vI 0) (vI (-1)) (vI 0) (vI 0) (vI 0) (vI 0) (vI 0) (vI 0) (vI (xs 1)) (vI 0) (vI 0) (vI 1) (vI 0) (vI 0) (vI 0) (vI 0) (vI 0) (vI 0) (vI 0) (vI 0) (vI 0) (vI 0) (vI 0) (vI 0)))) 15 [some (vR 80), some (vI 0)] [] _
  rw [← eG2]
  exact ab_vret rfl d_MO_done_15 (by rw [hQ]; exact ⟨rfl, hfr, hlen, hsl, h80⟩)
set_option maxRecDepth 100000 in
set_option maxHeartbeats 4000000 in
theorem q_MO_go_1 {X : ab_X} {d : Nat} {G : ab_G} {xs : Nat → Int32} (hlen : G.length = 158) (hsl : ab_slots G = 1893385) (h80 : G[80]? = some (ab_ob 12 (m_fv (vI 0) (vI 0) (vI 0) (vI 0) (vI 0) (vI 0) (vI 0) (vI 0) (vI 2) (vI 0) (vI ((xs 2) &&& 15)) (vI 0) (vI (-1)) (vI 0) (vI 0) (vI 0) (vI 0) (vI 0) (vI 0) (vI (xs 1)) (vI 1) (vI 0) (vI 1) (vI 0) (vI 0) (vI 0) (vI 0) (vI 0) (vI 0) (vI 0) (vI 0) (vI 0) (vI 0) (vI 0) (vI 0)))) (h100 : G[100]? = some (.inl (2, 4200, .inr (.inl (vp_updL (vp_updL (fun _ => 0) 0 0) 1 0))))) (h128 : G[128]? = some (ab_if 300 ((upd (fun _ => 0) 0 1)))) (h129 : G[129]? = some (ab_if 300 ((upd (fun _ => 0) 0 0)))) (h130 : G[130]? = some (ab_if 300 ((upd (fun _ => 0) 0 0)))) (hd : 1 ≤ d) : ab_F X d y_MO_go (.code y_MO_go b_MO_go 4 none) [vR 80, vI 0] G (fun o G2 => o = .returned none ∧ ab_fr [80] G G2 ∧ G2.length = 158 ∧ ab_slots G2 = 1893385 ∧ G2[80]? = some (ab_ob 12 (m_fv (vI 0) (vI 0) (vI 0) (vI 0) (vI 0) (vI 0) (vI 0) (vI 0) (vI 2) (vI 0) (vI ((xs 2) &&& 15)) (vI 0) (vI (-1)) (vI 0) (vI 0) (vI 0) (vI 0) (vI 0) (vI 0) (vI (xs 1)) (vI 0) (vI 0) (vI 1) (vI 0) (vI 0) (vI 0) (vI 0) (vI 0) (vI 0) (vI 0) (vI 0) (vI 0) (vI 0) (vI 0) (vI 0)))) := by
  refine ab_F_of (by decide +kernel) (Nat.le_of_ble_eq_true rfl) ?_
  obtain ⟨Q, hQ⟩ : ∃ z : Outcome → ab_G → Prop, z = (fun o G2 => o = .returned none ∧ ab_fr [80] G G2 ∧ G2.length = 158 ∧ ab_slots G2 = 1893385 ∧ G2[80]? = some (ab_ob 12 (m_fv (vI 0) (vI 0) (vI 0) (vI 0) (vI 0) (vI 0) (vI 0) (vI 0) (vI 2) (vI 0) (vI ((xs 2) &&& 15)) (vI 0) (vI (-1)) (vI 0) (vI 0) (vI 0) (vI 0) (vI 0) (vI 0) (vI (xs 1)) (vI 0) (vI 0) (vI 1) (vI 0) (vI 0) (vI 0) (vI 0) (vI 0) (vI 0) (vI 0) (vI 0) (vI 0) (vI 0) (vI 0) (vI 0)))) := ⟨_, rfl⟩
  rw [← hQ]
  change ab_W X (ab_pl y_MO_go b_MO_go 4 none) d G 0 [some (vR 80), some (vI 0), none, none] [] Q
  have hfr : ab_fr [80] G G := ab_fr.rf
  refine ab_aload_n d_MO_go_0 rfl ?_
  refine ab_getf (fs := (m_fv (vI 0) (vI 0) (vI 0) (vI 0) (vI 0) (vI 0) (vI 0) (vI 0) (vI 2) (vI 0) (vI ((xs 2) &&& 15)) (vI 0) (vI (-1)) (vI 0) (vI 0) (vI 0) (vI 0) (vI 0) (vI 0) (vI (xs 1)) (vI 1) (vI 0) (vI 1) (vI 0) (vI 0) (vI 0) (vI 0) (vI 0) (vI 0) (vI 0) (vI 0) (vI 0) (vI 0) (vI 0) (vI 0))) f_MO_158 d_MO_go_1 h80 rfl ?_
  refine ab_iload_n d_MO_go_4 rfl ?_
  refine ab_iald d_MO_go_5 h128 (by unfold vp_in; decide) ?_
  refine ab_topi (y := 1) rfl ?_
  refine ab_istore_n d_MO_go_6 (Nat.le_of_ble_eq_true rfl) (Nat.le_of_ble_eq_true rfl) rfl ?_
  change ab_W _ _ _ G 7 [some (vR 80), some (vI 0), some (vI 1), none] [] _
  refine ab_aload_n d_MO_go_7 rfl ?_
  refine ab_getf (fs := (m_fv (vI 0) (vI 0) (vI 0) (vI 0) (vI 0) (vI 0) (vI 0) (vI 0) (vI 2) (vI 0) (vI ((xs 2) &&& 15)) (vI 0) (vI (-1)) (vI 0) (vI 0) (vI 0) (vI 0) (vI 0) (vI 0) (vI (xs 1)) (vI 1) (vI 0) (vI 1) (vI 0) (vI 0) (vI 0) (vI 0) (vI 0) (vI 0) (vI 0) (vI 0) (vI 0) (vI 0) (vI 0) (vI 0))) f_MO_161 d_MO_go_8 h80 rfl ?_
  refine ab_iload_n d_MO_go_11 rfl ?_
  refine ab_iald d_MO_go_12 h129 (by unfold vp_in; decide) ?_
  refine ab_topi (y := 0) rfl ?_
  refine ab_istore_n d_MO_go_13 (Nat.le_of_ble_eq_true rfl) (Nat.le_of_ble_eq_true rfl) rfl ?_
  change ab_W _ _ _ G 14 [some (vR 80), some (vI 0), some (vI 1), some (vI 0)] [] _
  refine ab_aload_n d_MO_go_14 rfl ?_
  refine ab_getf (fs := (m_fv (vI 0) (vI 0) (vI 0) (vI 0) (vI 0) (vI 0) (vI 0) (vI 0) (vI 2) (vI 0) (vI ((xs 2) &&& 15)) (vI 0) (vI (-1)) (vI 0) (vI 0) (vI 0) (vI 0) (vI 0) (vI 0) (vI (xs 1)) (vI 1) (vI 0) (vI 1) (vI 0) (vI 0) (vI 0) (vI 0) (vI 0) (vI 0) (vI 0) (vI 0) (vI 0) (vI 0) (vI 0) (vI 0))) f_MO_68 d_MO_go_15 h80 rfl ?_
  refine ab_iload_n d_MO_go_18 rfl ?_
  refine ab_lald d_MO_go_19 h100 (by unfold vp_in; decide) ?_
  refine ab_topl (y := 0) rfl ?_
  refine ab_lconst (v := 0) d_MO_go_20 (by decide) ?_
  refine ab_lcmp d_MO_go_21 ?_
  refine ab_topi (y := 0) (by decide +kernel) ?_
  refine ab_if_ne (tgt := 36) d_MO_go_22 (by decide) (fun c => absurd c (by decide)) (fun _ => ?_)
  refine ab_aload_n d_MO_go_25 rfl ?_
  refine ab_aload_n d_MO_go_26 rfl ?_
  refine ab_getf (fs := (m_fv (vI 0) (vI 0) (vI 0) (vI 0) (vI 0) (vI 0) (vI 0) (vI 0) (vI 2) (vI 0) (vI ((xs 2) &&& 15)) (vI 0) (vI (-1)) (vI 0) (vI 0) (vI 0) (vI 0) (vI 0) (vI 0) (vI (xs 1)) (vI 1) (vI 0) (vI 1) (vI 0) (vI 0) (vI 0) (vI 0) (vI 0) (vI 0) (vI 0) (vI 0) (vI 0) (vI 0) (vI 0) (vI 0))) f_MO_164 d_MO_go_27 h80 rfl ?_
  refine ab_iload_n d_MO_go_30 rfl ?_
  refine ab_iald d_MO_go_31 h130 (by unfold vp_in; decide) ?_
  refine ab_topi (y := 0) rfl ?_
  refine ab_callV (d' := d - 1) (as := [vI 0]) (st := []) (r := _) (q_MO_done_1 (xs := xs) hlen hsl h80) (fun o G2 h => ⟨_, h.1⟩) (by omega) m_MO_done ml_MO_461 im_MO_done se_MO_done c_MO h80 (Nat.le_of_ble_eq_true rfl) d_MO_go_32 rfl ?_
  intro v G1 hq
  obtain ⟨hv, hfk, hlen, hsl, h80⟩ := hq
  cases hv
  have h100 := hfk.get (by decide) h100
  have h128 := hfk.get (by decide) h128
  have h129 := hfk.get (by decide) h129
  have h130 := hfk.get (by decide) h130
  have hfr := hfr.cl hfk (by decide)
  change ab_W _ _ _ G1 35 [some (vR 80), some (vI 0), some (vI 1), some (vI 0)] [] _
  exact ab_vret rfl d_MO_go_35 (by rw [hQ]; exact ⟨rfl, hfr, hlen, hsl, h80⟩)
set_option maxRecDepth 100000 in
set_option maxHeartbeats 4000000 in
theorem q_MO_addStep_4 {X : ab_X} {d : Nat} {G : ab_G} {xs : Nat → Int32} (hlen : G.length = 158) (hsl : ab_slots G = 1893385) (h80 : G[80]? = some (ab_ob 12 (m_fv (vI 0) (vI 0) (vI 0) (vI 0) (vI 0) (vI 0) (vI 0) (vI 0) (vI 2) (vI 0) (vI ((xs 2) &&& 15)) (vI 0) (vI (-1)) (vI 0) (vI 0) (vI 0) (vI 0) (vI 0) (vI 0) (vI (xs 1)) (vI 0) (vI 0) (vI 1) (vI 0) (vI 0) (vI 0) (vI 0) (vI 0) (vI 0) (vI 0) (vI 0) (vI 0) (vI 0) (vI 0) (vI 0)))) (h117 : G[117]? = some (ab_if 6 ((upd (fun _ => 0) (Int32.toNatClampNeg (xs 1)) 0)))) (h118 : G[118]? = some (ab_if 75000 ((fun _ => 0)))) (h119 : G[119]? = some (ab_if 75000 ((fun _ => 0)))) (h120 : G[120]? = some (ab_if 75000 ((fun _ => 0)))) (c0 : 0 ≤ (xs 1)) (c1 : (xs 1) ≤ 5) (c2 : 0 ≤ (xs 2)) (c3 : (xs 2) ≤ 31) (c4 : ¬ ((xs 1) < 0)) (c5 : ¬ (5 < (xs 1))) (c6 : ¬ ((xs 2) < 0)) (c7 : (xs 2) ≤ 31) : ab_F X d y_MO_addStep (.code y_MO_addStep b_MO_addStep 5 (some (.int))) [vR 80, vI 0, vI (-1), vI 0] G (fun o G2 => o = .returned (some (vI 0)) ∧ ab_fr [117, 118, 119, 120] G G2 ∧ G2.length = 158 ∧ ab_slots G2 = 1893385 ∧ G2[117]? = some (ab_if 6 ((upd (upd (fun _ => 0) (Int32.toNatClampNeg (xs 1)) 0) (Int32.toNatClampNeg (xs 1)) 1))) ∧ G2[118]? = some (ab_if 75000 ((upd (fun _ => 0) (Int32.toNatClampNeg (12500 * (xs 1))) 0))) ∧ G2[119]? = some (ab_if 75000 ((upd (fun _ => 0) (Int32.toNatClampNeg (12500 * (xs 1))) (-1)))) ∧ G2[120]? = some (ab_if 75000 ((upd (fun _ => 0) (Int32.toNatClampNeg (12500 * (xs 1))) 0)))) := by
  refine ab_F_of (by decide +kernel) (Nat.le_of_ble_eq_true rfl) ?_
  obtain ⟨Q, hQ⟩ : ∃ z : Outcome → ab_G → Prop, z = (fun o G2 => o = .returned (some (vI 0)) ∧ ab_fr [117, 118, 119, 120] G G2 ∧ G2.length = 158 ∧ ab_slots G2 = 1893385 ∧ G2[117]? = some (ab_if 6 ((upd (upd (fun _ => 0) (Int32.toNatClampNeg (xs 1)) 0) (Int32.toNatClampNeg (xs 1)) 1))) ∧ G2[118]? = some (ab_if 75000 ((upd (fun _ => 0) (Int32.toNatClampNeg (12500 * (xs 1))) 0))) ∧ G2[119]? = some (ab_if 75000 ((upd (fun _ => 0) (Int32.toNatClampNeg (12500 * (xs 1))) (-1)))) ∧ G2[120]? = some (ab_if 75000 ((upd (fun _ => 0) (Int32.toNatClampNeg (12500 * (xs 1))) 0)))) := ⟨_, rfl⟩
  rw [← hQ]
  change ab_W X (ab_pl y_MO_addStep b_MO_addStep 5 (some (.int))) d G 0 [some (vR 80), some (vI 0), some (vI (-1)), some (vI 0), none] [] Q
  have hfr : ab_fr [117, 118, 119, 120] G G := ab_fr.rf
  refine ab_sipush (v := 12500) d_MO_addStep_0 (by decide) ?_
  refine ab_aload_n d_MO_addStep_3 rfl ?_
  refine ab_getf (fs := (m_fv (vI 0) (vI 0) (vI 0) (vI 0) (vI 0) (vI 0) (vI 0) (vI 0) (vI 2) (vI 0) (vI ((xs 2) &&& 15)) (vI 0) (vI (-1)) (vI 0) (vI 0) (vI 0) (vI 0) (vI 0) (vI 0) (vI (xs 1)) (vI 0) (vI 0) (vI 1) (vI 0) (vI 0) (vI 0) (vI 0) (vI 0) (vI 0) (vI 0) (vI 0) (vI 0) (vI 0) (vI 0) (vI 0))) f_MO_438 d_MO_addStep_4 h80 rfl ?_
  refine ab_imul d_MO_addStep_7 ?_
  refine ab_aload_n d_MO_addStep_8 rfl ?_
  refine ab_getf (fs := (m_fv (vI 0) (vI 0) (vI 0) (vI 0) (vI 0) (vI 0) (vI 0) (vI 0) (vI 2) (vI 0) (vI ((xs 2) &&& 15)) (vI 0) (vI (-1)) (vI 0) (vI 0) (vI 0) (vI 0) (vI 0) (vI 0) (vI (xs 1)) (vI 0) (vI 0) (vI 1) (vI 0) (vI 0) (vI 0) (vI 0) (vI 0) (vI 0) (vI 0) (vI 0) (vI 0) (vI 0) (vI 0) (vI 0))) f_MO_124 d_MO_addStep_9 h80 rfl ?_
  refine ab_aload_n d_MO_addStep_12 rfl ?_
  refine ab_getf (fs := (m_fv (vI 0) (vI 0) (vI 0) (vI 0) (vI 0) (vI 0) (vI 0) (vI 0) (vI 2) (vI 0) (vI ((xs 2) &&& 15)) (vI 0) (vI (-1)) (vI 0) (vI 0) (vI 0) (vI 0) (vI 0) (vI 0) (vI (xs 1)) (vI 0) (vI 0) (vI 1) (vI 0) (vI 0) (vI 0) (vI 0) (vI 0) (vI 0) (vI 0) (vI 0) (vI 0) (vI 0) (vI 0) (vI 0))) f_MO_438 d_MO_addStep_13 h80 rfl ?_
  refine ab_iald d_MO_addStep_16 h117 (vp_in_iff.mpr (by have l0 := (show (0 : Int32).toInt = 0 by decide); have l1 := (show (5 : Int32).toInt = 5 by decide); have l2 := (show (31 : Int32).toInt = 31 by decide); simp only [Int32.le_iff_toInt_le, Int32.lt_iff_toInt_lt, ← Int32.toInt_inj] at c0 c1 c2 c3 c4 c5 c6 c7; constructor <;> omega)) ?_
  refine ab_topi (y := 0) (by simp [upd]) ?_
  refine ab_iadd d_MO_addStep_17 ?_
  refine ab_topi (y := (12500 * (xs 1))) (Int32.add_zero _) ?_
  refine ab_istore d_MO_addStep_18 (Nat.le_of_ble_eq_true rfl) (Nat.le_of_ble_eq_true rfl) rfl ?_
  change ab_W _ _ _ G 20 [some (vR 80), some (vI 0), some (vI (-1)), some (vI 0), some (vI (12500 * (xs 1)))] [] _
  refine ab_aload_n d_MO_addStep_20 rfl ?_
  refine ab_getf (fs := (m_fv (vI 0) (vI 0) (vI 0) (vI 0) (vI 0) (vI 0) (vI 0) (vI 0) (vI 2) (vI 0) (vI ((xs 2) &&& 15)) (vI 0) (vI (-1)) (vI 0) (vI 0) (vI 0) (vI 0) (vI 0) (vI 0) (vI (xs 1)) (vI 0) (vI 0) (vI 1) (vI 0) (vI 0) (vI 0) (vI 0) (vI 0) (vI 0) (vI 0) (vI 0) (vI 0) (vI 0) (vI 0) (vI 0))) f_MO_128 d_MO_addStep_21 h80 rfl ?_
  refine ab_iload d_MO_addStep_24 rfl ?_
  refine ab_iload_n d_MO_addStep_26 rfl ?_
  refine ab_iast d_MO_addStep_27 h118 (vp_in_iff.mpr (by have l0 := (show (0 : Int32).toInt = 0 by decide); have l1 := (show (5 : Int32).toInt = 5 by decide); have l2 := (show (31 : Int32).toInt = 31 by decide); have l3 := (show (12500 : Int32).toInt = 12500 by decide); simp only [Int32.le_iff_toInt_le, Int32.lt_iff_toInt_lt, ← Int32.toInt_inj] at c0 c1 c2 c3 c4 c5 c6 c7; have e0 : Int32.toInt (12500 * (xs 1)) = Int32.toInt 12500 * Int32.toInt (xs 1) := i32_mul (by simp only [l0, l1, l2, l3]; omega) (by simp only [l0, l1, l2, l3]; omega); (try simp only [l0, l1, l2, l3] at e0); constructor <;> omega)) (by decide) ?_
  obtain ⟨G1, eG1⟩ : ∃ z : ab_G, z = List.set G 118 (ab_if 75000 ((upd (fun _ => 0) (Int32.toNatClampNeg (12500 * (xs 1))) 0))) := ⟨_, rfl⟩
  have h80 := ab_keep eG1 (by decide) h80
  have h117 := ab_keep eG1 (by decide) h117
  have h119 := ab_keep eG1 (by decide) h119
  have h120 := ab_keep eG1 (by decide) h120
  have hlen := ab_klen eG1 hlen
  have hsl := ab_ksl 75000 eG1 h118 rfl rfl hsl
  have hfr := hfr.wr eG1 (by decide)
  have h118 := ab_kept eG1 h118
  change ab_W _ _ _ (List.set G 118 (ab_if 75000 ((upd (fun _ => 0) (Int32.toNatClampNeg (12500 * (xs 1))) 0)))) 28 [some (vR 80), some (vI 0), some (vI (-1)), some (vI 0), some (vI (12500 * (xs 1)))] [] _
  rw [← eG1]
  refine ab_aload_n d_MO_addStep_28 rfl ?_
  refine ab_getf (fs := (m_fv (vI 0) (vI 0) (vI 0) (vI 0) (vI 0) (vI 0) (vI 0) (vI 0) (vI 2) (vI 0) (vI ((xs 2) &&& 15)) (vI 0) (vI (-1)) (vI 0) (vI 0) (vI 0) (vI 0) (vI 0) (vI 0) (vI (xs 1)) (vI 0) (vI 0) (vI 1) (vI 0) (vI 0) (vI 0) (vI 0) (vI 0) (vI 0) (vI 0) (vI 0) (vI 0) (vI 0) (vI 0) (vI 0))) f_MO_131 d_MO_addStep_29 h80 rfl ?_
  refine ab_iload d_MO_addStep_32 rfl ?_
  refine ab_iload_n d_MO_addStep_34 rfl ?_
  refine ab_iast d_MO_addStep_35 h119 (vp_in_iff.mpr (by have l0 := (show (0 : Int32).toInt = 0 by decide); have l1 := (show (5 : Int32).toInt = 5 by decide); have l2 := (show (31 : Int32).toInt = 31 by decide); have l3 := (show (12500 : Int32).toInt = 12500 by decide); simp only [Int32.le_iff_toInt_le, Int32.lt_iff_toInt_lt, ← Int32.toInt_inj] at c0 c1 c2 c3 c4 c5 c6 c7; have e0 : Int32.toInt (12500 * (xs 1)) = Int32.toInt 12500 * Int32.toInt (xs 1) := i32_mul (by simp only [l0, l1, l2, l3]; omega) (by simp only [l0, l1, l2, l3]; omega); (try simp only [l0, l1, l2, l3] at e0); constructor <;> omega)) (by decide) ?_
  obtain ⟨G2, eG2⟩ : ∃ z : ab_G, z = List.set G1 119 (ab_if 75000 ((upd (fun _ => 0) (Int32.toNatClampNeg (12500 * (xs 1))) (-1)))) := ⟨_, rfl⟩
  have h80 := ab_keep eG2 (by decide) h80
  have h117 := ab_keep eG2 (by decide) h117
  have h118 := ab_keep eG2 (by decide) h118
  have h120 := ab_keep eG2 (by decide) h120
  have hlen := ab_klen eG2 hlen
  have hsl := ab_ksl 75000 eG2 h119 rfl rfl hsl
  have hfr := hfr.wr eG2 (by decide)
  have h119 := ab_kept eG2 h119
  change ab_W _ _ _ (List.set G1 119 (ab_if 75000 ((upd (fun _ => 0) (Int32.toNatClampNeg (12500 * (xs 1))) (-1))))) 36 [some (vR 80), some (vI 0), some (vI (-1)), some (vI 0), some (vI (12500 * (xs 1)))] [] _
  rw [← eG2]
  refine ab_aload_n d_MO_addStep_36 rfl ?_
  refine ab_getf (fs := (m_fv (vI 0) (vI 0) (vI 0) (vI 0) (vI 0) (vI 0) (vI 0) (vI 0) (vI 2) (vI 0) (vI ((xs 2) &&& 15)) (vI 0) (vI (-1)) (vI 0) (vI 0) (vI 0) (vI 0) (vI 0) (vI 0) (vI (xs 1)) (vI 0) (vI 0) (vI 1) (vI 0) (vI 0) (vI 0) (vI 0) (vI 0) (vI 0) (vI 0) (vI 0) (vI 0) (vI 0) (vI 0) (vI 0))) f_MO_134 d_MO_addStep_37 h80 rfl ?_
  refine ab_iload d_MO_addStep_40 rfl ?_
  refine ab_iload_n d_MO_addStep_42 rfl ?_
  refine ab_iast d_MO_addStep_43 h120 (vp_in_iff.mpr (by have l0 := (show (0 : Int32).toInt = 0 by decide); have l1 := (show (5 : Int32).toInt = 5 by decide); have l2 := (show (31 : Int32).toInt = 31 by decide); have l3 := (show (12500 : Int32).toInt = 12500 by decide); simp only [Int32.le_iff_toInt_le, Int32.lt_iff_toInt_lt, ← Int32.toInt_inj] at c0 c1 c2 c3 c4 c5 c6 c7; have e0 : Int32.toInt (12500 * (xs 1)) = Int32.toInt 12500 * Int32.toInt (xs 1) := i32_mul (by simp only [l0, l1, l2, l3]; omega) (by simp only [l0, l1, l2, l3]; omega); (try simp only [l0, l1, l2, l3] at e0); constructor <;> omega)) (by decide) ?_
  obtain ⟨G3, eG3⟩ : ∃ z : ab_G, z = List.set G2 120 (ab_if 75000 ((upd (fun _ => 0) (Int32.toNatClampNeg (12500 * (xs 1))) 0))) := ⟨_, rfl⟩
  have h80 := ab_keep eG3 (by decide) h80
  have h117 := ab_keep eG3 (by decide) h117
  have h118 := ab_keep eG3 (by decide) h118
  have h119 := ab_keep eG3 (by decide) h119
  have hlen := ab_klen eG3 hlen
  have hsl := ab_ksl 75000 eG3 h120 rfl rfl hsl
  have hfr := hfr.wr eG3 (by decide)
  have h120 := ab_kept eG3 h120
  change ab_W _ _ _ (List.set G2 120 (ab_if 75000 ((upd (fun _ => 0) (Int32.toNatClampNeg (12500 * (xs 1))) 0)))) 44 [some (vR 80), some (vI 0), some (vI (-1)), some (vI 0), some (vI (12500 * (xs 1)))] [] _
  rw [← eG3]
  refine ab_aload_n d_MO_addStep_44 rfl ?_
  refine ab_getf (fs := (m_fv (vI 0) (vI 0) (vI 0) (vI 0) (vI 0) (vI 0) (vI 0) (vI 0) (vI 2) (vI 0) (vI ((xs 2) &&& 15)) (vI 0) (vI (-1)) (vI 0) (vI 0) (vI 0) (vI 0) (vI 0) (vI 0) (vI (xs 1)) (vI 0) (vI 0) (vI 1) (vI 0) (vI 0) (vI 0) (vI 0) (vI 0) (vI 0) (vI 0) (vI 0) (vI 0) (vI 0) (vI 0) (vI 0))) f_MO_124 d_MO_addStep_45 h80 rfl ?_
  refine ab_aload_n d_MO_addStep_48 rfl ?_
  refine ab_getf (fs := (m_fv (vI 0) (vI 0) (vI 0) (vI 0) (vI 0) (vI 0) (vI 0) (vI 0) (vI 2) (vI 0) (vI ((xs 2) &&& 15)) (vI 0) (vI (-1)) (vI 0) (vI 0) (vI 0) (vI 0) (vI 0) (vI 0) (vI (xs 1)) (vI 0) (vI 0) (vI 1) (vI 0) (vI 0) (vI 0) (vI 0) (vI 0) (vI 0) (vI 0) (vI 0) (vI 0) (vI 0) (vI 0) (vI 0))) f_MO_438 d_MO_addStep_49 h80 rfl ?_
  refine ab_dup2 d_MO_addStep_52 rfl rfl ?_
  refine ab_iald d_MO_addStep_53 h117 (vp_in_iff.mpr (by have l0 := (show (0 : Int32).toInt = 0 by decide); have l1 := (show (5 : Int32).toInt = 5 by decide); have l2 := (show (31 : Int32).toInt = 31 by decide); simp only [Int32.le_iff_toInt_le, Int32.lt_iff_toInt_lt, ← Int32.toInt_inj] at c0 c1 c2 c3 c4 c5 c6 c7; constructor <;> omega)) ?_
  refine ab_topi (y := 0) (by simp [upd]) ?_
  refine ab_iconst (v := 1) d_MO_addStep_54 (by decide) ?_
  refine ab_iadd d_MO_addStep_55 ?_
  refine ab_topi (y := 1) (by decide) ?_
  refine ab_iast d_MO_addStep_56 h117 (vp_in_iff.mpr (by have l0 := (show (0 : Int32).toInt = 0 by decide); have l1 := (show (5 : Int32).toInt = 5 by decide); have l2 := (show (31 : Int32).toInt = 31 by decide); simp only [Int32.le_iff_toInt_le, Int32.lt_iff_toInt_lt, ← Int32.toInt_inj] at c0 c1 c2 c3 c4 c5 c6 c7; constructor <;> omega)) (by decide) ?_
  obtain ⟨G4, eG4⟩ : ∃ z : ab_G, z = List.set G3 117 (ab_if 6 ((upd (upd (fun _ => 0) (Int32.toNatClampNeg (xs 1)) 0) (Int32.toNatClampNeg (xs 1)) 1))) := ⟨_, rfl⟩
  have h80 := ab_keep eG4 (by decide) h80
  have h118 := ab_keep eG4 (by decide) h118
  have h119 := ab_keep eG4 (by decide) h119
  have h120 := ab_keep eG4 (by decide) h120
  have hlen := ab_klen eG4 hlen
  have hsl := ab_ksl 6 eG4 h117 rfl rfl hsl
  have hfr := hfr.wr eG4 (by decide)
  have h117 := ab_kept eG4 h117
  change ab_W _ _ _ (List.set G3 117 (ab_if 6 ((upd (upd (fun _ => 0) (Int32.toNatClampNeg (xs 1)) 0) (Int32.toNatClampNeg (xs 1)) 1)))) 57 [some (vR 80), some (vI 0), some (vI (-1)), some (vI 0), some (vI (12500 * (xs 1)))] [] _
  rw [← eG4]
  refine ab_aload_n d_MO_addStep_57 rfl ?_
  refine ab_getf (fs := (m_fv (vI 0) (vI 0) (vI 0) (vI 0) (vI 0) (vI 0) (vI 0) (vI 0) (vI 2) (vI 0) (vI ((xs 2) &&& 15)) (vI 0) (vI (-1)) (vI 0) (vI 0) (vI 0) (vI 0) (vI 0) (vI 0) (vI (xs 1)) (vI 0) (vI 0) (vI 1) (vI 0) (vI 0) (vI 0) (vI 0) (vI 0) (vI 0) (vI 0) (vI 0) (vI 0) (vI 0) (vI 0) (vI 0))) f_MO_124 d_MO_addStep_58 h80 rfl ?_
  refine ab_aload_n d_MO_addStep_61 rfl ?_
  refine ab_getf (fs := (m_fv (vI 0) (vI 0) (vI 0) (vI 0) (vI 0) (vI 0) (vI 0) (vI 0) (vI 2) (vI 0) (vI ((xs 2) &&& 15)) (vI 0) (vI (-1)) (vI 0) (vI 0) (vI 0) (vI 0) (vI 0) (vI 0) (vI (xs 1)) (vI 0) (vI 0) (vI 1) (vI 0) (vI 0) (vI 0) (vI 0) (vI 0) (vI 0) (vI 0) (vI 0) (vI 0) (vI 0) (vI 0) (vI 0))) f_MO_438 d_MO_addStep_62 h80 rfl ?_
  refine ab_iald d_MO_addStep_65 h117 (vp_in_iff.mpr (by have l0 := (show (0 : Int32).toInt = 0 by decide); have l1 := (show (5 : Int32).toInt = 5 by decide); have l2 := (show (31 : Int32).toInt = 31 by decide); simp only [Int32.le_iff_toInt_le, Int32.lt_iff_toInt_lt, ← Int32.toInt_inj] at c0 c1 c2 c3 c4 c5 c6 c7; constructor <;> omega)) ?_
  refine ab_topi (y := 1) (by simp [upd]) ?_
  refine ab_iconst (v := 1) d_MO_addStep_66 (by decide) ?_
  refine ab_isub d_MO_addStep_67 ?_
  refine ab_topi (y := 0) (by decide) ?_
  exact ab_iret (rt := .int) rfl rfl d_MO_addStep_68 (by rw [hQ]; exact ⟨rfl, hfr, hlen, hsl, h117, h118, h119, h120⟩)
set_option maxRecDepth 100000 in
set_option maxHeartbeats 4000000 in
theorem q_MO_addStep_5 {X : ab_X} {d : Nat} {G : ab_G} {xs : Nat → Int32} (hlen : G.length = 158) (hsl : ab_slots G = 1893385) (h80 : G[80]? = some (ab_ob 12 (m_fv (vI 0) (vI 0) (vI 0) (vI 0) (vI 0) (vI 0) (vI 0) (vI 0) (vI 2) (vI 0) (vI ((xs 2) &&& 15)) (vI 0) (vI (-1)) (vI 0) (vI 0) (vI 0) (vI 0) (vI 0) (vI 0) (vI (xs 1)) (vI 0) (vI 0) (vI 1) (vI 0) (vI 0) (vI 0) (vI 0) (vI 0) (vI 0) (vI 0) (vI 0) (vI 0) (vI 0) (vI 0) (vI 0)))) (h117 : G[117]? = some (ab_if 6 ((upd (upd (fun _ => 0) (Int32.toNatClampNeg (xs 1)) 0) (Int32.toNatClampNeg (xs 1)) 1)))) (h118 : G[118]? = some (ab_if 75000 ((upd (fun _ => 0) (Int32.toNatClampNeg (12500 * (xs 1))) 0)))) (h119 : G[119]? = some (ab_if 75000 ((upd (fun _ => 0) (Int32.toNatClampNeg (12500 * (xs 1))) (-1))))) (h120 : G[120]? = some (ab_if 75000 ((upd (fun _ => 0) (Int32.toNatClampNeg (12500 * (xs 1))) 0)))) (c0 : 0 ≤ (xs 1)) (c1 : (xs 1) ≤ 5) (c2 : 0 ≤ (xs 2)) (c3 : (xs 2) ≤ 31) (c4 : ¬ ((xs 1) < 0)) (c5 : ¬ (5 < (xs 1))) (c6 : ¬ ((xs 2) < 0)) (c7 : (xs 2) ≤ 31) : ab_F X d y_MO_addStep (.code y_MO_addStep b_MO_addStep 5 (some (.int))) [vR 80, vI 6, vI (-1), vI 0] G (fun o G2 => o = .returned (some (vI 1)) ∧ ab_fr [117, 118, 119, 120] G G2 ∧ G2.length = 158 ∧ ab_slots G2 = 1893385 ∧ G2[117]? = some (ab_if 6 ((upd (upd (upd (fun _ => 0) (Int32.toNatClampNeg (xs 1)) 0) (Int32.toNatClampNeg (xs 1)) 1) (Int32.toNatClampNeg (xs 1)) 2))) ∧ G2[118]? = some (ab_if 75000 ((upd (upd (fun _ => 0) (Int32.toNatClampNeg (12500 * (xs 1))) 0) (Int32.toNatClampNeg ((12500 * (xs 1)) + 1)) 6))) ∧ G2[119]? = some (ab_if 75000 ((upd (upd (fun _ => 0) (Int32.toNatClampNeg (12500 * (xs 1))) (-1)) (Int32.toNatClampNeg ((12500 * (xs 1)) + 1)) (-1)))) ∧ G2[120]? = some (ab_if 75000 ((upd (upd (fun _ => 0) (Int32.toNatClampNeg (12500 * (xs 1))) 0) (Int32.toNatClampNeg ((12500 * (xs 1)) + 1)) 0)))) := by
  refine ab_F_of (by decide +kernel) (Nat.le_of_ble_eq_true rfl) ?_
  obtain ⟨Q, hQ⟩ : ∃ z : Outcome → ab_G → Prop, z = (fun o G2 => o = .returned (some (vI 1)) ∧ ab_fr [117, 118, 119, 120] G G2 ∧ G2.length = 158 ∧ ab_slots G2 = 1893385 ∧ G2[117]? = some (ab_if 6 ((upd (upd (upd (fun _ => 0) (Int32.toNatClampNeg (xs 1)) 0) (Int32.toNatClampNeg (xs 1)) 1) (Int32.toNatClampNeg (xs 1)) 2))) ∧ G2[118]? = some (ab_if 75000 ((upd (upd (fun _ => 0) (Int32.toNatClampNeg (12500 * (xs 1))) 0) (Int32.toNatClampNeg ((12500 * (xs 1)) + 1)) 6))) ∧ G2[119]? = some (ab_if 75000 ((upd (upd (fun _ => 0) (Int32.toNatClampNeg (12500 * (xs 1))) (-1)) (Int32.toNatClampNeg ((12500 * (xs 1)) + 1)) (-1)))) ∧ G2[120]? = some (ab_if 75000 ((upd (upd (fun _ => 0) (Int32.toNatClampNeg (12500 * (xs 1))) 0) (Int32.toNatClampNeg ((12500 * (xs 1)) + 1)) 0)))) := ⟨_, rfl⟩
  rw [← hQ]
  change ab_W X (ab_pl y_MO_addStep b_MO_addStep 5 (some (.int))) d G 0 [some (vR 80), some (vI 6), some (vI (-1)), some (vI 0), none] [] Q
  have hfr : ab_fr [117, 118, 119, 120] G G := ab_fr.rf
  refine ab_sipush (v := 12500) d_MO_addStep_0 (by decide) ?_
  refine ab_aload_n d_MO_addStep_3 rfl ?_
  refine ab_getf (fs := (m_fv (vI 0) (vI 0) (vI 0) (vI 0) (vI 0) (vI 0) (vI 0) (vI 0) (vI 2) (vI 0) (vI ((xs 2) &&& 15)) (vI 0) (vI (-1)) (vI 0) (vI 0) (vI 0) (vI 0) (vI 0) (vI 0) (vI (xs 1)) (vI 0) (vI 0) (vI 1) (vI 0) (vI 0) (vI 0) (vI 0) (vI 0) (vI 0) (vI 0) (vI 0) (vI 0) (vI 0) (vI 0) (vI 0))) f_MO_438 d_MO_addStep_4 h80 rfl ?_
  refine ab_imul d_MO_addStep_7 ?_
  refine ab_aload_n d_MO_addStep_8 rfl ?_
  refine ab_getf (fs := (m_fv (vI 0) (vI 0) (vI 0) (vI 0) (vI 0) (vI 0) (vI 0) (vI 0) (vI 2) (vI 0) (vI ((xs 2) &&& 15)) (vI 0) (vI (-1)) (vI 0) (vI 0) (vI 0) (vI 0) (vI 0) (vI 0) (vI (xs 1)) (vI 0) (vI 0) (vI 1) (vI 0) (vI 0) (vI 0) (vI 0) (vI 0) (vI 0) (vI 0) (vI 0) (vI 0) (vI 0) (vI 0) (vI 0))) f_MO_124 d_MO_addStep_9 h80 rfl ?_
  refine ab_aload_n d_MO_addStep_12 rfl ?_
  refine ab_getf (fs := (m_fv (vI 0) (vI 0) (vI 0) (vI 0) (vI 0) (vI 0) (vI 0) (vI 0) (vI 2) (vI 0) (vI ((xs 2) &&& 15)) (vI 0) (vI (-1)) (vI 0) (vI 0) (vI 0) (vI 0) (vI 0) (vI 0) (vI (xs 1)) (vI 0) (vI 0) (vI 1) (vI 0) (vI 0) (vI 0) (vI 0) (vI 0) (vI 0) (vI 0) (vI 0) (vI 0) (vI 0) (vI 0) (vI 0))) f_MO_438 d_MO_addStep_13 h80 rfl ?_
  refine ab_iald d_MO_addStep_16 h117 (vp_in_iff.mpr (by have l0 := (show (0 : Int32).toInt = 0 by decide); have l1 := (show (5 : Int32).toInt = 5 by decide); have l2 := (show (31 : Int32).toInt = 31 by decide); simp only [Int32.le_iff_toInt_le, Int32.lt_iff_toInt_lt, ← Int32.toInt_inj] at c0 c1 c2 c3 c4 c5 c6 c7; constructor <;> omega)) ?_
  refine ab_topi (y := 1) (by simp [upd]) ?_
  refine ab_iadd d_MO_addStep_17 ?_
  refine ab_istore d_MO_addStep_18 (Nat.le_of_ble_eq_true rfl) (Nat.le_of_ble_eq_true rfl) rfl ?_
  change ab_W _ _ _ G 20 [some (vR 80), some (vI 6), some (vI (-1)), some (vI 0), some (vI ((12500 * (xs 1)) + 1))] [] _
  refine ab_aload_n d_MO_addStep_20 rfl ?_
  refine ab_getf (fs := (m_fv (vI 0) (vI 0) (vI 0) (vI 0) (vI 0) (vI 0) (vI 0) (vI 0) (vI 2) (vI 0) (vI ((xs 2) &&& 15)) (vI 0) (vI (-1)) (vI 0) (vI 0) (vI 0) (vI 0) (vI 0) (vI 0) (vI (xs 1)) (vI 0) (vI 0) (vI 1) (vI 0) (vI 0) (vI 0) (vI 0) (vI 0) (vI 0) (vI 0) (vI 0) (vI 0) (vI 0) (vI 0) (vI 0))) f_MO_128 d_MO_addStep_21 h80 rfl ?_
  refine ab_iload d_MO_addStep_24 rfl ?_
  refine ab_iload_n d_MO_addStep_26 rfl ?_
  refine ab_iast d_MO_addStep_27 h118 (vp_in_iff.mpr (by have l0 := (show (0 : Int32).toInt = 0 by decide); have l1 := (show (1 : Int32).toInt = 1 by decide); have l2 := (show (5 : Int32).toInt = 5 by decide); have l3 := (show (31 : Int32).toInt = 31 by decide); have l4 := (show (12500 : Int32).toInt = 12500 by decide); simp only [Int32.le_iff_toInt_le, Int32.lt_iff_toInt_lt, ← Int32.toInt_inj] at c0 c1 c2 c3 c4 c5 c6 c7; have e0 : Int32.toInt (12500 * (xs 1)) = Int32.toInt 12500 * Int32.toInt (xs 1) := i32_mul (by simp only [l0, l1, l2, l3, l4]; omega) (by simp only [l0, l1, l2, l3, l4]; omega); have e1 : Int32.toInt ((12500 * (xs 1)) + 1) = Int32.toInt (12500 * (xs 1)) + Int32.toInt 1 := i32_add (by simp only [l0, l1, l2, l3, l4, e0]; omega) (by simp only [l0, l1, l2, l3, l4, e0]; omega); (try simp only [l0, l1, l2, l3, l4] at e0 e1); constructor <;> omega)) (by decide) ?_
  obtain ⟨G1, eG1⟩ : ∃ z : ab_G, z = List.set G 118 (ab_if 75000 ((upd (upd (fun _ => 0) (Int32.toNatClampNeg (12500 * (xs 1))) 0) (Int32.toNatClampNeg ((12500 * (xs 1)) + 1)) 6))) := ⟨_, rfl⟩
  have h80 := ab_keep eG1 (by decide) h80
  have h117 := ab_keep eG1 (by decide) h117
  have h119 := ab_keep eG1 (by decide) h119
  have h120 := ab_keep eG1 (by decide) h120
  have hlen := ab_klen eG1 hlen
  have hsl := ab_ksl 75000 eG1 h118 rfl rfl hsl
  have hfr := hfr.wr eG1 (by decide)
  have h118 := ab_kept eG1 h118
  change ab_W _ _ _ (List.set G 118 (ab_if 75000 ((upd (upd (fun _ => 0) (Int32.toNatClampNeg (12500 * (xs 1))) 0) (Int32.toNatClampNeg ((12500 * (xs 1)) + 1)) 6)))) 28 [some (vR 80), some (vI 6), some (vI (-1)), some (vI 0), some (vI ((12500 * (xs 1)) + 1))] [] _
  rw [← eG1]
  refine ab_aload_n d_MO_addStep_28 rfl ?_
  refine ab_getf (fs := (m_fv (vI 0) (vI 0) (vI 0) (vI 0) (vI 0) (vI 0) (vI 0) (vI 0) (vI 2) (vI 0) (vI ((xs 2) &&& 15)) (vI 0) (vI (-1)) (vI 0) (vI 0) (vI 0) (vI 0) (vI 0) (vI 0) (vI (xs 1)) (vI 0) (vI 0) (vI 1) (vI 0) (vI 0) (vI 0) (vI 0) (vI 0) (vI 0) (vI 0) (vI 0) (vI 0) (vI 0) (vI 0) (vI 0))) f_MO_131 d_MO_addStep_29 h80 rfl ?_
  refine ab_iload d_MO_addStep_32 rfl ?_
  refine ab_iload_n d_MO_addStep_34 rfl ?_
  refine ab_iast d_MO_addStep_35 h119 (vp_in_iff.mpr (by have l0 := (show (0 : Int32).toInt = 0 by decide); have l1 := (show (1 : Int32).toInt = 1 by decide); have l2 := (show (5 : Int32).toInt = 5 by decide); have l3 := (show (31 : Int32).toInt = 31 by decide); have l4 := (show (12500 : Int32).toInt = 12500 by decide); simp only [Int32.le_iff_toInt_le, Int32.lt_iff_toInt_lt, ← Int32.toInt_inj] at c0 c1 c2 c3 c4 c5 c6 c7; have e0 : Int32.toInt (12500 * (xs 1)) = Int32.toInt 12500 * Int32.toInt (xs 1) := i32_mul (by simp only [l0, l1, l2, l3, l4]; omega) (by simp only [l0, l1, l2, l3, l4]; omega); have e1 : Int32.toInt ((12500 * (xs 1)) + 1) = Int32.toInt (12500 * (xs 1)) + Int32.toInt 1 := i32_add (by simp only [l0, l1, l2, l3, l4, e0]; omega) (by simp only [l0, l1, l2, l3, l4, e0]; omega); (try simp only [l0, l1, l2, l3, l4] at e0 e1); constructor <;> omega)) (by decide) ?_
  obtain ⟨G2, eG2⟩ : ∃ z : ab_G, z = List.set G1 119 (ab_if 75000 ((upd (upd (fun _ => 0) (Int32.toNatClampNeg (12500 * (xs 1))) (-1)) (Int32.toNatClampNeg ((12500 * (xs 1)) + 1)) (-1)))) := ⟨_, rfl⟩
  have h80 := ab_keep eG2 (by decide) h80
  have h117 := ab_keep eG2 (by decide) h117
  have h118 := ab_keep eG2 (by decide) h118
  have h120 := ab_keep eG2 (by decide) h120
  have hlen := ab_klen eG2 hlen
  have hsl := ab_ksl 75000 eG2 h119 rfl rfl hsl
  have hfr := hfr.wr eG2 (by decide)
  have h119 := ab_kept eG2 h119
  change ab_W _ _ _ (List.set G1 119 (ab_if 75000 ((upd (upd (fun _ => 0) (Int32.toNatClampNeg (12500 * (xs 1))) (-1)) (Int32.toNatClampNeg ((12500 * (xs 1)) + 1)) (-1))))) 36 [some (vR 80), some (vI 6), some (vI (-1)), some (vI 0), some (vI ((12500 * (xs 1)) + 1))] [] _
  rw [← eG2]
  refine ab_aload_n d_MO_addStep_36 rfl ?_
  refine ab_getf (fs := (m_fv (vI 0) (vI 0) (vI 0) (vI 0) (vI 0) (vI 0) (vI 0) (vI 0) (vI 2) (vI 0) (vI ((xs 2) &&& 15)) (vI 0) (vI (-1)) (vI 0) (vI 0) (vI 0) (vI 0) (vI 0) (vI 0) (vI (xs 1)) (vI 0) (vI 0) (vI 1) (vI 0) (vI 0) (vI 0) (vI 0) (vI 0) (vI 0) (vI 0) (vI 0) (vI 0) (vI 0) (vI 0) (vI 0))) f_MO_134 d_MO_addStep_37 h80 rfl ?_
  refine ab_iload d_MO_addStep_40 rfl ?_
  refine ab_iload_n d_MO_addStep_42 rfl ?_
  refine ab_iast d_MO_addStep_43 h120 (vp_in_iff.mpr (by have l0 := (show (0 : Int32).toInt = 0 by decide); have l1 := (show (1 : Int32).toInt = 1 by decide); have l2 := (show (5 : Int32).toInt = 5 by decide); have l3 := (show (31 : Int32).toInt = 31 by decide); have l4 := (show (12500 : Int32).toInt = 12500 by decide); simp only [Int32.le_iff_toInt_le, Int32.lt_iff_toInt_lt, ← Int32.toInt_inj] at c0 c1 c2 c3 c4 c5 c6 c7; have e0 : Int32.toInt (12500 * (xs 1)) = Int32.toInt 12500 * Int32.toInt (xs 1) := i32_mul (by simp only [l0, l1, l2, l3, l4]; omega) (by simp only [l0, l1, l2, l3, l4]; omega); have e1 : Int32.toInt ((12500 * (xs 1)) + 1) = Int32.toInt (12500 * (xs 1)) + Int32.toInt 1 := i32_add (by simp only [l0, l1, l2, l3, l4, e0]; omega) (by simp only [l0, l1, l2, l3, l4, e0]; omega); (try simp only [l0, l1, l2, l3, l4] at e0 e1); constructor <;> omega)) (by decide) ?_
  obtain ⟨G3, eG3⟩ : ∃ z : ab_G, z = List.set G2 120 (ab_if 75000 ((upd (upd (fun _ => 0) (Int32.toNatClampNeg (12500 * (xs 1))) 0) (Int32.toNatClampNeg ((12500 * (xs 1)) + 1)) 0))) := ⟨_, rfl⟩
  have h80 := ab_keep eG3 (by decide) h80
  have h117 := ab_keep eG3 (by decide) h117
  have h118 := ab_keep eG3 (by decide) h118
  have h119 := ab_keep eG3 (by decide) h119
  have hlen := ab_klen eG3 hlen
  have hsl := ab_ksl 75000 eG3 h120 rfl rfl hsl
  have hfr := hfr.wr eG3 (by decide)
  have h120 := ab_kept eG3 h120
  change ab_W _ _ _ (List.set G2 120 (ab_if 75000 ((upd (upd (fun _ => 0) (Int32.toNatClampNeg (12500 * (xs 1))) 0) (Int32.toNatClampNeg ((12500 * (xs 1)) + 1)) 0)))) 44 [some (vR 80), some (vI 6), some (vI (-1)), some (vI 0), some (vI ((12500 * (xs 1)) + 1))] [] _
  rw [← eG3]
  refine ab_aload_n d_MO_addStep_44 rfl ?_
  refine ab_getf (fs := (m_fv (vI 0) (vI 0) (vI 0) (vI 0) (vI 0) (vI 0) (vI 0) (vI 0) (vI 2) (vI 0) (vI ((xs 2) &&& 15)) (vI 0) (vI (-1)) (vI 0) (vI 0) (vI 0) (vI 0) (vI 0) (vI 0) (vI (xs 1)) (vI 0) (vI 0) (vI 1) (vI 0) (vI 0) (vI 0) (vI 0) (vI 0) (vI 0) (vI 0) (vI 0) (vI 0) (vI 0) (vI 0) (vI 0))) f_MO_124 d_MO_addStep_45 h80 rfl ?_
  refine ab_aload_n d_MO_addStep_48 rfl ?_
  refine ab_getf (fs := (m_fv (vI 0) (vI 0) (vI 0) (vI 0) (vI 0) (vI 0) (vI 0) (vI 0) (vI 2) (vI 0) (vI ((xs 2) &&& 15)) (vI 0) (vI (-1)) (vI 0) (vI 0) (vI 0) (vI 0) (vI 0) (vI 0) (vI (xs 1)) (vI 0) (vI 0) (vI 1) (vI 0) (vI 0) (vI 0) (vI 0) (vI 0) (vI 0) (vI 0) (vI 0) (vI 0) (vI 0) (vI 0) (vI 0))) f_MO_438 d_MO_addStep_49 h80 rfl ?_
  refine ab_dup2 d_MO_addStep_52 rfl rfl ?_
  refine ab_iald d_MO_addStep_53 h117 (vp_in_iff.mpr (by have l0 := (show (0 : Int32).toInt = 0 by decide); have l1 := (show (5 : Int32).toInt = 5 by decide); have l2 := (show (31 : Int32).toInt = 31 by decide); simp only [Int32.le_iff_toInt_le, Int32.lt_iff_toInt_lt, ← Int32.toInt_inj] at c0 c1 c2 c3 c4 c5 c6 c7; constructor <;> omega)) ?_
  refine ab_topi (y := 1) (by simp [upd]) ?_
  refine ab_iconst (v := 1) d_MO_addStep_54 (by decide) ?_
  refine ab_iadd d_MO_addStep_55 ?_
  refine ab_topi (y := 2) (by decide) ?_
  refine ab_iast d_MO_addStep_56 h117 (vp_in_iff.mpr (by have l0 := (show (0 : Int32).toInt = 0 by decide); have l1 := (show (5 : Int32).toInt = 5 by decide); have l2 := (show (31 : Int32).toInt = 31 by decide); simp only [Int32.le_iff_toInt_le, Int32.lt_iff_toInt_lt, ← Int32.toInt_inj] at c0 c1 c2 c3 c4 c5 c6 c7; constructor <;> omega)) (by decide) ?_
  obtain ⟨G4, eG4⟩ : ∃ z : ab_G, z = List.set G3 117 (ab_if 6 ((upd (upd (upd (fun _ => 0) (Int32.toNatClampNeg (xs 1)) 0) (Int32.toNatClampNeg (xs 1)) 1) (Int32.toNatClampNeg (xs 1)) 2))) := ⟨_, rfl⟩
  have h80 := ab_keep eG4 (by decide) h80
  have h118 := ab_keep eG4 (by decide) h118
  have h119 := ab_keep eG4 (by decide) h119
  have h120 := ab_keep eG4 (by decide) h120
  have hlen := ab_klen eG4 hlen
  have hsl := ab_ksl 6 eG4 h117 rfl rfl hsl
  have hfr := hfr.wr eG4 (by decide)
  have h117 := ab_kept eG4 h117
  change ab_W _ _ _ (List.set G3 117 (ab_if 6 ((upd (upd (upd (fun _ => 0) (Int32.toNatClampNeg (xs 1)) 0) (Int32.toNatClampNeg (xs 1)) 1) (Int32.toNatClampNeg (xs 1)) 2)))) 57 [some (vR 80), some (vI 6), some (vI (-1)), some (vI 0), some (vI ((12500 * (xs 1)) + 1))] [] _
  rw [← eG4]
  refine ab_aload_n d_MO_addStep_57 rfl ?_
  refine ab_getf (fs := (m_fv (vI 0) (vI 0) (vI 0) (vI 0) (vI 0) (vI 0) (vI 0) (vI 0) (vI 2) (vI 0) (vI ((xs 2) &&& 15)) (vI 0) (vI (-1)) (vI 0) (vI 0) (vI 0) (vI 0) (vI 0) (vI 0) (vI (xs 1)) (vI 0) (vI 0) (vI 1) (vI 0) (vI 0) (vI 0) (vI 0) (vI 0) (vI 0) (vI 0) (vI 0) (vI 0) (vI 0) (vI 0) (vI 0))) f_MO_124 d_MO_addStep_58 h80 rfl ?_
  refine ab_aload_n d_MO_addStep_61 rfl ?_
  refine ab_getf (fs := (m_fv (vI 0) (vI 0) (vI 0) (vI 0) (vI 0) (vI 0) (vI 0) (vI 0) (vI 2) (vI 0) (vI ((xs 2) &&& 15)) (vI 0) (vI (-1)) (vI 0) (vI 0) (vI 0) (vI 0) (vI 0) (vI 0) (vI (xs 1)) (vI 0) (vI 0) (vI 1) (vI 0) (vI 0) (vI 0) (vI 0) (vI 0) (vI 0) (vI 0) (vI 0) (vI 0) (vI 0) (vI 0) (vI 0))) f_MO_438 d_MO_addStep_62 h80 rfl ?_
  refine ab_iald d_MO_addStep_65 h117 (vp_in_iff.mpr (by have l0 := (show (0 : Int32).toInt = 0 by decide); have l1 := (show (5 : Int32).toInt = 5 by decide); have l2 := (show (31 : Int32).toInt = 31 by decide); simp only [Int32.le_iff_toInt_le, Int32.lt_iff_toInt_lt, ← Int32.toInt_inj] at c0 c1 c2 c3 c4 c5 c6 c7; constructor <;> omega)) ?_
  refine ab_topi (y := 2) (by simp [upd]) ?_
  refine ab_iconst (v := 1) d_MO_addStep_66 (by decide) ?_
  refine ab_isub d_MO_addStep_67 ?_
  refine ab_topi (y := 1) (by decide) ?_
  exact ab_iret (rt := .int) rfl rfl d_MO_addStep_68 (by rw [hQ]; exact ⟨rfl, hfr, hlen, hsl, h117, h118, h119, h120⟩)
