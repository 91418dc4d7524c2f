set_option maxRecDepth 100000 in
set_option maxHeartbeats 4000000 in
theorem q_MO_compile_37 {X : ab_X} {d : Nat} {G : ab_G} {xs : Nat → Int32} (hlen : G.length = 158) (hsl : ab_slots G = 1893385) (h80 : G[80]? = some (ab_ob 12 (m_fv (vI 0) (vI 0) (vI 0) (vI 0) (vI 0) (vI 0) (vI 0) (vI 0) (vI 0) (vI 0) (vI 0) (vI 0) (vI (-1)) (vI 0) (vI 0) (vI 0) (vI 0) (vI 0) (vI 0) (vI 0) (vI 0) (vI 0) (vI 0) (vI 0) (vI 0) (vI 0) (vI 0) (vI 0) (vI 0) (vI 0) (vI 0) (vI 0) (vI 0) (vI 0) (vI 0)))) (h94 : G[94]? = some (ab_if 4200 ((fun _ => 0)))) (h95 : G[95]? = some (ab_if 4200 ((fun _ => 0)))) (h96 : G[96]? = some (ab_if 4200 ((fun _ => 0)))) (h97 : G[97]? = some (ab_if 4200 ((fun _ => 0)))) (h100 : G[100]? = some (.inl (2, 4200, .inr (.inl (fun _ => 0))))) (h102 : G[102]? = some (ab_if 32 ((fun _ => 0)))) (h103 : G[103]? = some (ab_if 32 ((fun _ => 0)))) (h104 : G[104]? = some (ab_if 32 ((fun _ => 0)))) (h105 : G[105]? = some (ab_if 32 ((fun _ => 0)))) (h107 : G[107]? = some (ab_if 32 ((fun _ => 0)))) (h108 : G[108]? = some (ab_if 32 ((fun _ => 0)))) (h109 : G[109]? = some (ab_if 32 ((fun _ => 0)))) (h110 : G[110]? = some (ab_if 120 ((fun _ => 0)))) (h112 : G[112]? = some (ab_zf 6 ((fun _ => 0)))) (h113 : G[113]? = some (ab_if 6 ((fun _ => 0)))) (h114 : G[114]? = some (ab_if 6 ((fun _ => 0)))) (h115 : G[115]? = some (ab_if 6 ((fun _ => 0)))) (h116 : G[116]? = some (ab_if 6 ((fun _ => 0)))) (h117 : G[117]? = some (ab_if 6 ((fun _ => 0)))) (h118 : G[118]? = some (ab_if 75000 ((fun _ => 0)))) (h119 : G[119]? = some (ab_if 75000 ((fun _ => 0)))) (h120 : G[120]? = some (ab_if 75000 ((fun _ => 0)))) (h125 : G[125]? = some (ab_if 6 ((fun _ => 0)))) (h126 : G[126]? = some (ab_if 720 ((fun _ => 0)))) (h127 : G[127]? = some (ab_if 60 ((fun _ => 0)))) (h128 : G[128]? = some (ab_if 300 ((fun _ => 0)))) (h129 : G[129]? = some (ab_if 300 ((fun _ => 0)))) (h130 : G[130]? = some (ab_if 300 ((fun _ => 0)))) (h131 : G[131]? = some (ab_if 300 ((fun _ => 0)))) (h132 : G[132]? = some (ab_if 300 ((fun _ => 0)))) (h133 : G[133]? = some (ab_if 40000 ((fun _ => 0)))) (c0 : 0 ≤ (xs 1)) (c1 : (xs 1) ≤ 5) (c2 : 0 ≤ (xs 2)) (c3 : (xs 2) ≤ 31) (hd : 4 ≤ d) : ab_F X d y_MO_compile (.code y_MO_compile b_MO_compile 6 (some (.int))) [vR 80, vI (xs 1), vI (xs 2)] G (fun o G2 => o = .returned (some (vI 0)) ∧ ab_fr [80, 94, 95, 96, 97, 100, 102, 103, 104, 105, 107, 108, 109, 112, 113, 114, 115, 116, 117, 118, 119, 120, 125, 126, 127, 128, 129, 130, 131, 132, 133] G G2 ∧ G2.length = 158 ∧ ab_slots G2 = 1893385 ∧ G2[80]? = some (ab_ob 12 (m_fv (vI 0) (vI 0) (vI 0) (vI 0) (vI 0) (vI 0) (vI 0) (vI 0) (vI 2) (vI 0) (vI ((xs 2) &&& 15)) (vI 0) (vI (-1)) (vI 0) (vI 0) (vI 0) (vI 0) (vI 0) (vI 0) (vI (xs 1)) (vI 0) (vI 0) (vI 1) (vI 0) (vI 0) (vI 0) (vI 0) (vI 0) (vI 0) (vI 0) (vI 0) (vI 0) (vI 0) (vI 0) (vI 0))) ∧ G2[94]? = some (ab_if 4200 ((upd (upd (fun _ => 0) 0 4) 1 5))) ∧ G2[95]? = some (ab_if 4200 ((upd (upd (fun _ => 0) 0 0) 1 0))) ∧ G2[96]? = some (ab_if 4200 ((upd (upd (upd (upd (fun _ => 0) 0 (-1)) 0 (-1)) 1 (-1)) 1 0))) ∧ G2[97]? = some (ab_if 4200 ((upd (upd (fun _ => 0) 0 (-1)) 1 (-1)))) ∧ G2[100]? = some (.inl (2, 4200, .inr (.inl (vp_updL (vp_updL (fun _ => 0) 0 0) 1 0)))) ∧ G2[102]? = some (ab_if 32 ((upd (fun _ => 0) 0 (-1)))) ∧ G2[103]? = some (ab_if 32 ((upd (fun _ => 0) 0 ((xs 2) &&& 15)))) ∧ G2[104]? = some (ab_if 32 ((upd (fun _ => 0) 0 0))) ∧ G2[105]? = some (ab_if 32 ((upd (upd (fun _ => 0) 0 (-1)) 0 (-1)))) ∧ G2[107]? = some (ab_if 32 ((upd (upd (fun _ => 0) 0 (-1)) 0 0))) ∧ G2[108]? = some (ab_if 32 ((upd (fun _ => 0) 0 0))) ∧ G2[109]? = some (ab_if 32 ((upd (upd (fun _ => 0) 0 0) 0 0))) ∧ G2[112]? = some (ab_zf 6 ((upd (fun _ => 0) (Int32.toNatClampNeg (xs 1)) (vp_nar .boolean 1)))) ∧ G2[113]? = some (ab_if 6 ((upd (fun _ => 0) (Int32.toNatClampNeg (xs 1)) 0))) ∧ G2[114]? = some (ab_if 6 ((upd (fun _ => 0) (Int32.toNatClampNeg (xs 1)) 0))) ∧ G2[115]? = some (ab_if 6 ((upd (fun _ => 0) (Int32.toNatClampNeg (xs 1)) 0))) ∧ G2[116]? = some (ab_if 6 ((upd (fun _ => 0) (Int32.toNatClampNeg (xs 1)) (xs 2)))) ∧ G2[117]? = some (ab_if 6 ((upd (upd (upd (fun _ => 0) (Int32.toNatClampNeg (xs 1)) 0) (Int32.toNatClampNeg (xs 1)) 1) (Int32.toNatClampNeg (xs 1)) 2))) ∧ G2[118]? = some (ab_if 75000 ((upd (upd (fun _ => 0) (Int32.toNatClampNeg (12500 * (xs 1))) 0) (Int32.toNatClampNeg ((12500 * (xs 1)) + 1)) 6))) ∧ G2[119]? = some (ab_if 75000 ((upd (upd (fun _ => 0) (Int32.toNatClampNeg (12500 * (xs 1))) (-1)) (Int32.toNatClampNeg ((12500 * (xs 1)) + 1)) (-1)))) ∧ G2[120]? = some (ab_if 75000 ((upd (upd (fun _ => 0) (Int32.toNatClampNeg (12500 * (xs 1))) 0) (Int32.toNatClampNeg ((12500 * (xs 1)) + 1)) 0))) ∧ G2[125]? = some (ab_if 6 ((upd (fun _ => 0) (Int32.toNatClampNeg (xs 1)) 0))) ∧ (∃ g : Nat → Int32, G2[126]? = some (ab_if 720 (g))) ∧ (∃ g : Nat → Int32, G2[127]? = some (ab_if 60 (g))) ∧ G2[128]? = some (ab_if 300 ((upd (fun _ => 0) 0 1))) ∧ G2[129]? = some (ab_if 300 ((upd (fun _ => 0) 0 0))) ∧ G2[130]? = some (ab_if 300 ((upd (fun _ => 0) 0 0))) ∧ G2[131]? = some (ab_if 300 ((upd (fun _ => 0) 0 0))) ∧ G2[132]? = some (ab_if 300 ((upd (fun _ => 0) 0 0))) ∧ G2[133]? = some (ab_if 40000 ((upd (fun _ => 0) 0 0)))) := by
  refine ab_F_of (by decide +kernel) (Nat.le_of_ble_eq_true rfl) ?_
  obtain ⟨Q, hQ⟩ : ∃ z : Outcome → ab_G → Prop, z = (fun o G2 => o = .returned (some (vI 0)) ∧ ab_fr [80, 94, 95, 96, 97, 100, 102, 103, 104, 105, 107, 108, 109, 112, 113, 114, 115, 116, 117, 118, 119, 120, 125, 126, 127, 128, 129, 130, 131, 132, 133] G G2 ∧ G2.length = 158 ∧ ab_slots G2 = 1893385 ∧ G2[80]? = some (ab_ob 12 (m_fv (vI 0) (vI 0) (vI 0) (vI 0) (vI 0) (vI 0) (vI 0) (vI 0) (vI 2) (vI 0) (vI ((xs 2) &&& 15)) (vI 0) (vI (-1)) (vI 0) (vI 0) (vI 0) (vI 0) (vI 0) (vI 0) (vI (xs 1)) (vI 0) (vI 0) (vI 1) (vI 0) (vI 0) (vI 0) (vI 0) (vI 0) (vI 0) (vI 0) (vI 0) (vI 0) (vI 0) (vI 0) (vI 0))) ∧ G2[94]? = some (ab_if 4200 ((upd (upd (fun _ => 0) 0 4) 1 5))) ∧ G2[95]? = some (ab_if 4200 ((upd (upd (fun _ => 0) 0 0) 1 0))) ∧ G2[96]? = some (ab_if 4200 ((upd (upd (upd (upd (fun _ => 0) 0 (-1)) 0 (-1)) 1 (-1)) 1 0))) ∧ G2[97]? = some (ab_if 4200 ((upd (upd (fun _ => 0) 0 (-1)) 1 (-1)))) ∧ G2[100]? = some (.inl (2, 4200, .inr (.inl (vp_updL (vp_updL (fun _ => 0) 0 0) 1 0)))) ∧ G2[102]? = some (ab_if 32 ((upd (fun _ => 0) 0 (-1)))) ∧ G2[103]? = some (ab_if 32 ((upd (fun _ => 0) 0 ((xs 2) &&& 15)))) ∧ G2[104]? = some (ab_if 32 ((upd (fun _ => 0) 0 0))) ∧ G2[105]? = some (ab_if 32 ((upd (upd (fun _ => 0) 0 (-1)) 0 (-1)))) ∧ G2[107]? = some (ab_if 32 ((upd (upd (fun _ => 0) 0 (-1)) 0 0))) ∧ G2[108]? = some (ab_if 32 ((upd (fun _ => 0) 0 0))) ∧ G2[109]? = some (ab_if 32 ((upd (upd (fun _ => 0) 0 0) 0 0))) ∧ G2[112]? = some (ab_zf 6 ((upd (fun _ => 0) (Int32.toNatClampNeg (xs 1)) (vp_nar .boolean 1)))) ∧ G2[113]? = some (ab_if 6 ((upd (fun _ => 0) (Int32.toNatClampNeg (xs 1)) 0))) ∧ G2[114]? = some (ab_if 6 ((upd (fun _ => 0) (Int32.toNatClampNeg (xs 1)) 0))) ∧ G2[115]? = some (ab_if 6 ((upd (fun _ => 0) (Int32.toNatClampNeg (xs 1)) 0))) ∧ G2[116]? = some (ab_if 6 ((upd (fun _ => 0) (Int32.toNatClampNeg (xs 1)) (xs 2)))) ∧ G2[117]? = some (ab_if 6 ((upd (upd (upd (fun _ => 0) (Int32.toNatClampNeg (xs 1)) 0) (Int32.toNatClampNeg (xs 1)) 1) (Int32.toNatClampNeg (xs 1)) 2))) ∧ G2[118]? = some (ab_if 75000 ((upd (upd (fun _ => 0) (Int32.toNatClampNeg (12500 * (xs 1))) 0) (Int32.toNatClampNeg ((12500 * (xs 1)) + 1)) 6))) ∧ G2[119]? = some (ab_if 75000 ((upd (upd (fun _ => 0) (Int32.toNatClampNeg (12500 * (xs 1))) (-1)) (Int32.toNatClampNeg ((12500 * (xs 1)) + 1)) (-1)))) ∧ G2[120]? = some (ab_if 75000 ((upd (upd (fun _ => 0) (Int32.toNatClampNeg (12500 * (xs 1))) 0) (Int32.toNatClampNeg ((12500 * (xs 1)) + 1)) 0))) ∧ G2[125]? = some (ab_if 6 ((upd (fun _ => 0) (Int32.toNatClampNeg (xs 1)) 0))) ∧ (∃ g : Nat → Int32, G2[126]? = some (ab_if 720 (g))) ∧ (∃ g : Nat → Int32, G2[127]? = some (ab_if 60 (g))) ∧ G2[128]? = some (ab_if 300 ((upd (fun _ => 0) 0 1))) ∧ G2[129]? = some (ab_if 300 ((upd (fun _ => 0) 0 0))) ∧ G2[130]? = some (ab_if 300 ((upd (fun _ => 0) 0 0))) ∧ G2[131]? = some (ab_if 300 ((upd (fun _ => 0) 0 0))) ∧ G2[132]? = some (ab_if 300 ((upd (fun _ => 0) 0 0))) ∧ G2[133]? = some (ab_if 40000 ((upd (fun _ => 0) 0 0)))) := ⟨_, rfl⟩
  rw [← hQ]
  change ab_W X (ab_pl y_MO_compile b_MO_compile 6 (some (.int))) d G 0 [some (vR 80), some (vI (xs 1)), some (vI (xs 2)), none, none, none] [] Q
  have hfr : ab_fr [80, 94, 95, 96, 97, 100, 102, 103, 104, 105, 107, 108, 109, 112, 113, 114, 115, 116, 117, 118, 119, 120, 125, 126, 127, 128, 129, 130, 131, 132, 133] G G := ab_fr.rf
  refine ab_aload_n d_MO_compile_0 rfl ?_
  refine ab_iload_n d_MO_compile_1 rfl ?_
  refine ab_if_lt (tgt := 20) d_MO_compile_2 (by decide) (fun c4 => ?_) (fun c4 => ?_)
  · exfalso; have l0 := (show (0 : Int32).toInt = 0 by decide); have l1 := (show (5 : Int32).toInt = 5 by decide); have l2 := (show (31 : Int32).toInt = 31 by decide); simp only [Int32.le_iff_toInt_le, Int32.lt_iff_toInt_lt, ← Int32.toInt_inj] at c0 c1 c2 c3 c4; omega
  · refine ab_iload_n d_MO_compile_5 rfl ?_
    refine ab_iconst (v := 5) d_MO_compile_6 (by decide) ?_
    refine ab_icmp_gt (tgt := 20) d_MO_compile_7 (by decide) (fun c5 => ?_) (fun c5 => ?_)
    · exfalso; have l0 := (show (0 : Int32).toInt = 0 by decide); have l1 := (show (5 : Int32).toInt = 5 by decide); have l2 := (show (31 : Int32).toInt = 31 by decide); simp only [Int32.le_iff_toInt_le, Int32.lt_iff_toInt_lt, ← Int32.toInt_inj] at c0 c1 c2 c3 c4 c5; omega
    · refine ab_iload_n d_MO_compile_10 rfl ?_
      refine ab_if_lt (tgt := 20) d_MO_compile_11 (by decide) (fun c6 => ?_) (fun c6 => ?_)
      · exfalso; have l0 := (show (0 : Int32).toInt = 0 by decide); have l1 := (show (5 : Int32).toInt = 5 by decide); have l2 := (show (31 : Int32).toInt = 31 by decide); simp only [Int32.le_iff_toInt_le, Int32.lt_iff_toInt_lt, ← Int32.toInt_inj] at c0 c1 c2 c3 c4 c5 c6; omega
      · refine ab_iload_n d_MO_compile_14 rfl ?_
        refine ab_bipush (v := 31) d_MO_compile_15 (by decide) ?_
        refine ab_icmp_le (tgt := 24) d_MO_compile_17 (by decide) (fun c7 => ?_) (fun c7 => ?_)
        · refine ab_iconst (v := 0) d_MO_compile_24 (by decide) ?_
          refine ab_putf (fs := (m_fv (vI 0) (vI 0) (vI 0) (vI 0) (vI 0) (vI 0) (vI 0) (vI 0) (vI 0) (vI 0) (vI 0) (vI 0) (vI (-1)) (vI 0) (vI 0) (vI 0) (vI 0) (vI 0) (vI 0) (vI 0) (vI 0) (vI 0) (vI 0) (vI 0) (vI 0) (vI 0) (vI 0) (vI 0) (vI 0) (vI 0) (vI 0) (vI 0) (vI 0) (vI 0) (vI 0))) f_MO_220 (Or.inl rfl) d_MO_compile_25 h80 (Nat.le_of_ble_eq_true rfl) (fun _ => ⟨rfl, rfl⟩) (by decide) ?_
          obtain ⟨G1, eG1⟩ : ∃ z : ab_G, z = List.set G 80 (ab_ob 12 (m_fv (vI 0) (vI 0) (vI 0) (vI 0) (vI 0) (vI 0) (vI 0) (vI 0) (vI 0) (vI 0) (vI 0) (vI 0) (vI (-1)) (vI 0) (vI 0) (vI 0) (vI 0) (vI 0) (vI 0) (vI 0) (vI 0) (vI 0) (vI 0) (vI 0) (vI 0) (vI 0) (vI 0) (vI 0) (vI 0) (vI 0) (vI 0) (vI 0) (vI 0) (vI 0) (vI 0))) := ⟨_, rfl⟩
          have h94 := ab_keep eG1 (by decide) h94
          have h95 := ab_keep eG1 (by decide) h95
          have h96 := ab_keep eG1 (by decide) h96
          have h97 := ab_keep eG1 (by decide) h97
          have h100 := ab_keep eG1 (by decide) h100
          have h102 := ab_keep eG1 (by decide) h102
          have h103 := ab_keep eG1 (by decide) h103
          have h104 := ab_keep eG1 (by decide) h104
          have h105 := ab_keep eG1 (by decide) h105
          have h107 := ab_keep eG1 (by decide) h107
          have h108 := ab_keep eG1 (by decide) h108
          have h109 := ab_keep eG1 (by decide) h109
          have h110 := ab_keep eG1 (by decide) h110
          have h112 := ab_keep eG1 (by decide) h112
          have h113 := ab_keep eG1 (by decide) h113
          have h114 := ab_keep eG1 (by decide) h114
          have h115 := ab_keep eG1 (by decide) h115
          have h116 := ab_keep eG1 (by decide) h116
          have h117 := ab_keep eG1 (by decide) h117
          have h118 := ab_keep eG1 (by decide) h118
          have h119 := ab_keep eG1 (by decide) h119
          have h120 := ab_keep eG1 (by decide) h120
          have h125 := ab_keep eG1 (by decide) h125
          have h126 := ab_keep eG1 (by decide) h126
          have h127 := ab_keep eG1 (by decide) h127
          have h128 := ab_keep eG1 (by decide) h128
          have h129 := ab_keep eG1 (by decide) h129
          have h130 := ab_keep eG1 (by decide) h130
          have h131 := ab_keep eG1 (by decide) h131
          have h132 := ab_keep eG1 (by decide) h132
          have h133 := ab_keep eG1 (by decide) h133
          have hlen := ab_klen eG1 hlen
          have hsl := ab_ksl 102 eG1 h80 rfl rfl hsl
          have hfr := hfr.wr eG1 (by decide)
          have h80 := ab_kept eG1 h80
          change ab_W _ _ _ (List.set G 80 (ab_ob 12 (m_fv (vI 0) (vI 0) (vI 0) (vI 0) (vI 0) (vI 0) (vI 0) (vI 0) (vI 0) (vI 0) (vI 0) (vI 0) (vI (-1)) (vI 0) (vI 0) (vI 0) (vI 0) (vI 0) (vI 0) (vI 0) (vI 0) (vI 0) (vI 0) (vI 0) (vI 0) (vI 0) (vI 0) (vI 0) (vI 0) (vI 0) (vI 0) (vI 0) (vI 0) (vI 0) (vI 0)))) 28 [some (vR 80), some (vI (xs 1)), some (vI (xs 2)), none, none, none] [] _
          rw [← eG1]
          refine ab_aload_n d_MO_compile_28 rfl ?_
          refine ab_getf (fs := (m_fv (vI 0) (vI 0) (vI 0) (vI 0) (vI 0) (vI 0) (vI 0) (vI 0) (vI 0) (vI 0) (vI 0) (vI 0) (vI (-1)) (vI 0) (vI 0) (vI 0) (vI 0) (vI 0) (vI 0) (vI 0) (vI 0) (vI 0) (vI 0) (vI 0) (vI 0) (vI 0) (vI 0) (vI 0) (vI 0) (vI 0) (vI 0) (vI 0) (vI 0) (vI 0) (vI 0))) f_MO_220 d_MO_compile_29 h80 rfl ?_
          refine ab_if_le (tgt := 37) d_MO_compile_32 (by decide) (fun _ => ?_) (fun c => absurd c (by decide))
          refine ab_aload_n d_MO_compile_37 rfl ?_
          refine ab_iload_n d_MO_compile_38 rfl ?_
          refine ab_bipush (v := 15) d_MO_compile_39 (by decide) ?_
          refine ab_iand d_MO_compile_41 ?_
          refine ab_callV (d' := d - 1) (as := [vI ((xs 2) &&& 15)]) (st := []) (r := _) (q_MO_read_1 (xs := xs) hlen hsl h80 h94 h95 h96 h97 h100 h102 h103 h104 h105 h107 h108 h109 (by omega)) (fun o G2 h => ⟨_, h.1⟩) (by omega) m_MO_read ml_MO_501 im_MO_read se_MO_read c_MO h80 (Nat.le_of_ble_eq_true rfl) d_MO_compile_42 rfl ?_
          intro v G2 hq
          obtain ⟨hv, hfk, hlen, hsl, h80, h94, h95, h96, h97, h100, h102, h103, h104, h105, h107, h108, h109⟩ := hq
          cases hv
          have h110 := hfk.get (by decide) h110
          have h112 := hfk.get (by decide) h112
          have h113 := hfk.get (by decide) h113
          have h114 := hfk.get (by decide) h114
          have h115 := hfk.get (by decide) h115
          have h116 := hfk.get (by decide) h116
          have h117 := hfk.get (by decide) h117
          have h118 := hfk.get (by decide) h118
          have h119 := hfk.get (by decide) h119
          have h120 := hfk.get (by decide) h120
          have h125 := hfk.get (by decide) h125
          have h126 := hfk.get (by decide) h126
          have h127 := hfk.get (by decide) h127
          have h128 := hfk.get (by decide) h128
          have h129 := hfk.get (by decide) h129
          have h130 := hfk.get (by decide) h130
          have h131 := hfk.get (by decide) h131
          have h132 := hfk.get (by decide) h132
          have h133 := hfk.get (by decide) h133
          have hfr := hfr.cl hfk (by decide)
          change ab_W _ _ _ G2 45 [some (vR 80), some (vI (xs 1)), some (vI (xs 2)), none, none, none] [vI 1] _
          refine ab_istore_n d_MO_compile_45 (Nat.le_of_ble_eq_true rfl) (Nat.le_of_ble_eq_true rfl) rfl ?_
          change ab_W _ _ _ G2 46 [some (vR 80), some (vI (xs 1)), some (vI (xs 2)), some (vI 1), none, none] [] _
          refine ab_aload_n d_MO_compile_46 rfl ?_
          refine ab_iconst (v := 0) d_MO_compile_47 (by decide) ?_
          refine ab_putf (fs := (m_fv (vI 0) (vI 0) (vI 0) (vI 0) (vI 0) (vI 0) (vI 0) (vI 0) (vI 2) (vI 0) (vI ((xs 2) &&& 15)) (vI 0) (vI (-1)) (vI 0) (vI 0) (vI 0) (vI 0) (vI 0) (vI 0) (vI 0) (vI 0) (vI 0) (vI 0) (vI 0) (vI 0) (vI 0) (vI 0) (vI 0) (vI 0) (vI 0) (vI 0) (vI 0) (vI 0) (vI 0) (vI 0))) f_MO_223 (Or.inl rfl) d_MO_compile_48 h80 (Nat.le_of_ble_eq_true rfl) (fun _ => ⟨rfl, rfl⟩) (by decide) ?_
          obtain ⟨G3, eG3⟩ : ∃ z : ab_G, z = List.set G2 80 (ab_ob 12 (m_fv (vI 0) (vI 0) (vI 0) (vI 0) (vI 0) (vI 0) (vI 0) (vI 0) (vI 2) (vI 0) (vI ((xs 2) &&& 15)) (vI 0) (vI (-1)) (vI 0) (vI 0) (vI 0) (vI 0) (vI 0) (vI 0) (vI 0) (vI 0) (vI 0) (vI 0) (vI 0) (vI 0) (vI 0) (vI 0) (vI 0) (vI 0) (vI 0) (vI 0) (vI 0) (vI 0) (vI 0) (vI 0))) := ⟨_, rfl⟩
          have h94 := ab_keep eG3 (by decide) h94
          have h95 := ab_keep eG3 (by decide) h95
          have h96 := ab_keep eG3 (by decide) h96
          have h97 := ab_keep eG3 (by decide) h97
          have h100 := ab_keep eG3 (by decide) h100
          have h102 := ab_keep eG3 (by decide) h102
          have h103 := ab_keep eG3 (by decide) h103
          have h104 := ab_keep eG3 (by decide) h104
          have h105 := ab_keep eG3 (by decide) h105
          have h107 := ab_keep eG3 (by decide) h107
          have h108 := ab_keep eG3 (by decide) h108
          have h109 := ab_keep eG3 (by decide) h109
          have h110 := ab_keep eG3 (by decide) h110
          have h112 := ab_keep eG3 (by decide) h112
          have h113 := ab_keep eG3 (by decide) h113
          have h114 := ab_keep eG3 (by decide) h114
          have h115 := ab_keep eG3 (by decide) h115
          have h116 := ab_keep eG3 (by decide) h116
          have h117 := ab_keep eG3 (by decide) h117
          have h118 := ab_keep eG3 (by decide) h118
          have h119 := ab_keep eG3 (by decide) h119
          have h120 := ab_keep eG3 (by decide) h120
          have h125 := ab_keep eG3 (by decide) h125
          have h126 := ab_keep eG3 (by decide) h126
          have h127 := ab_keep eG3 (by decide) h127
          have h128 := ab_keep eG3 (by decide) h128
          have h129 := ab_keep eG3 (by decide) h129
          have h130 := ab_keep eG3 (by decide) h130
          have h131 := ab_keep eG3 (by decide) h131
          have h132 := ab_keep eG3 (by decide) h132
          have h133 := ab_keep eG3 (by decide) h133
          have hlen := ab_klen eG3 hlen
          have hsl := ab_ksl 102 eG3 h80 rfl rfl hsl
          have hfr := hfr.wr eG3 (by decide)
          have h80 := ab_kept eG3 h80
          change ab_W _ _ _ (List.set G2 80 (ab_ob 12 (m_fv (vI 0) (vI 0) (vI 0) (vI 0) (vI 0) (vI 0) (vI 0) (vI 0) (vI 2) (vI 0) (vI ((xs 2) &&& 15)) (vI 0) (vI (-1)) (vI 0) (vI 0) (vI 0) (vI 0) (vI 0) (vI 0) (vI 0) (vI 0) (vI 0) (vI 0) (vI 0) (vI 0) (vI 0) (vI 0) (vI 0) (vI 0) (vI 0) (vI 0) (vI 0) (vI 0) (vI 0) (vI 0)))) 51 [some (vR 80), some (vI (xs 1)), some (vI (xs 2)), some (vI 1), none, none] [] _
          rw [← eG3]
          refine ab_aload_n d_MO_compile_51 rfl ?_
          refine ab_aload_n d_MO_compile_52 rfl ?_
          refine ab_getf (fs := (m_fv (vI 0) (vI 0) (vI 0) (vI 0) (vI 0) (vI 0) (vI 0) (vI 0) (vI 2) (vI 0) (vI ((xs 2) &&& 15)) (vI 0) (vI (-1)) (vI 0) (vI 0) (vI 0) (vI 0) (vI 0) (vI 0) (vI 0) (vI 0) (vI 0) (vI 0) (vI 0) (vI 0) (vI 0) (vI 0) (vI 0) (vI 0) (vI 0) (vI 0) (vI 0) (vI 0) (vI 0) (vI 0))) f_MO_273 d_MO_compile_53 h80 rfl ?_
          refine ab_if_le (tgt := 63) d_MO_compile_56 (by decide) (fun _ => ?_) (fun c => absurd c (by decide))
          refine ab_iconst (v := 0) d_MO_compile_63 (by decide) ?_
          refine ab_putf (fs := (m_fv (vI 0) (vI 0) (vI 0) (vI 0) (vI 0) (vI 0) (vI 0) (vI 0) (vI 2) (vI 0) (vI ((xs 2) &&& 15)) (vI 0) (vI (-1)) (vI 0) (vI 0) (vI 0) (vI 0) (vI 0) (vI 0) (vI 0) (vI 0) (vI 0) (vI 0) (vI 0) (vI 0) (vI 0) (vI 0) (vI 0) (vI 0) (vI 0) (vI 0) (vI 0) (vI 0) (vI 0) (vI 0))) f_MO_220 (Or.inl rfl) d_MO_compile_64 h80 (Nat.le_of_ble_eq_true rfl) (fun _ => ⟨rfl, rfl⟩) (by decide) ?_
          obtain ⟨G4, eG4⟩ : ∃ z : ab_G, z = List.set G3 80 (ab_ob 12 (m_fv (vI 0) (vI 0) (vI 0) (vI 0) (vI 0) (vI 0) (vI 0) (vI 0) (vI 2) (vI 0) (vI ((xs 2) &&& 15)) (vI 0) (vI (-1)) (vI 0) (vI 0) (vI 0) (vI 0) (vI 0) (vI 0) (vI 0) (vI 0) (vI 0) (vI 0) (vI 0) (vI 0) (vI 0) (vI 0) (vI 0) (vI 0) (vI 0) (vI 0) (vI 0) (vI 0) (vI 0) (vI 0))) := ⟨_, rfl⟩
          have h94 := ab_keep eG4 (by decide) h94
          have h95 := ab_keep eG4 (by decide) h95
          have h96 := ab_keep eG4 (by decide) h96
          have h97 := ab_keep eG4 (by decide) h97
          have h100 := ab_keep eG4 (by decide) h100
          have h102 := ab_keep eG4 (by decide) h102
          have h103 := ab_keep eG4 (by decide) h103
          have h104 := ab_keep eG4 (by decide) h104
          have h105 := ab_keep eG4 (by decide) h105
          have h107 := ab_keep eG4 (by decide) h107
          have h108 := ab_keep eG4 (by decide) h108
          have h109 := ab_keep eG4 (by decide) h109
          have h110 := ab_keep eG4 (by decide) h110
          have h112 := ab_keep eG4 (by decide) h112
          have h113 := ab_keep eG4 (by decide) h113
          have h114 := ab_keep eG4 (by decide) h114
          have h115 := ab_keep eG4 (by decide) h115
          have h116 := ab_keep eG4 (by decide) h116
          have h117 := ab_keep eG4 (by decide) h117
          have h118 := ab_keep eG4 (by decide) h118
          have h119 := ab_keep eG4 (by decide) h119
          have h120 := ab_keep eG4 (by decide) h120
          have h125 := ab_keep eG4 (by decide) h125
          have h126 := ab_keep eG4 (by decide) h126
          have h127 := ab_keep eG4 (by decide) h127
          have h128 := ab_keep eG4 (by decide) h128
          have h129 := ab_keep eG4 (by decide) h129
          have h130 := ab_keep eG4 (by decide) h130
          have h131 := ab_keep eG4 (by decide) h131
          have h132 := ab_keep eG4 (by decide) h132
          have h133 := ab_keep eG4 (by decide) h133
          have hlen := ab_klen eG4 hlen
          have hsl := ab_ksl 102 eG4 h80 rfl rfl hsl
          have hfr := hfr.wr eG4 (by decide)
          have h80 := ab_kept eG4 h80
          change ab_W _ _ _ (List.set G3 80 (ab_ob 12 (m_fv (vI 0) (vI 0) (vI 0) (vI 0) (vI 0) (vI 0) (vI 0) (vI 0) (vI 2) (vI 0) (vI ((xs 2) &&& 15)) (vI 0) (vI (-1)) (vI 0) (vI 0) (vI 0) (vI 0) (vI 0) (vI 0) (vI 0) (vI 0) (vI 0) (vI 0) (vI 0) (vI 0) (vI 0) (vI 0) (vI 0) (vI 0) (vI 0) (vI 0) (vI 0) (vI 0) (vI 0) (vI 0)))) 67 [some (vR 80), some (vI (xs 1)), some (vI (xs 2)), some (vI 1), none, none] [] _
          rw [← eG4]
          refine ab_aload_n d_MO_compile_67 rfl ?_
          refine ab_getf (fs := (m_fv (vI 0) (vI 0) (vI 0) (vI 0) (vI 0) (vI 0) (vI 0) (vI 0) (vI 2) (vI 0) (vI ((xs 2) &&& 15)) (vI 0) (vI (-1)) (vI 0) (vI 0) (vI 0) (vI 0) (vI 0) (vI 0) (vI 0) (vI 0) (vI 0) (vI 0) (vI 0) (vI 0) (vI 0) (vI 0) (vI 0) (vI 0) (vI 0) (vI 0) (vI 0) (vI 0) (vI 0) (vI 0))) f_MO_220 d_MO_compile_68 h80 rfl ?_
          refine ab_if_le (tgt := 76) d_MO_compile_71 (by decide) (fun _ => ?_) (fun c => absurd c (by decide))
          refine ab_aload_n d_MO_compile_76 rfl ?_
          refine ab_iload_n d_MO_compile_77 rfl ?_
          refine ab_putf (fs := (m_fv (vI 0) (vI 0) (vI 0) (vI 0) (vI 0) (vI 0) (vI 0) (vI 0) (vI 2) (vI 0) (vI ((xs 2) &&& 15)) (vI 0) (vI (-1)) (vI 0) (vI 0) (vI 0) (vI 0) (vI 0) (vI 0) (vI 0) (vI 0) (vI 0) (vI 0) (vI 0) (vI 0) (vI 0) (vI 0) (vI 0) (vI 0) (vI 0) (vI 0) (vI 0) (vI 0) (vI 0) (vI 0))) f_MO_438 (Or.inl rfl) d_MO_compile_78 h80 (Nat.le_of_ble_eq_true rfl) (fun _ => ⟨rfl, rfl⟩) (by decide) ?_
          obtain ⟨G5, eG5⟩ : ∃ z : ab_G, z = List.set G4 80 (ab_ob 12 (m_fv (vI 0) (vI 0) (vI 0) (vI 0) (vI 0) (vI 0) (vI 0) (vI 0) (vI 2) (vI 0) (vI ((xs 2) &&& 15)) (vI 0) (vI (-1)) (vI 0) (vI 0) (vI 0) (vI 0) (vI 0) (vI 0) (vI (xs 1)) (vI 0) (vI 0) (vI 0) (vI 0) (vI 0) (vI 0) (vI 0) (vI 0) (vI 0) (vI 0) (vI 0) (vI 0) (vI 0) (vI 0) (vI 0))) := ⟨_, rfl⟩
          have h94 := ab_keep eG5 (by decide) h94
          have h95 := ab_keep eG5 (by decide) h95
          have h96 := ab_keep eG5 (by decide) h96
          have h97 := ab_keep eG5 (by decide) h97
          have h100 := ab_keep eG5 (by decide) h100
          have h102 := ab_keep eG5 (by decide) h102
          have h103 := ab_keep eG5 (by decide) h103
          have h104 := ab_keep eG5 (by decide) h104
          have h105 := ab_keep eG5 (by decide) h105
          have h107 := ab_keep eG5 (by decide) h107
          have h108 := ab_keep eG5 (by decide) h108
          have h109 := ab_keep eG5 (by decide) h109
          have h110 := ab_keep eG5 (by decide) h110
          have h112 := ab_keep eG5 (by decide) h112
          have h113 := ab_keep eG5 (by decide) h113
          have h114 := ab_keep eG5 (by decide) h114
          have h115 := ab_keep eG5 (by decide) h115
          have h116 := ab_keep eG5 (by decide) h116
          have h117 := ab_keep eG5 (by decide) h117
          have h118 := ab_keep eG5 (by decide) h118
          have h119 := ab_keep eG5 (by decide) h119
          have h120 := ab_keep eG5 (by decide) h120
          have h125 := ab_keep eG5 (by decide) h125
          have h126 := ab_keep eG5 (by decide) h126
          have h127 := ab_keep eG5 (by decide) h127
          have h128 := ab_keep eG5 (by decide) h128
          have h129 := ab_keep eG5 (by decide) h129
          have h130 := ab_keep eG5 (by decide) h130
          have h131 := ab_keep eG5 (by decide) h131
          have h132 := ab_keep eG5 (by decide) h132
          have h133 := ab_keep eG5 (by decide) h133
          have hlen := ab_klen eG5 hlen
          have hsl := ab_ksl 102 eG5 h80 rfl rfl hsl
          have hfr := hfr.wr eG5 (by decide)
          have h80 := ab_kept eG5 h80
          change ab_W _ _ _ (List.set G4 80 (ab_ob 12 (m_fv (vI 0) (vI 0) (vI 0) (vI 0) (vI 0) (vI 0) (vI 0) (vI 0) (vI 2) (vI 0) (vI ((xs 2) &&& 15)) (vI 0) (vI (-1)) (vI 0) (vI 0) (vI 0) (vI 0) (vI 0) (vI 0) (vI (xs 1)) (vI 0) (vI 0) (vI 0) (vI 0) (vI 0) (vI 0) (vI 0) (vI 0) (vI 0) (vI 0) (vI 0) (vI 0) (vI 0) (vI 0) (vI 0)))) 81 [some (vR 80), some (vI (xs 1)), some (vI (xs 2)), some (vI 1), none, none] [] _
          rw [← eG5]
          refine ab_aload_n d_MO_compile_81 rfl ?_
          refine ab_getf (fs := (m_fv (vI 0) (vI 0) (vI 0) (vI 0) (vI 0) (vI 0) (vI 0) (vI 0) (vI 2) (vI 0) (vI ((xs 2) &&& 15)) (vI 0) (vI (-1)) (vI 0) (vI 0) (vI 0) (vI 0) (vI 0) (vI 0) (vI (xs 1)) (vI 0) (vI 0) (vI 0) (vI 0) (vI 0) (vI 0) (vI 0) (vI 0) (vI 0) (vI 0) (vI 0) (vI 0) (vI 0) (vI 0) (vI 0))) f_MO_109 d_MO_compile_82 h80 rfl ?_
          refine ab_iload_n d_MO_compile_85 rfl ?_
          refine ab_iconst (v := 1) d_MO_compile_86 (by decide) ?_
          refine ab_zast d_MO_compile_87 h112 (vp_in_iff.mpr (by have l0 := (show (0 : Int32).toInt = 0 by decide); have l1 := (show (5 : Int32).toInt = 5 by decide); have l2 := (show (31 : Int32).toInt = 31 by decide); simp only [Int32.le_iff_toInt_le, Int32.lt_iff_toInt_lt, ← Int32.toInt_inj] at c0 c1 c2 c3 c4 c5 c6 c7; constructor <;> omega)) (by decide) ?_
          obtain ⟨G6, eG6⟩ : ∃ z : ab_G, z = List.set G5 112 (ab_zf 6 ((upd (fun _ => 0) (Int32.toNatClampNeg (xs 1)) (vp_nar .boolean 1)))) := ⟨_, rfl⟩
          have h80 := ab_keep eG6 (by decide) h80
          have h94 := ab_keep eG6 (by decide) h94
          have h95 := ab_keep eG6 (by decide) h95
          have h96 := ab_keep eG6 (by decide) h96
          have h97 := ab_keep eG6 (by decide) h97
          have h100 := ab_keep eG6 (by decide) h100
          have h102 := ab_keep eG6 (by decide) h102
          have h103 := ab_keep eG6 (by decide) h103
          have h104 := ab_keep eG6 (by decide) h104
          have h105 := ab_keep eG6 (by decide) h105
          have h107 := ab_keep eG6 (by decide) h107
          have h108 := ab_keep eG6 (by decide) h108
          have h109 := ab_keep eG6 (by decide) h109
          have h110 := ab_keep eG6 (by decide) h110
          have h113 := ab_keep eG6 (by decide) h113
          have h114 := ab_keep eG6 (by decide) h114
          have h115 := ab_keep eG6 (by decide) h115
          have h116 := ab_keep eG6 (by decide) h116
          have h117 := ab_keep eG6 (by decide) h117
          have h118 := ab_keep eG6 (by decide) h118
          have h119 := ab_keep eG6 (by decide) h119
          have h120 := ab_keep eG6 (by decide) h120
          have h125 := ab_keep eG6 (by decide) h125
          have h126 := ab_keep eG6 (by decide) h126
          have h127 := ab_keep eG6 (by decide) h127
          have h128 := ab_keep eG6 (by decide) h128
          have h129 := ab_keep eG6 (by decide) h129
          have h130 := ab_keep eG6 (by decide) h130
          have h131 := ab_keep eG6 (by decide) h131
          have h132 := ab_keep eG6 (by decide) h132
          have h133 := ab_keep eG6 (by decide) h133
          have hlen := ab_klen eG6 hlen
          have hsl := ab_ksl 6 eG6 h112 rfl rfl hsl
          have hfr := hfr.wr eG6 (by decide)
          have h112 := ab_kept eG6 h112
          change ab_W _ _ _ (List.set G5 112 (ab_zf 6 ((upd (fun _ => 0) (Int32.toNatClampNeg (xs 1)) (vp_nar .boolean 1))))) 88 [some (vR 80), some (vI (xs 1)), some (vI (xs 2)), some (vI 1), none, none] [] _
          rw [← eG6]
          refine ab_aload_n d_MO_compile_88 rfl ?_
          refine ab_getf (fs := (m_fv (vI 0) (vI 0) (vI 0) (vI 0) (vI 0) (vI 0) (vI 0) (vI 0) (vI 2) (vI 0) (vI ((xs 2) &&& 15)) (vI 0) (vI (-1)) (vI 0) (vI 0) (vI 0) (vI 0) (vI 0) (vI 0) (vI (xs 1)) (vI 0) (vI 0) (vI 0) (vI 0) (vI 0) (vI 0) (vI 0) (vI 0) (vI 0) (vI 0) (vI 0) (vI 0) (vI 0) (vI 0) (vI 0))) f_MO_115 d_MO_compile_89 h80 rfl ?_
          refine ab_iload_n d_MO_compile_92 rfl ?_
          refine ab_aload_n d_MO_compile_93 rfl ?_
          refine ab_getf (fs := (m_fv (vI 0) (vI 0) (vI 0) (vI 0) (vI 0) (vI 0) (vI 0) (vI 0) (vI 2) (vI 0) (vI ((xs 2) &&& 15)) (vI 0) (vI (-1)) (vI 0) (vI 0) (vI 0) (vI 0) (vI 0) (vI 0) (vI (xs 1)) (vI 0) (vI 0) (vI 0) (vI 0) (vI 0) (vI 0) (vI 0) (vI 0) (vI 0) (vI 0) (vI 0) (vI 0) (vI 0) (vI 0) (vI 0))) f_MO_395 d_MO_compile_94 h80 rfl ?_
          refine ab_iast d_MO_compile_97 h114 (vp_in_iff.mpr (by have l0 := (show (0 : Int32).toInt = 0 by decide); have l1 := (show (5 : Int32).toInt = 5 by decide); have l2 := (show (31 : Int32).toInt = 31 by decide); simp only [Int32.le_iff_toInt_le, Int32.lt_iff_toInt_lt, ← Int32.toInt_inj] at c0 c1 c2 c3 c4 c5 c6 c7; constructor <;> omega)) (by decide) ?_
          obtain ⟨G7, eG7⟩ : ∃ z : ab_G, z = List.set G6 114 (ab_if 6 ((upd (fun _ => 0) (Int32.toNatClampNeg (xs 1)) 0))) := ⟨_, rfl⟩
          have h80 := ab_keep eG7 (by decide) h80
          have h94 := ab_keep eG7 (by decide) h94
          have h95 := ab_keep eG7 (by decide) h95
          have h96 := ab_keep eG7 (by decide) h96
          have h97 := ab_keep eG7 (by decide) h97
          have h100 := ab_keep eG7 (by decide) h100
          have h102 := ab_keep eG7 (by decide) h102
          have h103 := ab_keep eG7 (by decide) h103
          have h104 := ab_keep eG7 (by decide) h104
          have h105 := ab_keep eG7 (by decide) h105
          have h107 := ab_keep eG7 (by decide) h107
          have h108 := ab_keep eG7 (by decide) h108
          have h109 := ab_keep eG7 (by decide) h109
          have h110 := ab_keep eG7 (by decide) h110
          have h112 := ab_keep eG7 (by decide) h112
          have h113 := ab_keep eG7 (by decide) h113
          have h115 := ab_keep eG7 (by decide) h115
          have h116 := ab_keep eG7 (by decide) h116
          have h117 := ab_keep eG7 (by decide) h117
          have h118 := ab_keep eG7 (by decide) h118
          have h119 := ab_keep eG7 (by decide) h119
          have h120 := ab_keep eG7 (by decide) h120
          have h125 := ab_keep eG7 (by decide) h125
          have h126 := ab_keep eG7 (by decide) h126
          have h127 := ab_keep eG7 (by decide) h127
          have h128 := ab_keep eG7 (by decide) h128
          have h129 := ab_keep eG7 (by decide) h129
          have h130 := ab_keep eG7 (by decide) h130
          have h131 := ab_keep eG7 (by decide) h131
          have h132 := ab_keep eG7 (by decide) h132
          have h133 := ab_keep eG7 (by decide) h133
          have hlen := ab_klen eG7 hlen
          have hsl := ab_ksl 6 eG7 h114 rfl rfl hsl
          have hfr := hfr.wr eG7 (by decide)
          have h114 := ab_kept eG7 h114
          change ab_W _ _ _ (List.set G6 114 (ab_if 6 ((upd (fun _ => 0) (Int32.toNatClampNeg (xs 1)) 0)))) 98 [some (vR 80), some (vI (xs 1)), some (vI (xs 2)), some (vI 1), none, none] [] _
          rw [← eG7]
          refine ab_aload_n d_MO_compile_98 rfl ?_
          refine ab_getf (fs := (m_fv (vI 0) (vI 0) (vI 0) (vI 0) (vI 0) (vI 0) (vI 0) (vI 0) (vI 2) (vI 0) (vI ((xs 2) &&& 15)) (vI 0) (vI (-1)) (vI 0) (vI 0) (vI 0) (vI 0) (vI 0) (vI 0) (vI (xs 1)) (vI 0) (vI 0) (vI 0) (vI 0) (vI 0) (vI 0) (vI 0) (vI 0) (vI 0) (vI 0) (vI 0) (vI 0) (vI 0) (vI 0) (vI 0))) f_MO_118 d_MO_compile_99 h80 rfl ?_
          refine ab_iload_n d_MO_compile_102 rfl ?_
          refine ab_aload_n d_MO_compile_103 rfl ?_
          refine ab_getf (fs := (m_fv (vI 0) (vI 0) (vI 0) (vI 0) (vI 0) (vI 0) (vI 0) (vI 0) (vI 2) (vI 0) (vI ((xs 2) &&& 15)) (vI 0) (vI (-1)) (vI 0) (vI 0) (vI 0) (vI 0) (vI 0) (vI 0) (vI (xs 1)) (vI 0) (vI 0) (vI 0) (vI 0) (vI 0) (vI 0) (vI 0) (vI 0) (vI 0) (vI 0) (vI 0) (vI 0) (vI 0) (vI 0) (vI 0))) f_MO_68 d_MO_compile_104 h80 rfl ?_
          refine ab_iload_n d_MO_compile_107 rfl ?_
          refine ab_lald d_MO_compile_108 h100 (by unfold vp_in; decide) ?_
          refine ab_topl (y := 0) rfl ?_
          refine ab_l2i d_MO_compile_109 ?_
          refine ab_topi (y := 0) (by decide) ?_
          refine ab_iast d_MO_compile_110 h115 (vp_in_iff.mpr (by have l0 := (show (0 : Int32).toInt = 0 by decide); have l1 := (show (5 : Int32).toInt = 5 by decide); have l2 := (show (31 : Int32).toInt = 31 by decide); simp only [Int32.le_iff_toInt_le, Int32.lt_iff_toInt_lt, ← Int32.toInt_inj] at c0 c1 c2 c3 c4 c5 c6 c7; constructor <;> omega)) (by decide) ?_
          obtain ⟨G8, eG8⟩ : ∃ z : ab_G, z = List.set G7 115 (ab_if 6 ((upd (fun _ => 0) (Int32.toNatClampNeg (xs 1)) 0))) := ⟨_, rfl⟩
          have h80 := ab_keep eG8 (by decide) h80
          have h94 := ab_keep eG8 (by decide) h94
          have h95 := ab_keep eG8 (by decide) h95
          have h96 := ab_keep eG8 (by decide) h96
          have h97 := ab_keep eG8 (by decide) h97
          have h100 := ab_keep eG8 (by decide) h100
          have h102 := ab_keep eG8 (by decide) h102
          have h103 := ab_keep eG8 (by decide) h103
          have h104 := ab_keep eG8 (by decide) h104
          have h105 := ab_keep eG8 (by decide) h105
          have h107 := ab_keep eG8 (by decide) h107
          have h108 := ab_keep eG8 (by decide) h108
          have h109 := ab_keep eG8 (by decide) h109
          have h110 := ab_keep eG8 (by decide) h110
          have h112 := ab_keep eG8 (by decide) h112
          have h113 := ab_keep eG8 (by decide) h113
          have h114 := ab_keep eG8 (by decide) h114
          have h116 := ab_keep eG8 (by decide) h116
          have h117 := ab_keep eG8 (by decide) h117
          have h118 := ab_keep eG8 (by decide) h118
          have h119 := ab_keep eG8 (by decide) h119
          have h120 := ab_keep eG8 (by decide) h120
          have h125 := ab_keep eG8 (by decide) h125
          have h126 := ab_keep eG8 (by decide) h126
          have h127 := ab_keep eG8 (by decide) h127
          have h128 := ab_keep eG8 (by decide) h128
          have h129 := ab_keep eG8 (by decide) h129
          have h130 := ab_keep eG8 (by decide) h130
          have h131 := ab_keep eG8 (by decide) h131
          have h132 := ab_keep eG8 (by decide) h132
          have h133 := ab_keep eG8 (by decide) h133
          have hlen := ab_klen eG8 hlen
          have hsl := ab_ksl 6 eG8 h115 rfl rfl hsl
          have hfr := hfr.wr eG8 (by decide)
          have h115 := ab_kept eG8 h115
          change ab_W _ _ _ (List.set G7 115 (ab_if 6 ((upd (fun _ => 0) (Int32.toNatClampNeg (xs 1)) 0)))) 111 [some (vR 80), some (vI (xs 1)), some (vI (xs 2)), some (vI 1), none, none] [] _
          rw [← eG8]
          refine ab_aload_n d_MO_compile_111 rfl ?_
          refine ab_getf (fs := (m_fv (vI 0) (vI 0) (vI 0) (vI 0) (vI 0) (vI 0) (vI 0) (vI 0) (vI 2) (vI 0) (vI ((xs 2) &&& 15)) (vI 0) (vI (-1)) (vI 0) (vI 0) (vI 0) (vI 0) (vI 0) (vI 0) (vI (xs 1)) (vI 0) (vI 0) (vI 0) (vI 0) (vI 0) (vI 0) (vI 0) (vI 0) (vI 0) (vI 0) (vI 0) (vI 0) (vI 0) (vI 0) (vI 0))) f_MO_121 d_MO_compile_112 h80 rfl ?_
          refine ab_iload_n d_MO_compile_115 rfl ?_
          refine ab_iload_n d_MO_compile_116 rfl ?_
          refine ab_iast d_MO_compile_117 h116 (vp_in_iff.mpr (by have l0 := (show (0 : Int32).toInt = 0 by decide); have l1 := (show (5 : Int32).toInt = 5 by decide); have l2 := (show (31 : Int32).toInt = 31 by decide); simp only [Int32.le_iff_toInt_le, Int32.lt_iff_toInt_lt, ← Int32.toInt_inj] at c0 c1 c2 c3 c4 c5 c6 c7; constructor <;> omega)) (by decide) ?_
          obtain ⟨G9, eG9⟩ : ∃ z : ab_G, z = List.set G8 116 (ab_if 6 ((upd (fun _ => 0) (Int32.toNatClampNeg (xs 1)) (xs 2)))) := ⟨_, rfl⟩
          have h80 := ab_keep eG9 (by decide) h80
          have h94 := ab_keep eG9 (by decide) h94
          have h95 := ab_keep eG9 (by decide) h95
          have h96 := ab_keep eG9 (by decide) h96
          have h97 := ab_keep eG9 (by decide) h97
          have h100 := ab_keep eG9 (by decide) h100
          have h102 := ab_keep eG9 (by decide) h102
          have h103 := ab_keep eG9 (by decide) h103
          have h104 := ab_keep eG9 (by decide) h104
          have h105 := ab_keep eG9 (by decide) h105
          have h107 := ab_keep eG9 (by decide) h107
          have h108 := ab_keep eG9 (by decide) h108
          have h109 := ab_keep eG9 (by decide) h109
          have h110 := ab_keep eG9 (by decide) h110
          have h112 := ab_keep eG9 (by decide) h112
          have h113 := ab_keep eG9 (by decide) h113
          have h114 := ab_keep eG9 (by decide) h114
          have h115 := ab_keep eG9 (by decide) h115
          have h117 := ab_keep eG9 (by decide) h117
          have h118 := ab_keep eG9 (by decide) h118
          have h119 := ab_keep eG9 (by decide) h119
          have h120 := ab_keep eG9 (by decide) h120
          have h125 := ab_keep eG9 (by decide) h125
          have h126 := ab_keep eG9 (by decide) h126
          have h127 := ab_keep eG9 (by decide) h127
          have h128 := ab_keep eG9 (by decide) h128
          have h129 := ab_keep eG9 (by decide) h129
          have h130 := ab_keep eG9 (by decide) h130
          have h131 := ab_keep eG9 (by decide) h131
          have h132 := ab_keep eG9 (by decide) h132
          have h133 := ab_keep eG9 (by decide) h133
          have hlen := ab_klen eG9 hlen
          have hsl := ab_ksl 6 eG9 h116 rfl rfl hsl
          have hfr := hfr.wr eG9 (by decide)
          have h116 := ab_kept eG9 h116
          change ab_W _ _ _ (List.set G8 116 (ab_if 6 ((upd (fun _ => 0) (Int32.toNatClampNeg (xs 1)) (xs 2))))) 118 [some (vR 80), some (vI (xs 1)), some (vI (xs 2)), some (vI 1), none, none] [] _
          rw [← eG9]
          refine ab_aload_n d_MO_compile_118 rfl ?_
          refine ab_getf (fs := (m_fv (vI 0) (vI 0) (vI 0) (vI 0) (vI 0) (vI 0) (vI 0) (vI 0) (vI 2) (vI 0) (vI ((xs 2) &&& 15)) (vI 0) (vI (-1)) (vI 0) (vI 0) (vI 0) (vI 0) (vI 0) (vI 0) (vI (xs 1)) (vI 0) (vI 0) (vI 0) (vI 0) (vI 0) (vI 0) (vI 0) (vI 0) (vI 0) (vI 0) (vI 0) (vI 0) (vI 0) (vI 0) (vI 0))) f_MO_124 d_MO_compile_119 h80 rfl ?_
          refine ab_iload_n d_MO_compile_122 rfl ?_
          refine ab_iconst (v := 0) d_MO_compile_123 (by decide) ?_
          refine ab_iast d_MO_compile_124 h117 (vp_in_iff.mpr (by have l0 := (show (0 : Int32).toInt = 0 by decide); have l1 := (show (5 : Int32).toInt = 5 by decide); have l2 := (show (31 : Int32).toInt = 31 by decide); simp only [Int32.le_iff_toInt_le, Int32.lt_iff_toInt_lt, ← Int32.toInt_inj] at c0 c1 c2 c3 c4 c5 c6 c7; constructor <;> omega)) (by decide) ?_
          obtain ⟨G10, eG10⟩ : ∃ z : ab_G, z = List.set G9 117 (ab_if 6 ((upd (fun _ => 0) (Int32.toNatClampNeg (xs 1)) 0))) := ⟨_, rfl⟩
          have h80 := ab_keep eG10 (by decide) h80
          have h94 := ab_keep eG10 (by decide) h94
          have h95 := ab_keep eG10 (by decide) h95
          have h96 := ab_keep eG10 (by decide) h96
          have h97 := ab_keep eG10 (by decide) h97
          have h100 := ab_keep eG10 (by decide) h100
          have h102 := ab_keep eG10 (by decide) h102
          have h103 := ab_keep eG10 (by decide) h103
          have h104 := ab_keep eG10 (by decide) h104
          have h105 := ab_keep eG10 (by decide) h105
          have h107 := ab_keep eG10 (by decide) h107
          have h108 := ab_keep eG10 (by decide) h108
          have h109 := ab_keep eG10 (by decide) h109
          have h110 := ab_keep eG10 (by decide) h110
          have h112 := ab_keep eG10 (by decide) h112
          have h113 := ab_keep eG10 (by decide) h113
          have h114 := ab_keep eG10 (by decide) h114
          have h115 := ab_keep eG10 (by decide) h115
          have h116 := ab_keep eG10 (by decide) h116
          have h118 := ab_keep eG10 (by decide) h118
          have h119 := ab_keep eG10 (by decide) h119
          have h120 := ab_keep eG10 (by decide) h120
          have h125 := ab_keep eG10 (by decide) h125
          have h126 := ab_keep eG10 (by decide) h126
          have h127 := ab_keep eG10 (by decide) h127
          have h128 := ab_keep eG10 (by decide) h128
          have h129 := ab_keep eG10 (by decide) h129
          have h130 := ab_keep eG10 (by decide) h130
          have h131 := ab_keep eG10 (by decide) h131
          have h132 := ab_keep eG10 (by decide) h132
          have h133 := ab_keep eG10 (by decide) h133
          have hlen := ab_klen eG10 hlen
          have hsl := ab_ksl 6 eG10 h117 rfl rfl hsl
          have hfr := hfr.wr eG10 (by decide)
          have h117 := ab_kept eG10 h117
          change ab_W _ _ _ (List.set G9 117 (ab_if 6 ((upd (fun _ => 0) (Int32.toNatClampNeg (xs 1)) 0)))) 125 [some (vR 80), some (vI (xs 1)), some (vI (xs 2)), some (vI 1), none, none] [] _
          rw [← eG10]
          refine ab_aload_n d_MO_compile_125 rfl ?_
          refine ab_getf (fs := (m_fv (vI 0) (vI 0) (vI 0) (vI 0) (vI 0) (vI 0) (vI 0) (vI 0) (vI 2) (vI 0) (vI ((xs 2) &&& 15)) (vI 0) (vI (-1)) (vI 0) (vI 0) (vI 0) (vI 0) (vI 0) (vI 0) (vI (xs 1)) (vI 0) (vI 0) (vI 0) (vI 0) (vI 0) (vI 0) (vI 0) (vI 0) (vI 0) (vI 0) (vI 0) (vI 0) (vI 0) (vI 0) (vI 0))) f_MO_149 d_MO_compile_126 h80 rfl ?_
          refine ab_iload_n d_MO_compile_129 rfl ?_
          refine ab_iconst (v := 0) d_MO_compile_130 (by decide) ?_
          refine ab_iast d_MO_compile_131 h125 (vp_in_iff.mpr (by have l0 := (show (0 : Int32).toInt = 0 by decide); have l1 := (show (5 : Int32).toInt = 5 by decide); have l2 := (show (31 : Int32).toInt = 31 by decide); simp only [Int32.le_iff_toInt_le, Int32.lt_iff_toInt_lt, ← Int32.toInt_inj] at c0 c1 c2 c3 c4 c5 c6 c7; constructor <;> omega)) (by decide) ?_
          obtain ⟨G11, eG11⟩ : ∃ z : ab_G, z = List.set G10 125 (ab_if 6 ((upd (fun _ => 0) (Int32.toNatClampNeg (xs 1)) 0))) := ⟨_, rfl⟩
          have h80 := ab_keep eG11 (by decide) h80
          have h94 := ab_keep eG11 (by decide) h94
          have h95 := ab_keep eG11 (by decide) h95
          have h96 := ab_keep eG11 (by decide) h96
          have h97 := ab_keep eG11 (by decide) h97
          have h100 := ab_keep eG11 (by decide) h100
          have h102 := ab_keep eG11 (by decide) h102
          have h103 := ab_keep eG11 (by decide) h103
          have h104 := ab_keep eG11 (by decide) h104
          have h105 := ab_keep eG11 (by decide) h105
          have h107 := ab_keep eG11 (by decide) h107
          have h108 := ab_keep eG11 (by decide) h108
          have h109 := ab_keep eG11 (by decide) h109
          have h110 := ab_keep eG11 (by decide) h110
          have h112 := ab_keep eG11 (by decide) h112
          have h113 := ab_keep eG11 (by decide) h113
          have h114 := ab_keep eG11 (by decide) h114
          have h115 := ab_keep eG11 (by decide) h115
          have h116 := ab_keep eG11 (by decide) h116
          have h117 := ab_keep eG11 (by decide) h117
          have h118 := ab_keep eG11 (by decide) h118
          have h119 := ab_keep eG11 (by decide) h119
          have h120 := ab_keep eG11 (by decide) h120
          have h126 := ab_keep eG11 (by decide) h126
          have h127 := ab_keep eG11 (by decide) h127
          have h128 := ab_keep eG11 (by decide) h128
          have h129 := ab_keep eG11 (by decide) h129
          have h130 := ab_keep eG11 (by decide) h130
          have h131 := ab_keep eG11 (by decide) h131
          have h132 := ab_keep eG11 (by decide) h132
          have h133 := ab_keep eG11 (by decide) h133
          have hlen := ab_klen eG11 hlen
          have hsl := ab_ksl 6 eG11 h125 rfl rfl hsl
          have hfr := hfr.wr eG11 (by decide)
          have h125 := ab_kept eG11 h125
          change ab_W _ _ _ (List.set G10 125 (ab_if 6 ((upd (fun _ => 0) (Int32.toNatClampNeg (xs 1)) 0)))) 132 [some (vR 80), some (vI (xs 1)), some (vI (xs 2)), some (vI 1), none, none] [] _
          rw [← eG11]
          refine ab_iconst (v := 0) d_MO_compile_132 (by decide) ?_
          refine ab_istore d_MO_compile_133 (Nat.le_of_ble_eq_true rfl) (Nat.le_of_ble_eq_true rfl) rfl ?_
          change ab_W _ _ _ G11 135 [some (vR 80), some (vI (xs 1)), some (vI (xs 2)), some (vI 1), some (vI 0), none] [] _
          refine s_MO_compile_135_36 (xs := xs) hlen hsl h80 h100 h110 h113 h117 h118 h119 h120 h126 h127 h128 h129 h130 h131 h132 h133 c0 c1 c2 c3 c4 c5 c6 c7 (by omega) (fun o Gz hq => ?_)
          obtain ⟨hv, hfk, hlen, hsl, h80, h113, h117, h118, h119, h120, ⟨f126_1, h126⟩, ⟨f127_2, h127⟩, h128, h129, h130, h131, h132, h133⟩ := hq
          have h94 := hfk.get (by decide) h94
          have h95 := hfk.get (by decide) h95
          have h96 := hfk.get (by decide) h96
          have h97 := hfk.get (by decide) h97
          have h100 := hfk.get (by decide) h100
          have h102 := hfk.get (by decide) h102
          have h103 := hfk.get (by decide) h103
          have h104 := hfk.get (by decide) h104
          have h105 := hfk.get (by decide) h105
          have h107 := hfk.get (by decide) h107
          have h108 := hfk.get (by decide) h108
          have h109 := hfk.get (by decide) h109
          have h110 := hfk.get (by decide) h110
          have h112 := hfk.get (by decide) h112
          have h114 := hfk.get (by decide) h114
          have h115 := hfk.get (by decide) h115
          have h116 := hfk.get (by decide) h116
          have h125 := hfk.get (by decide) h125
          have hfr := hfr.cl hfk (by decide)
          rw [hQ]; exact ⟨hv, hfr, hlen, hsl, h80, h94, h95, h96, h97, h100, h102, h103, h104, h105, h107, h108, h109, h112, h113, h114, h115, h116, h117, h118, h119, h120, h125, ⟨_, h126⟩, ⟨_, h127⟩, h128, h129, h130, h131, h132, h133⟩
        · exfalso; have l0 := (show (0 : Int32).toInt = 0 by decide); have l1 := (show (5 : Int32).toInt = 5 by decide); have l2 := (show (31 : Int32).toInt = 31 by decide); simp only [Int32.le_iff_toInt_le, Int32.lt_iff_toInt_lt, ← Int32.toInt_inj] at c0 c1 c2 c3 c4 c5 c6 c7; omega
set_option maxRecDepth 100000 in
set_option maxHeartbeats 4000000 in
theorem q_MO_thrown_1 {X : ab_X} {d : Nat} {G : ab_G} {xs : Nat → Int32} (hlen : G.length = 158) (hsl : ab_slots G = 1893385) (h80 : G[80]? = some (ab_ob 12 (m_fv (vI 0) (vI 0) (vI 0) (vI 0) (vI 0) (vI 0) (vI 0) (vI 0) (vI 2) (vI 0) (vI ((xs 2) &&& 15)) (vI 0) (vI (-1)) (vI 0) (vI 0) (vI 0) (vI 0) (vI 0) (vI 0) (vI (xs 1)) (vI 0) (vI 0) (vI 1) (vI 0) (vI 0) (vI 0) (vI 0) (vI 0) (vI 0) (vI 0) (vI 0) (vI 0) (vI 0) (vI 0) (vI 0)))) : ab_F X d y_MO_thrown (.code y_MO_thrown b_MO_thrown 1 (some (.int))) [vR 80] G (fun o G2 => o = .returned (some (vI 0)) ∧ ab_fr [] G G2 ∧ G2.length = 158 ∧ ab_slots G2 = 1893385) := by
  refine ab_F_of (by decide +kernel) (Nat.le_of_ble_eq_true rfl) ?_
  obtain ⟨Q, hQ⟩ : ∃ z : Outcome → ab_G → Prop, z = (fun o G2 => o = .returned (some (vI 0)) ∧ ab_fr [] G G2 ∧ G2.length = 158 ∧ ab_slots G2 = 1893385) := ⟨_, rfl⟩
  rw [← hQ]
  change ab_W X (ab_pl y_MO_thrown b_MO_thrown 1 (some (.int))) d G 0 [some (vR 80)] [] Q
  have hfr : ab_fr [] G G := ab_fr.rf
  refine ab_aload_n d_MO_thrown_0 rfl ?_
  refine ab_getf (fs := (m_fv (vI 0) (vI 0) (vI 0) (vI 0) (vI 0) (vI 0) (vI 0) (vI 0) (vI 2) (vI 0) (vI ((xs 2) &&& 15)) (vI 0) (vI (-1)) (vI 0) (vI 0) (vI 0) (vI 0) (vI 0) (vI 0) (vI (xs 1)) (vI 0) (vI 0) (vI 1) (vI 0) (vI 0) (vI 0) (vI 0) (vI 0) (vI 0) (vI 0) (vI 0) (vI 0) (vI 0) (vI 0) (vI 0))) f_MO_220 d_MO_thrown_1 h80 rfl ?_
  exact ab_iret (rt := .int) rfl rfl d_MO_thrown_4 (by rw [hQ]; exact ⟨rfl, hfr, hlen, hsl⟩)
set_option maxRecDepth 100000 in
set_option maxHeartbeats 4000000 in
theorem lc_2e {X : ab_X} {d : Nat} {G : ab_G} {xs : Nat → Int32} (hlen : G.length = 149) (hsl : ab_slots G = 1890753) (h0 : G[0]? = some (ab_if 6 (xs))) (h18 : G[18]? = some (ab_ob 0 [vR 19, vR 20, vR 22, vR 30, vR 31, vR 36, vR 37, vR 46, vR 51, vR 60, vR 69, vR 70, vR 72, vR 74, vR 76, vR 78, vI 0, vI 0])) (h20 : G[20]? = some (ab_ob 7 [vI 2000, vR 21, vI 0])) (h22 : G[22]? = some (ab_ob 6 [vR 23, vR 27, vI 0, vI 0, vI 0, vR 28, vR 29, vI 0, vI 0, vI 0])) (h23 : G[23]? = some (ab_ob 10 [vR 24, vR 26, vI 0, vI 0, vI 0, vI (-1), vR 1, vI 0])) (h30 : G[30]? = some (.inl (3, 6, .inr (.inr (.inr (.inr (fun _ => none))))))) (h80 : G[80]? = some (ab_ob 12 (m_fv (vI 0) (vI 0) (vI 0) (vI 0) (vI 0) (vI 0) (vI 0) (vI 0) (vI 0) (vI 0) (vI 0) (vI 0) (vI (-1)) (vI 0) (vI 0) (vI 0) (vI 0) (vI 0) (vI 0) (vI 0) (vI 0) (vI 0) (vI 0) (vI 0) (vI 0) (vI 0) (vI 0) (vI 0) (vI 0) (vI 0) (vI 0) (vI 0) (vI 0) (vI 0) (vI 0)))) (h94 : G[94]? = some (ab_if 4200 ((fun _ => 0)))) (h95 : G[95]? = some (ab_if 4200 ((fun _ => 0)))) (h96 : G[96]? = some (ab_if 4200 ((fun _ => 0)))) (h97 : G[97]? = some (ab_if 4200 ((fun _ => 0)))) (h100 : G[100]? = some (.inl (2, 4200, .inr (.inl (fun _ => 0))))) (h102 : G[102]? = some (ab_if 32 ((fun _ => 0)))) (h103 : G[103]? = some (ab_if 32 ((fun _ => 0)))) (h104 : G[104]? = some (ab_if 32 ((fun _ => 0)))) (h105 : G[105]? = some (ab_if 32 ((fun _ => 0)))) (h107 : G[107]? = some (ab_if 32 ((fun _ => 0)))) (h108 : G[108]? = some (ab_if 32 ((fun _ => 0)))) (h109 : G[109]? = some (ab_if 32 ((fun _ => 0)))) (h110 : G[110]? = some (ab_if 120 ((fun _ => 0)))) (h112 : G[112]? = some (ab_zf 6 ((fun _ => 0)))) (h113 : G[113]? = some (ab_if 6 ((fun _ => 0)))) (h114 : G[114]? = some (ab_if 6 ((fun _ => 0)))) (h115 : G[115]? = some (ab_if 6 ((fun _ => 0)))) (h116 : G[116]? = some (ab_if 6 ((fun _ => 0)))) (h117 : G[117]? = some (ab_if 6 ((fun _ => 0)))) (h118 : G[118]? = some (ab_if 75000 ((fun _ => 0)))) (h119 : G[119]? = some (ab_if 75000 ((fun _ => 0)))) (h120 : G[120]? = some (ab_if 75000 ((fun _ => 0)))) (h125 : G[125]? = some (ab_if 6 ((fun _ => 0)))) (h126 : G[126]? = some (ab_if 720 ((fun _ => 0)))) (h127 : G[127]? = some (ab_if 60 ((fun _ => 0)))) (h128 : G[128]? = some (ab_if 300 ((fun _ => 0)))) (h129 : G[129]? = some (ab_if 300 ((fun _ => 0)))) (h130 : G[130]? = some (ab_if 300 ((fun _ => 0)))) (h131 : G[131]? = some (ab_if 300 ((fun _ => 0)))) (h132 : G[132]? = some (ab_if 300 ((fun _ => 0)))) (h133 : G[133]? = some (ab_if 40000 ((fun _ => 0)))) (h148 : G[148]? = some (.inl (2, 1, .inr (.inl (fun _ => 0))))) (c0 : 0 ≤ (xs 1)) (c1 : (xs 1) ≤ 5) (c2 : 0 ≤ (xs 2)) (c3 : (xs 2) ≤ 31) (hd : 5 ≤ d) : ab_W X ab_LW d G 228 [some (vR 0), some (vR 18), some (vR 80), some (vR 148), some (vI 0), none, none] [] (fun o _ => o = .returned (some (vI 1))) := by
  obtain ⟨Q, hQ⟩ : ∃ z : Outcome → ab_G → Prop, z = (fun o _ => o = .returned (some (vI 1))) := ⟨_, rfl⟩
  rw [← hQ]
  have hfr : ab_fr [18, 20, 22, 23, 30, 80, 94, 95, 96, 97, 100, 102, 103, 104, 105, 107, 108, 109, 112, 113, 114, 115, 116, 117, 118, 119, 120, 125, 126, 127, 128, 129, 130, 131, 132, 133, 148, 149, 150, 151, 152, 153, 154, 155, 156, 157] G G := ab_fr.rf
  refine ab_aload_n d_LA_law_228 rfl ?_
  refine ab_aload_n d_LA_law_229 rfl ?_
  refine ab_iload d_LA_law_230 rfl ?_
  refine ab_iconst (v := 1) d_LA_law_232 (by decide) ?_
  refine ab_iadd d_LA_law_233 ?_
  refine ab_topi (y := 1) (by decide) ?_
  refine ab_iald d_LA_law_234 h0 (by unfold vp_in; decide) ?_
  refine ab_topi (y := (xs 1)) rfl ?_
  refine ab_aload_n d_LA_law_235 rfl ?_
  refine ab_iload d_LA_law_236 rfl ?_
  refine ab_iconst (v := 2) d_LA_law_238 (by decide) ?_
  refine ab_iadd d_LA_law_239 ?_
  refine ab_topi (y := 2) (by decide) ?_
  refine ab_iald d_LA_law_240 h0 (by unfold vp_in; decide) ?_
  refine ab_topi (y := (xs 2)) rfl ?_
  refine ab_aload_n d_LA_law_241 rfl ?_
  refine ab_callSW (d' := d - 1) (as := [vR 18, vI (xs 1), vI (xs 2), vR 148]) (st := []) (q_LA_compile_4 (xs := xs) hlen hsl h18 h20 h22 h23 h30 h148 c0 c1 c2 c3 (by omega)) (fun o G2 h => ⟨_, h.1⟩) (by omega) m_LA_compile mw_LA_46 st_LA_compile (Nat.le_of_ble_eq_true rfl) d_LA_law_242 rfl ?_
  intro v G1 hq
  obtain ⟨hv, hfk, hlen, hsl, h18, h20, h22, h23, h30, h148, h149, h150, h151, h152, h153, h154, h155, h156, h157⟩ := hq
  cases hv
  have h0 := hfk.get (by decide) h0
  have h80 := hfk.get (by decide) h80
  have h94 := hfk.get (by decide) h94
  have h95 := hfk.get (by decide) h95
  have h96 := hfk.get (by decide) h96
  have h97 := hfk.get (by decide) h97
  have h100 := hfk.get (by decide) h100
  have h102 := hfk.get (by decide) h102
  have h103 := hfk.get (by decide) h103
  have h104 := hfk.get (by decide) h104
  have h105 := hfk.get (by decide) h105
  have h107 := hfk.get (by decide) h107
  have h108 := hfk.get (by decide) h108
  have h109 := hfk.get (by decide) h109
  have h110 := hfk.get (by decide) h110
  have h112 := hfk.get (by decide) h112
  have h113 := hfk.get (by decide) h113
  have h114 := hfk.get (by decide) h114
  have h115 := hfk.get (by decide) h115
  have h116 := hfk.get (by decide) h116
  have h117 := hfk.get (by decide) h117
  have h118 := hfk.get (by decide) h118
  have h119 := hfk.get (by decide) h119
  have h120 := hfk.get (by decide) h120
  have h125 := hfk.get (by decide) h125
  have h126 := hfk.get (by decide) h126
  have h127 := hfk.get (by decide) h127
  have h128 := hfk.get (by decide) h128
  have h129 := hfk.get (by decide) h129
  have h130 := hfk.get (by decide) h130
  have h131 := hfk.get (by decide) h131
  have h132 := hfk.get (by decide) h132
  have h133 := hfk.get (by decide) h133
  have hfr := hfr.cl hfk (by decide)
  change ab_W _ _ _ G1 245 [some (vR 0), some (vR 18), some (vR 80), some (vR 148), some (vI 0), none, none] [vI 0] _
  refine ab_istore d_LA_law_245 (Nat.le_of_ble_eq_true rfl) (Nat.le_of_ble_eq_true rfl) rfl ?_
  change ab_W _ _ _ G1 247 [some (vR 0), some (vR 18), some (vR 80), some (vR 148), some (vI 0), some (vI 0), none] [] _
  refine ab_aload_n d_LA_law_247 rfl ?_
  refine ab_aload_n d_LA_law_248 rfl ?_
  refine ab_iload d_LA_law_249 rfl ?_
  refine ab_iconst (v := 1) d_LA_law_251 (by decide) ?_
  refine ab_iadd d_LA_law_252 ?_
  refine ab_topi (y := 1) (by decide) ?_
  refine ab_iald d_LA_law_253 h0 (by unfold vp_in; decide) ?_
  refine ab_topi (y := (xs 1)) rfl ?_
  refine ab_aload_n d_LA_law_254 rfl ?_
  refine ab_iload d_LA_law_255 rfl ?_
  refine ab_iconst (v := 2) d_LA_law_257 (by decide) ?_
  refine ab_iadd d_LA_law_258 ?_
  refine ab_topi (y := 2) (by decide) ?_
  refine ab_iald d_LA_law_259 h0 (by unfold vp_in; decide) ?_
  refine ab_topi (y := (xs 2)) rfl ?_
  refine ab_callV (d' := d - 1) (as := [vI (xs 1), vI (xs 2)]) (st := []) (r := _) (q_MO_compile_37 (xs := xs) hlen hsl h80 h94 h95 h96 h97 h100 h102 h103 h104 h105 h107 h108 h109 h110 h112 h113 h114 h115 h116 h117 h118 h119 h120 h125 h126 h127 h128 h129 h130 h131 h132 h133 c0 c1 c2 c3 (by omega)) (fun o G2 h => ⟨_, h.1⟩) (by omega) m_MO_compile ml_LA_51 im_MO_compile se_MO_compile c_MO h80 (Nat.le_of_ble_eq_true rfl) d_LA_law_260 rfl ?_
  intro v G2 hq
  obtain ⟨hv, hfk, hlen, hsl, h80, h94, h95, h96, h97, h100, h102, h103, h104, h105, h107, h108, h109, h112, h113, h114, h115, h116, h117, h118, h119, h120, h125, ⟨f126_1, h126⟩, ⟨f127_2, h127⟩, h128, h129, h130, h131, h132, h133⟩ := hq
  cases hv
  have h0 := hfk.get (by decide) h0
  have h18 := hfk.get (by decide) h18
  have h20 := hfk.get (by decide) h20
  have h22 := hfk.get (by decide) h22
  have h23 := hfk.get (by decide) h23
  have h30 := hfk.get (by decide) h30
  have h110 := hfk.get (by decide) h110
  have h148 := hfk.get (by decide) h148
  have h149 := hfk.get (by decide) h149
  have h150 := hfk.get (by decide) h150
  have h151 := hfk.get (by decide) h151
  have h152 := hfk.get (by decide) h152
  have h153 := hfk.get (by decide) h153
  have h154 := hfk.get (by decide) h154
  have h155 := hfk.get (by decide) h155
  have h156 := hfk.get (by decide) h156
  have h157 := hfk.get (by decide) h157
  have hfr := hfr.cl hfk (by decide)
  change ab_W _ _ _ G2 263 [some (vR 0), some (vR 18), some (vR 80), some (vR 148), some (vI 0), some (vI 0), none] [vI 0] _
  refine ab_istore d_LA_law_263 (Nat.le_of_ble_eq_true rfl) (Nat.le_of_ble_eq_true rfl) rfl ?_
  change ab_W _ _ _ G2 265 [some (vR 0), some (vR 18), some (vR 80), some (vR 148), some (vI 0), some (vI 0), some (vI 0)] [] _
  refine ab_aload_n d_LA_law_265 rfl ?_
  refine ab_callV (d' := d - 1) (as := []) (st := []) (r := _) (q_MO_thrown_1 (xs := xs) hlen hsl h80) (fun o G2 h => ⟨_, h.1⟩) (by omega) m_MO_thrown ml_LA_52 im_MO_thrown se_MO_thrown c_MO h80 (Nat.le_of_ble_eq_true rfl) d_LA_law_266 rfl ?_
  intro v G3 hq
  obtain ⟨hv, hfk, hlen, hsl⟩ := hq
  cases hv
  have h0 := hfk.get (by decide) h0
  have h18 := hfk.get (by decide) h18
  have h20 := hfk.get (by decide) h20
  have h22 := hfk.get (by decide) h22
  have h23 := hfk.get (by decide) h23
  have h30 := hfk.get (by decide) h30
  have h80 := hfk.get (by decide) h80
  have h94 := hfk.get (by decide) h94
  have h95 := hfk.get (by decide) h95
  have h96 := hfk.get (by decide) h96
  have h97 := hfk.get (by decide) h97
  have h100 := hfk.get (by decide) h100
  have h102 := hfk.get (by decide) h102
  have h103 := hfk.get (by decide) h103
  have h104 := hfk.get (by decide) h104
  have h105 := hfk.get (by decide) h105
  have h107 := hfk.get (by decide) h107
  have h108 := hfk.get (by decide) h108
  have h109 := hfk.get (by decide) h109
  have h110 := hfk.get (by decide) h110
  have h112 := hfk.get (by decide) h112
  have h113 := hfk.get (by decide) h113
  have h114 := hfk.get (by decide) h114
  have h115 := hfk.get (by decide) h115
  have h116 := hfk.get (by decide) h116
  have h117 := hfk.get (by decide) h117
  have h118 := hfk.get (by decide) h118
  have h119 := hfk.get (by decide) h119
  have h120 := hfk.get (by decide) h120
  have h125 := hfk.get (by decide) h125
  have h126 := hfk.get (by decide) h126
  have h127 := hfk.get (by decide) h127
  have h128 := hfk.get (by decide) h128
  have h129 := hfk.get (by decide) h129
  have h130 := hfk.get (by decide) h130
  have h131 := hfk.get (by decide) h131
  have h132 := hfk.get (by decide) h132
  have h133 := hfk.get (by decide) h133
  have h148 := hfk.get (by decide) h148
  have h149 := hfk.get (by decide) h149
  have h150 := hfk.get (by decide) h150
  have h151 := hfk.get (by decide) h151
  have h152 := hfk.get (by decide) h152
  have h153 := hfk.get (by decide) h153
  have h154 := hfk.get (by decide) h154
  have h155 := hfk.get (by decide) h155
  have h156 := hfk.get (by decide) h156
  have h157 := hfk.get (by decide) h157
  have hfr := hfr.cl hfk (by decide)
  change ab_W _ _ _ G3 269 [some (vR 0), some (vR 18), some (vR 80), some (vR 148), some (vI 0), some (vI 0), some (vI 0)] [vI 0] _
  refine ab_iload d_LA_law_269 rfl ?_
  refine ab_icmp_eq (tgt := 276) d_LA_law_271 (by decide) (fun _ => ?_) (fun c => absurd c (by decide))
  refine ab_iload d_LA_law_276 rfl ?_
  refine ab_if_ne (tgt := 293) d_LA_law_278 (by decide) (fun c => absurd c (by decide)) (fun _ => ?_)
  refine ab_aload_n d_LA_law_281 rfl ?_
  refine ab_iconst (v := 0) d_LA_law_282 (by decide) ?_
  refine ab_lald d_LA_law_283 h148 (by unfold vp_in; decide) ?_
  refine ab_topl (y := 0) rfl ?_
  refine ab_iload d_LA_law_284 rfl ?_
  refine ab_i2l d_LA_law_286 ?_
  refine ab_topl (y := 0) (by decide) ?_
  refine ab_lcmp d_LA_law_287 ?_
  refine ab_topi (y := 0) (by decide +kernel) ?_
  refine ab_if_eq (tgt := 293) d_LA_law_288 (by decide) (fun _ => ?_) (fun c => absurd c (by decide))
  refine ab_goto (tgt := 931) d_LA_law_293 (by decide) ?_
  refine ab_iinc (v := 6) d_LA_law_931 rfl (by decide) (Nat.le_of_ble_eq_true rfl) (Nat.le_of_ble_eq_true rfl) rfl ?_
  change ab_W _ _ _ G3 934 [some (vR 0), some (vR 18), some (vR 80), some (vR 148), some (vI 6), some (vI 0), some (vI 0)] [] _
  refine ab_goto (tgt := 23) d_LA_law_934 (by decide) ?_
  refine ab_iload d_LA_law_23 rfl ?_
  refine ab_aload_n d_LA_law_25 rfl ?_
  refine ab_alen (v := 6) d_LA_law_26 h0 (by first | decide | rfl) ?_
  refine ab_bipush (v := 6) d_LA_law_27 (by decide) ?_
  refine ab_isub d_LA_law_29 ?_
  refine ab_topi (y := 0) (by decide) ?_
  refine ab_icmp_gt (tgt := 937) d_LA_law_30 (by decide) (fun _ => ?_) (fun c => absurd c (by decide))
  refine ab_iconst (v := 1) d_LA_law_937 (by decide) ?_
  exact ab_iret (rt := .boolean) rfl (by decide) d_LA_law_938 (by rw [hQ])
set_option maxRecDepth 100000 in
set_option maxHeartbeats 4000000 in
theorem q_PW_fault_0 {X : ab_X} {d : Nat} {G : ab_G} {xs : Nat → Int32} (hlen : G.length = 149) (hsl : ab_slots G = 1890753) (h18 : G[18]? = some (ab_ob 0 [vR 19, vR 20, vR 22, vR 30, vR 31, vR 36, vR 37, vR 46, vR 51, vR 60, vR 69, vR 70, vR 72, vR 74, vR 76, vR 78, vI 0, vI 0])) (h22 : G[22]? = some (ab_ob 6 [vR 23, vR 27, vI 0, vI 0, vI 0, vR 28, vR 29, vI 0, vI 0, vI 0])) (h23 : G[23]? = some (ab_ob 10 [vR 24, vR 26, vI 0, vI 0, vI 0, vI (-1), vR 1, vI 0])) (c0 : (xs 1) = 0) : ab_F X d y_PW_fault (.code y_PW_fault b_PW_fault 2 (some (.int))) [vR 18, vI (xs 1)] G (fun o G2 => o = .returned (some (vI 0)) ∧ ab_fr [] G G2 ∧ G2.length = 149 ∧ ab_slots G2 = 1890753) := by
  refine ab_F_of (by decide +kernel) (Nat.le_of_ble_eq_true rfl) ?_
  obtain ⟨Q, hQ⟩ : ∃ z : Outcome → ab_G → Prop, z = (fun o G2 => o = .returned (some (vI 0)) ∧ ab_fr [] G G2 ∧ G2.length = 149 ∧ ab_slots G2 = 1890753) := ⟨_, rfl⟩
  rw [← hQ]
  change ab_W X (ab_pl y_PW_fault b_PW_fault 2 (some (.int))) d G 0 [some (vR 18), some (vI (xs 1))] [] Q
  have hfr : ab_fr [] G G := ab_fr.rf
  refine ab_iload_n d_PW_fault_0 rfl ?_
  refine ab_if_ne (tgt := 15) d_PW_fault_1 (by decide) (fun c1 => ?_) (fun c1 => ?_)
  · exfalso; have l0 := (show (0 : Int32).toInt = 0 by decide); simp only [Int32.le_iff_toInt_le, Int32.lt_iff_toInt_lt, ← Int32.toInt_inj] at c0 c1; omega
  · refine ab_aload_n d_PW_fault_4 rfl ?_
    refine ab_getf (fs := [vR 19, vR 20, vR 22, vR 30, vR 31, vR 36, vR 37, vR 46, vR 51, vR 60, vR 69, vR 70, vR 72, vR 74, vR 76, vR 78, vI 0, vI 0]) f_PW_25 d_PW_fault_5 h18 rfl ?_
    refine ab_getf (fs := [vR 23, vR 27, vI 0, vI 0, vI 0, vR 28, vR 29, vI 0, vI 0, vI 0]) f_PW_136 d_PW_fault_8 h22 rfl ?_
    refine ab_getf (fs := [vR 24, vR 26, vI 0, vI 0, vI 0, vI (-1), vR 1, vI 0]) f_PW_140 d_PW_fault_11 h23 rfl ?_
    exact ab_iret (rt := .int) rfl rfl d_PW_fault_14 (by rw [hQ]; exact ⟨rfl, hfr, hlen, hsl⟩)
set_option maxRecDepth 100000 in
set_option maxHeartbeats 4000000 in
theorem q_MO_fault_0 {X : ab_X} {d : Nat} {G : ab_G} {xs : Nat → Int32} (hlen : G.length = 149) (hsl : ab_slots G = 1890753) (h80 : G[80]? = some (ab_ob 12 (m_fv (vI 0) (vI 0) (vI 0) (vI 0) (vI 0) (vI 0) (vI 0) (vI 0) (vI 0) (vI 0) (vI 0) (vI 0) (vI (-1)) (vI 0) (vI 0) (vI 0) (vI 0) (vI 0) (vI 0) (vI 0) (vI 0) (vI 0) (vI 0) (vI 0) (vI 0) (vI 0) (vI 0) (vI 0) (vI 0) (vI 0) (vI 0) (vI 0) (vI 0) (vI 0) (vI 0)))) (c0 : (xs 1) = 0) : ab_F X d y_MO_fault (.code y_MO_fault b_MO_fault 2 (some (.int))) [vR 80, vI (xs 1)] G (fun o G2 => o = .returned (some (vI 0)) ∧ ab_fr [80] G G2 ∧ G2.length = 149 ∧ ab_slots G2 = 1890753 ∧ G2[80]? = some (ab_ob 12 (m_fv (vI 0) (vI 0) (vI 0) (vI 0) (vI 0) (vI 0) (vI 0) (vI 0) (vI 0) (vI 0) (vI 0) (vI 0) (vI (-1)) (vI 0) (vI 0) (vI 0) (vI 0) (vI 0) (vI 0) (vI 0) (vI 0) (vI 0) (vI 0) (vI 0) (vI 0) (vI 0) (vI 0) (vI 0) (vI 0) (vI 0) (vI 0) (vI 0) (vI 0) (vI 0) (vI 0)))) := by
  refine ab_F_of (by decide +kernel) (Nat.le_of_ble_eq_true rfl) ?_
  obtain ⟨Q, hQ⟩ : ∃ z : Outcome → ab_G → Prop, z = (fun o G2 => o = .returned (some (vI 0)) ∧ ab_fr [80] G G2 ∧ G2.length = 149 ∧ ab_slots G2 = 1890753 ∧ G2[80]? = some (ab_ob 12 (m_fv (vI 0) (vI 0) (vI 0) (vI 0) (vI 0) (vI 0) (vI 0) (vI 0) (vI 0) (vI 0) (vI 0) (vI 0) (vI (-1)) (vI 0) (vI 0) (vI 0) (vI 0) (vI 0) (vI 0) (vI 0) (vI 0) (vI 0) (vI 0) (vI 0) (vI 0) (vI 0) (vI 0) (vI 0) (vI 0) (vI 0) (vI 0) (vI 0) (vI 0) (vI 0) (vI 0)))) := ⟨_, rfl⟩
  rw [← hQ]
  change ab_W X (ab_pl y_MO_fault b_MO_fault 2 (some (.int))) d G 0 [some (vR 80), some (vI (xs 1))] [] Q
  have hfr : ab_fr [80] G G := ab_fr.rf
  refine ab_aload_n d_MO_fault_0 rfl ?_
  refine ab_iconst (v := 0) d_MO_fault_1 (by decide) ?_
  refine ab_putf (fs := (m_fv (vI 0) (vI 0) (vI 0) (vI 0) (vI 0) (vI 0) (vI 0) (vI 0) (vI 0) (vI 0) (vI 0) (vI 0) (vI (-1)) (vI 0) (vI 0) (vI 0) (vI 0) (vI 0) (vI 0) (vI 0) (vI 0) (vI 0) (vI 0) (vI 0) (vI 0) (vI 0) (vI 0) (vI 0) (vI 0) (vI 0) (vI 0) (vI 0) (vI 0) (vI 0) (vI 0))) f_MO_220 (Or.inl rfl) d_MO_fault_2 h80 (Nat.le_of_ble_eq_true rfl) (fun _ => ⟨rfl, rfl⟩) (by decide) ?_
  obtain ⟨G1, eG1⟩ : ∃ z : ab_G, z = List.set G 80 (ab_ob 12 (m_fv (vI 0) (vI 0) (vI 0) (vI 0) (vI 0) (vI 0) (vI 0) (vI 0) (vI 0) (vI 0) (vI 0) (vI 0) (vI (-1)) (vI 0) (vI 0) (vI 0) (vI 0) (vI 0) (vI 0) (vI 0) (vI 0) (vI 0) (vI 0) (vI 0) (vI 0) (vI 0) (vI 0) (vI 0) (vI 0) (vI 0) (vI 0) (vI 0) (vI 0) (vI 0) (vI 0))) := ⟨_, rfl⟩
  have hlen := ab_klen eG1 hlen
  have hsl := ab_ksl 102 eG1 h80 rfl rfl hsl
  have hfr := hfr.wr eG1 (by decide)
  have h80 := ab_kept eG1 h80
  change ab_W _ _ _ (List.set G 80 (ab_ob 12 (m_fv (vI 0) (vI 0) (vI 0) (vI 0) (vI 0) (vI 0) (vI 0) (vI 0) (vI 0) (vI 0) (vI 0) (vI 0) (vI (-1)) (vI 0) (vI 0) (vI 0) (vI 0) (vI 0) (vI 0) (vI 0) (vI 0) (vI 0) (vI 0) (vI 0) (vI 0) (vI 0) (vI 0) (vI 0) (vI 0) (vI 0) (vI 0) (vI 0) (vI 0) (vI 0) (vI 0)))) 5 [some (vR 80), some (vI (xs 1))] [] _
  rw [← eG1]
  refine ab_iload_n d_MO_fault_5 rfl ?_
  refine ab_if_ne (tgt := 16) d_MO_fault_6 (by decide) (fun c1 => ?_) (fun c1 => ?_)
  · exfalso; have l0 := (show (0 : Int32).toInt = 0 by decide); simp only [Int32.le_iff_toInt_le, Int32.lt_iff_toInt_lt, ← Int32.toInt_inj] at c0 c1; omega
  · refine ab_aload_n d_MO_fault_9 rfl ?_
    refine ab_getf (fs := (m_fv (vI 0) (vI 0) (vI 0) (vI 0) (vI 0) (vI 0) (vI 0) (vI 0) (vI 0) (vI 0) (vI 0) (vI 0) (vI (-1)) (vI 0) (vI 0) (vI 0) (vI 0) (vI 0) (vI 0) (vI 0) (vI 0) (vI 0) (vI 0) (vI 0) (vI 0) (vI 0) (vI 0) (vI 0) (vI 0) (vI 0) (vI 0) (vI 0) (vI 0) (vI 0) (vI 0))) f_MO_273 d_MO_fault_10 h80 rfl ?_
    refine ab_goto (tgt := 29) d_MO_fault_13 (by decide) ?_
    exact ab_iret (rt := .int) rfl rfl d_MO_fault_29 (by rw [hQ]; exact ⟨rfl, hfr, hlen, hsl, h80⟩)
set_option maxRecDepth 100000 in
set_option maxHeartbeats 4000000 in
theorem lc_3a {X : ab_X} {d : Nat} {G : ab_G} {xs : Nat → Int32} (hlen : G.length = 149) (hsl : ab_slots G = 1890753) (h0 : G[0]? = some (ab_if 6 (xs))) (h18 : G[18]? = some (ab_ob 0 [vR 19, vR 20, vR 22, vR 30, vR 31, vR 36, vR 37, vR 46, vR 51, vR 60, vR 69, vR 70, vR 72, vR 74, vR 76, vR 78, vI 0, vI 0])) (h22 : G[22]? = some (ab_ob 6 [vR 23, vR 27, vI 0, vI 0, vI 0, vR 28, vR 29, vI 0, vI 0, vI 0])) (h23 : G[23]? = some (ab_ob 10 [vR 24, vR 26, vI 0, vI 0, vI 0, vI (-1), vR 1, vI 0])) (h80 : G[80]? = some (ab_ob 12 (m_fv (vI 0) (vI 0) (vI 0) (vI 0) (vI 0) (vI 0) (vI 0) (vI 0) (vI 0) (vI 0) (vI 0) (vI 0) (vI (-1)) (vI 0) (vI 0) (vI 0) (vI 0) (vI 0) (vI 0) (vI 0) (vI 0) (vI 0) (vI 0) (vI 0) (vI 0) (vI 0) (vI 0) (vI 0) (vI 0) (vI 0) (vI 0) (vI 0) (vI 0) (vI 0) (vI 0)))) (c0 : (xs 1) = 0) (hd : 1 ≤ d) : ab_W X ab_LW d G 296 [some (vR 0), some (vR 18), some (vR 80), some (vR 148), some (vI 0), none, none] [] (fun o _ => o = .returned (some (vI 1))) := by
  obtain ⟨Q, hQ⟩ : ∃ z : Outcome → ab_G → Prop, z = (fun o _ => o = .returned (some (vI 1))) := ⟨_, rfl⟩
  rw [← hQ]
  have hfr : ab_fr [80] G G := ab_fr.rf
  refine ab_aload_n d_LA_law_296 rfl ?_
  refine ab_aload_n d_LA_law_297 rfl ?_
  refine ab_iload d_LA_law_298 rfl ?_
  refine ab_iconst (v := 1) d_LA_law_300 (by decide) ?_
  refine ab_iadd d_LA_law_301 ?_
  refine ab_topi (y := 1) (by decide) ?_
  refine ab_iald d_LA_law_302 h0 (by unfold vp_in; decide) ?_
  refine ab_topi (y := (xs 1)) rfl ?_
  refine ab_callV (d' := d - 1) (as := [vI (xs 1)]) (st := []) (r := _) (q_PW_fault_0 (xs := xs) hlen hsl h18 h22 h23 c0) (fun o G2 h => ⟨_, h.1⟩) (by omega) m_PW_fault ml_LA_56 im_PW_fault se_PW_fault c_PW h18 (Nat.le_of_ble_eq_true rfl) d_LA_law_303 rfl ?_
  intro v G1 hq
  obtain ⟨hv, hfk, hlen, hsl⟩ := hq
  cases hv
  have h0 := hfk.get (by decide) h0
  have h18 := hfk.get (by decide) h18
  have h22 := hfk.get (by decide) h22
  have h23 := hfk.get (by decide) h23
  have h80 := hfk.get (by decide) h80
  have hfr := hfr.cl hfk (by decide)
  change ab_W _ _ _ G1 306 [some (vR 0), some (vR 18), some (vR 80), some (vR 148), some (vI 0), none, none] [vI 0] _
  refine ab_aload_n d_LA_law_306 rfl ?_
  refine ab_aload_n d_LA_law_307 rfl ?_
  refine ab_iload d_LA_law_308 rfl ?_
  refine ab_iconst (v := 1) d_LA_law_310 (by decide) ?_
  refine ab_iadd d_LA_law_311 ?_
  refine ab_topi (y := 1) (by decide) ?_
  refine ab_iald d_LA_law_312 h0 (by unfold vp_in; decide) ?_
  refine ab_topi (y := (xs 1)) rfl ?_
  refine ab_callV (d' := d - 1) (as := [vI (xs 1)]) (st := [vI 0]) (r := _) (q_MO_fault_0 (xs := xs) hlen hsl h80 c0) (fun o G2 h => ⟨_, h.1⟩) (by omega) m_MO_fault ml_LA_59 im_MO_fault se_MO_fault c_MO h80 (Nat.le_of_ble_eq_true rfl) d_LA_law_313 rfl ?_
  intro v G2 hq
  obtain ⟨hv, hfk, hlen, hsl, h80⟩ := hq
  cases hv
  have h0 := hfk.get (by decide) h0
  have h18 := hfk.get (by decide) h18
  have h22 := hfk.get (by decide) h22
  have h23 := hfk.get (by decide) h23
  have hfr := hfr.cl hfk (by decide)
  change ab_W _ _ _ G2 316 [some (vR 0), some (vR 18), some (vR 80), some (vR 148), some (vI 0), none, none] [vI 0, vI 0] _
  refine ab_icmp_eq (tgt := 931) d_LA_law_316 (by decide) (fun _ => ?_) (fun c => absurd c (by decide))
  refine ab_iinc (v := 6) d_LA_law_931 rfl (by decide) (Nat.le_of_ble_eq_true rfl) (Nat.le_of_ble_eq_true rfl) rfl ?_
  change ab_W _ _ _ G2 934 [some (vR 0), some (vR 18), some (vR 80), some (vR 148), some (vI 6), none, none] [] _
  refine ab_goto (tgt := 23) d_LA_law_934 (by decide) ?_
  refine ab_iload d_LA_law_23 rfl ?_
  refine ab_aload_n d_LA_law_25 rfl ?_
  refine ab_alen (v := 6) d_LA_law_26 h0 (by first | decide | rfl) ?_
  refine ab_bipush (v := 6) d_LA_law_27 (by decide) ?_
  refine ab_isub d_LA_law_29 ?_
  refine ab_topi (y := 0) (by decide) ?_
  refine ab_icmp_gt (tgt := 937) d_LA_law_30 (by decide) (fun _ => ?_) (fun c => absurd c (by decide))
  refine ab_iconst (v := 1) d_LA_law_937 (by decide) ?_
  exact ab_iret (rt := .boolean) rfl (by decide) d_LA_law_938 (by rw [hQ])
set_option maxRecDepth 100000 in
set_option maxHeartbeats 4000000 in
theorem q_PW_fault_1 {X : ab_X} {d : Nat} {G : ab_G} {xs : Nat → Int32} (hlen : G.length = 149) (hsl : ab_slots G = 1890753) (h18 : G[18]? = some (ab_ob 0 [vR 19, vR 20, vR 22, vR 30, vR 31, vR 36, vR 37, vR 46, vR 51, vR 60, vR 69, vR 70, vR 72, vR 74, vR 76, vR 78, vI 0, vI 0])) (h22 : G[22]? = some (ab_ob 6 [vR 23, vR 27, vI 0, vI 0, vI 0, vR 28, vR 29, vI 0, vI 0, vI 0])) (h23 : G[23]? = some (ab_ob 10 [vR 24, vR 26, vI 0, vI 0, vI 0, vI (-1), vR 1, vI 0])) (c0 : ¬ (xs 1) = 0) : ab_F X d y_PW_fault (.code y_PW_fault b_PW_fault 2 (some (.int))) [vR 18, vI (xs 1)] G (fun o G2 => o = .returned (some (vI (-1))) ∧ ab_fr [] G G2 ∧ G2.length = 149 ∧ ab_slots G2 = 1890753) := by
  refine ab_F_of (by decide +kernel) (Nat.le_of_ble_eq_true rfl) ?_
  obtain ⟨Q, hQ⟩ : ∃ z : Outcome → ab_G → Prop, z = (fun o G2 => o = .returned (some (vI (-1))) ∧ ab_fr [] G G2 ∧ G2.length = 149 ∧ ab_slots G2 = 1890753) := ⟨_, rfl⟩
  rw [← hQ]
  change ab_W X (ab_pl y_PW_fault b_PW_fault 2 (some (.int))) d G 0 [some (vR 18), some (vI (xs 1))] [] Q
  have hfr : ab_fr [] G G := ab_fr.rf
  refine ab_iload_n d_PW_fault_0 rfl ?_
  refine ab_if_ne (tgt := 15) d_PW_fault_1 (by decide) (fun c1 => ?_) (fun c1 => ?_)
  · refine ab_iload_n d_PW_fault_15 rfl ?_
    refine ab_iconst (v := 1) d_PW_fault_16 (by decide) ?_
    refine ab_icmp_ne (tgt := 33) d_PW_fault_17 (by decide) (fun c2 => ?_) (fun c2 => ?_)
    · refine ab_iconst (v := (-1)) d_PW_fault_33 (by decide) ?_
      exact ab_iret (rt := .int) rfl rfl d_PW_fault_34 (by rw [hQ]; exact ⟨rfl, hfr, hlen, hsl⟩)
    · refine ab_aload_n d_PW_fault_20 rfl ?_
      refine ab_getf (fs := [vR 19, vR 20, vR 22, vR 30, vR 31, vR 36, vR 37, vR 46, vR 51, vR 60, vR 69, vR 70, vR 72, vR 74, vR 76, vR 78, vI 0, vI 0]) f_PW_25 d_PW_fault_21 h18 rfl ?_
      refine ab_getf (fs := [vR 23, vR 27, vI 0, vI 0, vI 0, vR 28, vR 29, vI 0, vI 0, vI 0]) f_PW_136 d_PW_fault_24 h22 rfl ?_
      refine ab_getf (fs := [vR 24, vR 26, vI 0, vI 0, vI 0, vI (-1), vR 1, vI 0]) f_PW_145 d_PW_fault_27 h23 rfl ?_
      refine ab_goto (tgt := 34) d_PW_fault_30 (by decide) ?_
      exact ab_iret (rt := .int) rfl rfl d_PW_fault_34 (by rw [hQ]; exact ⟨rfl, hfr, hlen, hsl⟩)
  · exfalso; have l0 := (show (0 : Int32).toInt = 0 by decide); simp only [Int32.le_iff_toInt_le, Int32.lt_iff_toInt_lt, ← Int32.toInt_inj] at c0 c1; omega
set_option maxRecDepth 100000 in
set_option maxHeartbeats 4000000 in
theorem q_MO_fault_1 {X : ab_X} {d : Nat} {G : ab_G} {xs : Nat → Int32} (hlen : G.length = 149) (hsl : ab_slots G = 1890753) (h80 : G[80]? = some (ab_ob 12 (m_fv (vI 0) (vI 0) (vI 0) (vI 0) (vI 0) (vI 0) (vI 0) (vI 0) (vI 0) (vI 0) (vI 0) (vI 0) (vI (-1)) (vI 0) (vI 0) (vI 0) (vI 0) (vI 0) (vI 0) (vI 0) (vI 0) (vI 0) (vI 0) (vI 0) (vI 0) (vI 0) (vI 0) (vI 0) (vI 0) (vI 0) (vI 0) (vI 0) (vI 0) (vI 0) (vI 0)))) (c0 : ¬ (xs 1) = 0) : ab_F X d y_MO_fault (.code y_MO_fault b_MO_fault 2 (some (.int))) [vR 80, vI (xs 1)] G (fun o G2 => o = .returned (some (vI (-1))) ∧ ab_fr [80] G G2 ∧ G2.length = 149 ∧ ab_slots G2 = 1890753 ∧ G2[80]? = some (ab_ob 12 (m_fv (vI 0) (vI 0) (vI 0) (vI 0) (vI 0) (vI 0) (vI 0) (vI 0) (vI 0) (vI 0) (vI 0) (vI 0) (vI (-1)) (vI 0) (vI 0) (vI 0) (vI 0) (vI 0) (vI 0) (vI 0) (vI 0) (vI 0) (vI 0) (vI 0) (vI 0) (vI 0) (vI 0) (vI 0) (vI 0) (vI 0) (vI 0) (vI 0) (vI 0) (vI 0) (vI 0)))) := by
  refine ab_F_of (by decide +kernel) (Nat.le_of_ble_eq_true rfl) ?_
  obtain ⟨Q, hQ⟩ : ∃ z : Outcome → ab_G → Prop, z = (fun o G2 => o = .returned (some (vI (-1))) ∧ ab_fr [80] G G2 ∧ G2.length = 149 ∧ ab_slots G2 = 1890753 ∧ G2[80]? = some (ab_ob 12 (m_fv (vI 0) (vI 0) (vI 0) (vI 0) (vI 0) (vI 0) (vI 0) (vI 0) (vI 0) (vI 0) (vI 0) (vI 0) (vI (-1)) (vI 0) (vI 0) (vI 0) (vI 0) (vI 0) (vI 0) (vI 0) (vI 0) (vI 0) (vI 0) (vI 0) (vI 0) (vI 0) (vI 0) (vI 0) (vI 0) (vI 0) (vI 0) (vI 0) (vI 0) (vI 0) (vI 0)))) := ⟨_, rfl⟩
  rw [← hQ]
  change ab_W X (ab_pl y_MO_fault b_MO_fault 2 (some (.int))) d G 0 [some (vR 80), some (vI (xs 1))] [] Q
  have hfr : ab_fr [80] G G := ab_fr.rf
  refine ab_aload_n d_MO_fault_0 rfl ?_
  refine ab_iconst (v := 0) d_MO_fault_1 (by decide) ?_
  refine ab_putf (fs := (m_fv (vI 0) (vI 0) (vI 0) (vI 0) (vI 0) (vI 0) (vI 0) (vI 0) (vI 0) (vI 0) (vI 0) (vI 0) (vI (-1)) (vI 0) (vI 0) (vI 0) (vI 0) (vI 0) (vI 0) (vI 0) (vI 0) (vI 0) (vI 0) (vI 0) (vI 0) (vI 0) (vI 0) (vI 0) (vI 0) (vI 0) (vI 0) (vI 0) (vI 0) (vI 0) (vI 0))) f_MO_220 (Or.inl rfl) d_MO_fault_2 h80 (Nat.le_of_ble_eq_true rfl) (fun _ => ⟨rfl, rfl⟩) (by decide) ?_
  obtain ⟨G1, eG1⟩ : ∃ z : ab_G, z = List.set G 80 (ab_ob 12 (m_fv (vI 0) (vI 0) (vI 0) (vI 0) (vI 0) (vI 0) (vI 0) (vI 0) (vI 0) (vI 0) (vI 0) (vI 0) (vI (-1)) (vI 0) (vI 0) (vI 0) (vI 0) (vI 0) (vI 0) (vI 0) (vI 0) (vI 0) (vI 0) (vI 0) (vI 0) (vI 0) (vI 0) (vI 0) (vI 0) (vI 0) (vI 0) (vI 0) (vI 0) (vI 0) (vI 0))) := ⟨_, rfl⟩
  have hlen := ab_klen eG1 hlen
  have hsl := ab_ksl 102 eG1 h80 rfl rfl hsl
  have hfr := hfr.wr eG1 (by decide)
  have h80 := ab_kept eG1 h80
  change ab_W _ _ _ (List.set G 80 (ab_ob 12 (m_fv (vI 0) (vI 0) (vI 0) (vI 0) (vI 0) (vI 0) (vI 0) (vI 0) (vI 0) (vI 0) (vI 0) (vI 0) (vI (-1)) (vI 0) (vI 0) (vI 0) (vI 0) (vI 0) (vI 0) (vI 0) (vI 0) (vI 0) (vI 0) (vI 0) (vI 0) (vI 0) (vI 0) (vI 0) (vI 0) (vI 0) (vI 0) (vI 0) (vI 0) (vI 0) (vI 0)))) 5 [some (vR 80), some (vI (xs 1))] [] _
  rw [← eG1]
  refine ab_iload_n d_MO_fault_5 rfl ?_
  refine ab_if_ne (tgt := 16) d_MO_fault_6 (by decide) (fun c1 => ?_) (fun c1 => ?_)
  · refine ab_iload_n d_MO_fault_16 rfl ?_
    refine ab_iconst (v := 1) d_MO_fault_17 (by decide) ?_
    refine ab_icmp_ne (tgt := 28) d_MO_fault_18 (by decide) (fun c2 => ?_) (fun c2 => ?_)
    · refine ab_iconst (v := (-1)) d_MO_fault_28 (by decide) ?_
      exact ab_iret (rt := .int) rfl rfl d_MO_fault_29 (by rw [hQ]; exact ⟨rfl, hfr, hlen, hsl, h80⟩)
    · refine ab_aload_n d_MO_fault_21 rfl ?_
      refine ab_getf (fs := (m_fv (vI 0) (vI 0) (vI 0) (vI 0) (vI 0) (vI 0) (vI 0) (vI 0) (vI 0) (vI 0) (vI 0) (vI 0) (vI (-1)) (vI 0) (vI 0) (vI 0) (vI 0) (vI 0) (vI 0) (vI 0) (vI 0) (vI 0) (vI 0) (vI 0) (vI 0) (vI 0) (vI 0) (vI 0) (vI 0) (vI 0) (vI 0) (vI 0) (vI 0) (vI 0) (vI 0))) f_MO_75 d_MO_fault_22 h80 rfl ?_
      refine ab_goto (tgt := 29) d_MO_fault_25 (by decide) ?_
      exact ab_iret (rt := .int) rfl rfl d_MO_fault_29 (by rw [hQ]; exact ⟨rfl, hfr, hlen, hsl, h80⟩)
  · exfalso; have l0 := (show (0 : Int32).toInt = 0 by decide); simp only [Int32.le_iff_toInt_le, Int32.lt_iff_toInt_lt, ← Int32.toInt_inj] at c0 c1; omega
