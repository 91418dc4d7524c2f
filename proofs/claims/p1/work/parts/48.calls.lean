set_option maxRecDepth 100000 in
set_option maxHeartbeats 4000000 in
theorem q_MO_compile_4 {X : ab_X} {d : Nat} {G : ab_G} {xs : Nat → Int32} (hlen : G.length = 158) (hsl : ab_slots G = 1834765) (h80 : G[80]? = some (ab_ob 12 (m_fv (vI 0) (vI 0) (vI 0) (vI 0) (vI 0) (vI 0) (vI 0) (vI 0) (vI 0) (vI 0) (vI 0) (vI 0) (vI (-1)) (vI 0) (vI 0) (vI 0) (vI 0) (vI 0) (vI 0) (vI 0) (vI 0) (vI 0) (vI 0) (vI 0) (vI 0) (vI 0) (vI 0) (vI 0) (vI 0) (vI 0) (vI 0) (vI 0) (vI 0) (vI 0) (vI 0)))) (h94 : G[94]? = some (ab_if 4200 ((fun _ => 0)))) (h95 : G[95]? = some (ab_if 4200 ((fun _ => 0)))) (h96 : G[96]? = some (ab_if 4200 ((fun _ => 0)))) (h97 : G[97]? = some (ab_if 4200 ((fun _ => 0)))) (h100 : G[100]? = some (.inl (2, 4200, .inr (.inl (fun _ => 0))))) (h102 : G[102]? = some (ab_if 32 ((fun _ => 0)))) (h103 : G[103]? = some (ab_if 32 ((fun _ => 0)))) (h104 : G[104]? = some (ab_if 32 ((fun _ => 0)))) (h105 : G[105]? = some (ab_if 32 ((fun _ => 0)))) (h107 : G[107]? = some (ab_if 32 ((fun _ => 0)))) (h108 : G[108]? = some (ab_if 32 ((fun _ => 0)))) (h109 : G[109]? = some (ab_if 32 ((fun _ => 0)))) (h110 : G[110]? = some (ab_if 120 ((fun _ => 0)))) (h112 : G[112]? = some (ab_zf 6 ((fun _ => 0)))) (h113 : G[113]? = some (ab_if 6 ((fun _ => 0)))) (h114 : G[114]? = some (ab_if 6 ((fun _ => 0)))) (h115 : G[115]? = some (ab_if 6 ((fun _ => 0)))) (h116 : G[116]? = some (ab_if 6 ((fun _ => 0)))) (h117 : G[117]? = some (ab_if 6 ((fun _ => 0)))) (h118 : G[118]? = some (ab_if 75000 ((fun _ => 0)))) (h119 : G[119]? = some (ab_if 75000 ((fun _ => 0)))) (h120 : G[120]? = some (ab_if 75000 ((fun _ => 0)))) (h125 : G[125]? = some (ab_if 6 ((fun _ => 0)))) (h126 : G[126]? = some (ab_if 720 ((fun _ => 0)))) (h127 : G[127]? = some (ab_if 60 ((fun _ => 0)))) (h128 : G[128]? = some (ab_if 300 ((fun _ => 0)))) (h129 : G[129]? = some (ab_if 300 ((fun _ => 0)))) (h130 : G[130]? = some (ab_if 300 ((fun _ => 0)))) (h131 : G[131]? = some (ab_if 300 ((fun _ => 0)))) (h132 : G[132]? = some (ab_if 300 ((fun _ => 0)))) (h133 : G[133]? = some (ab_if 40000 ((fun _ => 0)))) (c0 : 0 ≤ (xs 1)) (c1 : (xs 1) ≤ 5) (c2 : 0 ≤ (xs 2)) (c3 : (xs 2) ≤ 31) (hd : 4 ≤ d) : ab_F X d y_MO_compile (.code y_MO_compile b_MO_compile 6 (some (.int))) [vR 80, vI (xs 1), vI (xs 2)] G (fun o G2 => o = .returned (some (vI 0)) ∧ ab_fr [80, 94, 95, 96, 97, 100, 102, 103, 104, 105, 107, 108, 109, 112, 113, 114, 115, 116, 117, 118, 119, 120, 125, 126, 127, 128, 129, 130, 131, 132, 133] G G2 ∧ G2.length = 158 ∧ ab_slots G2 = 1834765 ∧ G2[80]? = some (ab_ob 12 (m_fv (vI 0) (vI 0) (vI 0) (vI 0) (vI 0) (vI 0) (vI 0) (vI 0) (vI 2) (vI 0) (vI ((xs 2) &&& 15)) (vI 0) (vI (-1)) (vI 0) (vI 0) (vI 0) (vI 0) (vI 0) (vI 0) (vI (xs 1)) (vI 0) (vI 0) (vI 1) (vI 0) (vI 0) (vI 0) (vI 0) (vI 0) (vI 0) (vI 0) (vI 0) (vI 0) (vI 0) (vI 0) (vI 0))) ∧ G2[94]? = some (ab_if 4200 ((upd (upd (fun _ => 0) 0 4) 1 5))) ∧ G2[95]? = some (ab_if 4200 ((upd (upd (fun _ => 0) 0 0) 1 0))) ∧ G2[96]? = some (ab_if 4200 ((upd (upd (upd (upd (fun _ => 0) 0 (-1)) 0 (-1)) 1 (-1)) 1 0))) ∧ G2[97]? = some (ab_if 4200 ((upd (upd (fun _ => 0) 0 (-1)) 1 (-1)))) ∧ G2[100]? = some (.inl (2, 4200, .inr (.inl (vp_updL (vp_updL (fun _ => 0) 0 0) 1 0)))) ∧ G2[102]? = some (ab_if 32 ((upd (fun _ => 0) 0 (-1)))) ∧ G2[103]? = some (ab_if 32 ((upd (fun _ => 0) 0 ((xs 2) &&& 15)))) ∧ G2[104]? = some (ab_if 32 ((upd (fun _ => 0) 0 0))) ∧ G2[105]? = some (ab_if 32 ((upd (upd (fun _ => 0) 0 (-1)) 0 (-1)))) ∧ G2[107]? = some (ab_if 32 ((upd (upd (fun _ => 0) 0 (-1)) 0 0))) ∧ G2[108]? = some (ab_if 32 ((upd (fun _ => 0) 0 0))) ∧ G2[109]? = some (ab_if 32 ((upd (upd (fun _ => 0) 0 0) 0 0))) ∧ G2[112]? = some (ab_zf 6 ((upd (fun _ => 0) (Int32.toNatClampNeg (xs 1)) (vp_nar .boolean 1)))) ∧ G2[113]? = some (ab_if 6 ((upd (fun _ => 0) (Int32.toNatClampNeg (xs 1)) 0))) ∧ G2[114]? = some (ab_if 6 ((upd (fun _ => 0) (Int32.toNatClampNeg (xs 1)) 0))) ∧ G2[115]? = some (ab_if 6 ((upd (fun _ => 0) (Int32.toNatClampNeg (xs 1)) 0))) ∧ G2[116]? = some (ab_if 6 ((upd (fun _ => 0) (Int32.toNatClampNeg (xs 1)) (xs 2)))) ∧ G2[117]? = some (ab_if 6 ((upd (upd (upd (fun _ => 0) (Int32.toNatClampNeg (xs 1)) 0) (Int32.toNatClampNeg (xs 1)) 1) (Int32.toNatClampNeg (xs 1)) 2))) ∧ G2[118]? = some (ab_if 75000 ((upd (upd (fun _ => 0) (Int32.toNatClampNeg (12500 * (xs 1))) 0) (Int32.toNatClampNeg ((12500 * (xs 1)) + 1)) 6))) ∧ G2[119]? = some (ab_if 75000 ((upd (upd (fun _ => 0) (Int32.toNatClampNeg (12500 * (xs 1))) (-1)) (Int32.toNatClampNeg ((12500 * (xs 1)) + 1)) (-1)))) ∧ G2[120]? = some (ab_if 75000 ((upd (upd (fun _ => 0) (Int32.toNatClampNeg (12500 * (xs 1))) 0) (Int32.toNatClampNeg ((12500 * (xs 1)) + 1)) 0))) ∧ G2[125]? = some (ab_if 6 ((upd (fun _ => 0) (Int32.toNatClampNeg (xs 1)) 0))) ∧ (∃ g : Nat → Int32, G2[126]? = some (ab_if 720 (g))) ∧ (∃ g : Nat → Int32, G2[127]? = some (ab_if 60 (g))) ∧ G2[128]? = some (ab_if 300 ((upd (fun _ => 0) 0 1))) ∧ G2[129]? = some (ab_if 300 ((upd (fun _ => 0) 0 0))) ∧ G2[130]? = some (ab_if 300 ((upd (fun _ => 0) 0 0))) ∧ G2[131]? = some (ab_if 300 ((upd (fun _ => 0) 0 0))) ∧ G2[132]? = some (ab_if 300 ((upd (fun _ => 0) 0 0))) ∧ G2[133]? = some (ab_if 40000 ((upd (fun _ => 0) 0 0)))) := by
  refine ab_F_of (by decide +kernel) (Nat.le_of_ble_eq_true rfl) ?_
  obtain ⟨Q, hQ⟩ : ∃ z : Outcome → ab_G → Prop, z = (fun o G2 => o = .returned (some (vI 0)) ∧ ab_fr [80, 94, 95, 96, 97, 100, 102, 103, 104, 105, 107, 108, 109, 112, 113, 114, 115, 116, 117, 118, 119, 120, 125, 126, 127, 128, 129, 130, 131, 132, 133] G G2 ∧ G2.length = 158 ∧ ab_slots G2 = 1834765 ∧ G2[80]? = some (ab_ob 12 (m_fv (vI 0) (vI 0) (vI 0) (vI 0) (vI 0) (vI 0) (vI 0) (vI 0) (vI 2) (vI 0) (vI ((xs 2) &&& 15)) (vI 0) (vI (-1)) (vI 0) (vI 0) (vI 0) (vI 0) (vI 0) (vI 0) (vI (xs 1)) (vI 0) (vI 0) (vI 1) (vI 0) (vI 0) (vI 0) (vI 0) (vI 0) (vI 0) (vI 0) (vI 0) (vI 0) (vI 0) (vI 0) (vI 0))) ∧ G2[94]? = some (ab_if 4200 ((upd (upd (fun _ => 0) 0 4) 1 5))) ∧ G2[95]? = some (ab_if 4200 ((upd (upd (fun _ => 0) 0 0) 1 0))) ∧ G2[96]? = some (ab_if 4200 ((upd (upd (upd (upd (fun _ => 0) 0 (-1)) 0 (-1)) 1 (-1)) 1 0))) ∧ G2[97]? = some (ab_if 4200 ((upd (upd (fun _ => 0) 0 (-1)) 1 (-1)))) ∧ G2[100]? = some (.inl (2, 4200, .inr (.inl (vp_updL (vp_updL (fun _ => 0) 0 0) 1 0)))) ∧ G2[102]? = some (ab_if 32 ((upd (fun _ => 0) 0 (-1)))) ∧ G2[103]? = some (ab_if 32 ((upd (fun _ => 0) 0 ((xs 2) &&& 15)))) ∧ G2[104]? = some (ab_if 32 ((upd (fun _ => 0) 0 0))) ∧ G2[105]? = some (ab_if 32 ((upd (upd (fun _ => 0) 0 (-1)) 0 (-1)))) ∧ G2[107]? = some (ab_if 32 ((upd (upd (fun _ => 0) 0 (-1)) 0 0))) ∧ G2[108]? = some (ab_if 32 ((upd (fun _ => 0) 0 0))) ∧ G2[109]? = some (ab_if 32 ((upd (upd (fun _ => 0) 0 0) 0 0))) ∧ G2[112]? = some (ab_zf 6 ((upd (fun _ => 0) (Int32.toNatClampNeg (xs 1)) (vp_nar .boolean 1)))) ∧ G2[113]? = some (ab_if 6 ((upd (fun _ => 0) (Int32.toNatClampNeg (xs 1)) 0))) ∧ G2[114]? = some (ab_if 6 ((upd (fun _ => 0) (Int32.toNatClampNeg (xs 1)) 0))) ∧ G2[115]? = some (ab_if 6 ((upd (fun _ => 0) (Int32.toNatClampNeg (xs 1)) 0))) ∧ G2[116]? = some (ab_if 6 ((upd (fun _ => 0) (Int32.toNatClampNeg (xs 1)) (xs 2)))) ∧ G2[117]? = some (ab_if 6 ((upd (upd (upd (fun _ => 0) (Int32.toNatClampNeg (xs 1)) 0) (Int32.toNatClampNeg (xs 1)) 1) (Int32.toNatClampNeg (xs 1)) 2))) ∧ G2[118]? = some (ab_if 75000 ((upd (upd (fun _ => 0) (Int32.toNatClampNeg (12500 * (xs 1))) 0) (Int32.toNatClampNeg ((12500 * (xs 1)) + 1)) 6))) ∧ G2[119]? = some (ab_if 75000 ((upd (upd (fun _ => 0) (Int32.toNatClampNeg (12500 * (xs 1))) (-1)) (Int32.toNatClampNeg ((12500 * (xs 1)) + 1)) (-1)))) ∧ G2[120]? = some (ab_if 75000 ((upd (upd (fun _ => 0) (Int32.toNatClampNeg (12500 * (xs 1))) 0) (Int32.toNatClampNeg ((12500 * (xs 1)) + 1)) 0))) ∧ G2[125]? = some (ab_if 6 ((upd (fun _ => 0) (Int32.toNatClampNeg (xs 1)) 0))) ∧ (∃ g : Nat → Int32, G2[126]? = some (ab_if 720 (g))) ∧ (∃ g : Nat → Int32, G2[127]? = some (ab_if 60 (g))) ∧ G2[128]? = some (ab_if 300 ((upd (fun _ => 0) 0 1))) ∧ G2[129]? = some (ab_if 300 ((upd (fun _ => 0) 0 0))) ∧ G2[130]? = some (ab_if 300 ((upd (fun _ => 0) 0 0))) ∧ G2[131]? = some (ab_if 300 ((upd (fun _ => 0) 0 0))) ∧ G2[132]? = some (ab_if 300 ((upd (fun _ => 0) 0 0))) ∧ G2[133]? = some (ab_if 40000 ((upd (fun _ => 0) 0 0)))) := ⟨_, rfl⟩
  rw [← hQ]
  change ab_W X (ab_pl y_MO_compile b_MO_compile 6 (some (.int))) d G 0 [some (vR 80), some (vI (xs 1)), some (vI (xs 2)), none, none, none] [] Q
  have hfr : ab_fr [80, 94, 95, 96, 97, 100, 102, 103, 104, 105, 107, 108, 109, 112, 113, 114, 115, 116, 117, 118, 119, 120, 125, 126, 127, 128, 129, 130, 131, 132, 133] G G := ab_fr.rf
  refine ab_aload_n d_MO_compile_0 rfl ?_
  refine ab_iload_n d_MO_compile_1 rfl ?_
  refine ab_if_lt (tgt := 20) d_MO_compile_2 (by decide) (fun c4 => ?_) (fun c4 => ?_)
  · exfalso; have l0 := (show (0 : Int32).toInt = 0 by decide); have l1 := (show (5 : Int32).toInt = 5 by decide); have l2 := (show (31 : Int32).toInt = 31 by decide); simp only [Int32.le_iff_toInt_le, Int32.lt_iff_toInt_lt, ← Int32.toInt_inj] at c0 c1 c2 c3 c4; omega
  · refine ab_iload_n d_MO_compile_5 rfl ?_
    refine ab_iconst (v := 5) d_MO_compile_6 (by decide) ?_
    refine ab_icmp_gt (tgt := 20) d_MO_compile_7 (by decide) (fun c5 => ?_) (fun c5 => ?_)
    · exfalso; have l0 := (show (0 : Int32).toInt = 0 by decide); have l1 := (show (5 : Int32).toInt = 5 by decide); have l2 := (show (31 : Int32).toInt = 31 by decide); simp only [Int32.le_iff_toInt_le, Int32.lt_iff_toInt_lt, ← Int32.toInt_inj] at c0 c1 c2 c3 c4 c5; omega
    · refine ab_iload_n d_MO_compile_10 rfl ?_
      refine ab_if_lt (tgt := 20) d_MO_compile_11 (by decide) (fun c6 => ?_) (fun c6 => ?_)
      · exfalso; have l0 := (show (0 : Int32).toInt = 0 by decide); have l1 := (show (5 : Int32).toInt = 5 by decide); have l2 := (show (31 : Int32).toInt = 31 by decide); simp only [Int32.le_iff_toInt_le, Int32.lt_iff_toInt_lt, ← Int32.toInt_inj] at c0 c1 c2 c3 c4 c5 c6; omega
      · refine ab_iload_n d_MO_compile_14 rfl ?_
        refine ab_bipush (v := 31) d_MO_compile_15 (by decide) ?_
        refine ab_icmp_le (tgt := 24) d_MO_compile_17 (by decide) (fun c7 => ?_) (fun c7 => ?_)
        · refine ab_iconst (v := 0) d_MO_compile_24 (by decide) ?_
          refine ab_putf (fs := (m_fv (vI 0) (vI 0) (vI 0) (vI 0) (vI 0) (vI 0) (vI 0) (vI 0) (vI 0) (vI 0) (vI 0) (vI 0) (vI (-1)) (vI 0) (vI 0) (vI 0) (vI 0) (vI 0) (vI 0) (vI 0) (vI 0) (vI 0) (vI 0) (vI 0) (vI 0) (vI 0) (vI 0) (vI 0) (vI 0) (vI 0) (vI 0) (vI 0) (vI 0) (vI 0) (vI 0))) f_MO_220 (Or.inl rfl) d_MO_compile_25 h80 (Nat.le_of_ble_eq_true rfl) (fun _ => ⟨rfl, rfl⟩) (by decide) ?_
          obtain ⟨G1, eG1⟩ : ∃ z : ab_G, z = List.set G 80 (ab_ob 12 (m_fv (vI 0) (vI 0) (vI 0) (vI 0) (vI 0) (vI 0) (vI 0) (vI 0) (vI 0) (vI 0) (vI 0) (vI 0) (vI (-1)) (vI 0) (vI 0) (vI 0) (vI 0) (vI 0) (vI 0) (vI 0) (vI 0) (vI 0) (vI 0) (vI 0) (vI 0) (vI 0) (vI 0) (vI 0) (vI 0) (vI 0) (vI 0) (vI 0) (vI 0) (vI 0) (vI 0))) := ⟨_, rfl⟩
          have h94 := ab_keep eG1 (by decide) h94
          have h95 := ab_keep eG1 (by decide) h95
          have h96 := ab_keep eG1 (by decide) h96
          have h97 := ab_keep eG1 (by decide) h97
          have h100 := ab_keep eG1 (by decide) h100
          have h102 := ab_keep eG1 (by decide) h102
          have h103 := ab_keep eG1 (by decide) h103
          have h104 := ab_keep eG1 (by decide) h104
          have h105 := ab_keep eG1 (by decide) h105
          have h107 := ab_keep eG1 (by decide) h107
          have h108 := ab_keep eG1 (by decide) h108
          have h109 := ab_keep eG1 (by decide) h109
          have h110 := ab_keep eG1 (by decide) h110
          have h112 := ab_keep eG1 (by decide) h112
          have h113 := ab_keep eG1 (by decide) h113
          have h114 := ab_keep eG1 (by decide) h114
          have h115 := ab_keep eG1 (by decide) h115
          have h116 := ab_keep eG1 (by decide) h116
          have h117 := ab_keep eG1 (by decide) h117
          have h118 := ab_keep eG1 (by decide) h118
          have h119 := ab_keep eG1 (by decide) h119
          have h120 := ab_keep eG1 (by decide) h120
          have h125 := ab_keep eG1 (by decide) h125
          have h126 := ab_keep eG1 (by decide) h126
          have h127 := ab_keep eG1 (by decide) h127
          have h128 := ab_keep eG1 (by decide) h128
          have h129 := ab_keep eG1 (by decide) h129
          have h130 := ab_keep eG1 (by decide) h130
          have h131 := ab_keep eG1 (by decide) h131
          have h132 := ab_keep eG1 (by decide) h132
          have h133 := ab_keep eG1 (by decide) h133
          have hlen := ab_klen eG1 hlen
          have hsl := ab_ksl 102 eG1 h80 rfl rfl hsl
          have hfr := hfr.wr eG1 (by decide)
          have h80 := ab_kept eG1 h80
          change ab_W _ _ _ (List.set G 80 (ab_ob 12 (m_fv (vI 0) (vI 0) (vI 0) (vI 0) (vI 0) (vI 0) (vI 0) (vI 0) (vI 0) (vI 0) (vI 0) (vI 0) (vI (-1)) (vI 0) (vI 0) (vI 0) (vI 0) (vI 0) (vI 0) (vI 0) (vI 0) (vI 0) (vI 0) (vI 0) (vI 0) (vI 0) (vI 0) (vI 0) (vI 0) (vI 0) (vI 0) (vI 0) (vI 0) (vI 0) (vI 0)))) 28 [some (vR 80), some (vI (xs 1)), some (vI (xs 2)), none, none, none] [] _
          rw [← eG1]
          refine ab_aload_n d_MO_compile_28 rfl ?_
          refine ab_getf (fs := (m_fv (vI 0) (vI 0) (vI 0) (vI 0) (vI 0) (vI 0) (vI 0) (vI 0) (vI 0) (vI 0) (vI 0) (vI 0) (vI (-1)) (vI 0) (vI 0) (vI 0) (vI 0) (vI 0) (vI 0) (vI 0) (vI 0) (vI 0) (vI 0) (vI 0) (vI 0) (vI 0) (vI 0) (vI 0) (vI 0) (vI 0) (vI 0) (vI 0) (vI 0) (vI 0) (vI 0))) f_MO_220 d_MO_compile_29 h80 rfl ?_
          refine ab_if_le (tgt := 37) d_MO_compile_32 (by decide) (fun _ => ?_) (fun c => absurd c (by decide))
          refine ab_aload_n d_MO_compile_37 rfl ?_
          refine ab_iload_n d_MO_compile_38 rfl ?_
          refine ab_bipush (v := 15) d_MO_compile_39 (by decide) ?_
          refine ab_iand d_MO_compile_41 ?_
          refine ab_callV (d' := d - 1) (as := [vI ((xs 2) &&& 15)]) (st := []) (r := _) (q_MO_read_1 (xs := xs) hlen hsl h80 h94 h95 h96 h97 h100 h102 h103 h104 h105 h107 h108 h109 (by omega)) (fun o G2 h => ⟨_, h.1⟩) (by omega) m_MO_read ml_MO_501 im_MO_read se_MO_read c_MO h80 (Nat.le_of_ble_eq_true rfl) d_MO_compile_42 rfl ?_
          intro v G2 hq
          obtain ⟨hv, hfk, hlen, hsl, h80, h94, h95, h96, h97, h100, h102, h103, h104, h105, h107, h108, h109⟩ := hq
          cases hv
          have h110 := hfk.get (by decide) h110
          have h112 := hfk.get (by decide) h112
          have h113 := hfk.get (by decide) h113
          have h114 := hfk.get (by decide) h114
          have h115 := hfk.get (by decide) h115
          have h116 := hfk.get (by decide) h116
          have h117 := hfk.get (by decide) h117
          have h118 := hfk.get (by decide) h118
          have h119 := hfk.get (by decide) h119
          have h120 := hfk.get (by decide) h120
          have h125 := hfk.get (by decide) h125
          have h126 := hfk.get (by decide) h126
          have h127 := hfk.get (by decide) h127
          have h128 := hfk.get (by decide) h128
          have h129 := hfk.get (by decide) h129
          have h130 := hfk.get (by decide) h130
          have h131 := hfk.get (by decide) h131
          have h132 := hfk.get (by decide) h132
          have h133 := hfk.get (by decide) h133
          have hfr := hfr.cl hfk (by decide)
          change ab_W _ _ _ G2 45 [some (vR 80), some (vI (xs 1)), some (vI (xs 2)), none, none, none] [vI 1] _
          refine ab_istore_n d_MO_compile_45 (Nat.le_of_ble_eq_true rfl) (Nat.le_of_ble_eq_true rfl) rfl ?_
          change ab_W _ _ _ G2 46 [some (vR 80), some (vI (xs 1)), some (vI (xs 2)), some (vI 1), none, none] [] _
          refine ab_aload_n d_MO_compile_46 rfl ?_
          refine ab_iconst (v := 0) d_MO_compile_47 (by decide) ?_
          refine ab_putf (fs := (m_fv (vI 0) (vI 0) (vI 0) (vI 0) (vI 0) (vI 0) (vI 0) (vI 0) (vI 2) (vI 0) (vI ((xs 2) &&& 15)) (vI 0) (vI (-1)) (vI 0) (vI 0) (vI 0) (vI 0) (vI 0) (vI 0) (vI 0) (vI 0) (vI 0) (vI 0) (vI 0) (vI 0) (vI 0) (vI 0) (vI 0) (vI 0) (vI 0) (vI 0) (vI 0) (vI 0) (vI 0) (vI 0))) f_MO_223 (Or.inl rfl) d_MO_compile_48 h80 (Nat.le_of_ble_eq_true rfl) (fun _ => ⟨rfl, rfl⟩) (by decide) ?_
          obtain ⟨G3, eG3⟩ : ∃ z : ab_G, z = List.set G2 80 (ab_ob 12 (m_fv (vI 0) (vI 0) (vI 0) (vI 0) (vI 0) (vI 0) (vI 0) (vI 0) (vI 2) (vI 0) (vI ((xs 2) &&& 15)) (vI 0) (vI (-1)) (vI 0) (vI 0) (vI 0) (vI 0) (vI 0) (vI 0) (vI 0) (vI 0) (vI 0) (vI 0) (vI 0) (vI 0) (vI 0) (vI 0) (vI 0) (vI 0) (vI 0) (vI 0) (vI 0) (vI 0) (vI 0) (vI 0))) := ⟨_, rfl⟩
          have h94 := ab_keep eG3 (by decide) h94
          have h95 := ab_keep eG3 (by decide) h95
          have h96 := ab_keep eG3 (by decide) h96
          have h97 := ab_keep eG3 (by decide) h97
          have h100 := ab_keep eG3 (by decide) h100
          have h102 := ab_keep eG3 (by decide) h102
          have h103 := ab_keep eG3 (by decide) h103
          have h104 := ab_keep eG3 (by decide) h104
          have h105 := ab_keep eG3 (by decide) h105
          have h107 := ab_keep eG3 (by decide) h107
          have h108 := ab_keep eG3 (by decide) h108
          have h109 := ab_keep eG3 (by decide) h109
          have h110 := ab_keep eG3 (by decide) h110
          have h112 := ab_keep eG3 (by decide) h112
          have h113 := ab_keep eG3 (by decide) h113
          have h114 := ab_keep eG3 (by decide) h114
          have h115 := ab_keep eG3 (by decide) h115
          have h116 := ab_keep eG3 (by decide) h116
          have h117 := ab_keep eG3 (by decide) h117
          have h118 := ab_keep eG3 (by decide) h118
          have h119 := ab_keep eG3 (by decide) h119
          have h120 := ab_keep eG3 (by decide) h120
          have h125 := ab_keep eG3 (by decide) h125
          have h126 := ab_keep eG3 (by decide) h126
          have h127 := ab_keep eG3 (by decide) h127
          have h128 := ab_keep eG3 (by decide) h128
          have h129 := ab_keep eG3 (by decide) h129
          have h130 := ab_keep eG3 (by decide) h130
          have h131 := ab_keep eG3 (by decide) h131
          have h132 := ab_keep eG3 (by decide) h132
          have h133 := ab_keep eG3 (by decide) h133
          have hlen := ab_klen eG3 hlen
          have hsl := ab_ksl 102 eG3 h80 rfl rfl hsl
          have hfr := hfr.wr eG3 (by decide)
          have h80 := ab_kept eG3 h80
          change ab_W _ _ _ (List.set G2 80 (ab_ob 12 (m_fv (vI 0) (vI 0) (vI 0) (vI 0) (vI 0) (vI 0) (vI 0) (vI 0) (vI 2) (vI 0) (vI ((xs 2) &&& 15)) (vI 0) (vI (-1)) (vI 0) (vI 0) (vI 0) (vI 0) (vI 0) (vI 0) (vI 0) (vI 0) (vI 0) (vI 0) (vI 0) (vI 0) (vI 0) (vI 0) (vI 0) (vI 0) (vI 0) (vI 0) (vI 0) (vI 0) (vI 0) (vI 0)))) 51 [some (vR 80), some (vI (xs 1)), some (vI (xs 2)), some (vI 1), none, none] [] _
          rw [← eG3]
          refine ab_aload_n d_MO_compile_51 rfl ?_
          refine ab_aload_n d_MO_compile_52 rfl ?_
          refine ab_getf (fs := (m_fv (vI 0) (vI 0) (vI 0) (vI 0) (vI 0) (vI 0) (vI 0) (vI 0) (vI 2) (vI 0) (vI ((xs 2) &&& 15)) (vI 0) (vI (-1)) (vI 0) (vI 0) (vI 0) (vI 0) (vI 0) (vI 0) (vI 0) (vI 0) (vI 0) (vI 0) (vI 0) (vI 0) (vI 0) (vI 0) (vI 0) (vI 0) (vI 0) (vI 0) (vI 0) (vI 0) (vI 0) (vI 0))) f_MO_273 d_MO_compile_53 h80 rfl ?_
          refine ab_if_le (tgt := 63) d_MO_compile_56 (by decide) (fun _ => ?_) (fun c => absurd c (by decide))
          refine ab_iconst (v := 0) d_MO_compile_63 (by decide) ?_
          refine ab_putf (fs := (m_fv (vI 0) (vI 0) (vI 0) (vI 0) (vI 0) (vI 0) (vI 0) (vI 0) (vI 2) (vI 0) (vI ((xs 2) &&& 15)) (vI 0) (vI (-1)) (vI 0) (vI 0) (vI 0) (vI 0) (vI 0) (vI 0) (vI 0) (vI 0) (vI 0) (vI 0) (vI 0) (vI 0) (vI 0) (vI 0) (vI 0) (vI 0) (vI 0) (vI 0) (vI 0) (vI 0) (vI 0) (vI 0))) f_MO_220 (Or.inl rfl) d_MO_compile_64 h80 (Nat.le_of_ble_eq_true rfl) (fun _ => ⟨rfl, rfl⟩) (by decide) ?_
          obtain ⟨G4, eG4⟩ : ∃ z : ab_G, z = List.set G3 80 (ab_ob 12 (m_fv (vI 0) (vI 0) (vI 0) (vI 0) (vI 0) (vI 0) (vI 0) (vI 0) (vI 2) (vI 0) (vI ((xs 2) &&& 15)) (vI 0) (vI (-1)) (vI 0) (vI 0) (vI 0) (vI 0) (vI 0) (vI 0) (vI 0) (vI 0) (vI 0) (vI 0) (vI 0) (vI 0) (vI 0) (vI 0) (vI 0) (vI 0) (vI 0) (vI 0) (vI 0) (vI 0) (vI 0) (vI 0))) := ⟨_, rfl⟩
          have h94 := ab_keep eG4 (by decide) h94
          have h95 := ab_keep eG4 (by decide) h95
          have h96 := ab_keep eG4 (by decide) h96
          have h97 := ab_keep eG4 (by decide) h97
          have h100 := ab_keep eG4 (by decide) h100
          have h102 := ab_keep eG4 (by decide) h102
          have h103 := ab_keep eG4 (by decide) h103
          have h104 := ab_keep eG4 (by decide) h104
          have h105 := ab_keep eG4 (by decide) h105
          have h107 := ab_keep eG4 (by decide) h107
          have h108 := ab_keep eG4 (by decide) h108
          have h109 := ab_keep eG4 (by decide) h109
          have h110 := ab_keep eG4 (by decide) h110
          have h112 := ab_keep eG4 (by decide) h112
          have h113 := ab_keep eG4 (by decide) h113
          have h114 := ab_keep eG4 (by decide) h114
          have h115 := ab_keep eG4 (by decide) h115
          have h116 := ab_keep eG4 (by decide) h116
          have h117 := ab_keep eG4 (by decide) h117
          have h118 := ab_keep eG4 (by decide) h118
          have h119 := ab_keep eG4 (by decide) h119
          have h120 := ab_keep eG4 (by decide) h120
          have h125 := ab_keep eG4 (by decide) h125
          have h126 := ab_keep eG4 (by decide) h126
          have h127 := ab_keep eG4 (by decide) h127
          have h128 := ab_keep eG4 (by decide) h128
          have h129 := ab_keep eG4 (by decide) h129
          have h130 := ab_keep eG4 (by decide) h130
          have h131 := ab_keep eG4 (by decide) h131
          have h132 := ab_keep eG4 (by decide) h132
          have h133 := ab_keep eG4 (by decide) h133
          have hlen := ab_klen eG4 hlen
          have hsl := ab_ksl 102 eG4 h80 rfl rfl hsl
          have hfr := hfr.wr eG4 (by decide)
          have h80 := ab_kept eG4 h80
          change ab_W _ _ _ (List.set G3 80 (ab_ob 12 (m_fv (vI 0) (vI 0) (vI 0) (vI 0) (vI 0) (vI 0) (vI 0) (vI 0) (vI 2) (vI 0) (vI ((xs 2) &&& 15)) (vI 0) (vI (-1)) (vI 0) (vI 0) (vI 0) (vI 0) (vI 0) (vI 0) (vI 0) (vI 0) (vI 0) (vI 0) (vI 0) (vI 0) (vI 0) (vI 0) (vI 0) (vI 0) (vI 0) (vI 0) (vI 0) (vI 0) (vI 0) (vI 0)))) 67 [some (vR 80), some (vI (xs 1)), some (vI (xs 2)), some (vI 1), none, none] [] _
          rw [← eG4]
          refine ab_aload_n d_MO_compile_67 rfl ?_
          refine ab_getf (fs := (m_fv (vI 0) (vI 0) (vI 0) (vI 0) (vI 0) (vI 0) (vI 0) (vI 0) (vI 2) (vI 0) (vI ((xs 2) &&& 15)) (vI 0) (vI (-1)) (vI 0) (vI 0) (vI 0) (vI 0) (vI 0) (vI 0) (vI 0) (vI 0) (vI 0) (vI 0) (vI 0) (vI 0) (vI 0) (vI 0) (vI 0) (vI 0) (vI 0) (vI 0) (vI 0) (vI 0) (vI 0) (vI 0))) f_MO_220 d_MO_compile_68 h80 rfl ?_
          refine ab_if_le (tgt := 76) d_MO_compile_71 (by decide) (fun _ => ?_) (fun c => absurd c (by decide))
          refine ab_aload_n d_MO_compile_76 rfl ?_
          refine ab_iload_n d_MO_compile_77 rfl ?_
          refine ab_putf (fs := (m_fv (vI 0) (vI 0) (vI 0) (vI 0) (vI 0) (vI 0) (vI 0) (vI 0) (vI 2) (vI 0) (vI ((xs 2) &&& 15)) (vI 0) (vI (-1)) (vI 0) (vI 0) (vI 0) (vI 0) (vI 0) (vI 0) (vI 0) (vI 0) (vI 0) (vI 0) (vI 0) (vI 0) (vI 0) (vI 0) (vI 0) (vI 0) (vI 0) (vI 0) (vI 0) (vI 0) (vI 0) (vI 0))) f_MO_438 (Or.inl rfl) d_MO_compile_78 h80 (Nat.le_of_ble_eq_true rfl) (fun _ => ⟨rfl, rfl⟩) (by decide) ?_
          obtain ⟨G5, eG5⟩ : ∃ z : ab_G, z = List.set G4 80 (ab_ob 12 (m_fv (vI 0) (vI 0) (vI 0) (vI 0) (vI 0) (vI 0) (vI 0) (vI 0) (vI 2) (vI 0) (vI ((xs 2) &&& 15)) (vI 0) (vI (-1)) (vI 0) (vI 0) (vI 0) (vI 0) (vI 0) (vI 0) (vI (xs 1)) (vI 0) (vI 0) (vI 0) (vI 0) (vI 0) (vI 0) (vI 0) (vI 0) (vI 0) (vI 0) (vI 0) (vI 0) (vI 0) (vI 0) (vI 0))) := ⟨_, rfl⟩
          have h94 := ab_keep eG5 (by decide) h94
          have h95 := ab_keep eG5 (by decide) h95
          have h96 := ab_keep eG5 (by decide) h96
          have h97 := ab_keep eG5 (by decide) h97
          have h100 := ab_keep eG5 (by decide) h100
          have h102 := ab_keep eG5 (by decide) h102
          have h103 := ab_keep eG5 (by decide) h103
          have h104 := ab_keep eG5 (by decide) h104
          have h105 := ab_keep eG5 (by decide) h105
          have h107 := ab_keep eG5 (by decide) h107
          have h108 := ab_keep eG5 (by decide) h108
          have h109 := ab_keep eG5 (by decide) h109
          have h110 := ab_keep eG5 (by decide) h110
          have h112 := ab_keep eG5 (by decide) h112
          have h113 := ab_keep eG5 (by decide) h113
          have h114 := ab_keep eG5 (by decide) h114
          have h115 := ab_keep eG5 (by decide) h115
          have h116 := ab_keep eG5 (by decide) h116
          have h117 := ab_keep eG5 (by decide) h117
          have h118 := ab_keep eG5 (by decide) h118
          have h119 := ab_keep eG5 (by decide) h119
          have h120 := ab_keep eG5 (by decide) h120
          have h125 := ab_keep eG5 (by decide) h125
          have h126 := ab_keep eG5 (by decide) h126
          have h127 := ab_keep eG5 (by decide) h127
          have h128 := ab_keep eG5 (by decide) h128
          have h129 := ab_keep eG5 (by decide) h129
          have h130 := ab_keep eG5 (by decide) h130
          have h131 := ab_keep eG5 (by decide) h131
          have h132 := ab_keep eG5 (by decide) h132
          have h133 := ab_keep eG5 (by decide) h133
          have hlen := ab_klen eG5 hlen
          have hsl := ab_ksl 102 eG5 h80 rfl rfl hsl
          have hfr := hfr.wr eG5 (by decide)
          have h80 := ab_kept eG5 h80
          change ab_W _ _ _ (List.set G4 80 (ab_ob 12 (m_fv (vI 0) (vI 0) (vI 0) (vI 0) (vI 0) (vI 0) (vI 0) (vI 0) (vI 2) (vI 0) (vI ((xs 2) &&& 15)) (vI 0) (vI (-1)) (vI 0) (vI 0) (vI 0) (vI 0) (vI 0) (vI 0) (vI (xs 1)) (vI 0) (vI 0) (vI 0) (vI 0) (vI 0) (vI 0) (vI 0) (vI 0) (vI 0) (vI 0) (vI 0) (vI 0) (vI 0) (vI 0) (vI 0)))) 81 [some (vR 80), some (vI (xs 1)), some (vI (xs 2)), some (vI 1), none, none] [] _
          rw [← eG5]
          refine ab_aload_n d_MO_compile_81 rfl ?_
          refine ab_getf (fs := (m_fv (vI 0) (vI 0) (vI 0) (vI 0) (vI 0) (vI 0) (vI 0) (vI 0) (vI 2) (vI 0) (vI ((xs 2) &&& 15)) (vI 0) (vI (-1)) (vI 0) (vI 0) (vI 0) (vI 0) (vI 0) (vI 0) (vI (xs 1)) (vI 0) (vI 0) (vI 0) (vI 0) (vI 0) (vI 0) (vI 0) (vI 0) (vI 0) (vI 0) (vI 0) (vI 0) (vI 0) (vI 0) (vI 0))) f_MO_109 d_MO_compile_82 h80 rfl ?_
          refine ab_iload_n d_MO_compile_85 rfl ?_
          refine ab_iconst (v := 1) d_MO_compile_86 (by decide) ?_
          refine ab_zast d_MO_compile_87 h112 (vp_in_iff.mpr (by have l0 := (show (0 : Int32).toInt = 0 by decide); have l1 := (show (5 : Int32).toInt = 5 by decide); have l2 := (show (31 : Int32).toInt = 31 by decide); simp only [Int32.le_iff_toInt_le, Int32.lt_iff_toInt_lt, ← Int32.toInt_inj] at c0 c1 c2 c3 c4 c5 c6 c7; constructor <;> omega)) (by decide) ?_
          obtain ⟨G6, eG6⟩ : ∃ z : ab_G, z = List.set G5 112 (ab_zf 6 ((upd (fun _ => 0) (Int32.toNatClampNeg (xs 1)) (vp_nar .boolean 1)))) := ⟨_, rfl⟩
          have h80 := ab_keep eG6 (by decide) h80
          have h94 := ab_keep eG6 (by decide) h94
          have h95 := ab_keep eG6 (by decide) h95
          have h96 := ab_keep eG6 (by decide) h96
          have h97 := ab_keep eG6 (by decide) h97
          have h100 := ab_keep eG6 (by decide) h100
          have h102 := ab_keep eG6 (by decide) h102
          have h103 := ab_keep eG6 (by decide) h103
          have h104 := ab_keep eG6 (by decide) h104
          have h105 := ab_keep eG6 (by decide) h105
          have h107 := ab_keep eG6 (by decide) h107
          have h108 := ab_keep eG6 (by decide) h108
          have h109 := ab_keep eG6 (by decide) h109
          have h110 := ab_keep eG6 (by decide) h110
          have h113 := ab_keep eG6 (by decide) h113
          have h114 := ab_keep eG6 (by decide) h114
          have h115 := ab_keep eG6 (by decide) h115
          have h116 := ab_keep eG6 (by decide) h116
          have h117 := ab_keep eG6 (by decide) h117
          have h118 := ab_keep eG6 (by decide) h118
          have h119 := ab_keep eG6 (by decide) h119
          have h120 := ab_keep eG6 (by decide) h120
          have h125 := ab_keep eG6 (by decide) h125
          have h126 := ab_keep eG6 (by decide) h126
          have h127 := ab_keep eG6 (by decide) h127
          have h128 := ab_keep eG6 (by decide) h128
          have h129 := ab_keep eG6 (by decide) h129
          have h130 := ab_keep eG6 (by decide) h130
          have h131 := ab_keep eG6 (by decide) h131
          have h132 := ab_keep eG6 (by decide) h132
          have h133 := ab_keep eG6 (by decide) h133
          have hlen := ab_klen eG6 hlen
          have hsl := ab_ksl 6 eG6 h112 rfl rfl hsl
          have hfr := hfr.wr eG6 (by decide)
          have h112 := ab_kept eG6 h112
          change ab_W _ _ _ (List.set G5 112 (ab_zf 6 ((upd (fun _ => 0) (Int32.toNatClampNeg (xs 1)) (vp_nar .boolean 1))))) 88 [some (vR 80), some (vI (xs 1)), some (vI (xs 2)), some (vI 1), none, none] [] _
          rw [← eG6]
          refine ab_aload_n d_MO_compile_88 rfl ?_
          refine ab_getf (fs := (m_fv (vI 0) (vI 0) (vI 0) (vI 0) (vI 0) (vI 0) (vI 0) (vI 0) (vI 2) (vI 0) (vI ((xs 2) &&& 15)) (vI 0) (vI (-1)) (vI 0) (vI 0) (vI 0) (vI 0) (vI 0) (vI 0) (vI (xs 1)) (vI 0) (vI 0) (vI 0) (vI 0) (vI 0) (vI 0) (vI 0) (vI 0) (vI 0) (vI 0) (vI 0) (vI 0) (vI 0) (vI 0) (vI 0))) f_MO_115 d_MO_compile_89 h80 rfl ?_
          refine ab_iload_n d_MO_compile_92 rfl ?_
          refine ab_aload_n d_MO_compile_93 rfl ?_
          refine ab_getf (fs := (m_fv (vI 0) (vI 0) (vI 0) (vI 0) (vI 0) (vI 0) (vI 0) (vI 0) (vI 2) (vI 0) (vI ((xs 2) &&& 15)) (vI 0) (vI (-1)) (vI 0) (vI 0) (vI 0) (vI 0) (vI 0) (vI 0) (vI (xs 1)) (vI 0) (vI 0) (vI 0) (vI 0) (vI 0) (vI 0) (vI 0) (vI 0) (vI 0) (vI 0) (vI 0) (vI 0) (vI 0) (vI 0) (vI 0))) f_MO_395 d_MO_compile_94 h80 rfl ?_
          refine ab_iast d_MO_compile_97 h114 (vp_in_iff.mpr (by have l0 := (show (0 : Int32).toInt = 0 by decide); have l1 := (show (5 : Int32).toInt = 5 by decide); have l2 := (show (31 : Int32).toInt = 31 by decide); simp only [Int32.le_iff_toInt_le, Int32.lt_iff_toInt_lt, ← Int32.toInt_inj] at c0 c1 c2 c3 c4 c5 c6 c7; constructor <;> omega)) (by decide) ?_
          obtain ⟨G7, eG7⟩ : ∃ z : ab_G, z = List.set G6 114 (ab_if 6 ((upd (fun _ => 0) (Int32.toNatClampNeg (xs 1)) 0))) := ⟨_, rfl⟩
          have h80 := ab_keep eG7 (by decide) h80
          have h94 := ab_keep eG7 (by decide) h94
          have h95 := ab_keep eG7 (by decide) h95
          have h96 := ab_keep eG7 (by decide) h96
          have h97 := ab_keep eG7 (by decide) h97
          have h100 := ab_keep eG7 (by decide) h100
          have h102 := ab_keep eG7 (by decide) h102
          have h103 := ab_keep eG7 (by decide) h103
          have h104 := ab_keep eG7 (by decide) h104
          have h105 := ab_keep eG7 (by decide) h105
          have h107 := ab_keep eG7 (by decide) h107
          have h108 := ab_keep eG7 (by decide) h108
          have h109 := ab_keep eG7 (by decide) h109
          have h110 := ab_keep eG7 (by decide) h110
          have h112 := ab_keep eG7 (by decide) h112
          have h113 := ab_keep eG7 (by decide) h113
          have h115 := ab_keep eG7 (by decide) h115
          have h116 := ab_keep eG7 (by decide) h116
          have h117 := ab_keep eG7 (by decide) h117
          have h118 := ab_keep eG7 (by decide) h118
          have h119 := ab_keep eG7 (by decide) h119
          have h120 := ab_keep eG7 (by decide) h120
          have h125 := ab_keep eG7 (by decide) h125
          have h126 := ab_keep eG7 (by decide) h126
          have h127 := ab_keep eG7 (by decide) h127
          have h128 := ab_keep eG7 (by decide) h128
          have h129 := ab_keep eG7 (by decide) h129
          have h130 := ab_keep eG7 (by decide) h130
          have h131 := ab_keep eG7 (by decide) h131
          have h132 := ab_keep eG7 (by decide) h132
          have h133 := ab_keep eG7 (by decide) h133
          have hlen := ab_klen eG7 hlen
          have hsl := ab_ksl 6 eG7 h114 rfl rfl hsl
          have hfr := hfr.wr eG7 (by decide)
          have h114 := ab_kept eG7 h114
          change ab_W _ _ _ (List.set G6 114 (ab_if 6 ((upd (fun _ => 0) (Int32.toNatClampNeg (xs 1)) 0)))) 98 [some (vR 80), some (vI (xs 1)), some (vI (xs 2)), some (vI 1), none, none] [] _
          rw [← eG7]
          refine ab_aload_n d_MO_compile_98 rfl ?_
          refine ab_getf (fs := (m_fv (vI 0) (vI 0) (vI 0) (vI 0) (vI 0) (vI 0) (vI 0) (vI 0) (vI 2) (vI 0) (vI ((xs 2) &&& 15)) (vI 0) (vI (-1)) (vI 0) (vI 0) (vI 0) (vI 0) (vI 0) (vI 0) (vI (xs 1)) (vI 0) (vI 0) (vI 0) (vI 0) (vI 0) (vI 0) (vI 0) (vI 0) (vI 0) (vI 0) (vI 0) (vI 0) (vI 0) (vI 0) (vI 0))) f_MO_118 d_MO_compile_99 h80 rfl ?_
          refine ab_iload_n d_MO_compile_102 rfl ?_
          refine ab_aload_n d_MO_compile_103 rfl ?_
          refine ab_getf (fs := (m_fv (vI 0) (vI 0) (vI 0) (vI 0) (vI 0) (vI 0) (vI 0) (vI 0) (vI 2) (vI 0) (vI ((xs 2) &&& 15)) (vI 0) (vI (-1)) (vI 0) (vI 0) (vI 0) (vI 0) (vI 0) (vI 0) (vI (xs 1)) (vI 0) (vI 0) (vI 0) (vI 0) (vI 0) (vI 0) (vI 0) (vI 0) (vI 0) (vI 0) (vI 0) (vI 0) (vI 0) (vI 0) (vI 0))) f_MO_68 d_MO_compile_104 h80 rfl ?_
          refine ab_iload_n d_MO_compile_107 rfl ?_
          refine ab_lald d_MO_compile_108 h100 (by unfold vp_in; decide) ?_
          refine ab_topl (y := 0) rfl ?_
          refine ab_l2i d_MO_compile_109 ?_
          refine ab_topi (y := 0) (by decide) ?_
          refine ab_iast d_MO_compile_110 h115 (vp_in_iff.mpr (by have l0 := (show (0 : Int32).toInt = 0 by decide); have l1 := (show (5 : Int32).toInt = 5 by decide); have l2 := (show (31 : Int32).toInt = 31 by decide); simp only [Int32.le_iff_toInt_le, Int32.lt_iff_toInt_lt, ← Int32.toInt_inj] at c0 c1 c2 c3 c4 c5 c6 c7; constructor <;> omega)) (by decide) ?_
          obtain ⟨G8, eG8⟩ : ∃ z : ab_G, z = List.set G7 115 (ab_if 6 ((upd (fun _ => 0) (Int32.toNatClampNeg (xs 1)) 0))) := ⟨_, rfl⟩
          have h80 := ab_keep eG8 (by decide) h80
          have h94 := ab_keep eG8 (by decide) h94
          have h95 := ab_keep eG8 (by decide) h95
          have h96 := ab_keep eG8 (by decide) h96
          have h97 := ab_keep eG8 (by decide) h97
          have h100 := ab_keep eG8 (by decide) h100
          have h102 := ab_keep eG8 (by decide) h102
          have h103 := ab_keep eG8 (by decide) h103
          have h104 := ab_keep eG8 (by decide) h104
          have h105 := ab_keep eG8 (by decide) h105
          have h107 := ab_keep eG8 (by decide) h107
          have h108 := ab_keep eG8 (by decide) h108
          have h109 := ab_keep eG8 (by decide) h109
          have h110 := ab_keep eG8 (by decide) h110
          have h112 := ab_keep eG8 (by decide) h112
          have h113 := ab_keep eG8 (by decide) h113
          have h114 := ab_keep eG8 (by decide) h114
          have h116 := ab_keep eG8 (by decide) h116
          have h117 := ab_keep eG8 (by decide) h117
          have h118 := ab_keep eG8 (by decide) h118
          have h119 := ab_keep eG8 (by decide) h119
          have h120 := ab_keep eG8 (by decide) h120
          have h125 := ab_keep eG8 (by decide) h125
          have h126 := ab_keep eG8 (by decide) h126
          have h127 := ab_keep eG8 (by decide) h127
          have h128 := ab_keep eG8 (by decide) h128
          have h129 := ab_keep eG8 (by decide) h129
          have h130 := ab_keep eG8 (by decide) h130
          have h131 := ab_keep eG8 (by decide) h131
          have h132 := ab_keep eG8 (by decide) h132
          have h133 := ab_keep eG8 (by decide) h133
          have hlen := ab_klen eG8 hlen
          have hsl := ab_ksl 6 eG8 h115 rfl rfl hsl
          have hfr := hfr.wr eG8 (by decide)
          have h115 := ab_kept eG8 h115
          change ab_W _ _ _ (List.set G7 115 (ab_if 6 ((upd (fun _ => 0) (Int32.toNatClampNeg (xs 1)) 0)))) 111 [some (vR 80), some (vI (xs 1)), some (vI (xs 2)), some (vI 1), none, none] [] _
          rw [← eG8]
          refine ab_aload_n d_MO_compile_111 rfl ?_
          refine ab_getf (fs := (m_fv (vI 0) (vI 0) (vI 0) (vI 0) (vI 0) (vI 0) (vI 0) (vI 0) (vI 2) (vI 0) (vI ((xs 2) &&& 15)) (vI 0) (vI (-1)) (vI 0) (vI 0) (vI 0) (vI 0) (vI 0) (vI 0) (vI (xs 1)) (vI 0) (vI 0) (vI 0) (vI 0) (vI 0) (vI 0) (vI 0) (vI 0) (vI 0) (vI 0) (vI 0) (vI 0) (vI 0) (vI 0) (vI 0))) f_MO_121 d_MO_compile_112 h80 rfl ?_
          refine ab_iload_n d_MO_compile_115 rfl ?_
          refine ab_iload_n d_MO_compile_116 rfl ?_
          refine ab_iast d_MO_compile_117 h116 (vp_in_iff.mpr (by have l0 := (show (0 : Int32).toInt = 0 by decide); have l1 := (show (5 : Int32).toInt = 5 by decide); have l2 := (show (31 : Int32).toInt = 31 by decide); simp only [Int32.le_iff_toInt_le, Int32.lt_iff_toInt_lt, ← Int32.toInt_inj] at c0 c1 c2 c3 c4 c5 c6 c7; constructor <;> omega)) (by decide) ?_
          obtain ⟨G9, eG9⟩ : ∃ z : ab_G, z = List.set G8 116 (ab_if 6 ((upd (fun _ => 0) (Int32.toNatClampNeg (xs 1)) (xs 2)))) := ⟨_, rfl⟩
          have h80 := ab_keep eG9 (by decide) h80
          have h94 := ab_keep eG9 (by decide) h94
          have h95 := ab_keep eG9 (by decide) h95
          have h96 := ab_keep eG9 (by decide) h96
          have h97 := ab_keep eG9 (by decide) h97
          have h100 := ab_keep eG9 (by decide) h100
          have h102 := ab_keep eG9 (by decide) h102
          have h103 := ab_keep eG9 (by decide) h103
          have h104 := ab_keep eG9 (by decide) h104
          have h105 := ab_keep eG9 (by decide) h105
          have h107 := ab_keep eG9 (by decide) h107
          have h108 := ab_keep eG9 (by decide) h108
          have h109 := ab_keep eG9 (by decide) h109
          have h110 := ab_keep eG9 (by decide) h110
          have h112 := ab_keep eG9 (by decide) h112
          have h113 := ab_keep eG9 (by decide) h113
          have h114 := ab_keep eG9 (by decide) h114
          have h115 := ab_keep eG9 (by decide) h115
          have h117 := ab_keep eG9 (by decide) h117
          have h118 := ab_keep eG9 (by decide) h118
          have h119 := ab_keep eG9 (by decide) h119
          have h120 := ab_keep eG9 (by decide) h120
          have h125 := ab_keep eG9 (by decide) h125
          have h126 := ab_keep eG9 (by decide) h126
          have h127 := ab_keep eG9 (by decide) h127
          have h128 := ab_keep eG9 (by decide) h128
          have h129 := ab_keep eG9 (by decide) h129
          have h130 := ab_keep eG9 (by decide) h130
          have h131 := ab_keep eG9 (by decide) h131
          have h132 := ab_keep eG9 (by decide) h132
          have h133 := ab_keep eG9 (by decide) h133
          have hlen := ab_klen eG9 hlen
          have hsl := ab_ksl 6 eG9 h116 rfl rfl hsl
          have hfr := hfr.wr eG9 (by decide)
          have h116 := ab_kept eG9 h116
          change ab_W _ _ _ (List.set G8 116 (ab_if 6 ((upd (fun _ => 0) (Int32.toNatClampNeg (xs 1)) (xs 2))))) 118 [some (vR 80), some (vI (xs 1)), some (vI (xs 2)), some (vI 1), none, none] [] _
          rw [← eG9]
          refine ab_aload_n d_MO_compile_118 rfl ?_
          refine ab_getf (fs := (m_fv (vI 0) (vI 0) (vI 0) (vI 0) (vI 0) (vI 0) (vI 0) (vI 0) (vI 2) (vI 0) (vI ((xs 2) &&& 15)) (vI 0) (vI (-1)) (vI 0) (vI 0) (vI 0) (vI 0) (vI 0) (vI 0) (vI (xs 1)) (vI 0) (vI 0) (vI 0) (vI 0) (vI 0) (vI 0) (vI 0) (vI 0) (vI 0) (vI 0) (vI 0) (vI 0) (vI 0) (vI 0) (vI 0))) f_MO_124 d_MO_compile_119 h80 rfl ?_
          refine ab_iload_n d_MO_compile_122 rfl ?_
          refine ab_iconst (v := 0) d_MO_compile_123 (by decide) ?_
          refine ab_iast d_MO_compile_124 h117 (vp_in_iff.mpr (by have l0 := (show (0 : Int32).toInt = 0 by decide); have l1 := (show (5 : Int32).toInt = 5 by decide); have l2 := (show (31 : Int32).toInt = 31 by decide); simp only [Int32.le_iff_toInt_le, Int32.lt_iff_toInt_lt, ← Int32.toInt_inj] at c0 c1 c2 c3 c4 c5 c6 c7; constructor <;> omega)) (by decide) ?_
          obtain ⟨G10, eG10⟩ : ∃ z : ab_G, z = List.set G9 117 (ab_if 6 ((upd (fun _ => 0) (Int32.toNatClampNeg (xs 1)) 0))) := ⟨_, rfl⟩
          have h80 := ab_keep eG10 (by decide) h80
          have h94 := ab_keep eG10 (by decide) h94
          have h95 := ab_keep eG10 (by decide) h95
          have h96 := ab_keep eG10 (by decide) h96
          have h97 := ab_keep eG10 (by decide) h97
          have h100 := ab_keep eG10 (by decide) h100
          have h102 := ab_keep eG10 (by decide) h102
          have h103 := ab_keep eG10 (by decide) h103
          have h104 := ab_keep eG10 (by decide) h104
          have h105 := ab_keep eG10 (by decide) h105
          have h107 := ab_keep eG10 (by decide) h107
          have h108 := ab_keep eG10 (by decide) h108
          have h109 := ab_keep eG10 (by decide) h109
          have h110 := ab_keep eG10 (by decide) h110
          have h112 := ab_keep eG10 (by decide) h112
          have h113 := ab_keep eG10 (by decide) h113
          have h114 := ab_keep eG10 (by decide) h114
          have h115 := ab_keep eG10 (by decide) h115
          have h116 := ab_keep eG10 (by decide) h116
          have h118 := ab_keep eG10 (by decide) h118
          have h119 := ab_keep eG10 (by decide) h119
          have h120 := ab_keep eG10 (by decide) h120
          have h125 := ab_keep eG10 (by decide) h125
          have h126 := ab_keep eG10 (by decide) h126
          have h127 := ab_keep eG10 (by decide) h127
          have h128 := ab_keep eG10 (by decide) h128
          have h129 := ab_keep eG10 (by decide) h129
          have h130 := ab_keep eG10 (by decide) h130
          have h131 := ab_keep eG10 (by decide) h131
          have h132 := ab_keep eG10 (by decide) h132
          have h133 := ab_keep eG10 (by decide) h133
          have hlen := ab_klen eG10 hlen
          have hsl := ab_ksl 6 eG10 h117 rfl rfl hsl
          have hfr := hfr.wr eG10 (by decide)
          have h117 := ab_kept eG10 h117
          change ab_W _ _ _ (List.set G9 117 (ab_if 6 ((upd (fun _ => 0) (Int32.toNatClampNeg (xs 1)) 0)))) 125 [some (vR 80), some (vI (xs 1)), some (vI (xs 2)), some (vI 1), none, none] [] _
          rw [← eG10]
          refine ab_aload_n d_MO_compile_125 rfl ?_
          refine ab_getf (fs := (m_fv (vI 0) (vI 0) (vI 0) (vI 0) (vI 0) (vI 0) (vI 0) (vI 0) (vI 2) (vI 0) (vI ((xs 2) &&& 15)) (vI 0) (vI (-1)) (vI 0) (vI 0) (vI 0) (vI 0) (vI 0) (vI 0) (vI (xs 1)) (vI 0) (vI 0) (vI 0) (vI 0) (vI 0) (vI 0) (vI 0) (vI 0) (vI 0) (vI 0) (vI 0) (vI 0) (vI 0) (vI 0) (vI 0))) f_MO_149 d_MO_compile_126 h80 rfl ?_
          refine ab_iload_n d_MO_compile_129 rfl ?_
          refine ab_iconst (v := 0) d_MO_compile_130 (by decide) ?_
          refine ab_iast d_MO_compile_131 h125 (vp_in_iff.mpr (by have l0 := (show (0 : Int32).toInt = 0 by decide); have l1 := (show (5 : Int32).toInt = 5 by decide); have l2 := (show (31 : Int32).toInt = 31 by decide); simp only [Int32.le_iff_toInt_le, Int32.lt_iff_toInt_lt, ← Int32.toInt_inj] at c0 c1 c2 c3 c4 c5 c6 c7; constructor <;> omega)) (by decide) ?_
          obtain ⟨G11, eG11⟩ : ∃ z : ab_G, z = List.set G10 125 (ab_if 6 ((upd (fun _ => 0) (Int32.toNatClampNeg (xs 1)) 0))) := ⟨_, rfl⟩
          have h80 := ab_keep eG11 (by decide) h80
          have h94 := ab_keep eG11 (by decide) h94
          have h95 := ab_keep eG11 (by decide) h95
          have h96 := ab_keep eG11 (by decide) h96
          have h97 := ab_keep eG11 (by decide) h97
          have h100 := ab_keep eG11 (by decide) h100
          have h102 := ab_keep eG11 (by decide) h102
          have h103 := ab_keep eG11 (by decide) h103
          have h104 := ab_keep eG11 (by decide) h104
          have h105 := ab_keep eG11 (by decide) h105
          have h107 := ab_keep eG11 (by decide) h107
          have h108 := ab_keep eG11 (by decide) h108
          have h109 := ab_keep eG11 (by decide) h109
          have h110 := ab_keep eG11 (by decide) h110
          have h112 := ab_keep eG11 (by decide) h112
          have h113 := ab_keep eG11 (by decide) h113
          have h114 := ab_keep eG11 (by decide) h114
          have h115 := ab_keep eG11 (by decide) h115
          have h116 := ab_keep eG11 (by decide) h116
          have h117 := ab_keep eG11 (by decide) h117
          have h118 := ab_keep eG11 (by decide) h118
          have h119 := ab_keep eG11 (by decide) h119
          have h120 := ab_keep eG11 (by decide) h120
          have h126 := ab_keep eG11 (by decide) h126
          have h127 := ab_keep eG11 (by decide) h127
          have h128 := ab_keep eG11 (by decide) h128
          have h129 := ab_keep eG11 (by decide) h129
          have h130 := ab_keep eG11 (by decide) h130
          have h131 := ab_keep eG11 (by decide) h131
          have h132 := ab_keep eG11 (by decide) h132
          have h133 := ab_keep eG11 (by decide) h133
          have hlen := ab_klen eG11 hlen
          have hsl := ab_ksl 6 eG11 h125 rfl rfl hsl
          have hfr := hfr.wr eG11 (by decide)
          have h125 := ab_kept eG11 h125
          change ab_W _ _ _ (List.set G10 125 (ab_if 6 ((upd (fun _ => 0) (Int32.toNatClampNeg (xs 1)) 0)))) 132 [some (vR 80), some (vI (xs 1)), some (vI (xs 2)), some (vI 1), none, none] [] _
          rw [← eG11]
          have hpk : ab_fr [80, 110, 111, 126, 127] G11 G11 := ab_fr.rf
          refine ab_iconst (v := 0) d_MO_compile_132 (by decide) ?_
          refine ab_istore d_MO_compile_133 (Nat.le_of_ble_eq_true rfl) (Nat.le_of_ble_eq_true rfl) rfl ?_
          change ab_W _ _ _ G11 135 [some (vR 80), some (vI (xs 1)), some (vI (xs 2)), some (vI 1), some (vI 0), none] [] _
          refine ab_iload d_MO_compile_135 rfl ?_
          refine ab_bipush (v := 10) d_MO_compile_137 (by decide) ?_
          refine ab_icmp_ge (tgt := 232) d_MO_compile_139 (by decide) (fun c => absurd c (by decide)) (fun _ => ?_)
          refine ab_aload_n d_MO_compile_142 rfl ?_
          refine ab_getf (fs := (m_fv (vI 0) (vI 0) (vI 0) (vI 0) (vI 0) (vI 0) (vI 0) (vI 0) (vI 2) (vI 0) (vI ((xs 2) &&& 15)) (vI 0) (vI (-1)) (vI 0) (vI 0) (vI 0) (vI 0) (vI 0) (vI 0) (vI (xs 1)) (vI 0) (vI 0) (vI 0) (vI 0) (vI 0) (vI 0) (vI 0) (vI 0) (vI 0) (vI 0) (vI 0) (vI 0) (vI 0) (vI 0) (vI 0))) f_MO_155 d_MO_compile_143 h80 rfl ?_
          refine ab_bipush (v := 10) d_MO_compile_146 (by decide) ?_
          refine ab_iload_n d_MO_compile_148 rfl ?_
          refine ab_imul d_MO_compile_149 ?_
          refine ab_iload d_MO_compile_150 rfl ?_
          refine ab_iadd d_MO_compile_152 ?_
          refine ab_topi (y := (10 * (xs 1))) (Int32.add_zero _) ?_
          refine ab_iload d_MO_compile_153 rfl ?_
          refine ab_if_le (tgt := 177) d_MO_compile_155 (by decide) (fun _ => ?_) (fun c => absurd c (by decide))
          refine ab_iconst (v := 0) d_MO_compile_177 (by decide) ?_
          refine ab_iast d_MO_compile_178 h127 (vp_in_iff.mpr (by have l0 := (show (0 : Int32).toInt = 0 by decide); have l1 := (show (5 : Int32).toInt = 5 by decide); have l2 := (show (10 : Int32).toInt = 10 by decide); have l3 := (show (31 : Int32).toInt = 31 by decide); simp only [Int32.le_iff_toInt_le, Int32.lt_iff_toInt_lt, ← Int32.toInt_inj] at c0 c1 c2 c3 c4 c5 c6 c7; have e0 : Int32.toInt (10 * (xs 1)) = Int32.toInt 10 * Int32.toInt (xs 1) := i32_mul (by simp only [l0, l1, l2, l3]; omega) (by simp only [l0, l1, l2, l3]; omega); (try simp only [l0, l1, l2, l3] at e0); constructor <;> omega)) (by decide) ?_
          obtain ⟨G12, eG12⟩ : ∃ z : ab_G, z = List.set G11 127 (ab_if 60 ((upd (fun _ => 0) (Int32.toNatClampNeg (10 * (xs 1))) 0))) := ⟨_, rfl⟩
          have h80 := ab_keep eG12 (by decide) h80
          have h110 := ab_keep eG12 (by decide) h110
          have h126 := ab_keep eG12 (by decide) h126
          have hlen := ab_klen eG12 hlen
          have hsl := ab_ksl 60 eG12 h127 rfl rfl hsl
          have hfr := hfr.wr eG12 (by decide)
          have hpk := hpk.wr eG12 (by decide)
          have h127 := ab_kept eG12 h127
          change ab_W _ _ _ (List.set G11 127 (ab_if 60 ((upd (fun _ => 0) (Int32.toNatClampNeg (10 * (xs 1))) 0)))) 179 [some (vR 80), some (vI (xs 1)), some (vI (xs 2)), some (vI 1), some (vI 0), none] [] _
          rw [← eG12]
          obtain ⟨f127_1, h127⟩ : ∃ g : Nat → Int32, G12[127]? = some (ab_if 60 (g)) := ⟨_, h127⟩
          refine ab_iconst (v := 0) d_MO_compile_179 (by decide) ?_
          refine ab_istore d_MO_compile_180 (Nat.le_of_ble_eq_true rfl) (Nat.le_of_ble_eq_true rfl) rfl ?_
          change ab_W _ _ _ G12 182 [some (vR 80), some (vI (xs 1)), some (vI (xs 2)), some (vI 1), some (vI 0), some (vI 0)] [] _
          refine ab_iload d_MO_compile_182 rfl ?_
          refine ab_bipush (v := 12) d_MO_compile_184 (by decide) ?_
          refine ab_icmp_ge (tgt := 226) d_MO_compile_186 (by decide) (fun c => absurd c (by decide)) (fun _ => ?_)
          refine ab_aload_n d_MO_compile_189 rfl ?_
          refine ab_getf (fs := (m_fv (vI 0) (vI 0) (vI 0) (vI 0) (vI 0) (vI 0) (vI 0) (vI 0) (vI 2) (vI 0) (vI ((xs 2) &&& 15)) (vI 0) (vI (-1)) (vI 0) (vI 0) (vI 0) (vI 0) (vI 0) (vI 0) (vI (xs 1)) (vI 0) (vI 0) (vI 0) (vI 0) (vI 0) (vI 0) (vI 0) (vI 0) (vI 0) (vI 0) (vI 0) (vI 0) (vI 0) (vI 0) (vI 0))) f_MO_152 d_MO_compile_190 h80 rfl ?_
          refine ab_bipush (v := 120) d_MO_compile_193 (by decide) ?_
          refine ab_iload_n d_MO_compile_195 rfl ?_
          refine ab_imul d_MO_compile_196 ?_
          refine ab_bipush (v := 12) d_MO_compile_197 (by decide) ?_
          refine ab_iload d_MO_compile_199 rfl ?_
          refine ab_imul d_MO_compile_201 ?_
          refine ab_topi (y := 0) (by decide) ?_
          refine ab_iadd d_MO_compile_202 ?_
          refine ab_topi (y := (120 * (xs 1))) (Int32.add_zero _) ?_
          refine ab_iload d_MO_compile_203 rfl ?_
          refine ab_iadd d_MO_compile_205 ?_
          refine ab_topi (y := (120 * (xs 1))) (Int32.add_zero _) ?_
          refine ab_aload_n d_MO_compile_206 rfl ?_
          refine ab_getf (fs := (m_fv (vI 0) (vI 0) (vI 0) (vI 0) (vI 0) (vI 0) (vI 0) (vI 0) (vI 2) (vI 0) (vI ((xs 2) &&& 15)) (vI 0) (vI (-1)) (vI 0) (vI 0) (vI 0) (vI 0) (vI 0) (vI 0) (vI (xs 1)) (vI 0) (vI 0) (vI 0) (vI 0) (vI 0) (vI 0) (vI 0) (vI 0) (vI 0) (vI 0) (vI 0) (vI 0) (vI 0) (vI 0) (vI 0))) f_MO_103 d_MO_compile_207 h80 rfl ?_
          refine ab_bipush (v := 12) d_MO_compile_210 (by decide) ?_
          refine ab_iload d_MO_compile_212 rfl ?_
          refine ab_imul d_MO_compile_214 ?_
          refine ab_topi (y := 0) (by decide) ?_
          refine ab_iload d_MO_compile_215 rfl ?_
          refine ab_iadd d_MO_compile_217 ?_
          refine ab_topi (y := 0) (by decide) ?_
          refine ab_iald d_MO_compile_218 h110 (by unfold vp_in; decide) ?_
          refine ab_topi (y := 0) rfl ?_
          refine ab_iast d_MO_compile_219 h126 (vp_in_iff.mpr (by have l0 := (show (0 : Int32).toInt = 0 by decide); have l1 := (show (5 : Int32).toInt = 5 by decide); have l2 := (show (31 : Int32).toInt = 31 by decide); have l3 := (show (120 : Int32).toInt = 120 by decide); simp only [Int32.le_iff_toInt_le, Int32.lt_iff_toInt_lt, ← Int32.toInt_inj] at c0 c1 c2 c3 c4 c5 c6 c7; have e0 : Int32.toInt (120 * (xs 1)) = Int32.toInt 120 * Int32.toInt (xs 1) := i32_mul (by simp only [l0, l1, l2, l3]; omega) (by simp only [l0, l1, l2, l3]; omega); (try simp only [l0, l1, l2, l3] at e0); constructor <;> omega)) (by decide) ?_
          obtain ⟨G13, eG13⟩ : ∃ z : ab_G, z = List.set G12 126 (ab_if 720 ((upd (fun _ => 0) (Int32.toNatClampNeg (120 * (xs 1))) 0))) := ⟨_, rfl⟩
          have h80 := ab_keep eG13 (by decide) h80
          have h110 := ab_keep eG13 (by decide) h110
          have h127 := ab_keep eG13 (by decide) h127
          have hlen := ab_klen eG13 hlen
          have hsl := ab_ksl 720 eG13 h126 rfl rfl hsl
          have hfr := hfr.wr eG13 (by decide)
          have hpk := hpk.wr eG13 (by decide)
          have h126 := ab_kept eG13 h126
          change ab_W _ _ _ (List.set G12 126 (ab_if 720 ((upd (fun _ => 0) (Int32.toNatClampNeg (120 * (xs 1))) 0)))) 220 [some (vR 80), some (vI (xs 1)), some (vI (xs 2)), some (vI 1), some (vI 0), some (vI 0)] [] _
          rw [← eG13]
          obtain ⟨f126_2, h126⟩ : ∃ g : Nat → Int32, G13[126]? = some (ab_if 720 (g)) := ⟨_, h126⟩
          refine ab_iinc (v := 1) d_MO_compile_220 rfl (by decide) (Nat.le_of_ble_eq_true rfl) (Nat.le_of_ble_eq_true rfl) rfl ?_
          change ab_W _ _ _ G13 223 [some (vR 80), some (vI (xs 1)), some (vI (xs 2)), some (vI 1), some (vI 0), some (vI 1)] [] _
          refine ab_goto (tgt := 182) d_MO_compile_223 (by decide) ?_
          refine ab_iload d_MO_compile_182 rfl ?_
          refine ab_bipush (v := 12) d_MO_compile_184 (by decide) ?_
          refine ab_icmp_ge (tgt := 226) d_MO_compile_186 (by decide) (fun c => absurd c (by decide)) (fun _ => ?_)
          refine ab_aload_n d_MO_compile_189 rfl ?_
          refine ab_getf (fs := (m_fv (vI 0) (vI 0) (vI 0) (vI 0) (vI 0) (vI 0) (vI 0) (vI 0) (vI 2) (vI 0) (vI ((xs 2) &&& 15)) (vI 0) (vI (-1)) (vI 0) (vI 0) (vI 0) (vI 0) (vI 0) (vI 0) (vI (xs 1)) (vI 0) (vI 0) (vI 0) (vI 0) (vI 0) (vI 0) (vI 0) (vI 0) (vI 0) (vI 0) (vI 0) (vI 0) (vI 0) (vI 0) (vI 0))) f_MO_152 d_MO_compile_190 h80 rfl ?_
          refine ab_bipush (v := 120) d_MO_compile_193 (by decide) ?_
          refine ab_iload_n d_MO_compile_195 rfl ?_
          refine ab_imul d_MO_compile_196 ?_
          refine ab_bipush (v := 12) d_MO_compile_197 (by decide) ?_
          refine ab_iload d_MO_compile_199 rfl ?_
          refine ab_imul d_MO_compile_201 ?_
          refine ab_topi (y := 0) (by decide) ?_
          refine ab_iadd d_MO_compile_202 ?_
          refine ab_topi (y := (120 * (xs 1))) (Int32.add_zero _) ?_
          refine ab_iload d_MO_compile_203 rfl ?_
          refine ab_iadd d_MO_compile_205 ?_
          refine ab_aload_n d_MO_compile_206 rfl ?_
          refine ab_getf (fs := (m_fv (vI 0) (vI 0) (vI 0) (vI 0) (vI 0) (vI 0) (vI 0) (vI 0) (vI 2) (vI 0) (vI ((xs 2) &&& 15)) (vI 0) (vI (-1)) (vI 0) (vI 0) (vI 0) (vI 0) (vI 0) (vI 0) (vI (xs 1)) (vI 0) (vI 0) (vI 0) (vI 0) (vI 0) (vI 0) (vI 0) (vI 0) (vI 0) (vI 0) (vI 0) (vI 0) (vI 0) (vI 0) (vI 0))) f_MO_103 d_MO_compile_207 h80 rfl ?_
          refine ab_bipush (v := 12) d_MO_compile_210 (by decide) ?_
          refine ab_iload d_MO_compile_212 rfl ?_
          refine ab_imul d_MO_compile_214 ?_
          refine ab_topi (y := 0) (by decide) ?_
          refine ab_iload d_MO_compile_215 rfl ?_
          refine ab_iadd d_MO_compile_217 ?_
          refine ab_topi (y := 1) (by decide) ?_
          refine ab_iald d_MO_compile_218 h110 (by unfold vp_in; decide) ?_
          refine ab_topi (y := 0) rfl ?_
          refine ab_iast d_MO_compile_219 h126 (vp_in_iff.mpr (by have l0 := (show (0 : Int32).toInt = 0 by decide); have l1 := (show (1 : Int32).toInt = 1 by decide); have l2 := (show (5 : Int32).toInt = 5 by decide); have l3 := (show (31 : Int32).toInt = 31 by decide); have l4 := (show (120 : Int32).toInt = 120 by decide); simp only [Int32.le_iff_toInt_le, Int32.lt_iff_toInt_lt, ← Int32.toInt_inj] at c0 c1 c2 c3 c4 c5 c6 c7; have e0 : Int32.toInt (120 * (xs 1)) = Int32.toInt 120 * Int32.toInt (xs 1) := i32_mul (by simp only [l0, l1, l2, l3, l4]; omega) (by simp only [l0, l1, l2, l3, l4]; omega); have e1 : Int32.toInt ((120 * (xs 1)) + 1) = Int32.toInt (120 * (xs 1)) + Int32.toInt 1 := i32_add (by simp only [l0, l1, l2, l3, l4, e0]; omega) (by simp only [l0, l1, l2, l3, l4, e0]; omega); (try simp only [l0, l1, l2, l3, l4] at e0 e1); constructor <;> omega)) (by decide) ?_
          obtain ⟨G14, eG14⟩ : ∃ z : ab_G, z = List.set G13 126 (ab_if 720 ((upd f126_2 (Int32.toNatClampNeg ((120 * (xs 1)) + 1)) 0))) := ⟨_, rfl⟩
          have h80 := ab_keep eG14 (by decide) h80
          have h110 := ab_keep eG14 (by decide) h110
          have h127 := ab_keep eG14 (by decide) h127
          have hlen := ab_klen eG14 hlen
          have hsl := ab_ksl 720 eG14 h126 rfl rfl hsl
          have hfr := hfr.wr eG14 (by decide)
          have hpk := hpk.wr eG14 (by decide)
          have h126 := ab_kept eG14 h126
          change ab_W _ _ _ (List.set G13 126 (ab_if 720 ((upd f126_2 (Int32.toNatClampNeg ((120 * (xs 1)) + 1)) 0)))) 220 [some (vR 80), some (vI (xs 1)), some (vI (xs 2)), some (vI 1), some (vI 0), some (vI 1)] [] _
          rw [← eG14]
          obtain ⟨f126_3, h126⟩ : ∃ g : Nat → Int32, G14[126]? = some (ab_if 720 (g)) := ⟨_, h126⟩
          refine ab_iinc (v := 2) d_MO_compile_220 rfl (by decide) (Nat.le_of_ble_eq_true rfl) (Nat.le_of_ble_eq_true rfl) rfl ?_
          change ab_W _ _ _ G14 223 [some (vR 80), some (vI (xs 1)), some (vI (xs 2)), some (vI 1), some (vI 0), some (vI 2)] [] _
          refine ab_goto (tgt := 182) d_MO_compile_223 (by decide) ?_
          refine ab_iload d_MO_compile_182 rfl ?_
          refine ab_bipush (v := 12) d_MO_compile_184 (by decide) ?_
          refine ab_icmp_ge (tgt := 226) d_MO_compile_186 (by decide) (fun c => absurd c (by decide)) (fun _ => ?_)
          refine ab_aload_n d_MO_compile_189 rfl ?_
          refine ab_getf (fs := (m_fv (vI 0) (vI 0) (vI 0) (vI 0) (vI 0) (vI 0) (vI 0) (vI 0) (vI 2) (vI 0) (vI ((xs 2) &&& 15)) (vI 0) (vI (-1)) (vI 0) (vI 0) (vI 0) (vI 0) (vI 0) (vI 0) (vI (xs 1)) (vI 0) (vI 0) (vI 0) (vI 0) (vI 0) (vI 0) (vI 0) (vI 0) (vI 0) (vI 0) (vI 0) (vI 0) (vI 0) (vI 0) (vI 0))) f_MO_152 d_MO_compile_190 h80 rfl ?_
          refine ab_bipush (v := 120) d_MO_compile_193 (by decide) ?_
          refine ab_iload_n d_MO_compile_195 rfl ?_
          refine ab_imul d_MO_compile_196 ?_
          refine ab_bipush (v := 12) d_MO_compile_197 (by decide) ?_
          refine ab_iload d_MO_compile_199 rfl ?_
          refine ab_imul d_MO_compile_201 ?_
          refine ab_topi (y := 0) (by decide) ?_
          refine ab_iadd d_MO_compile_202 ?_
          refine ab_topi (y := (120 * (xs 1))) (Int32.add_zero _) ?_
          refine ab_iload d_MO_compile_203 rfl ?_
          refine ab_iadd d_MO_compile_205 ?_
          refine ab_aload_n d_MO_compile_206 rfl ?_
          refine ab_getf (fs := (m_fv (vI 0) (vI 0) (vI 0) (vI 0) (vI 0) (vI 0) (vI 0) (vI 0) (vI 2) (vI 0) (vI ((xs 2) &&& 15)) (vI 0) (vI (-1)) (vI 0) (vI 0) (vI 0) (vI 0) (vI 0) (vI 0) (vI (xs 1)) (vI 0) (vI 0) (vI 0) (vI 0) (vI 0) (vI 0) (vI 0) (vI 0) (vI 0) (vI 0) (vI 0) (vI 0) (vI 0) (vI 0) (vI 0))) f_MO_103 d_MO_compile_207 h80 rfl ?_
          refine ab_bipush (v := 12) d_MO_compile_210 (by decide) ?_
          refine ab_iload d_MO_compile_212 rfl ?_
          refine ab_imul d_MO_compile_214 ?_
          refine ab_topi (y := 0) (by decide) ?_
          refine ab_iload d_MO_compile_215 rfl ?_
          refine ab_iadd d_MO_compile_217 ?_
          refine ab_topi (y := 2) (by decide) ?_
          refine ab_iald d_MO_compile_218 h110 (by unfold vp_in; decide) ?_
          refine ab_topi (y := 0) rfl ?_
          refine ab_iast d_MO_compile_219 h126 (vp_in_iff.mpr (by have l0 := (show (0 : Int32).toInt = 0 by decide); have l1 := (show (2 : Int32).toInt = 2 by decide); have l2 := (show (5 : Int32).toInt = 5 by decide); have l3 := (show (31 : Int32).toInt = 31 by decide); have l4 := (show (120 : Int32).toInt = 120 by decide); simp only [Int32.le_iff_toInt_le, Int32.lt_iff_toInt_lt, ← Int32.toInt_inj] at c0 c1 c2 c3 c4 c5 c6 c7; have e0 : Int32.toInt (120 * (xs 1)) = Int32.toInt 120 * Int32.toInt (xs 1) := i32_mul (by simp only [l0, l1, l2, l3, l4]; omega) (by simp only [l0, l1, l2, l3, l4]; omega); have e1 : Int32.toInt ((120 * (xs 1)) + 2) = Int32.toInt (120 * (xs 1)) + Int32.toInt 2 := i32_add (by simp only [l0, l1, l2, l3, l4, e0]; omega) (by simp only [l0, l1, l2, l3, l4, e0]; omega); (try simp only [l0, l1, l2, l3, l4] at e0 e1); constructor <;> omega)) (by decide) ?_
          obtain ⟨G15, eG15⟩ : ∃ z : ab_G, z = List.set G14 126 (ab_if 720 ((upd f126_3 (Int32.toNatClampNeg ((120 * (xs 1)) + 2)) 0))) := ⟨_, rfl⟩
          have h80 := ab_keep eG15 (by decide) h80
          have h110 := ab_keep eG15 (by decide) h110
          have h127 := ab_keep eG15 (by decide) h127
          have hlen := ab_klen eG15 hlen
          have hsl := ab_ksl 720 eG15 h126 rfl rfl hsl
          have hfr := hfr.wr eG15 (by decide)
          have hpk := hpk.wr eG15 (by decide)
          have h126 := ab_kept eG15 h126
          change ab_W _ _ _ (List.set G14 126 (ab_if 720 ((upd f126_3 (Int32.toNatClampNeg ((120 * (xs 1)) + 2)) 0)))) 220 [some (vR 80), some (vI (xs 1)), some (vI (xs 2)), some (vI 1), some (vI 0), some (vI 2)] [] _
          rw [← eG15]
          obtain ⟨f126_4, h126⟩ : ∃ g : Nat → Int32, G15[126]? = some (ab_if 720 (g)) := ⟨_, h126⟩
          refine ab_iinc (v := 3) d_MO_compile_220 rfl (by decide) (Nat.le_of_ble_eq_true rfl) (Nat.le_of_ble_eq_true rfl) rfl ?_
          change ab_W _ _ _ G15 223 [some (vR 80), some (vI (xs 1)), some (vI (xs 2)), some (vI 1), some (vI 0), some (vI 3)] [] _
          refine ab_goto (tgt := 182) d_MO_compile_223 (by decide) ?_
          refine ab_iload d_MO_compile_182 rfl ?_
          refine ab_bipush (v := 12) d_MO_compile_184 (by decide) ?_
          refine ab_icmp_ge (tgt := 226) d_MO_compile_186 (by decide) (fun c => absurd c (by decide)) (fun _ => ?_)
          refine ab_aload_n d_MO_compile_189 rfl ?_
          refine ab_getf (fs := (m_fv (vI 0) (vI 0) (vI 0) (vI 0) (vI 0) (vI 0) (vI 0) (vI 0) (vI 2) (vI 0) (vI ((xs 2) &&& 15)) (vI 0) (vI (-1)) (vI 0) (vI 0) (vI 0) (vI 0) (vI 0) (vI 0) (vI (xs 1)) (vI 0) (vI 0) (vI 0) (vI 0) (vI 0) (vI 0) (vI 0) (vI 0) (vI 0) (vI 0) (vI 0) (vI 0) (vI 0) (vI 0) (vI 0))) f_MO_152 d_MO_compile_190 h80 rfl ?_
          refine ab_bipush (v := 120) d_MO_compile_193 (by decide) ?_
          refine ab_iload_n d_MO_compile_195 rfl ?_
          refine ab_imul d_MO_compile_196 ?_
          refine ab_bipush (v := 12) d_MO_compile_197 (by decide) ?_
          refine ab_iload d_MO_compile_199 rfl ?_
          refine ab_imul d_MO_compile_201 ?_
          refine ab_topi (y := 0) (by decide) ?_
          refine ab_iadd d_MO_compile_202 ?_
          refine ab_topi (y := (120 * (xs 1))) (Int32.add_zero _) ?_
          refine ab_iload d_MO_compile_203 rfl ?_
          refine ab_iadd d_MO_compile_205 ?_
          refine ab_aload_n d_MO_compile_206 rfl ?_
          refine ab_getf (fs := (m_fv (vI 0) (vI 0) (vI 0) (vI 0) (vI 0) (vI 0) (vI 0) (vI 0) (vI 2) (vI 0) (vI ((xs 2) &&& 15)) (vI 0) (vI (-1)) (vI 0) (vI 0) (vI 0) (vI 0) (vI 0) (vI 0) (vI (xs 1)) (vI 0) (vI 0) (vI 0) (vI 0) (vI 0) (vI 0) (vI 0) (vI 0) (vI 0) (vI 0) (vI 0) (vI 0) (vI 0) (vI 0) (vI 0))) f_MO_103 d_MO_compile_207 h80 rfl ?_
          refine ab_bipush (v := 12) d_MO_compile_210 (by decide) ?_
          refine ab_iload d_MO_compile_212 rfl ?_
          refine ab_imul d_MO_compile_214 ?_
          refine ab_topi (y := 0) (by decide) ?_
          refine ab_iload d_MO_compile_215 rfl ?_
          refine ab_iadd d_MO_compile_217 ?_
          refine ab_topi (y := 3) (by decide) ?_
          refine ab_iald d_MO_compile_218 h110 (by unfold vp_in; decide) ?_
          refine ab_topi (y := 0) rfl ?_
          refine ab_iast d_MO_compile_219 h126 (vp_in_iff.mpr (by have l0 := (show (0 : Int32).toInt = 0 by decide); have l1 := (show (3 : Int32).toInt = 3 by decide); have l2 := (show (5 : Int32).toInt = 5 by decide); have l3 := (show (31 : Int32).toInt = 31 by decide); have l4 := (show (120 : Int32).toInt = 120 by decide); simp only [Int32.le_iff_toInt_le, Int32.lt_iff_toInt_lt, ← Int32.toInt_inj] at c0 c1 c2 c3 c4 c5 c6 c7; have e0 : Int32.toInt (120 * (xs 1)) = Int32.toInt 120 * Int32.toInt (xs 1) := i32_mul (by simp only [l0, l1, l2, l3, l4]; omega) (by simp only [l0, l1, l2, l3, l4]; omega); have e1 : Int32.toInt ((120 * (xs 1)) + 3) = Int32.toInt (120 * (xs 1)) + Int32.toInt 3 := i32_add (by simp only [l0, l1, l2, l3, l4, e0]; omega) (by simp only [l0, l1, l2, l3, l4, e0]; omega); (try simp only [l0, l1, l2, l3, l4] at e0 e1); constructor <;> omega)) (by decide) ?_
          obtain ⟨G16, eG16⟩ : ∃ z : ab_G, z = List.set G15 126 (ab_if 720 ((upd f126_4 (Int32.toNatClampNeg ((120 * (xs 1)) + 3)) 0))) := ⟨_, rfl⟩
          have h80 := ab_keep eG16 (by decide) h80
          have h110 := ab_keep eG16 (by decide) h110
          have h127 := ab_keep eG16 (by decide) h127
          have hlen := ab_klen eG16 hlen
          have hsl := ab_ksl 720 eG16 h126 rfl rfl hsl
          have hfr := hfr.wr eG16 (by decide)
          have hpk := hpk.wr eG16 (by decide)
          have h126 := ab_kept eG16 h126
          change ab_W _ _ _ (List.set G15 126 (ab_if 720 ((upd f126_4 (Int32.toNatClampNeg ((120 * (xs 1)) + 3)) 0)))) 220 [some (vR 80), some (vI (xs 1)), some (vI (xs 2)), some (vI 1), some (vI 0), some (vI 3)] [] _
          rw [← eG16]
          obtain ⟨f126_5, h126⟩ : ∃ g : Nat → Int32, G16[126]? = some (ab_if 720 (g)) := ⟨_, h126⟩
          refine ab_iinc (v := 4) d_MO_compile_220 rfl (by decide) (Nat.le_of_ble_eq_true rfl) (Nat.le_of_ble_eq_true rfl) rfl ?_
          change ab_W _ _ _ G16 223 [some (vR 80), some (vI (xs 1)), some (vI (xs 2)), some (vI 1), some (vI 0), some (vI 4)] [] _
          refine ab_goto (tgt := 182) d_MO_compile_223 (by decide) ?_
          refine ab_iload d_MO_compile_182 rfl ?_
          refine ab_bipush (v := 12) d_MO_compile_184 (by decide) ?_
          refine ab_icmp_ge (tgt := 226) d_MO_compile_186 (by decide) (fun c => absurd c (by decide)) (fun _ => ?_)
          refine ab_aload_n d_MO_compile_189 rfl ?_
          refine ab_getf (fs := (m_fv (vI 0) (vI 0) (vI 0) (vI 0) (vI 0) (vI 0) (vI 0) (vI 0) (vI 2) (vI 0) (vI ((xs 2) &&& 15)) (vI 0) (vI (-1)) (vI 0) (vI 0) (vI 0) (vI 0) (vI 0) (vI 0) (vI (xs 1)) (vI 0) (vI 0) (vI 0) (vI 0) (vI 0) (vI 0) (vI 0) (vI 0) (vI 0) (vI 0) (vI 0) (vI 0) (vI 0) (vI 0) (vI 0))) f_MO_152 d_MO_compile_190 h80 rfl ?_
          refine ab_bipush (v := 120) d_MO_compile_193 (by decide) ?_
          refine ab_iload_n d_MO_compile_195 rfl ?_
          refine ab_imul d_MO_compile_196 ?_
          refine ab_bipush (v := 12) d_MO_compile_197 (by decide) ?_
          refine ab_iload d_MO_compile_199 rfl ?_
          refine ab_imul d_MO_compile_201 ?_
          refine ab_topi (y := 0) (by decide) ?_
          refine ab_iadd d_MO_compile_202 ?_
          refine ab_topi (y := (120 * (xs 1))) (Int32.add_zero _) ?_
          refine ab_iload d_MO_compile_203 rfl ?_
          refine ab_iadd d_MO_compile_205 ?_
          refine ab_aload_n d_MO_compile_206 rfl ?_
          refine ab_getf (fs := (m_fv (vI 0) (vI 0) (vI 0) (vI 0) (vI 0) (vI 0) (vI 0) (vI 0) (vI 2) (vI 0) (vI ((xs 2) &&& 15)) (vI 0) (vI (-1)) (vI 0) (vI 0) (vI 0) (vI 0) (vI 0) (vI 0) (vI (xs 1)) (vI 0) (vI 0) (vI 0) (vI 0) (vI 0) (vI 0) (vI 0) (vI 0) (vI 0) (vI 0) (vI 0) (vI 0) (vI 0) (vI 0) (vI 0))) f_MO_103 d_MO_compile_207 h80 rfl ?_
          refine ab_bipush (v := 12) d_MO_compile_210 (by decide) ?_
          refine ab_iload d_MO_compile_212 rfl ?_
          refine ab_imul d_MO_compile_214 ?_
          refine ab_topi (y := 0) (by decide) ?_
          refine ab_iload d_MO_compile_215 rfl ?_
          refine ab_iadd d_MO_compile_217 ?_
          refine ab_topi (y := 4) (by decide) ?_
          refine ab_iald d_MO_compile_218 h110 (by unfold vp_in; decide) ?_
          refine ab_topi (y := 0) rfl ?_
          refine ab_iast d_MO_compile_219 h126 (vp_in_iff.mpr (by have l0 := (show (0 : Int32).toInt = 0 by decide); have l1 := (show (4 : Int32).toInt = 4 by decide); have l2 := (show (5 : Int32).toInt = 5 by decide); have l3 := (show (31 : Int32).toInt = 31 by decide); have l4 := (show (120 : Int32).toInt = 120 by decide); simp only [Int32.le_iff_toInt_le, Int32.lt_iff_toInt_lt, ← Int32.toInt_inj] at c0 c1 c2 c3 c4 c5 c6 c7; have e0 : Int32.toInt (120 * (xs 1)) = Int32.toInt 120 * Int32.toInt (xs 1) := i32_mul (by simp only [l0, l1, l2, l3, l4]; omega) (by simp only [l0, l1, l2, l3, l4]; omega); have e1 : Int32.toInt ((120 * (xs 1)) + 4) = Int32.toInt (120 * (xs 1)) + Int32.toInt 4 := i32_add (by simp only [l0, l1, l2, l3, l4, e0]; omega) (by simp only [l0, l1, l2, l3, l4, e0]; omega); (try simp only [l0, l1, l2, l3, l4] at e0 e1); constructor <;> omega)) (by decide) ?_
          obtain ⟨G17, eG17⟩ : ∃ z : ab_G, z = List.set G16 126 (ab_if 720 ((upd f126_5 (Int32.toNatClampNeg ((120 * (xs 1)) + 4)) 0))) := ⟨_, rfl⟩
          have h80 := ab_keep eG17 (by decide) h80
          have h110 := ab_keep eG17 (by decide) h110
          have h127 := ab_keep eG17 (by decide) h127
          have hlen := ab_klen eG17 hlen
          have hsl := ab_ksl 720 eG17 h126 rfl rfl hsl
          have hfr := hfr.wr eG17 (by decide)
          have hpk := hpk.wr eG17 (by decide)
          have h126 := ab_kept eG17 h126
          change ab_W _ _ _ (List.set G16 126 (ab_if 720 ((upd f126_5 (Int32.toNatClampNeg ((120 * (xs 1)) + 4)) 0)))) 220 [some (vR 80), some (vI (xs 1)), some (vI (xs 2)), some (vI 1), some (vI 0), some (vI 4)] [] _
          rw [← eG17]
          obtain ⟨f126_6, h126⟩ : ∃ g : Nat → Int32, G17[126]? = some (ab_if 720 (g)) := ⟨_, h126⟩
          refine ab_iinc (v := 5) d_MO_compile_220 rfl (by decide) (Nat.le_of_ble_eq_true rfl) (Nat.le_of_ble_eq_true rfl) rfl ?_
          change ab_W _ _ _ G17 223 [some (vR 80), some (vI (xs 1)), some (vI (xs 2)), some (vI 1), some (vI 0), some (vI 5)] [] _
          refine ab_goto (tgt := 182) d_MO_compile_223 (by decide) ?_
          refine ab_iload d_MO_compile_182 rfl ?_
          refine ab_bipush (v := 12) d_MO_compile_184 (by decide) ?_
          refine ab_icmp_ge (tgt := 226) d_MO_compile_186 (by decide) (fun c => absurd c (by decide)) (fun _ => ?_)
          refine ab_aload_n d_MO_compile_189 rfl ?_
          refine ab_getf (fs := (m_fv (vI 0) (vI 0) (vI 0) (vI 0) (vI 0) (vI 0) (vI 0) (vI 0) (vI 2) (vI 0) (vI ((xs 2) &&& 15)) (vI 0) (vI (-1)) (vI 0) (vI 0) (vI 0) (vI 0) (vI 0) (vI 0) (vI (xs 1)) (vI 0) (vI 0) (vI 0) (vI 0) (vI 0) (vI 0) (vI 0) (vI 0) (vI 0) (vI 0) (vI 0) (vI 0) (vI 0) (vI 0) (vI 0))) f_MO_152 d_MO_compile_190 h80 rfl ?_
          refine ab_bipush (v := 120) d_MO_compile_193 (by decide) ?_
          refine ab_iload_n d_MO_compile_195 rfl ?_
          refine ab_imul d_MO_compile_196 ?_
          refine ab_bipush (v := 12) d_MO_compile_197 (by decide) ?_
          refine ab_iload d_MO_compile_199 rfl ?_
          refine ab_imul d_MO_compile_201 ?_
          refine ab_topi (y := 0) (by decide) ?_
          refine ab_iadd d_MO_compile_202 ?_
          refine ab_topi (y := (120 * (xs 1))) (Int32.add_zero _) ?_
          refine ab_iload d_MO_compile_203 rfl ?_
          refine ab_iadd d_MO_compile_205 ?_
          refine ab_aload_n d_MO_compile_206 rfl ?_
          refine ab_getf (fs := (m_fv (vI 0) (vI 0) (vI 0) (vI 0) (vI 0) (vI 0) (vI 0) (vI 0) (vI 2) (vI 0) (vI ((xs 2) &&& 15)) (vI 0) (vI (-1)) (vI 0) (vI 0) (vI 0) (vI 0) (vI 0) (vI 0) (vI (xs 1)) (vI 0) (vI 0) (vI 0) (vI 0) (vI 0) (vI 0) (vI 0) (vI 0) (vI 0) (vI 0) (vI 0) (vI 0) (vI 0) (vI 0) (vI 0))) f_MO_103 d_MO_compile_207 h80 rfl ?_
          refine ab_bipush (v := 12) d_MO_compile_210 (by decide) ?_
          refine ab_iload d_MO_compile_212 rfl ?_
          refine ab_imul d_MO_compile_214 ?_
          refine ab_topi (y := 0) (by decide) ?_
          refine ab_iload d_MO_compile_215 rfl ?_
          refine ab_iadd d_MO_compile_217 ?_
          refine ab_topi (y := 5) (by decide) ?_
          refine ab_iald d_MO_compile_218 h110 (by unfold vp_in; decide) ?_
          refine ab_topi (y := 0) rfl ?_
          refine ab_iast d_MO_compile_219 h126 (vp_in_iff.mpr (by have l0 := (show (0 : Int32).toInt = 0 by decide); have l1 := (show (5 : Int32).toInt = 5 by decide); have l2 := (show (31 : Int32).toInt = 31 by decide); have l3 := (show (120 : Int32).toInt = 120 by decide); simp only [Int32.le_iff_toInt_le, Int32.lt_iff_toInt_lt, ← Int32.toInt_inj] at c0 c1 c2 c3 c4 c5 c6 c7; have e0 : Int32.toInt (120 * (xs 1)) = Int32.toInt 120 * Int32.toInt (xs 1) := i32_mul (by simp only [l0, l1, l2, l3]; omega) (by simp only [l0, l1, l2, l3]; omega); have e1 : Int32.toInt ((120 * (xs 1)) + 5) = Int32.toInt (120 * (xs 1)) + Int32.toInt 5 := i32_add (by simp only [l0, l1, l2, l3, e0]; omega) (by simp only [l0, l1, l2, l3, e0]; omega); (try simp only [l0, l1, l2, l3] at e0 e1); constructor <;> omega)) (by decide) ?_
          obtain ⟨G18, eG18⟩ : ∃ z : ab_G, z = List.set G17 126 (ab_if 720 ((upd f126_6 (Int32.toNatClampNeg ((120 * (xs 1)) + 5)) 0))) := ⟨_, rfl⟩
          have h80 := ab_keep eG18 (by decide) h80
          have h110 := ab_keep eG18 (by decide) h110
          have h127 := ab_keep eG18 (by decide) h127
          have hlen := ab_klen eG18 hlen
          have hsl := ab_ksl 720 eG18 h126 rfl rfl hsl
          have hfr := hfr.wr eG18 (by decide)
          have hpk := hpk.wr eG18 (by decide)
          have h126 := ab_kept eG18 h126
          change ab_W _ _ _ (List.set G17 126 (ab_if 720 ((upd f126_6 (Int32.toNatClampNeg ((120 * (xs 1)) + 5)) 0)))) 220 [some (vR 80), some (vI (xs 1)), some (vI (xs 2)), some (vI 1), some (vI 0), some (vI 5)] [] _
          rw [← eG18]
          obtain ⟨f126_7, h126⟩ : ∃ g : Nat → Int32, G18[126]? = some (ab_if 720 (g)) := ⟨_, h126⟩
          refine ab_iinc (v := 6) d_MO_compile_220 rfl (by decide) (Nat.le_of_ble_eq_true rfl) (Nat.le_of_ble_eq_true rfl) rfl ?_
          change ab_W _ _ _ G18 223 [some (vR 80), some (vI (xs 1)), some (vI (xs 2)), some (vI 1), some (vI 0), some (vI 6)] [] _
          refine ab_goto (tgt := 182) d_MO_compile_223 (by decide) ?_
          refine ab_iload d_MO_compile_182 rfl ?_
          refine ab_bipush (v := 12) d_MO_compile_184 (by decide) ?_
          refine ab_icmp_ge (tgt := 226) d_MO_compile_186 (by decide) (fun c => absurd c (by decide)) (fun _ => ?_)
          refine ab_aload_n d_MO_compile_189 rfl ?_
          refine ab_getf (fs := (m_fv (vI 0) (vI 0) (vI 0) (vI 0) (vI 0) (vI 0) (vI 0) (vI 0) (vI 2) (vI 0) (vI ((xs 2) &&& 15)) (vI 0) (vI (-1)) (vI 0) (vI 0) (vI 0) (vI 0) (vI 0) (vI 0) (vI (xs 1)) (vI 0) (vI 0) (vI 0) (vI 0) (vI 0) (vI 0) (vI 0) (vI 0) (vI 0) (vI 0) (vI 0) (vI 0) (vI 0) (vI 0) (vI 0))) f_MO_152 d_MO_compile_190 h80 rfl ?_
          refine ab_bipush (v := 120) d_MO_compile_193 (by decide) ?_
          refine ab_iload_n d_MO_compile_195 rfl ?_
          refine ab_imul d_MO_compile_196 ?_
          refine ab_bipush (v := 12) d_MO_compile_197 (by decide) ?_
          refine ab_iload d_MO_compile_199 rfl ?_
          refine ab_imul d_MO_compile_201 ?_
          refine ab_topi (y := 0) (by decide) ?_
          refine ab_iadd d_MO_compile_202 ?_
          refine ab_topi (y := (120 * (xs 1))) (Int32.add_zero _) ?_
          refine ab_iload d_MO_compile_203 rfl ?_
          refine ab_iadd d_MO_compile_205 ?_
          refine ab_aload_n d_MO_compile_206 rfl ?_
          refine ab_getf (fs := (m_fv (vI 0) (vI 0) (vI 0) (vI 0) (vI 0) (vI 0) (vI 0) (vI 0) (vI 2) (vI 0) (vI ((xs 2) &&& 15)) (vI 0) (vI (-1)) (vI 0) (vI 0) (vI 0) (vI 0) (vI 0) (vI 0) (vI (xs 1)) (vI 0) (vI 0) (vI 0) (vI 0) (vI 0) (vI 0) (vI 0) (vI 0) (vI 0) (vI 0) (vI 0) (vI 0) (vI 0) (vI 0) (vI 0))) f_MO_103 d_MO_compile_207 h80 rfl ?_
          refine ab_bipush (v := 12) d_MO_compile_210 (by decide) ?_
          refine ab_iload d_MO_compile_212 rfl ?_
          refine ab_imul d_MO_compile_214 ?_
          refine ab_topi (y := 0) (by decide) ?_
          refine ab_iload d_MO_compile_215 rfl ?_
          refine ab_iadd d_MO_compile_217 ?_
          refine ab_topi (y := 6) (by decide) ?_
          refine ab_iald d_MO_compile_218 h110 (by unfold vp_in; decide) ?_
          refine ab_topi (y := 0) rfl ?_
          refine ab_iast d_MO_compile_219 h126 (vp_in_iff.mpr (by have l0 := (show (0 : Int32).toInt = 0 by decide); have l1 := (show (5 : Int32).toInt = 5 by decide); have l2 := (show (6 : Int32).toInt = 6 by decide); have l3 := (show (31 : Int32).toInt = 31 by decide); have l4 := (show (120 : Int32).toInt = 120 by decide); simp only [Int32.le_iff_toInt_le, Int32.lt_iff_toInt_lt, ← Int32.toInt_inj] at c0 c1 c2 c3 c4 c5 c6 c7; have e0 : Int32.toInt (120 * (xs 1)) = Int32.toInt 120 * Int32.toInt (xs 1) := i32_mul (by simp only [l0, l1, l2, l3, l4]; omega) (by simp only [l0, l1, l2, l3, l4]; omega); have e1 : Int32.toInt ((120 * (xs 1)) + 6) = Int32.toInt (120 * (xs 1)) + Int32.toInt 6 := i32_add (by simp only [l0, l1, l2, l3, l4, e0]; omega) (by simp only [l0, l1, l2, l3, l4, e0]; omega); (try simp only [l0, l1, l2, l3, l4] at e0 e1); constructor <;> omega)) (by decide) ?_
          obtain ⟨G19, eG19⟩ : ∃ z : ab_G, z = List.set G18 126 (ab_if 720 ((upd f126_7 (Int32.toNatClampNeg ((120 * (xs 1)) + 6)) 0))) := ⟨_, rfl⟩
          have h80 := ab_keep eG19 (by decide) h80
          have h110 := ab_keep eG19 (by decide) h110
          have h127 := ab_keep eG19 (by decide) h127
          have hlen := ab_klen eG19 hlen
          have hsl := ab_ksl 720 eG19 h126 rfl rfl hsl
          have hfr := hfr.wr eG19 (by decide)
          have hpk := hpk.wr eG19 (by decide)
          have h126 := ab_kept eG19 h126
          change ab_W _ _ _ (List.set G18 126 (ab_if 720 ((upd f126_7 (Int32.toNatClampNeg ((120 * (xs 1)) + 6)) 0)))) 220 [some (vR 80), some (vI (xs 1)), some (vI (xs 2)), some (vI 1), some (vI 0), some (vI 6)] [] _
          rw [← eG19]
          obtain ⟨f126_8, h126⟩ : ∃ g : Nat → Int32, G19[126]? = some (ab_if 720 (g)) := ⟨_, h126⟩
          refine ab_iinc (v := 7) d_MO_compile_220 rfl (by decide) (Nat.le_of_ble_eq_true rfl) (Nat.le_of_ble_eq_true rfl) rfl ?_
          change ab_W _ _ _ G19 223 [some (vR 80), some (vI (xs 1)), some (vI (xs 2)), some (vI 1), some (vI 0), some (vI 7)] [] _
          refine ab_goto (tgt := 182) d_MO_compile_223 (by decide) ?_
          refine ab_iload d_MO_compile_182 rfl ?_
          refine ab_bipush (v := 12) d_MO_compile_184 (by decide) ?_
          refine ab_icmp_ge (tgt := 226) d_MO_compile_186 (by decide) (fun c => absurd c (by decide)) (fun _ => ?_)
          refine ab_aload_n d_MO_compile_189 rfl ?_
          refine ab_getf (fs := (m_fv (vI 0) (vI 0) (vI 0) (vI 0) (vI 0) (vI 0) (vI 0) (vI 0) (vI 2) (vI 0) (vI ((xs 2) &&& 15)) (vI 0) (vI (-1)) (vI 0) (vI 0) (vI 0) (vI 0) (vI 0) (vI 0) (vI (xs 1)) (vI 0) (vI 0) (vI 0) (vI 0) (vI 0) (vI 0) (vI 0) (vI 0) (vI 0) (vI 0) (vI 0) (vI 0) (vI 0) (vI 0) (vI 0))) f_MO_152 d_MO_compile_190 h80 rfl ?_
          refine ab_bipush (v := 120) d_MO_compile_193 (by decide) ?_
          refine ab_iload_n d_MO_compile_195 rfl ?_
          refine ab_imul d_MO_compile_196 ?_
          refine ab_bipush (v := 12) d_MO_compile_197 (by decide) ?_
          refine ab_iload d_MO_compile_199 rfl ?_
          refine ab_imul d_MO_compile_201 ?_
          refine ab_topi (y := 0) (by decide) ?_
          refine ab_iadd d_MO_compile_202 ?_
          refine ab_topi (y := (120 * (xs 1))) (Int32.add_zero _) ?_
          refine ab_iload d_MO_compile_203 rfl ?_
          refine ab_iadd d_MO_compile_205 ?_
          refine ab_aload_n d_MO_compile_206 rfl ?_
          refine ab_getf (fs := (m_fv (vI 0) (vI 0) (vI 0) (vI 0) (vI 0) (vI 0) (vI 0) (vI 0) (vI 2) (vI 0) (vI ((xs 2) &&& 15)) (vI 0) (vI (-1)) (vI 0) (vI 0) (vI 0) (vI 0) (vI 0) (vI 0) (vI (xs 1)) (vI 0) (vI 0) (vI 0) (vI 0) (vI 0) (vI 0) (vI 0) (vI 0) (vI 0) (vI 0) (vI 0) (vI 0) (vI 0) (vI 0) (vI 0))) f_MO_103 d_MO_compile_207 h80 rfl ?_
          refine ab_bipush (v := 12) d_MO_compile_210 (by decide) ?_
          refine ab_iload d_MO_compile_212 rfl ?_
          refine ab_imul d_MO_compile_214 ?_
          refine ab_topi (y := 0) (by decide) ?_
          refine ab_iload d_MO_compile_215 rfl ?_
          refine ab_iadd d_MO_compile_217 ?_
          refine ab_topi (y := 7) (by decide) ?_
          refine ab_iald d_MO_compile_218 h110 (by unfold vp_in; decide) ?_
          refine ab_topi (y := 0) rfl ?_
          refine ab_iast d_MO_compile_219 h126 (vp_in_iff.mpr (by have l0 := (show (0 : Int32).toInt = 0 by decide); have l1 := (show (5 : Int32).toInt = 5 by decide); have l2 := (show (7 : Int32).toInt = 7 by decide); have l3 := (show (31 : Int32).toInt = 31 by decide); have l4 := (show (120 : Int32).toInt = 120 by decide); simp only [Int32.le_iff_toInt_le, Int32.lt_iff_toInt_lt, ← Int32.toInt_inj] at c0 c1 c2 c3 c4 c5 c6 c7; have e0 : Int32.toInt (120 * (xs 1)) = Int32.toInt 120 * Int32.toInt (xs 1) := i32_mul (by simp only [l0, l1, l2, l3, l4]; omega) (by simp only [l0, l1, l2, l3, l4]; omega); have e1 : Int32.toInt ((120 * (xs 1)) + 7) = Int32.toInt (120 * (xs 1)) + Int32.toInt 7 := i32_add (by simp only [l0, l1, l2, l3, l4, e0]; omega) (by simp only [l0, l1, l2, l3, l4, e0]; omega); (try simp only [l0, l1, l2, l3, l4] at e0 e1); constructor <;> omega)) (by decide) ?_
          obtain ⟨G20, eG20⟩ : ∃ z : ab_G, z = List.set G19 126 (ab_if 720 ((upd f126_8 (Int32.toNatClampNeg ((120 * (xs 1)) + 7)) 0))) := ⟨_, rfl⟩
          have h80 := ab_keep eG20 (by decide) h80
          have h110 := ab_keep eG20 (by decide) h110
          have h127 := ab_keep eG20 (by decide) h127
          have hlen := ab_klen eG20 hlen
          have hsl := ab_ksl 720 eG20 h126 rfl rfl hsl
          have hfr := hfr.wr eG20 (by decide)
          have hpk := hpk.wr eG20 (by decide)
          have h126 := ab_kept eG20 h126
          change ab_W _ _ _ (List.set G19 126 (ab_if 720 ((upd f126_8 (Int32.toNatClampNeg ((120 * (xs 1)) + 7)) 0)))) 220 [some (vR 80), some (vI (xs 1)), some (vI (xs 2)), some (vI 1), some (vI 0), some (vI 7)] [] _
          rw [← eG20]
          obtain ⟨f126_9, h126⟩ : ∃ g : Nat → Int32, G20[126]? = some (ab_if 720 (g)) := ⟨_, h126⟩
          refine ab_iinc (v := 8) d_MO_compile_220 rfl (by decide) (Nat.le_of_ble_eq_true rfl) (Nat.le_of_ble_eq_true rfl) rfl ?_
          change ab_W _ _ _ G20 223 [some (vR 80), some (vI (xs 1)), some (vI (xs 2)), some (vI 1), some (vI 0), some (vI 8)] [] _
          refine ab_goto (tgt := 182) d_MO_compile_223 (by decide) ?_
          refine ab_iload d_MO_compile_182 rfl ?_
          refine ab_bipush (v := 12) d_MO_compile_184 (by decide) ?_
          refine ab_icmp_ge (tgt := 226) d_MO_compile_186 (by decide) (fun c => absurd c (by decide)) (fun _ => ?_)
          refine ab_aload_n d_MO_compile_189 rfl ?_
          refine ab_getf (fs := (m_fv (vI 0) (vI 0) (vI 0) (vI 0) (vI 0) (vI 0) (vI 0) (vI 0) (vI 2) (vI 0) (vI ((xs 2) &&& 15)) (vI 0) (vI (-1)) (vI 0) (vI 0) (vI 0) (vI 0) (vI 0) (vI 0) (vI (xs 1)) (vI 0) (vI 0) (vI 0) (vI 0) (vI 0) (vI 0) (vI 0) (vI 0) (vI 0) (vI 0) (vI 0) (vI 0) (vI 0) (vI 0) (vI 0))) f_MO_152 d_MO_compile_190 h80 rfl ?_
          refine ab_bipush (v := 120) d_MO_compile_193 (by decide) ?_
          refine ab_iload_n d_MO_compile_195 rfl ?_
          refine ab_imul d_MO_compile_196 ?_
          refine ab_bipush (v := 12) d_MO_compile_197 (by decide) ?_
          refine ab_iload d_MO_compile_199 rfl ?_
          refine ab_imul d_MO_compile_201 ?_
          refine ab_topi (y := 0) (by decide) ?_
          refine ab_iadd d_MO_compile_202 ?_
          refine ab_topi (y := (120 * (xs 1))) (Int32.add_zero _) ?_
          refine ab_iload d_MO_compile_203 rfl ?_
          refine ab_iadd d_MO_compile_205 ?_
          refine ab_aload_n d_MO_compile_206 rfl ?_
          refine ab_getf (fs := (m_fv (vI 0) (vI 0) (vI 0) (vI 0) (vI 0) (vI 0) (vI 0) (vI 0) (vI 2) (vI 0) (vI ((xs 2) &&& 15)) (vI 0) (vI (-1)) (vI 0) (vI 0) (vI 0) (vI 0) (vI 0) (vI 0) (vI (xs 1)) (vI 0) (vI 0) (vI 0) (vI 0) (vI 0) (vI 0) (vI 0) (vI 0) (vI 0) (vI 0) (vI 0) (vI 0) (vI 0) (vI 0) (vI 0))) f_MO_103 d_MO_compile_207 h80 rfl ?_
          refine ab_bipush (v := 12) d_MO_compile_210 (by decide) ?_
          refine ab_iload d_MO_compile_212 rfl ?_
          refine ab_imul d_MO_compile_214 ?_
          refine ab_topi (y := 0) (by decide) ?_
          refine ab_iload d_MO_compile_215 rfl ?_
          refine ab_iadd d_MO_compile_217 ?_
          refine ab_topi (y := 8) (by decide) ?_
          refine ab_iald d_MO_compile_218 h110 (by unfold vp_in; decide) ?_
          refine ab_topi (y := 0) rfl ?_
          refine ab_iast d_MO_compile_219 h126 (vp_in_iff.mpr (by have l0 := (show (0 : Int32).toInt = 0 by decide); have l1 := (show (5 : Int32).toInt = 5 by decide); have l2 := (show (8 : Int32).toInt = 8 by decide); have l3 := (show (31 : Int32).toInt = 31 by decide); have l4 := (show (120 : Int32).toInt = 120 by decide); simp only [Int32.le_iff_toInt_le, Int32.lt_iff_toInt_lt, ← Int32.toInt_inj] at c0 c1 c2 c3 c4 c5 c6 c7; have e0 : Int32.toInt (120 * (xs 1)) = Int32.toInt 120 * Int32.toInt (xs 1) := i32_mul (by simp only [l0, l1, l2, l3, l4]; omega) (by simp only [l0, l1, l2, l3, l4]; omega); have e1 : Int32.toInt ((120 * (xs 1)) + 8) = Int32.toInt (120 * (xs 1)) + Int32.toInt 8 := i32_add (by simp only [l0, l1, l2, l3, l4, e0]; omega) (by simp only [l0, l1, l2, l3, l4, e0]; omega); (try simp only [l0, l1, l2, l3, l4] at e0 e1); constructor <;> omega)) (by decide) ?_
          obtain ⟨G21, eG21⟩ : ∃ z : ab_G, z = List.set G20 126 (ab_if 720 ((upd f126_9 (Int32.toNatClampNeg ((120 * (xs 1)) + 8)) 0))) := ⟨_, rfl⟩
          have h80 := ab_keep eG21 (by decide) h80
          have h110 := ab_keep eG21 (by decide) h110
          have h127 := ab_keep eG21 (by decide) h127
          have hlen := ab_klen eG21 hlen
          have hsl := ab_ksl 720 eG21 h126 rfl rfl hsl
          have hfr := hfr.wr eG21 (by decide)
          have hpk := hpk.wr eG21 (by decide)
          have h126 := ab_kept eG21 h126
          change ab_W _ _ _ (List.set G20 126 (ab_if 720 ((upd f126_9 (Int32.toNatClampNeg ((120 * (xs 1)) + 8)) 0)))) 220 [some (vR 80), some (vI (xs 1)), some (vI (xs 2)), some (vI 1), some (vI 0), some (vI 8)] [] _
          rw [← eG21]
          obtain ⟨f126_10, h126⟩ : ∃ g : Nat → Int32, G21[126]? = some (ab_if 720 (g)) := ⟨_, h126⟩
          refine ab_iinc (v := 9) d_MO_compile_220 rfl (by decide) (Nat.le_of_ble_eq_true rfl) (Nat.le_of_ble_eq_true rfl) rfl ?_
          change ab_W _ _ _ G21 223 [some (vR 80), some (vI (xs 1)), some (vI (xs 2)), some (vI 1), some (vI 0), some (vI 9)] [] _
          refine ab_goto (tgt := 182) d_MO_compile_223 (by decide) ?_
          refine ab_iload d_MO_compile_182 rfl ?_
          refine ab_bipush (v := 12) d_MO_compile_184 (by decide) ?_
          refine ab_icmp_ge (tgt := 226) d_MO_compile_186 (by decide) (fun c => absurd c (by decide)) (fun _ => ?_)
          refine ab_aload_n d_MO_compile_189 rfl ?_
          refine ab_getf (fs := (m_fv (vI 0) (vI 0) (vI 0) (vI 0) (vI 0) (vI 0) (vI 0) (vI 0) (vI 2) (vI 0) (vI ((xs 2) &&& 15)) (vI 0) (vI (-1)) (vI 0) (vI 0) (vI 0) (vI 0) (vI 0) (vI 0) (vI (xs 1)) (vI 0) (vI 0) (vI 0) (vI 0) (vI 0) (vI 0) (vI 0) (vI 0) (vI 0) (vI 0) (vI 0) (vI 0) (vI 0) (vI 0) (vI 0))) f_MO_152 d_MO_compile_190 h80 rfl ?_
          refine ab_bipush (v := 120) d_MO_compile_193 (by decide) ?_
          refine ab_iload_n d_MO_compile_195 rfl ?_
          refine ab_imul d_MO_compile_196 ?_
          refine ab_bipush (v := 12) d_MO_compile_197 (by decide) ?_
          refine ab_iload d_MO_compile_199 rfl ?_
          refine ab_imul d_MO_compile_201 ?_
          refine ab_topi (y := 0) (by decide) ?_
          refine ab_iadd d_MO_compile_202 ?_
          refine ab_topi (y := (120 * (xs 1))) (Int32.add_zero _) ?_
          refine ab_iload d_MO_compile_203 rfl ?_
          refine ab_iadd d_MO_compile_205 ?_
          refine ab_aload_n d_MO_compile_206 rfl ?_
          refine ab_getf (fs := (m_fv (vI 0) (vI 0) (vI 0) (vI 0) (vI 0) (vI 0) (vI 0) (vI 0) (vI 2) (vI 0) (vI ((xs 2) &&& 15)) (vI 0) (vI (-1)) (vI 0) (vI 0) (vI 0) (vI 0) (vI 0) (vI 0) (vI (xs 1)) (vI 0) (vI 0) (vI 0) (vI 0) (vI 0) (vI 0) (vI 0) (vI 0) (vI 0) (vI 0) (vI 0) (vI 0) (vI 0) (vI 0) (vI 0))) f_MO_103 d_MO_compile_207 h80 rfl ?_
          refine ab_bipush (v := 12) d_MO_compile_210 (by decide) ?_
          refine ab_iload d_MO_compile_212 rfl ?_
          refine ab_imul d_MO_compile_214 ?_
          refine ab_topi (y := 0) (by decide) ?_
          refine ab_iload d_MO_compile_215 rfl ?_
          refine ab_iadd d_MO_compile_217 ?_
          refine ab_topi (y := 9) (by decide) ?_
          refine ab_iald d_MO_compile_218 h110 (by unfold vp_in; decide) ?_
          refine ab_topi (y := 0) rfl ?_
          refine ab_iast d_MO_compile_219 h126 (vp_in_iff.mpr (by have l0 := (show (0 : Int32).toInt = 0 by decide); have l1 := (show (5 : Int32).toInt = 5 by decide); have l2 := (show (9 : Int32).toInt = 9 by decide); have l3 := (show (31 : Int32).toInt = 31 by decide); have l4 := (show (120 : Int32).toInt = 120 by decide); simp only [Int32.le_iff_toInt_le, Int32.lt_iff_toInt_lt, ← Int32.toInt_inj] at c0 c1 c2 c3 c4 c5 c6 c7; have e0 : Int32.toInt (120 * (xs 1)) = Int32.toInt 120 * Int32.toInt (xs 1) := i32_mul (by simp only [l0, l1, l2, l3, l4]; omega) (by simp only [l0, l1, l2, l3, l4]; omega); have e1 : Int32.toInt ((120 * (xs 1)) + 9) = Int32.toInt (120 * (xs 1)) + Int32.toInt 9 := i32_add (by simp only [l0, l1, l2, l3, l4, e0]; omega) (by simp only [l0, l1, l2, l3, l4, e0]; omega); (try simp only [l0, l1, l2, l3, l4] at e0 e1); constructor <;> omega)) (by decide) ?_
          obtain ⟨G22, eG22⟩ : ∃ z : ab_G, z = List.set G21 126 (ab_if 720 ((upd f126_10 (Int32.toNatClampNeg ((120 * (xs 1)) + 9)) 0))) := ⟨_, rfl⟩
          have h80 := ab_keep eG22 (by decide) h80
          have h110 := ab_keep eG22 (by decide) h110
          have h127 := ab_keep eG22 (by decide) h127
          have hlen := ab_klen eG22 hlen
          have hsl := ab_ksl 720 eG22 h126 rfl rfl hsl
          have hfr := hfr.wr eG22 (by decide)
          have hpk := hpk.wr eG22 (by decide)
          have h126 := ab_kept eG22 h126
          change ab_W _ _ _ (List.set G21 126 (ab_if 720 ((upd f126_10 (Int32.toNatClampNeg ((120 * (xs 1)) + 9)) 0)))) 220 [some (vR 80), some (vI (xs 1)), some (vI (xs 2)), some (vI 1), some (vI 0), some (vI 9)] [] _
          rw [← eG22]
          obtain ⟨f126_11, h126⟩ : ∃ g : Nat → Int32, G22[126]? = some (ab_if 720 (g)) := ⟨_, h126⟩
          refine ab_iinc (v := 10) d_MO_compile_220 rfl (by decide) (Nat.le_of_ble_eq_true rfl) (Nat.le_of_ble_eq_true rfl) rfl ?_
          change ab_W _ _ _ G22 223 [some (vR 80), some (vI (xs 1)), some (vI (xs 2)), some (vI 1), some (vI 0), some (vI 10)] [] _
          refine ab_goto (tgt := 182) d_MO_compile_223 (by decide) ?_
          refine ab_iload d_MO_compile_182 rfl ?_
          refine ab_bipush (v := 12) d_MO_compile_184 (by decide) ?_
          refine ab_icmp_ge (tgt := 226) d_MO_compile_186 (by decide) (fun c => absurd c (by decide)) (fun _ => ?_)
          refine ab_aload_n d_MO_compile_189 rfl ?_
          refine ab_getf (fs := (m_fv (vI 0) (vI 0) (vI 0) (vI 0) (vI 0) (vI 0) (vI 0) (vI 0) (vI 2) (vI 0) (vI ((xs 2) &&& 15)) (vI 0) (vI (-1)) (vI 0) (vI 0) (vI 0) (vI 0) (vI 0) (vI 0) (vI (xs 1)) (vI 0) (vI 0) (vI 0) (vI 0) (vI 0) (vI 0) (vI 0) (vI 0) (vI 0) (vI 0) (vI 0) (vI 0) (vI 0) (vI 0) (vI 0))) f_MO_152 d_MO_compile_190 h80 rfl ?_
          refine ab_bipush (v := 120) d_MO_compile_193 (by decide) ?_
          refine ab_iload_n d_MO_compile_195 rfl ?_
          refine ab_imul d_MO_compile_196 ?_
          refine ab_bipush (v := 12) d_MO_compile_197 (by decide) ?_
          refine ab_iload d_MO_compile_199 rfl ?_
          refine ab_imul d_MO_compile_201 ?_
          refine ab_topi (y := 0) (by decide) ?_
          refine ab_iadd d_MO_compile_202 ?_
          refine ab_topi (y := (120 * (xs 1))) (Int32.add_zero _) ?_
          refine ab_iload d_MO_compile_203 rfl ?_
          refine ab_iadd d_MO_compile_205 ?_
          refine ab_aload_n d_MO_compile_206 rfl ?_
          refine ab_getf (fs := (m_fv (vI 0) (vI 0) (vI 0) (vI 0) (vI 0) (vI 0) (vI 0) (vI 0) (vI 2) (vI 0) (vI ((xs 2) &&& 15)) (vI 0) (vI (-1)) (vI 0) (vI 0) (vI 0) (vI 0) (vI 0) (vI 0) (vI (xs 1)) (vI 0) (vI 0) (vI 0) (vI 0) (vI 0) (vI 0) (vI 0) (vI 0) (vI 0) (vI 0) (vI 0) (vI 0) (vI 0) (vI 0) (vI 0))) f_MO_103 d_MO_compile_207 h80 rfl ?_
          refine ab_bipush (v := 12) d_MO_compile_210 (by decide) ?_
          refine ab_iload d_MO_compile_212 rfl ?_
          refine ab_imul d_MO_compile_214 ?_
          refine ab_topi (y := 0) (by decide) ?_
          refine ab_iload d_MO_compile_215 rfl ?_
          refine ab_iadd d_MO_compile_217 ?_
          refine ab_topi (y := 10) (by decide) ?_
          refine ab_iald d_MO_compile_218 h110 (by unfold vp_in; decide) ?_
          refine ab_topi (y := 0) rfl ?_
          refine ab_iast d_MO_compile_219 h126 (vp_in_iff.mpr (by have l0 := (show (0 : Int32).toInt = 0 by decide); have l1 := (show (5 : Int32).toInt = 5 by decide); have l2 := (show (10 : Int32).toInt = 10 by decide); have l3 := (show (31 : Int32).toInt = 31 by decide); have l4 := (show (120 : Int32).toInt = 120 by decide); simp only [Int32.le_iff_toInt_le, Int32.lt_iff_toInt_lt, ← Int32.toInt_inj] at c0 c1 c2 c3 c4 c5 c6 c7; have e0 : Int32.toInt (120 * (xs 1)) = Int32.toInt 120 * Int32.toInt (xs 1) := i32_mul (by simp only [l0, l1, l2, l3, l4]; omega) (by simp only [l0, l1, l2, l3, l4]; omega); have e1 : Int32.toInt ((120 * (xs 1)) + 10) = Int32.toInt (120 * (xs 1)) + Int32.toInt 10 := i32_add (by simp only [l0, l1, l2, l3, l4, e0]; omega) (by simp only [l0, l1, l2, l3, l4, e0]; omega); (try simp only [l0, l1, l2, l3, l4] at e0 e1); constructor <;> omega)) (by decide) ?_
          obtain ⟨G23, eG23⟩ : ∃ z : ab_G, z = List.set G22 126 (ab_if 720 ((upd f126_11 (Int32.toNatClampNeg ((120 * (xs 1)) + 10)) 0))) := ⟨_, rfl⟩
          have h80 := ab_keep eG23 (by decide) h80
          have h110 := ab_keep eG23 (by decide) h110
          have h127 := ab_keep eG23 (by decide) h127
          have hlen := ab_klen eG23 hlen
          have hsl := ab_ksl 720 eG23 h126 rfl rfl hsl
          have hfr := hfr.wr eG23 (by decide)
          have hpk := hpk.wr eG23 (by decide)
          have h126 := ab_kept eG23 h126
          change ab_W _ _ _ (List.set G22 126 (ab_if 720 ((upd f126_11 (Int32.toNatClampNeg ((120 * (xs 1)) + 10)) 0)))) 220 [some (vR 80), some (vI (xs 1)), some (vI (xs 2)), some (vI 1), some (vI 0), some (vI 10)] [] _
          rw [← eG23]
          obtain ⟨f126_12, h126⟩ : ∃ g : Nat → Int32, G23[126]? = some (ab_if 720 (g)) := ⟨_, h126⟩
          refine ab_iinc (v := 11) d_MO_compile_220 rfl (by decide) (Nat.le_of_ble_eq_true rfl) (Nat.le_of_ble_eq_true rfl) rfl ?_
          change ab_W _ _ _ G23 223 [some (vR 80), some (vI (xs 1)), some (vI (xs 2)), some (vI 1), some (vI 0), some (vI 11)] [] _
          refine ab_goto (tgt := 182) d_MO_compile_223 (by decide) ?_
          refine ab_iload d_MO_compile_182 rfl ?_
          refine ab_bipush (v := 12) d_MO_compile_184 (by decide) ?_
          refine ab_icmp_ge (tgt := 226) d_MO_compile_186 (by decide) (fun c => absurd c (by decide)) (fun _ => ?_)
          refine ab_aload_n d_MO_compile_189 rfl ?_
          refine ab_getf (fs := (m_fv (vI 0) (vI 0) (vI 0) (vI 0) (vI 0) (vI 0) (vI 0) (vI 0) (vI 2) (vI 0) (vI ((xs 2) &&& 15)) (vI 0) (vI (-1)) (vI 0) (vI 0) (vI 0) (vI 0) (vI 0) (vI 0) (vI (xs 1)) (vI 0) (vI 0) (vI 0) (vI 0) (vI 0) (vI 0) (vI 0) (vI 0) (vI 0) (vI 0) (vI 0) (vI 0) (vI 0) (vI 0) (vI 0))) f_MO_152 d_MO_compile_190 h80 rfl ?_
          refine ab_bipush (v := 120) d_MO_compile_193 (by decide) ?_
          refine ab_iload_n d_MO_compile_195 rfl ?_
          refine ab_imul d_MO_compile_196 ?_
          refine ab_bipush (v := 12) d_MO_compile_197 (by decide) ?_
          refine ab_iload d_MO_compile_199 rfl ?_
          refine ab_imul d_MO_compile_201 ?_
          refine ab_topi (y := 0) (by decide) ?_
          refine ab_iadd d_MO_compile_202 ?_
          refine ab_topi (y := (120 * (xs 1))) (Int32.add_zero _) ?_
          refine ab_iload d_MO_compile_203 rfl ?_
          refine ab_iadd d_MO_compile_205 ?_
          refine ab_aload_n d_MO_compile_206 rfl ?_
          refine ab_getf (fs := (m_fv (vI 0) (vI 0) (vI 0) (vI 0) (vI 0) (vI 0) (vI 0) (vI 0) (vI 2) (vI 0) (vI ((xs 2) &&& 15)) (vI 0) (vI (-1)) (vI 0) (vI 0) (vI 0) (vI 0) (vI 0) (vI 0) (vI (xs 1)) (vI 0) (vI 0) (vI 0) (vI 0) (vI 0) (vI 0) (vI 0) (vI 0) (vI 0) (vI 0) (vI 0) (vI 0) (vI 0) (vI 0) (vI 0))) f_MO_103 d_MO_compile_207 h80 rfl ?_
          refine ab_bipush (v := 12) d_MO_compile_210 (by decide) ?_
          refine ab_iload d_MO_compile_212 rfl ?_
          refine ab_imul d_MO_compile_214 ?_
          refine ab_topi (y := 0) (by decide) ?_
          refine ab_iload d_MO_compile_215 rfl ?_
          refine ab_iadd d_MO_compile_217 ?_
          refine ab_topi (y := 11) (by decide) ?_
          refine ab_iald d_MO_compile_218 h110 (by unfold vp_in; decide) ?_
          refine ab_topi (y := 0) rfl ?_
          refine ab_iast d_MO_compile_219 h126 (vp_in_iff.mpr (by have l0 := (show (0 : Int32).toInt = 0 by decide); have l1 := (show (5 : Int32).toInt = 5 by decide); have l2 := (show (11 : Int32).toInt = 11 by decide); have l3 := (show (31 : Int32).toInt = 31 by decide); have l4 := (show (120 : Int32).toInt = 120 by decide); simp only [Int32.le_iff_toInt_le, Int32.lt_iff_toInt_lt, ← Int32.toInt_inj] at c0 c1 c2 c3 c4 c5 c6 c7; have e0 : Int32.toInt (120 * (xs 1)) = Int32.toInt 120 * Int32.toInt (xs 1) := i32_mul (by simp only [l0, l1, l2, l3, l4]; omega) (by simp only [l0, l1, l2, l3, l4]; omega); have e1 : Int32.toInt ((120 * (xs 1)) + 11) = Int32.toInt (120 * (xs 1)) + Int32.toInt 11 := i32_add (by simp only [l0, l1, l2, l3, l4, e0]; omega) (by simp only [l0, l1, l2, l3, l4, e0]; omega); (try simp only [l0, l1, l2, l3, l4] at e0 e1); constructor <;> omega)) (by decide) ?_
          obtain ⟨G24, eG24⟩ : ∃ z : ab_G, z = List.set G23 126 (ab_if 720 ((upd f126_12 (Int32.toNatClampNeg ((120 * (xs 1)) + 11)) 0))) := ⟨_, rfl⟩
          have h80 := ab_keep eG24 (by decide) h80
          have h110 := ab_keep eG24 (by decide) h110
          have h127 := ab_keep eG24 (by decide) h127
          have hlen := ab_klen eG24 hlen
          have hsl := ab_ksl 720 eG24 h126 rfl rfl hsl
          have hfr := hfr.wr eG24 (by decide)
          have hpk := hpk.wr eG24 (by decide)
          have h126 := ab_kept eG24 h126
          change ab_W _ _ _ (List.set G23 126 (ab_if 720 ((upd f126_12 (Int32.toNatClampNeg ((120 * (xs 1)) + 11)) 0)))) 220 [some (vR 80), some (vI (xs 1)), some (vI (xs 2)), some (vI 1), some (vI 0), some (vI 11)] [] _
          rw [← eG24]
          obtain ⟨f126_13, h126⟩ : ∃ g : Nat → Int32, G24[126]? = some (ab_if 720 (g)) := ⟨_, h126⟩
          refine ab_iinc (v := 12) d_MO_compile_220 rfl (by decide) (Nat.le_of_ble_eq_true rfl) (Nat.le_of_ble_eq_true rfl) rfl ?_
          change ab_W _ _ _ G24 223 [some (vR 80), some (vI (xs 1)), some (vI (xs 2)), some (vI 1), some (vI 0), some (vI 12)] [] _
          refine ab_goto (tgt := 182) d_MO_compile_223 (by decide) ?_
          refine ab_iload d_MO_compile_182 rfl ?_
          refine ab_bipush (v := 12) d_MO_compile_184 (by decide) ?_
          refine ab_icmp_ge (tgt := 226) d_MO_compile_186 (by decide) (fun _ => ?_) (fun c => absurd c (by decide))
          refine ab_iinc (v := 1) d_MO_compile_226 rfl (by decide) (Nat.le_of_ble_eq_true rfl) (Nat.le_of_ble_eq_true rfl) rfl ?_
          change ab_W _ _ _ G24 229 [some (vR 80), some (vI (xs 1)), some (vI (xs 2)), some (vI 1), some (vI 1), some (vI 12)] [] _
          refine ab_goto (tgt := 135) d_MO_compile_229 (by decide) ?_
          refine ab_iload d_MO_compile_135 rfl ?_
          refine ab_bipush (v := 10) d_MO_compile_137 (by decide) ?_
          refine ab_icmp_ge (tgt := 232) d_MO_compile_139 (by decide) (fun c => absurd c (by decide)) (fun _ => ?_)
          refine ab_aload_n d_MO_compile_142 rfl ?_
          refine ab_getf (fs := (m_fv (vI 0) (vI 0) (vI 0) (vI 0) (vI 0) (vI 0) (vI 0) (vI 0) (vI 2) (vI 0) (vI ((xs 2) &&& 15)) (vI 0) (vI (-1)) (vI 0) (vI 0) (vI 0) (vI 0) (vI 0) (vI 0) (vI (xs 1)) (vI 0) (vI 0) (vI 0) (vI 0) (vI 0) (vI 0) (vI 0) (vI 0) (vI 0) (vI 0) (vI 0) (vI 0) (vI 0) (vI 0) (vI 0))) f_MO_155 d_MO_compile_143 h80 rfl ?_
          refine ab_bipush (v := 10) d_MO_compile_146 (by decide) ?_
          refine ab_iload_n d_MO_compile_148 rfl ?_
          refine ab_imul d_MO_compile_149 ?_
          refine ab_iload d_MO_compile_150 rfl ?_
          refine ab_iadd d_MO_compile_152 ?_
          refine ab_iload d_MO_compile_153 rfl ?_
          refine ab_if_le (tgt := 177) d_MO_compile_155 (by decide) (fun c => absurd c (by decide)) (fun _ => ?_)
          refine ab_iload d_MO_compile_158 rfl ?_
          refine ab_aload_n d_MO_compile_160 rfl ?_
          refine ab_getf (fs := (m_fv (vI 0) (vI 0) (vI 0) (vI 0) (vI 0) (vI 0) (vI 0) (vI 0) (vI 2) (vI 0) (vI ((xs 2) &&& 15)) (vI 0) (vI (-1)) (vI 0) (vI 0) (vI 0) (vI 0) (vI 0) (vI 0) (vI (xs 1)) (vI 0) (vI 0) (vI 0) (vI 0) (vI 0) (vI 0) (vI 0) (vI 0) (vI 0) (vI 0) (vI 0) (vI 0) (vI 0) (vI 0) (vI 0))) f_MO_395 d_MO_compile_161 h80 rfl ?_
          refine ab_icmp_gt (tgt := 177) d_MO_compile_164 (by decide) (fun _ => ?_) (fun c => absurd c (by decide))
          refine ab_iconst (v := 0) d_MO_compile_177 (by decide) ?_
          refine ab_iast d_MO_compile_178 h127 (vp_in_iff.mpr (by have l0 := (show (0 : Int32).toInt = 0 by decide); have l1 := (show (1 : Int32).toInt = 1 by decide); have l2 := (show (5 : Int32).toInt = 5 by decide); have l3 := (show (10 : Int32).toInt = 10 by decide); have l4 := (show (31 : Int32).toInt = 31 by decide); simp only [Int32.le_iff_toInt_le, Int32.lt_iff_toInt_lt, ← Int32.toInt_inj] at c0 c1 c2 c3 c4 c5 c6 c7; have e0 : Int32.toInt (10 * (xs 1)) = Int32.toInt 10 * Int32.toInt (xs 1) := i32_mul (by simp only [l0, l1, l2, l3, l4]; omega) (by simp only [l0, l1, l2, l3, l4]; omega); have e1 : Int32.toInt ((10 * (xs 1)) + 1) = Int32.toInt (10 * (xs 1)) + Int32.toInt 1 := i32_add (by simp only [l0, l1, l2, l3, l4, e0]; omega) (by simp only [l0, l1, l2, l3, l4, e0]; omega); (try simp only [l0, l1, l2, l3, l4] at e0 e1); constructor <;> omega)) (by decide) ?_
          obtain ⟨G25, eG25⟩ : ∃ z : ab_G, z = List.set G24 127 (ab_if 60 ((upd f127_1 (Int32.toNatClampNeg ((10 * (xs 1)) + 1)) 0))) := ⟨_, rfl⟩
          have h80 := ab_keep eG25 (by decide) h80
          have h110 := ab_keep eG25 (by decide) h110
          have h126 := ab_keep eG25 (by decide) h126
          have hlen := ab_klen eG25 hlen
          have hsl := ab_ksl 60 eG25 h127 rfl rfl hsl
          have hfr := hfr.wr eG25 (by decide)
          have hpk := hpk.wr eG25 (by decide)
          have h127 := ab_kept eG25 h127
          change ab_W _ _ _ (List.set G24 127 (ab_if 60 ((upd f127_1 (Int32.toNatClampNeg ((10 * (xs 1)) + 1)) 0)))) 179 [some (vR 80), some (vI (xs 1)), some (vI (xs 2)), some (vI 1), some (vI 1), some (vI 12)] [] _
          rw [← eG25]
          obtain ⟨f127_14, h127⟩ : ∃ g : Nat → Int32, G25[127]? = some (ab_if 60 (g)) := ⟨_, h127⟩
          refine ab_iconst (v := 0) d_MO_compile_179 (by decide) ?_
          refine ab_istore d_MO_compile_180 (Nat.le_of_ble_eq_true rfl) (Nat.le_of_ble_eq_true rfl) rfl ?_
          change ab_W _ _ _ G25 182 [some (vR 80), some (vI (xs 1)), some (vI (xs 2)), some (vI 1), some (vI 1), some (vI 0)] [] _
          refine ab_iload d_MO_compile_182 rfl ?_
          refine ab_bipush (v := 12) d_MO_compile_184 (by decide) ?_
          refine ab_icmp_ge (tgt := 226) d_MO_compile_186 (by decide) (fun c => absurd c (by decide)) (fun _ => ?_)
          refine ab_aload_n d_MO_compile_189 rfl ?_
          refine ab_getf (fs := (m_fv (vI 0) (vI 0) (vI 0) (vI 0) (vI 0) (vI 0) (vI 0) (vI 0) (vI 2) (vI 0) (vI ((xs 2) &&& 15)) (vI 0) (vI (-1)) (vI 0) (vI 0) (vI 0) (vI 0) (vI 0) (vI 0) (vI (xs 1)) (vI 0) (vI 0) (vI 0) (vI 0) (vI 0) (vI 0) (vI 0) (vI 0) (vI 0) (vI 0) (vI 0) (vI 0) (vI 0) (vI 0) (vI 0))) f_MO_152 d_MO_compile_190 h80 rfl ?_
          refine ab_bipush (v := 120) d_MO_compile_193 (by decide) ?_
          refine ab_iload_n d_MO_compile_195 rfl ?_
          refine ab_imul d_MO_compile_196 ?_
          refine ab_bipush (v := 12) d_MO_compile_197 (by decide) ?_
          refine ab_iload d_MO_compile_199 rfl ?_
          refine ab_imul d_MO_compile_201 ?_
          refine ab_topi (y := 12) (by decide) ?_
          refine ab_iadd d_MO_compile_202 ?_
          refine ab_iload d_MO_compile_203 rfl ?_
          refine ab_iadd d_MO_compile_205 ?_
          refine ab_topi (y := ((120 * (xs 1)) + 12)) (Int32.add_zero _) ?_
          refine ab_aload_n d_MO_compile_206 rfl ?_
          refine ab_getf (fs := (m_fv (vI 0) (vI 0) (vI 0) (vI 0) (vI 0) (vI 0) (vI 0) (vI 0) (vI 2) (vI 0) (vI ((xs 2) &&& 15)) (vI 0) (vI (-1)) (vI 0) (vI 0) (vI 0) (vI 0) (vI 0) (vI 0) (vI (xs 1)) (vI 0) (vI 0) (vI 0) (vI 0) (vI 0) (vI 0) (vI 0) (vI 0) (vI 0) (vI 0) (vI 0) (vI 0) (vI 0) (vI 0) (vI 0))) f_MO_103 d_MO_compile_207 h80 rfl ?_
          refine ab_bipush (v := 12) d_MO_compile_210 (by decide) ?_
          refine ab_iload d_MO_compile_212 rfl ?_
          refine ab_imul d_MO_compile_214 ?_
          refine ab_topi (y := 12) (by decide) ?_
          refine ab_iload d_MO_compile_215 rfl ?_
          refine ab_iadd d_MO_compile_217 ?_
          refine ab_topi (y := 12) (by decide) ?_
          refine ab_iald d_MO_compile_218 h110 (by unfold vp_in; decide) ?_
          refine ab_topi (y := 0) rfl ?_
          refine ab_iast d_MO_compile_219 h126 (vp_in_iff.mpr (by have l0 := (show (0 : Int32).toInt = 0 by decide); have l1 := (show (5 : Int32).toInt = 5 by decide); have l2 := (show (12 : Int32).toInt = 12 by decide); have l3 := (show (31 : Int32).toInt = 31 by decide); have l4 := (show (120 : Int32).toInt = 120 by decide); simp only [Int32.le_iff_toInt_le, Int32.lt_iff_toInt_lt, ← Int32.toInt_inj] at c0 c1 c2 c3 c4 c5 c6 c7; have e0 : Int32.toInt (120 * (xs 1)) = Int32.toInt 120 * Int32.toInt (xs 1) := i32_mul (by simp only [l0, l1, l2, l3, l4]; omega) (by simp only [l0, l1, l2, l3, l4]; omega); have e1 : Int32.toInt ((120 * (xs 1)) + 12) = Int32.toInt (120 * (xs 1)) + Int32.toInt 12 := i32_add (by simp only [l0, l1, l2, l3, l4, e0]; omega) (by simp only [l0, l1, l2, l3, l4, e0]; omega); (try simp only [l0, l1, l2, l3, l4] at e0 e1); constructor <;> omega)) (by decide) ?_
          obtain ⟨G26, eG26⟩ : ∃ z : ab_G, z = List.set G25 126 (ab_if 720 ((upd f126_13 (Int32.toNatClampNeg ((120 * (xs 1)) + 12)) 0))) := ⟨_, rfl⟩
          have h80 := ab_keep eG26 (by decide) h80
          have h110 := ab_keep eG26 (by decide) h110
          have h127 := ab_keep eG26 (by decide) h127
          have hlen := ab_klen eG26 hlen
          have hsl := ab_ksl 720 eG26 h126 rfl rfl hsl
          have hfr := hfr.wr eG26 (by decide)
          have hpk := hpk.wr eG26 (by decide)
          have h126 := ab_kept eG26 h126
          change ab_W _ _ _ (List.set G25 126 (ab_if 720 ((upd f126_13 (Int32.toNatClampNeg ((120 * (xs 1)) + 12)) 0)))) 220 [some (vR 80), some (vI (xs 1)), some (vI (xs 2)), some (vI 1), some (vI 1), some (vI 0)] [] _
          rw [← eG26]
          obtain ⟨f126_15, h126⟩ : ∃ g : Nat → Int32, G26[126]? = some (ab_if 720 (g)) := ⟨_, h126⟩
          refine ab_iinc (v := 1) d_MO_compile_220 rfl (by decide) (Nat.le_of_ble_eq_true rfl) (Nat.le_of_ble_eq_true rfl) rfl ?_
          change ab_W _ _ _ G26 223 [some (vR 80), some (vI (xs 1)), some (vI (xs 2)), some (vI 1), some (vI 1), some (vI 1)] [] _
          refine ab_goto (tgt := 182) d_MO_compile_223 (by decide) ?_
          refine ab_iload d_MO_compile_182 rfl ?_
          refine ab_bipush (v := 12) d_MO_compile_184 (by decide) ?_
          refine ab_icmp_ge (tgt := 226) d_MO_compile_186 (by decide) (fun c => absurd c (by decide)) (fun _ => ?_)
          refine ab_aload_n d_MO_compile_189 rfl ?_
          refine ab_getf (fs := (m_fv (vI 0) (vI 0) (vI 0) (vI 0) (vI 0) (vI 0) (vI 0) (vI 0) (vI 2) (vI 0) (vI ((xs 2) &&& 15)) (vI 0) (vI (-1)) (vI 0) (vI 0) (vI 0) (vI 0) (vI 0) (vI 0) (vI (xs 1)) (vI 0) (vI 0) (vI 0) (vI 0) (vI 0) (vI 0) (vI 0) (vI 0) (vI 0) (vI 0) (vI 0) (vI 0) (vI 0) (vI 0) (vI 0))) f_MO_152 d_MO_compile_190 h80 rfl ?_
          refine ab_bipush (v := 120) d_MO_compile_193 (by decide) ?_
          refine ab_iload_n d_MO_compile_195 rfl ?_
          refine ab_imul d_MO_compile_196 ?_
          refine ab_bipush (v := 12) d_MO_compile_197 (by decide) ?_
          refine ab_iload d_MO_compile_199 rfl ?_
          refine ab_imul d_MO_compile_201 ?_
          refine ab_topi (y := 12) (by decide) ?_
          refine ab_iadd d_MO_compile_202 ?_
          refine ab_iload d_MO_compile_203 rfl ?_
          refine ab_iadd d_MO_compile_205 ?_
          refine ab_aload_n d_MO_compile_206 rfl ?_
          refine ab_getf (fs := (m_fv (vI 0) (vI 0) (vI 0) (vI 0) (vI 0) (vI 0) (vI 0) (vI 0) (vI 2) (vI 0) (vI ((xs 2) &&& 15)) (vI 0) (vI (-1)) (vI 0) (vI 0) (vI 0) (vI 0) (vI 0) (vI 0) (vI (xs 1)) (vI 0) (vI 0) (vI 0) (vI 0) (vI 0) (vI 0) (vI 0) (vI 0) (vI 0) (vI 0) (vI 0) (vI 0) (vI 0) (vI 0) (vI 0))) f_MO_103 d_MO_compile_207 h80 rfl ?_
          refine ab_bipush (v := 12) d_MO_compile_210 (by decide) ?_
          refine ab_iload d_MO_compile_212 rfl ?_
          refine ab_imul d_MO_compile_214 ?_
          refine ab_topi (y := 12) (by decide) ?_
          refine ab_iload d_MO_compile_215 rfl ?_
          refine ab_iadd d_MO_compile_217 ?_
          refine ab_topi (y := 13) (by decide) ?_
          refine ab_iald d_MO_compile_218 h110 (by unfold vp_in; decide) ?_
          refine ab_topi (y := 0) rfl ?_
          refine ab_iast d_MO_compile_219 h126 (vp_in_iff.mpr (by have l0 := (show (0 : Int32).toInt = 0 by decide); have l1 := (show (1 : Int32).toInt = 1 by decide); have l2 := (show (5 : Int32).toInt = 5 by decide); have l3 := (show (12 : Int32).toInt = 12 by decide); have l4 := (show (31 : Int32).toInt = 31 by decide); have l5 := (show (120 : Int32).toInt = 120 by decide); simp only [Int32.le_iff_toInt_le, Int32.lt_iff_toInt_lt, ← Int32.toInt_inj] at c0 c1 c2 c3 c4 c5 c6 c7; have e0 : Int32.toInt (120 * (xs 1)) = Int32.toInt 120 * Int32.toInt (xs 1) := i32_mul (by simp only [l0, l1, l2, l3, l4, l5]; omega) (by simp only [l0, l1, l2, l3, l4, l5]; omega); have e1 : Int32.toInt ((120 * (xs 1)) + 12) = Int32.toInt (120 * (xs 1)) + Int32.toInt 12 := i32_add (by simp only [l0, l1, l2, l3, l4, l5, e0]; omega) (by simp only [l0, l1, l2, l3, l4, l5, e0]; omega); have e2 : Int32.toInt (((120 * (xs 1)) + 12) + 1) = Int32.toInt ((120 * (xs 1)) + 12) + Int32.toInt 1 := i32_add (by simp only [l0, l1, l2, l3, l4, l5, e0, e1]; omega) (by simp only [l0, l1, l2, l3, l4, l5, e0, e1]; omega); (try simp only [l0, l1, l2, l3, l4, l5] at e0 e1 e2); constructor <;> omega)) (by decide) ?_
          obtain ⟨G27, eG27⟩ : ∃ z : ab_G, z = List.set G26 126 (ab_if 720 ((upd f126_15 (Int32.toNatClampNeg (((120 * (xs 1)) + 12) + 1)) 0))) := ⟨_, rfl⟩
          have h80 := ab_keep eG27 (by decide) h80
          have h110 := ab_keep eG27 (by decide) h110
          have h127 := ab_keep eG27 (by decide) h127
          have hlen := ab_klen eG27 hlen
          have hsl := ab_ksl 720 eG27 h126 rfl rfl hsl
          have hfr := hfr.wr eG27 (by decide)
          have hpk := hpk.wr eG27 (by decide)
          have h126 := ab_kept eG27 h126
          change ab_W _ _ _ (List.set G26 126 (ab_if 720 ((upd f126_15 (Int32.toNatClampNeg (((120 * (xs 1)) + 12) + 1)) 0)))) 220 [some (vR 80), some (vI (xs 1)), some (vI (xs 2)), some (vI 1), some (vI 1), some (vI 1)] [] _
          rw [← eG27]
          obtain ⟨f126_16, h126⟩ : ∃ g : Nat → Int32, G27[126]? = some (ab_if 720 (g)) := ⟨_, h126⟩
          refine ab_iinc (v := 2) d_MO_compile_220 rfl (by decide) (Nat.le_of_ble_eq_true rfl) (Nat.le_of_ble_eq_true rfl) rfl ?_
          change ab_W _ _ _ G27 223 [some (vR 80), some (vI (xs 1)), some (vI (xs 2)), some (vI 1), some (vI 1), some (vI 2)] [] _
          refine ab_goto (tgt := 182) d_MO_compile_223 (by decide) ?_
          refine ab_iload d_MO_compile_182 rfl ?_
          refine ab_bipush (v := 12) d_MO_compile_184 (by decide) ?_
          refine ab_icmp_ge (tgt := 226) d_MO_compile_186 (by decide) (fun c => absurd c (by decide)) (fun _ => ?_)
          refine ab_aload_n d_MO_compile_189 rfl ?_
          refine ab_getf (fs := (m_fv (vI 0) (vI 0) (vI 0) (vI 0) (vI 0) (vI 0) (vI 0) (vI 0) (vI 2) (vI 0) (vI ((xs 2) &&& 15)) (vI 0) (vI (-1)) (vI 0) (vI 0) (vI 0) (vI 0) (vI 0) (vI 0) (vI (xs 1)) (vI 0) (vI 0) (vI 0) (vI 0) (vI 0) (vI 0) (vI 0) (vI 0) (vI 0) (vI 0) (vI 0) (vI 0) (vI 0) (vI 0) (vI 0))) f_MO_152 d_MO_compile_190 h80 rfl ?_
          refine ab_bipush (v := 120) d_MO_compile_193 (by decide) ?_
          refine ab_iload_n d_MO_compile_195 rfl ?_
          refine ab_imul d_MO_compile_196 ?_
          refine ab_bipush (v := 12) d_MO_compile_197 (by decide) ?_
          refine ab_iload d_MO_compile_199 rfl ?_
          refine ab_imul d_MO_compile_201 ?_
          refine ab_topi (y := 12) (by decide) ?_
          refine ab_iadd d_MO_compile_202 ?_
          refine ab_iload d_MO_compile_203 rfl ?_
          refine ab_iadd d_MO_compile_205 ?_
          refine ab_aload_n d_MO_compile_206 rfl ?_
          refine ab_getf (fs := (m_fv (vI 0) (vI 0) (vI 0) (vI 0) (vI 0) (vI 0) (vI 0) (vI 0) (vI 2) (vI 0) (vI ((xs 2) &&& 15)) (vI 0) (vI (-1)) (vI 0) (vI 0) (vI 0) (vI 0) (vI 0) (vI 0) (vI (xs 1)) (vI 0) (vI 0) (vI 0) (vI 0) (vI 0) (vI 0) (vI 0) (vI 0) (vI 0) (vI 0) (vI 0) (vI 0) (vI 0) (vI 0) (vI 0))) f_MO_103 d_MO_compile_207 h80 rfl ?_
          refine ab_bipush (v := 12) d_MO_compile_210 (by decide) ?_
          refine ab_iload d_MO_compile_212 rfl ?_
          refine ab_imul d_MO_compile_214 ?_
          refine ab_topi (y := 12) (by decide) ?_
          refine ab_iload d_MO_compile_215 rfl ?_
          refine ab_iadd d_MO_compile_217 ?_
          refine ab_topi (y := 14) (by decide) ?_
          refine ab_iald d_MO_compile_218 h110 (by unfold vp_in; decide) ?_
          refine ab_topi (y := 0) rfl ?_
          refine ab_iast d_MO_compile_219 h126 (vp_in_iff.mpr (by have l0 := (show (0 : Int32).toInt = 0 by decide); have l1 := (show (2 : Int32).toInt = 2 by decide); have l2 := (show (5 : Int32).toInt = 5 by decide); have l3 := (show (12 : Int32).toInt = 12 by decide); have l4 := (show (31 : Int32).toInt = 31 by decide); have l5 := (show (120 : Int32).toInt = 120 by decide); simp only [Int32.le_iff_toInt_le, Int32.lt_iff_toInt_lt, ← Int32.toInt_inj] at c0 c1 c2 c3 c4 c5 c6 c7; have e0 : Int32.toInt (120 * (xs 1)) = Int32.toInt 120 * Int32.toInt (xs 1) := i32_mul (by simp only [l0, l1, l2, l3, l4, l5]; omega) (by simp only [l0, l1, l2, l3, l4, l5]; omega); have e1 : Int32.toInt ((120 * (xs 1)) + 12) = Int32.toInt (120 * (xs 1)) + Int32.toInt 12 := i32_add (by simp only [l0, l1, l2, l3, l4, l5, e0]; omega) (by simp only [l0, l1, l2, l3, l4, l5, e0]; omega); have e2 : Int32.toInt (((120 * (xs 1)) + 12) + 2) = Int32.toInt ((120 * (xs 1)) + 12) + Int32.toInt 2 := i32_add (by simp only [l0, l1, l2, l3, l4, l5, e0, e1]; omega) (by simp only [l0, l1, l2, l3, l4, l5, e0, e1]; omega); (try simp only [l0, l1, l2, l3, l4, l5] at e0 e1 e2); constructor <;> omega)) (by decide) ?_
          obtain ⟨G28, eG28⟩ : ∃ z : ab_G, z = List.set G27 126 (ab_if 720 ((upd f126_16 (Int32.toNatClampNeg (((120 * (xs 1)) + 12) + 2)) 0))) := ⟨_, rfl⟩
          have h80 := ab_keep eG28 (by decide) h80
          have h110 := ab_keep eG28 (by decide) h110
          have h127 := ab_keep eG28 (by decide) h127
          have hlen := ab_klen eG28 hlen
          have hsl := ab_ksl 720 eG28 h126 rfl rfl hsl
          have hfr := hfr.wr eG28 (by decide)
          have hpk := hpk.wr eG28 (by decide)
          have h126 := ab_kept eG28 h126
          change ab_W _ _ _ (List.set G27 126 (ab_if 720 ((upd f126_16 (Int32.toNatClampNeg (((120 * (xs 1)) + 12) + 2)) 0)))) 220 [some (vR 80), some (vI (xs 1)), some (vI (xs 2)), some (vI 1), some (vI 1), some (vI 2)] [] _
          rw [← eG28]
          obtain ⟨f126_17, h126⟩ : ∃ g : Nat → Int32, G28[126]? = some (ab_if 720 (g)) := ⟨_, h126⟩
          refine ab_iinc (v := 3) d_MO_compile_220 rfl (by decide) (Nat.le_of_ble_eq_true rfl) (Nat.le_of_ble_eq_true rfl) rfl ?_
          change ab_W _ _ _ G28 223 [some (vR 80), some (vI (xs 1)), some (vI (xs 2)), some (vI 1), some (vI 1), some (vI 3)] [] _
          refine ab_goto (tgt := 182) d_MO_compile_223 (by decide) ?_
          refine ab_iload d_MO_compile_182 rfl ?_
          refine ab_bipush (v := 12) d_MO_compile_184 (by decide) ?_
          refine ab_icmp_ge (tgt := 226) d_MO_compile_186 (by decide) (fun c => absurd c (by decide)) (fun _ => ?_)
          refine ab_aload_n d_MO_compile_189 rfl ?_
          refine ab_getf (fs := (m_fv (vI 0) (vI 0) (vI 0) (vI 0) (vI 0) (vI 0) (vI 0) (vI 0) (vI 2) (vI 0) (vI ((xs 2) &&& 15)) (vI 0) (vI (-1)) (vI 0) (vI 0) (vI 0) (vI 0) (vI 0) (vI 0) (vI (xs 1)) (vI 0) (vI 0) (vI 0) (vI 0) (vI 0) (vI 0) (vI 0) (vI 0) (vI 0) (vI 0) (vI 0) (vI 0) (vI 0) (vI 0) (vI 0))) f_MO_152 d_MO_compile_190 h80 rfl ?_
          refine ab_bipush (v := 120) d_MO_compile_193 (by decide) ?_
          refine ab_iload_n d_MO_compile_195 rfl ?_
          refine ab_imul d_MO_compile_196 ?_
          refine ab_bipush (v := 12) d_MO_compile_197 (by decide) ?_
          refine ab_iload d_MO_compile_199 rfl ?_
          refine ab_imul d_MO_compile_201 ?_
          refine ab_topi (y := 12) (by decide) ?_
          refine ab_iadd d_MO_compile_202 ?_
          refine ab_iload d_MO_compile_203 rfl ?_
          refine ab_iadd d_MO_compile_205 ?_
          refine ab_aload_n d_MO_compile_206 rfl ?_
          refine ab_getf (fs := (m_fv (vI 0) (vI 0) (vI 0) (vI 0) (vI 0) (vI 0) (vI 0) (vI 0) (vI 2) (vI 0) (vI ((xs 2) &&& 15)) (vI 0) (vI (-1)) (vI 0) (vI 0) (vI 0) (vI 0) (vI 0) (vI 0) (vI (xs 1)) (vI 0) (vI 0) (vI 0) (vI 0) (vI 0) (vI 0) (vI 0) (vI 0) (vI 0) (vI 0) (vI 0) (vI 0) (vI 0) (vI 0) (vI 0))) f_MO_103 d_MO_compile_207 h80 rfl ?_
          refine ab_bipush (v := 12) d_MO_compile_210 (by decide) ?_
          refine ab_iload d_MO_compile_212 rfl ?_
          refine ab_imul d_MO_compile_214 ?_
          refine ab_topi (y := 12) (by decide) ?_
          refine ab_iload d_MO_compile_215 rfl ?_
          refine ab_iadd d_MO_compile_217 ?_
          refine ab_topi (y := 15) (by decide) ?_
          refine ab_iald d_MO_compile_218 h110 (by unfold vp_in; decide) ?_
          refine ab_topi (y := 0) rfl ?_
          refine ab_iast d_MO_compile_219 h126 (vp_in_iff.mpr (by have l0 := (show (0 : Int32).toInt = 0 by decide); have l1 := (show (3 : Int32).toInt = 3 by decide); have l2 := (show (5 : Int32).toInt = 5 by decide); have l3 := (show (12 : Int32).toInt = 12 by decide); have l4 := (show (31 : Int32).toInt = 31 by decide); have l5 := (show (120 : Int32).toInt = 120 by decide); simp only [Int32.le_iff_toInt_le, Int32.lt_iff_toInt_lt, ← Int32.toInt_inj] at c0 c1 c2 c3 c4 c5 c6 c7; have e0 : Int32.toInt (120 * (xs 1)) = Int32.toInt 120 * Int32.toInt (xs 1) := i32_mul (by simp only [l0, l1, l2, l3, l4, l5]; omega) (by simp only [l0, l1, l2, l3, l4, l5]; omega); have e1 : Int32.toInt ((120 * (xs 1)) + 12) = Int32.toInt (120 * (xs 1)) + Int32.toInt 12 := i32_add (by simp only [l0, l1, l2, l3, l4, l5, e0]; omega) (by simp only [l0, l1, l2, l3, l4, l5, e0]; omega); have e2 : Int32.toInt (((120 * (xs 1)) + 12) + 3) = Int32.toInt ((120 * (xs 1)) + 12) + Int32.toInt 3 := i32_add (by simp only [l0, l1, l2, l3, l4, l5, e0, e1]; omega) (by simp only [l0, l1, l2, l3, l4, l5, e0, e1]; omega); (try simp only [l0, l1, l2, l3, l4, l5] at e0 e1 e2); constructor <;> omega)) (by decide) ?_
          obtain ⟨G29, eG29⟩ : ∃ z : ab_G, z = List.set G28 126 (ab_if 720 ((upd f126_17 (Int32.toNatClampNeg (((120 * (xs 1)) + 12) + 3)) 0))) := ⟨_, rfl⟩
          have h80 := ab_keep eG29 (by decide) h80
          have h110 := ab_keep eG29 (by decide) h110
          have h127 := ab_keep eG29 (by decide) h127
          have hlen := ab_klen eG29 hlen
          have hsl := ab_ksl 720 eG29 h126 rfl rfl hsl
          have hfr := hfr.wr eG29 (by decide)
          have hpk := hpk.wr eG29 (by decide)
          have h126 := ab_kept eG29 h126
          change ab_W _ _ _ (List.set G28 126 (ab_if 720 ((upd f126_17 (Int32.toNatClampNeg (((120 * (xs 1)) + 12) + 3)) 0)))) 220 [some (vR 80), some (vI (xs 1)), some (vI (xs 2)), some (vI 1), some (vI 1), some (vI 3)] [] _
          rw [← eG29]
          obtain ⟨f126_18, h126⟩ : ∃ g : Nat → Int32, G29[126]? = some (ab_if 720 (g)) := ⟨_, h126⟩
          refine ab_iinc (v := 4) d_MO_compile_220 rfl (by decide) (Nat.le_of_ble_eq_true rfl) (Nat.le_of_ble_eq_true rfl) rfl ?_
          change ab_W _ _ _ G29 223 [some (vR 80), some (vI (xs 1)), some (vI (xs 2)), some (vI 1), some (vI 1), some (vI 4)] [] _
          refine ab_goto (tgt := 182) d_MO_compile_223 (by decide) ?_
          refine ab_iload d_MO_compile_182 rfl ?_
          refine ab_bipush (v := 12) d_MO_compile_184 (by decide) ?_
          refine ab_icmp_ge (tgt := 226) d_MO_compile_186 (by decide) (fun c => absurd c (by decide)) (fun _ => ?_)
          refine ab_aload_n d_MO_compile_189 rfl ?_
          refine ab_getf (fs := (m_fv (vI 0) (vI 0) (vI 0) (vI 0) (vI 0) (vI 0) (vI 0) (vI 0) (vI 2) (vI 0) (vI ((xs 2) &&& 15)) (vI 0) (vI (-1)) (vI 0) (vI 0) (vI 0) (vI 0) (vI 0) (vI 0) (vI (xs 1)) (vI 0) (vI 0) (vI 0) (vI 0) (vI 0) (vI 0) (vI 0) (vI 0) (vI 0) (vI 0) (vI 0) (vI 0) (vI 0) (vI 0) (vI 0))) f_MO_152 d_MO_compile_190 h80 rfl ?_
          refine ab_bipush (v := 120) d_MO_compile_193 (by decide) ?_
          refine ab_iload_n d_MO_compile_195 rfl ?_
          refine ab_imul d_MO_compile_196 ?_
          refine ab_bipush (v := 12) d_MO_compile_197 (by decide) ?_
          refine ab_iload d_MO_compile_199 rfl ?_
          refine ab_imul d_MO_compile_201 ?_
          refine ab_topi (y := 12) (by decide) ?_
          refine ab_iadd d_MO_compile_202 ?_
          refine ab_iload d_MO_compile_203 rfl ?_
          refine ab_iadd d_MO_compile_205 ?_
          refine ab_aload_n d_MO_compile_206 rfl ?_
          refine ab_getf (fs := (m_fv (vI 0) (vI 0) (vI 0) (vI 0) (vI 0) (vI 0) (vI 0) (vI 0) (vI 2) (vI 0) (vI ((xs 2) &&& 15)) (vI 0) (vI (-1)) (vI 0) (vI 0) (vI 0) (vI 0) (vI 0) (vI 0) (vI (xs 1)) (vI 0) (vI 0) (vI 0) (vI 0) (vI 0) (vI 0) (vI 0) (vI 0) (vI 0) (vI 0) (vI 0) (vI 0) (vI 0) (vI 0) (vI 0))) f_MO_103 d_MO_compile_207 h80 rfl ?_
          refine ab_bipush (v := 12) d_MO_compile_210 (by decide) ?_
          refine ab_iload d_MO_compile_212 rfl ?_
          refine ab_imul d_MO_compile_214 ?_
          refine ab_topi (y := 12) (by decide) ?_
          refine ab_iload d_MO_compile_215 rfl ?_
          refine ab_iadd d_MO_compile_217 ?_
          refine ab_topi (y := 16) (by decide) ?_
          refine ab_iald d_MO_compile_218 h110 (by unfold vp_in; decide) ?_
          refine ab_topi (y := 0) rfl ?_
          refine ab_iast d_MO_compile_219 h126 (vp_in_iff.mpr (by have l0 := (show (0 : Int32).toInt = 0 by decide); have l1 := (show (4 : Int32).toInt = 4 by decide); have l2 := (show (5 : Int32).toInt = 5 by decide); have l3 := (show (12 : Int32).toInt = 12 by decide); have l4 := (show (31 : Int32).toInt = 31 by decide); have l5 := (show (120 : Int32).toInt = 120 by decide); simp only [Int32.le_iff_toInt_le, Int32.lt_iff_toInt_lt, ← Int32.toInt_inj] at c0 c1 c2 c3 c4 c5 c6 c7; have e0 : Int32.toInt (120 * (xs 1)) = Int32.toInt 120 * Int32.toInt (xs 1) := i32_mul (by simp only [l0, l1, l2, l3, l4, l5]; omega) (by simp only [l0, l1, l2, l3, l4, l5]; omega); have e1 : Int32.toInt ((120 * (xs 1)) + 12) = Int32.toInt (120 * (xs 1)) + Int32.toInt 12 := i32_add (by simp only [l0, l1, l2, l3, l4, l5, e0]; omega) (by simp only [l0, l1, l2, l3, l4, l5, e0]; omega); have e2 : Int32.toInt (((120 * (xs 1)) + 12) + 4) = Int32.toInt ((120 * (xs 1)) + 12) + Int32.toInt 4 := i32_add (by simp only [l0, l1, l2, l3, l4, l5, e0, e1]; omega) (by simp only [l0, l1, l2, l3, l4, l5, e0, e1]; omega); (try simp only [l0, l1, l2, l3, l4, l5] at e0 e1 e2); constructor <;> omega)) (by decide) ?_
          obtain ⟨G30, eG30⟩ : ∃ z : ab_G, z = List.set G29 126 (ab_if 720 ((upd f126_18 (Int32.toNatClampNeg (((120 * (xs 1)) + 12) + 4)) 0))) := ⟨_, rfl⟩
          have h80 := ab_keep eG30 (by decide) h80
          have h110 := ab_keep eG30 (by decide) h110
          have h127 := ab_keep eG30 (by decide) h127
          have hlen := ab_klen eG30 hlen
          have hsl := ab_ksl 720 eG30 h126 rfl rfl hsl
          have hfr := hfr.wr eG30 (by decide)
          have hpk := hpk.wr eG30 (by decide)
          have h126 := ab_kept eG30 h126
          change ab_W _ _ _ (List.set G29 126 (ab_if 720 ((upd f126_18 (Int32.toNatClampNeg (((120 * (xs 1)) + 12) + 4)) 0)))) 220 [some (vR 80), some (vI (xs 1)), some (vI (xs 2)), some (vI 1), some (vI 1), some (vI 4)] [] _
          rw [← eG30]
          obtain ⟨f126_19, h126⟩ : ∃ g : Nat → Int32, G30[126]? = some (ab_if 720 (g)) := ⟨_, h126⟩
          refine ab_iinc (v := 5) d_MO_compile_220 rfl (by decide) (Nat.le_of_ble_eq_true rfl) (Nat.le_of_ble_eq_true rfl) rfl ?_
          change ab_W _ _ _ G30 223 [some (vR 80), some (vI (xs 1)), some (vI (xs 2)), some (vI 1), some (vI 1), some (vI 5)] [] _
          refine ab_goto (tgt := 182) d_MO_compile_223 (by decide) ?_
          refine ab_iload d_MO_compile_182 rfl ?_
          refine ab_bipush (v := 12) d_MO_compile_184 (by decide) ?_
          refine ab_icmp_ge (tgt := 226) d_MO_compile_186 (by decide) (fun c => absurd c (by decide)) (fun _ => ?_)
          refine ab_aload_n d_MO_compile_189 rfl ?_
          refine ab_getf (fs := (m_fv (vI 0) (vI 0) (vI 0) (vI 0) (vI 0) (vI 0) (vI 0) (vI 0) (vI 2) (vI 0) (vI ((xs 2) &&& 15)) (vI 0) (vI (-1)) (vI 0) (vI 0) (vI 0) (vI 0) (vI 0) (vI 0) (vI (xs 1)) (vI 0) (vI 0) (vI 0) (vI 0) (vI 0) (vI 0) (vI 0) (vI 0) (vI 0) (vI 0) (vI 0) (vI 0) (vI 0) (vI 0) (vI 0))) f_MO_152 d_MO_compile_190 h80 rfl ?_
          refine ab_bipush (v := 120) d_MO_compile_193 (by decide) ?_
          refine ab_iload_n d_MO_compile_195 rfl ?_
          refine ab_imul d_MO_compile_196 ?_
          refine ab_bipush (v := 12) d_MO_compile_197 (by decide) ?_
          refine ab_iload d_MO_compile_199 rfl ?_
          refine ab_imul d_MO_compile_201 ?_
          refine ab_topi (y := 12) (by decide) ?_
          refine ab_iadd d_MO_compile_202 ?_
          refine ab_iload d_MO_compile_203 rfl ?_
          refine ab_iadd d_MO_compile_205 ?_
          refine ab_aload_n d_MO_compile_206 rfl ?_
          refine ab_getf (fs := (m_fv (vI 0) (vI 0) (vI 0) (vI 0) (vI 0) (vI 0) (vI 0) (vI 0) (vI 2) (vI 0) (vI ((xs 2) &&& 15)) (vI 0) (vI (-1)) (vI 0) (vI 0) (vI 0) (vI 0) (vI 0) (vI 0) (vI (xs 1)) (vI 0) (vI 0) (vI 0) (vI 0) (vI 0) (vI 0) (vI 0) (vI 0) (vI 0) (vI 0) (vI 0) (vI 0) (vI 0) (vI 0) (vI 0))) f_MO_103 d_MO_compile_207 h80 rfl ?_
          refine ab_bipush (v := 12) d_MO_compile_210 (by decide) ?_
          refine ab_iload d_MO_compile_212 rfl ?_
          refine ab_imul d_MO_compile_214 ?_
          refine ab_topi (y := 12) (by decide) ?_
          refine ab_iload d_MO_compile_215 rfl ?_
          refine ab_iadd d_MO_compile_217 ?_
          refine ab_topi (y := 17) (by decide) ?_
          refine ab_iald d_MO_compile_218 h110 (by unfold vp_in; decide) ?_
          refine ab_topi (y := 0) rfl ?_
          refine ab_iast d_MO_compile_219 h126 (vp_in_iff.mpr (by have l0 := (show (0 : Int32).toInt = 0 by decide); have l1 := (show (5 : Int32).toInt = 5 by decide); have l2 := (show (12 : Int32).toInt = 12 by decide); have l3 := (show (31 : Int32).toInt = 31 by decide); have l4 := (show (120 : Int32).toInt = 120 by decide); simp only [Int32.le_iff_toInt_le, Int32.lt_iff_toInt_lt, ← Int32.toInt_inj] at c0 c1 c2 c3 c4 c5 c6 c7; have e0 : Int32.toInt (120 * (xs 1)) = Int32.toInt 120 * Int32.toInt (xs 1) := i32_mul (by simp only [l0, l1, l2, l3, l4]; omega) (by simp only [l0, l1, l2, l3, l4]; omega); have e1 : Int32.toInt ((120 * (xs 1)) + 12) = Int32.toInt (120 * (xs 1)) + Int32.toInt 12 := i32_add (by simp only [l0, l1, l2, l3, l4, e0]; omega) (by simp only [l0, l1, l2, l3, l4, e0]; omega); have e2 : Int32.toInt (((120 * (xs 1)) + 12) + 5) = Int32.toInt ((120 * (xs 1)) + 12) + Int32.toInt 5 := i32_add (by simp only [l0, l1, l2, l3, l4, e0, e1]; omega) (by simp only [l0, l1, l2, l3, l4, e0, e1]; omega); (try simp only [l0, l1, l2, l3, l4] at e0 e1 e2); constructor <;> omega)) (by decide) ?_
          obtain ⟨G31, eG31⟩ : ∃ z : ab_G, z = List.set G30 126 (ab_if 720 ((upd f126_19 (Int32.toNatClampNeg (((120 * (xs 1)) + 12) + 5)) 0))) := ⟨_, rfl⟩
          have h80 := ab_keep eG31 (by decide) h80
          have h110 := ab_keep eG31 (by decide) h110
          have h127 := ab_keep eG31 (by decide) h127
          have hlen := ab_klen eG31 hlen
          have hsl := ab_ksl 720 eG31 h126 rfl rfl hsl
          have hfr := hfr.wr eG31 (by decide)
          have hpk := hpk.wr eG31 (by decide)
          have h126 := ab_kept eG31 h126
          change ab_W _ _ _ (List.set G30 126 (ab_if 720 ((upd f126_19 (Int32.toNatClampNeg (((120 * (xs 1)) + 12) + 5)) 0)))) 220 [some (vR 80), some (vI (xs 1)), some (vI (xs 2)), some (vI 1), some (vI 1), some (vI 5)] [] _
          rw [← eG31]
          obtain ⟨f126_20, h126⟩ : ∃ g : Nat → Int32, G31[126]? = some (ab_if 720 (g)) := ⟨_, h126⟩
          refine ab_iinc (v := 6) d_MO_compile_220 rfl (by decide) (Nat.le_of_ble_eq_true rfl) (Nat.le_of_ble_eq_true rfl) rfl ?_
          change ab_W _ _ _ G31 223 [some (vR 80), some (vI (xs 1)), some (vI (xs 2)), some (vI 1), some (vI 1), some (vI 6)] [] _
          refine ab_goto (tgt := 182) d_MO_compile_223 (by decide) ?_
          refine ab_iload d_MO_compile_182 rfl ?_
          refine ab_bipush (v := 12) d_MO_compile_184 (by decide) ?_
          refine ab_icmp_ge (tgt := 226) d_MO_compile_186 (by decide) (fun c => absurd c (by decide)) (fun _ => ?_)
          refine ab_aload_n d_MO_compile_189 rfl ?_
          refine ab_getf (fs := (m_fv (vI 0) (vI 0) (vI 0) (vI 0) (vI 0) (vI 0) (vI 0) (vI 0) (vI 2) (vI 0) (vI ((xs 2) &&& 15)) (vI 0) (vI (-1)) (vI 0) (vI 0) (vI 0) (vI 0) (vI 0) (vI 0) (vI (xs 1)) (vI 0) (vI 0) (vI 0) (vI 0) (vI 0) (vI 0) (vI 0) (vI 0) (vI 0) (vI 0) (vI 0) (vI 0) (vI 0) (vI 0) (vI 0))) f_MO_152 d_MO_compile_190 h80 rfl ?_
          refine ab_bipush (v := 120) d_MO_compile_193 (by decide) ?_
          refine ab_iload_n d_MO_compile_195 rfl ?_
          refine ab_imul d_MO_compile_196 ?_
          refine ab_bipush (v := 12) d_MO_compile_197 (by decide) ?_
          refine ab_iload d_MO_compile_199 rfl ?_
          refine ab_imul d_MO_compile_201 ?_
          refine ab_topi (y := 12) (by decide) ?_
          refine ab_iadd d_MO_compile_202 ?_
          refine ab_iload d_MO_compile_203 rfl ?_
          refine ab_iadd d_MO_compile_205 ?_
          refine ab_aload_n d_MO_compile_206 rfl ?_
          refine ab_getf (fs := (m_fv (vI 0) (vI 0) (vI 0) (vI 0) (vI 0) (vI 0) (vI 0) (vI 0) (vI 2) (vI 0) (vI ((xs 2) &&& 15)) (vI 0) (vI (-1)) (vI 0) (vI 0) (vI 0) (vI 0) (vI 0) (vI 0) (vI (xs 1)) (vI 0) (vI 0) (vI 0) (vI 0) (vI 0) (vI 0) (vI 0) (vI 0) (vI 0) (vI 0) (vI 0) (vI 0) (vI 0) (vI 0) (vI 0))) f_MO_103 d_MO_compile_207 h80 rfl ?_
          refine ab_bipush (v := 12) d_MO_compile_210 (by decide) ?_
          refine ab_iload d_MO_compile_212 rfl ?_
          refine ab_imul d_MO_compile_214 ?_
          refine ab_topi (y := 12) (by decide) ?_
          refine ab_iload d_MO_compile_215 rfl ?_
          refine ab_iadd d_MO_compile_217 ?_
          refine ab_topi (y := 18) (by decide) ?_
          refine ab_iald d_MO_compile_218 h110 (by unfold vp_in; decide) ?_
          refine ab_topi (y := 0) rfl ?_
          refine ab_iast d_MO_compile_219 h126 (vp_in_iff.mpr (by have l0 := (show (0 : Int32).toInt = 0 by decide); have l1 := (show (5 : Int32).toInt = 5 by decide); have l2 := (show (6 : Int32).toInt = 6 by decide); have l3 := (show (12 : Int32).toInt = 12 by decide); have l4 := (show (31 : Int32).toInt = 31 by decide); have l5 := (show (120 : Int32).toInt = 120 by decide); simp only [Int32.le_iff_toInt_le, Int32.lt_iff_toInt_lt, ← Int32.toInt_inj] at c0 c1 c2 c3 c4 c5 c6 c7; have e0 : Int32.toInt (120 * (xs 1)) = Int32.toInt 120 * Int32.toInt (xs 1) := i32_mul (by simp only [l0, l1, l2, l3, l4, l5]; omega) (by simp only [l0, l1, l2, l3, l4, l5]; omega); have e1 : Int32.toInt ((120 * (xs 1)) + 12) = Int32.toInt (120 * (xs 1)) + Int32.toInt 12 := i32_add (by simp only [l0, l1, l2, l3, l4, l5, e0]; omega) (by simp only [l0, l1, l2, l3, l4, l5, e0]; omega); have e2 : Int32.toInt (((120 * (xs 1)) + 12) + 6) = Int32.toInt ((120 * (xs 1)) + 12) + Int32.toInt 6 := i32_add (by simp only [l0, l1, l2, l3, l4, l5, e0, e1]; omega) (by simp only [l0, l1, l2, l3, l4, l5, e0, e1]; omega); (try simp only [l0, l1, l2, l3, l4, l5] at e0 e1 e2); constructor <;> omega)) (by decide) ?_
          obtain ⟨G32, eG32⟩ : ∃ z : ab_G, z = List.set G31 126 (ab_if 720 ((upd f126_20 (Int32.toNatClampNeg (((120 * (xs 1)) + 12) + 6)) 0))) := ⟨_, rfl⟩
          have h80 := ab_keep eG32 (by decide) h80
          have h110 := ab_keep eG32 (by decide) h110
          have h127 := ab_keep eG32 (by decide) h127
          have hlen := ab_klen eG32 hlen
          have hsl := ab_ksl 720 eG32 h126 rfl rfl hsl
          have hfr := hfr.wr eG32 (by decide)
          have hpk := hpk.wr eG32 (by decide)
          have h126 := ab_kept eG32 h126
          change ab_W _ _ _ (List.set G31 126 (ab_if 720 ((upd f126_20 (Int32.toNatClampNeg (((120 * (xs 1)) + 12) + 6)) 0)))) 220 [some (vR 80), some (vI (xs 1)), some (vI (xs 2)), some (vI 1), some (vI 1), some (vI 6)] [] _
          rw [← eG32]
          obtain ⟨f126_21, h126⟩ : ∃ g : Nat → Int32, G32[126]? = some (ab_if 720 (g)) := ⟨_, h126⟩
          refine ab_iinc (v := 7) d_MO_compile_220 rfl (by decide) (Nat.le_of_ble_eq_true rfl) (Nat.le_of_ble_eq_true rfl) rfl ?_
          change ab_W _ _ _ G32 223 [some (vR 80), some (vI (xs 1)), some (vI (xs 2)), some (vI 1), some (vI 1), some (vI 7)] [] _
          refine ab_goto (tgt := 182) d_MO_compile_223 (by decide) ?_
          refine ab_iload d_MO_compile_182 rfl ?_
          refine ab_bipush (v := 12) d_MO_compile_184 (by decide) ?_
          refine ab_icmp_ge (tgt := 226) d_MO_compile_186 (by decide) (fun c => absurd c (by decide)) (fun _ => ?_)
          refine ab_aload_n d_MO_compile_189 rfl ?_
          refine ab_getf (fs := (m_fv (vI 0) (vI 0) (vI 0) (vI 0) (vI 0) (vI 0) (vI 0) (vI 0) (vI 2) (vI 0) (vI ((xs 2) &&& 15)) (vI 0) (vI (-1)) (vI 0) (vI 0) (vI 0) (vI 0) (vI 0) (vI 0) (vI (xs 1)) (vI 0) (vI 0) (vI 0) (vI 0) (vI 0) (vI 0) (vI 0) (vI 0) (vI 0) (vI 0) (vI 0) (vI 0) (vI 0) (vI 0) (vI 0))) f_MO_152 d_MO_compile_190 h80 rfl ?_
          refine ab_bipush (v := 120) d_MO_compile_193 (by decide) ?_
          refine ab_iload_n d_MO_compile_195 rfl ?_
          refine ab_imul d_MO_compile_196 ?_
          refine ab_bipush (v := 12) d_MO_compile_197 (by decide) ?_
          refine ab_iload d_MO_compile_199 rfl ?_
          refine ab_imul d_MO_compile_201 ?_
          refine ab_topi (y := 12) (by decide) ?_
          refine ab_iadd d_MO_compile_202 ?_
          refine ab_iload d_MO_compile_203 rfl ?_
          refine ab_iadd d_MO_compile_205 ?_
          refine ab_aload_n d_MO_compile_206 rfl ?_
          refine ab_getf (fs := (m_fv (vI 0) (vI 0) (vI 0) (vI 0) (vI 0) (vI 0) (vI 0) (vI 0) (vI 2) (vI 0) (vI ((xs 2) &&& 15)) (vI 0) (vI (-1)) (vI 0) (vI 0) (vI 0) (vI 0) (vI 0) (vI 0) (vI (xs 1)) (vI 0) (vI 0) (vI 0) (vI 0) (vI 0) (vI 0) (vI 0) (vI 0) (vI 0) (vI 0) (vI 0) (vI 0) (vI 0) (vI 0) (vI 0))) f_MO_103 d_MO_compile_207 h80 rfl ?_
          refine ab_bipush (v := 12) d_MO_compile_210 (by decide) ?_
          refine ab_iload d_MO_compile_212 rfl ?_
          refine ab_imul d_MO_compile_214 ?_
          refine ab_topi (y := 12) (by decide) ?_
          refine ab_iload d_MO_compile_215 rfl ?_
          refine ab_iadd d_MO_compile_217 ?_
          refine ab_topi (y := 19) (by decide) ?_
          refine ab_iald d_MO_compile_218 h110 (by unfold vp_in; decide) ?_
          refine ab_topi (y := 0) rfl ?_
          refine ab_iast d_MO_compile_219 h126 (vp_in_iff.mpr (by have l0 := (show (0 : Int32).toInt = 0 by decide); have l1 := (show (5 : Int32).toInt = 5 by decide); have l2 := (show (7 : Int32).toInt = 7 by decide); have l3 := (show (12 : Int32).toInt = 12 by decide); have l4 := (show (31 : Int32).toInt = 31 by decide); have l5 := (show (120 : Int32).toInt = 120 by decide); simp only [Int32.le_iff_toInt_le, Int32.lt_iff_toInt_lt, ← Int32.toInt_inj] at c0 c1 c2 c3 c4 c5 c6 c7; have e0 : Int32.toInt (120 * (xs 1)) = Int32.toInt 120 * Int32.toInt (xs 1) := i32_mul (by simp only [l0, l1, l2, l3, l4, l5]; omega) (by simp only [l0, l1, l2, l3, l4, l5]; omega); have e1 : Int32.toInt ((120 * (xs 1)) + 12) = Int32.toInt (120 * (xs 1)) + Int32.toInt 12 := i32_add (by simp only [l0, l1, l2, l3, l4, l5, e0]; omega) (by simp only [l0, l1, l2, l3, l4, l5, e0]; omega); have e2 : Int32.toInt (((120 * (xs 1)) + 12) + 7) = Int32.toInt ((120 * (xs 1)) + 12) + Int32.toInt 7 := i32_add (by simp only [l0, l1, l2, l3, l4, l5, e0, e1]; omega) (by simp only [l0, l1, l2, l3, l4, l5, e0, e1]; omega); (try simp only [l0, l1, l2, l3, l4, l5] at e0 e1 e2); constructor <;> omega)) (by decide) ?_
          obtain ⟨G33, eG33⟩ : ∃ z : ab_G, z = List.set G32 126 (ab_if 720 ((upd f126_21 (Int32.toNatClampNeg (((120 * (xs 1)) + 12) + 7)) 0))) := ⟨_, rfl⟩
          have h80 := ab_keep eG33 (by decide) h80
          have h110 := ab_keep eG33 (by decide) h110
          have h127 := ab_keep eG33 (by decide) h127
          have hlen := ab_klen eG33 hlen
          have hsl := ab_ksl 720 eG33 h126 rfl rfl hsl
          have hfr := hfr.wr eG33 (by decide)
          have hpk := hpk.wr eG33 (by decide)
          have h126 := ab_kept eG33 h126
          change ab_W _ _ _ (List.set G32 126 (ab_if 720 ((upd f126_21 (Int32.toNatClampNeg (((120 * (xs 1)) + 12) + 7)) 0)))) 220 [some (vR 80), some (vI (xs 1)), some (vI (xs 2)), some (vI 1), some (vI 1), some (vI 7)] [] _
          rw [← eG33]
          obtain ⟨f126_22, h126⟩ : ∃ g : Nat → Int32, G33[126]? = some (ab_if 720 (g)) := ⟨_, h126⟩
          refine ab_iinc (v := 8) d_MO_compile_220 rfl (by decide) (Nat.le_of_ble_eq_true rfl) (Nat.le_of_ble_eq_true rfl) rfl ?_
          change ab_W _ _ _ G33 223 [some (vR 80), some (vI (xs 1)), some (vI (xs 2)), some (vI 1), some (vI 1), some (vI 8)] [] _
          refine ab_goto (tgt := 182) d_MO_compile_223 (by decide) ?_
          refine ab_iload d_MO_compile_182 rfl ?_
          refine ab_bipush (v := 12) d_MO_compile_184 (by decide) ?_
          refine ab_icmp_ge (tgt := 226) d_MO_compile_186 (by decide) (fun c => absurd c (by decide)) (fun _ => ?_)
          refine ab_aload_n d_MO_compile_189 rfl ?_
          refine ab_getf (fs := (m_fv (vI 0) (vI 0) (vI 0) (vI 0) (vI 0) (vI 0) (vI 0) (vI 0) (vI 2) (vI 0) (vI ((xs 2) &&& 15)) (vI 0) (vI (-1)) (vI 0) (vI 0) (vI 0) (vI 0) (vI 0) (vI 0) (vI (xs 1)) (vI 0) (vI 0) (vI 0) (vI 0) (vI 0) (vI 0) (vI 0) (vI 0) (vI 0) (vI 0) (vI 0) (vI 0) (vI 0) (vI 0) (vI 0))) f_MO_152 d_MO_compile_190 h80 rfl ?_
          refine ab_bipush (v := 120) d_MO_compile_193 (by decide) ?_
          refine ab_iload_n d_MO_compile_195 rfl ?_
          refine ab_imul d_MO_compile_196 ?_
          refine ab_bipush (v := 12) d_MO_compile_197 (by decide) ?_
          refine ab_iload d_MO_compile_199 rfl ?_
          refine ab_imul d_MO_compile_201 ?_
          refine ab_topi (y := 12) (by decide) ?_
          refine ab_iadd d_MO_compile_202 ?_
          refine ab_iload d_MO_compile_203 rfl ?_
          refine ab_iadd d_MO_compile_205 ?_
          refine ab_aload_n d_MO_compile_206 rfl ?_
          refine ab_getf (fs := (m_fv (vI 0) (vI 0) (vI 0) (vI 0) (vI 0) (vI 0) (vI 0) (vI 0) (vI 2) (vI 0) (vI ((xs 2) &&& 15)) (vI 0) (vI (-1)) (vI 0) (vI 0) (vI 0) (vI 0) (vI 0) (vI 0) (vI (xs 1)) (vI 0) (vI 0) (vI 0) (vI 0) (vI 0) (vI 0) (vI 0) (vI 0) (vI 0) (vI 0) (vI 0) (vI 0) (vI 0) (vI 0) (vI 0))) f_MO_103 d_MO_compile_207 h80 rfl ?_
          refine ab_bipush (v := 12) d_MO_compile_210 (by decide) ?_
          refine ab_iload d_MO_compile_212 rfl ?_
          refine ab_imul d_MO_compile_214 ?_
          refine ab_topi (y := 12) (by decide) ?_
          refine ab_iload d_MO_compile_215 rfl ?_
          refine ab_iadd d_MO_compile_217 ?_
          refine ab_topi (y := 20) (by decide) ?_
          refine ab_iald d_MO_compile_218 h110 (by unfold vp_in; decide) ?_
          refine ab_topi (y := 0) rfl ?_
          refine ab_iast d_MO_compile_219 h126 (vp_in_iff.mpr (by have l0 := (show (0 : Int32).toInt = 0 by decide); have l1 := (show (5 : Int32).toInt = 5 by decide); have l2 := (show (8 : Int32).toInt = 8 by decide); have l3 := (show (12 : Int32).toInt = 12 by decide); have l4 := (show (31 : Int32).toInt = 31 by decide); have l5 := (show (120 : Int32).toInt = 120 by decide); simp only [Int32.le_iff_toInt_le, Int32.lt_iff_toInt_lt, ← Int32.toInt_inj] at c0 c1 c2 c3 c4 c5 c6 c7; have e0 : Int32.toInt (120 * (xs 1)) = Int32.toInt 120 * Int32.toInt (xs 1) := i32_mul (by simp only [l0, l1, l2, l3, l4, l5]; omega) (by simp only [l0, l1, l2, l3, l4, l5]; omega); have e1 : Int32.toInt ((120 * (xs 1)) + 12) = Int32.toInt (120 * (xs 1)) + Int32.toInt 12 := i32_add (by simp only [l0, l1, l2, l3, l4, l5, e0]; omega) (by simp only [l0, l1, l2, l3, l4, l5, e0]; omega); have e2 : Int32.toInt (((120 * (xs 1)) + 12) + 8) = Int32.toInt ((120 * (xs 1)) + 12) + Int32.toInt 8 := i32_add (by simp only [l0, l1, l2, l3, l4, l5, e0, e1]; omega) (by simp only [l0, l1, l2, l3, l4, l5, e0, e1]; omega); (try simp only [l0, l1, l2, l3, l4, l5] at e0 e1 e2); constructor <;> omega)) (by decide) ?_
          obtain ⟨G34, eG34⟩ : ∃ z : ab_G, z = List.set G33 126 (ab_if 720 ((upd f126_22 (Int32.toNatClampNeg (((120 * (xs 1)) + 12) + 8)) 0))) := ⟨_, rfl⟩
          have h80 := ab_keep eG34 (by decide) h80
          have h110 := ab_keep eG34 (by decide) h110
          have h127 := ab_keep eG34 (by decide) h127
          have hlen := ab_klen eG34 hlen
          have hsl := ab_ksl 720 eG34 h126 rfl rfl hsl
          have hfr := hfr.wr eG34 (by decide)
          have hpk := hpk.wr eG34 (by decide)
          have h126 := ab_kept eG34 h126
          change ab_W _ _ _ (List.set G33 126 (ab_if 720 ((upd f126_22 (Int32.toNatClampNeg (((120 * (xs 1)) + 12) + 8)) 0)))) 220 [some (vR 80), some (vI (xs 1)), some (vI (xs 2)), some (vI 1), some (vI 1), some (vI 8)] [] _
          rw [← eG34]
          obtain ⟨f126_23, h126⟩ : ∃ g : Nat → Int32, G34[126]? = some (ab_if 720 (g)) := ⟨_, h126⟩
          refine ab_iinc (v := 9) d_MO_compile_220 rfl (by decide) (Nat.le_of_ble_eq_true rfl) (Nat.le_of_ble_eq_true rfl) rfl ?_
          change ab_W _ _ _ G34 223 [some (vR 80), some (vI (xs 1)), some (vI (xs 2)), some (vI 1), some (vI 1), some (vI 9)] [] _
          refine ab_goto (tgt := 182) d_MO_compile_223 (by decide) ?_
          refine ab_iload d_MO_compile_182 rfl ?_
          refine ab_bipush (v := 12) d_MO_compile_184 (by decide) ?_
          refine ab_icmp_ge (tgt := 226) d_MO_compile_186 (by decide) (fun c => absurd c (by decide)) (fun _ => ?_)
          refine ab_aload_n d_MO_compile_189 rfl ?_
          refine ab_getf (fs := (m_fv (vI 0) (vI 0) (vI 0) (vI 0) (vI 0) (vI 0) (vI 0) (vI 0) (vI 2) (vI 0) (vI ((xs 2) &&& 15)) (vI 0) (vI (-1)) (vI 0) (vI 0) (vI 0) (vI 0) (vI 0) (vI 0) (vI (xs 1)) (vI 0) (vI 0) (vI 0) (vI 0) (vI 0) (vI 0) (vI 0) (vI 0) (vI 0) (vI 0) (vI 0) (vI 0) (vI 0) (vI 0) (vI 0))) f_MO_152 d_MO_compile_190 h80 rfl ?_
          refine ab_bipush (v := 120) d_MO_compile_193 (by decide) ?_
          refine ab_iload_n d_MO_compile_195 rfl ?_
          refine ab_imul d_MO_compile_196 ?_
          refine ab_bipush (v := 12) d_MO_compile_197 (by decide) ?_
          refine ab_iload d_MO_compile_199 rfl ?_
          refine ab_imul d_MO_compile_201 ?_
          refine ab_topi (y := 12) (by decide) ?_
          refine ab_iadd d_MO_compile_202 ?_
          refine ab_iload d_MO_compile_203 rfl ?_
          refine ab_iadd d_MO_compile_205 ?_
          refine ab_aload_n d_MO_compile_206 rfl ?_
          refine ab_getf (fs := (m_fv (vI 0) (vI 0) (vI 0) (vI 0) (vI 0) (vI 0) (vI 0) (vI 0) (vI 2) (vI 0) (vI ((xs 2) &&& 15)) (vI 0) (vI (-1)) (vI 0) (vI 0) (vI 0) (vI 0) (vI 0) (vI 0) (vI (xs 1)) (vI 0) (vI 0) (vI 0) (vI 0) (vI 0) (vI 0) (vI 0) (vI 0) (vI 0) (vI 0) (vI 0) (vI 0) (vI 0) (vI 0) (vI 0))) f_MO_103 d_MO_compile_207 h80 rfl ?_
          refine ab_bipush (v := 12) d_MO_compile_210 (by decide) ?_
          refine ab_iload d_MO_compile_212 rfl ?_
          refine ab_imul d_MO_compile_214 ?_
          refine ab_topi (y := 12) (by decide) ?_
          refine ab_iload d_MO_compile_215 rfl ?_
          refine ab_iadd d_MO_compile_217 ?_
          refine ab_topi (y := 21) (by decide) ?_
          refine ab_iald d_MO_compile_218 h110 (by unfold vp_in; decide) ?_
          refine ab_topi (y := 0) rfl ?_
          refine ab_iast d_MO_compile_219 h126 (vp_in_iff.mpr (by have l0 := (show (0 : Int32).toInt = 0 by decide); have l1 := (show (5 : Int32).toInt = 5 by decide); have l2 := (show (9 : Int32).toInt = 9 by decide); have l3 := (show (12 : Int32).toInt = 12 by decide); have l4 := (show (31 : Int32).toInt = 31 by decide); have l5 := (show (120 : Int32).toInt = 120 by decide); simp only [Int32.le_iff_toInt_le, Int32.lt_iff_toInt_lt, ← Int32.toInt_inj] at c0 c1 c2 c3 c4 c5 c6 c7; have e0 : Int32.toInt (120 * (xs 1)) = Int32.toInt 120 * Int32.toInt (xs 1) := i32_mul (by simp only [l0, l1, l2, l3, l4, l5]; omega) (by simp only [l0, l1, l2, l3, l4, l5]; omega); have e1 : Int32.toInt ((120 * (xs 1)) + 12) = Int32.toInt (120 * (xs 1)) + Int32.toInt 12 := i32_add (by simp only [l0, l1, l2, l3, l4, l5, e0]; omega) (by simp only [l0, l1, l2, l3, l4, l5, e0]; omega); have e2 : Int32.toInt (((120 * (xs 1)) + 12) + 9) = Int32.toInt ((120 * (xs 1)) + 12) + Int32.toInt 9 := i32_add (by simp only [l0, l1, l2, l3, l4, l5, e0, e1]; omega) (by simp only [l0, l1, l2, l3, l4, l5, e0, e1]; omega); (try simp only [l0, l1, l2, l3, l4, l5] at e0 e1 e2); constructor <;> omega)) (by decide) ?_
          obtain ⟨G35, eG35⟩ : ∃ z : ab_G, z = List.set G34 126 (ab_if 720 ((upd f126_23 (Int32.toNatClampNeg (((120 * (xs 1)) + 12) + 9)) 0))) := ⟨_, rfl⟩
          have h80 := ab_keep eG35 (by decide) h80
          have h110 := ab_keep eG35 (by decide) h110
          have h127 := ab_keep eG35 (by decide) h127
          have hlen := ab_klen eG35 hlen
          have hsl := ab_ksl 720 eG35 h126 rfl rfl hsl
          have hfr := hfr.wr eG35 (by decide)
          have hpk := hpk.wr eG35 (by decide)
          have h126 := ab_kept eG35 h126
          change ab_W _ _ _ (List.set G34 126 (ab_if 720 ((upd f126_23 (Int32.toNatClampNeg (((120 * (xs 1)) + 12) + 9)) 0)))) 220 [some (vR 80), some (vI (xs 1)), some (vI (xs 2)), some (vI 1), some (vI 1), some (vI 9)] [] _
          rw [← eG35]
          obtain ⟨f126_24, h126⟩ : ∃ g : Nat → Int32, G35[126]? = some (ab_if 720 (g)) := ⟨_, h126⟩
          refine ab_iinc (v := 10) d_MO_compile_220 rfl (by decide) (Nat.le_of_ble_eq_true rfl) (Nat.le_of_ble_eq_true rfl) rfl ?_
          change ab_W _ _ _ G35 223 [some (vR 80), some (vI (xs 1)), some (vI (xs 2)), some (vI 1), some (vI 1), some (vI 10)] [] _
          refine ab_goto (tgt := 182) d_MO_compile_223 (by decide) ?_
          refine ab_iload d_MO_compile_182 rfl ?_
          refine ab_bipush (v := 12) d_MO_compile_184 (by decide) ?_
          refine ab_icmp_ge (tgt := 226) d_MO_compile_186 (by decide) (fun c => absurd c (by decide)) (fun _ => ?_)
          refine ab_aload_n d_MO_compile_189 rfl ?_
          refine ab_getf (fs := (m_fv (vI 0) (vI 0) (vI 0) (vI 0) (vI 0) (vI 0) (vI 0) (vI 0) (vI 2) (vI 0) (vI ((xs 2) &&& 15)) (vI 0) (vI (-1)) (vI 0) (vI 0) (vI 0) (vI 0) (vI 0) (vI 0) (vI (xs 1)) (vI 0) (vI 0) (vI 0) (vI 0) (vI 0) (vI 0) (vI 0) (vI 0) (vI 0) (vI 0) (vI 0) (vI 0) (vI 0) (vI 0) (vI 0))) f_MO_152 d_MO_compile_190 h80 rfl ?_
          refine ab_bipush (v := 120) d_MO_compile_193 (by decide) ?_
          refine ab_iload_n d_MO_compile_195 rfl ?_
          refine ab_imul d_MO_compile_196 ?_
          refine ab_bipush (v := 12) d_MO_compile_197 (by decide) ?_
          refine ab_iload d_MO_compile_199 rfl ?_
          refine ab_imul d_MO_compile_201 ?_
          refine ab_topi (y := 12) (by decide) ?_
          refine ab_iadd d_MO_compile_202 ?_
          refine ab_iload d_MO_compile_203 rfl ?_
          refine ab_iadd d_MO_compile_205 ?_
          refine ab_aload_n d_MO_compile_206 rfl ?_
          refine ab_getf (fs := (m_fv (vI 0) (vI 0) (vI 0) (vI 0) (vI 0) (vI 0) (vI 0) (vI 0) (vI 2) (vI 0) (vI ((xs 2) &&& 15)) (vI 0) (vI (-1)) (vI 0) (vI 0) (vI 0) (vI 0) (vI 0) (vI 0) (vI (xs 1)) (vI 0) (vI 0) (vI 0) (vI 0) (vI 0) (vI 0) (vI 0) (vI 0) (vI 0) (vI 0) (vI 0) (vI 0) (vI 0) (vI 0) (vI 0))) f_MO_103 d_MO_compile_207 h80 rfl ?_
          refine ab_bipush (v := 12) d_MO_compile_210 (by decide) ?_
          refine ab_iload d_MO_compile_212 rfl ?_
          refine ab_imul d_MO_compile_214 ?_
          refine ab_topi (y := 12) (by decide) ?_
          refine ab_iload d_MO_compile_215 rfl ?_
          refine ab_iadd d_MO_compile_217 ?_
          refine ab_topi (y := 22) (by decide) ?_
          refine ab_iald d_MO_compile_218 h110 (by unfold vp_in; decide) ?_
          refine ab_topi (y := 0) rfl ?_
          refine ab_iast d_MO_compile_219 h126 (vp_in_iff.mpr (by have l0 := (show (0 : Int32).toInt = 0 by decide); have l1 := (show (5 : Int32).toInt = 5 by decide); have l2 := (show (10 : Int32).toInt = 10 by decide); have l3 := (show (12 : Int32).toInt = 12 by decide); have l4 := (show (31 : Int32).toInt = 31 by decide); have l5 := (show (120 : Int32).toInt = 120 by decide); simp only [Int32.le_iff_toInt_le, Int32.lt_iff_toInt_lt, ← Int32.toInt_inj] at c0 c1 c2 c3 c4 c5 c6 c7; have e0 : Int32.toInt (120 * (xs 1)) = Int32.toInt 120 * Int32.toInt (xs 1) := i32_mul (by simp only [l0, l1, l2, l3, l4, l5]; omega) (by simp only [l0, l1, l2, l3, l4, l5]; omega); have e1 : Int32.toInt ((120 * (xs 1)) + 12) = Int32.toInt (120 * (xs 1)) + Int32.toInt 12 := i32_add (by simp only [l0, l1, l2, l3, l4, l5, e0]; omega) (by simp only [l0, l1, l2, l3, l4, l5, e0]; omega); have e2 : Int32.toInt (((120 * (xs 1)) + 12) + 10) = Int32.toInt ((120 * (xs 1)) + 12) + Int32.toInt 10 := i32_add (by simp only [l0, l1, l2, l3, l4, l5, e0, e1]; omega) (by simp only [l0, l1, l2, l3, l4, l5, e0, e1]; omega); (try simp only [l0, l1, l2, l3, l4, l5] at e0 e1 e2); constructor <;> omega)) (by decide) ?_
          obtain ⟨G36, eG36⟩ : ∃ z : ab_G, z = List.set G35 126 (ab_if 720 ((upd f126_24 (Int32.toNatClampNeg (((120 * (xs 1)) + 12) + 10)) 0))) := ⟨_, rfl⟩
          have h80 := ab_keep eG36 (by decide) h80
          have h110 := ab_keep eG36 (by decide) h110
          have h127 := ab_keep eG36 (by decide) h127
          have hlen := ab_klen eG36 hlen
          have hsl := ab_ksl 720 eG36 h126 rfl rfl hsl
          have hfr := hfr.wr eG36 (by decide)
          have hpk := hpk.wr eG36 (by decide)
          have h126 := ab_kept eG36 h126
          change ab_W _ _ _ (List.set G35 126 (ab_if 720 ((upd f126_24 (Int32.toNatClampNeg (((120 * (xs 1)) + 12) + 10)) 0)))) 220 [some (vR 80), some (vI (xs 1)), some (vI (xs 2)), some (vI 1), some (vI 1), some (vI 10)] [] _
          rw [← eG36]
          obtain ⟨f126_25, h126⟩ : ∃ g : Nat → Int32, G36[126]? = some (ab_if 720 (g)) := ⟨_, h126⟩
          refine ab_iinc (v := 11) d_MO_compile_220 rfl (by decide) (Nat.le_of_ble_eq_true rfl) (Nat.le_of_ble_eq_true rfl) rfl ?_
          change ab_W _ _ _ G36 223 [some (vR 80), some (vI (xs 1)), some (vI (xs 2)), some (vI 1), some (vI 1), some (vI 11)] [] _
          refine ab_goto (tgt := 182) d_MO_compile_223 (by decide) ?_
          refine ab_iload d_MO_compile_182 rfl ?_
          refine ab_bipush (v := 12) d_MO_compile_184 (by decide) ?_
          refine ab_icmp_ge (tgt := 226) d_MO_compile_186 (by decide) (fun c => absurd c (by decide)) (fun _ => ?_)
          refine ab_aload_n d_MO_compile_189 rfl ?_
          refine ab_getf (fs := (m_fv (vI 0) (vI 0) (vI 0) (vI 0) (vI 0) (vI 0) (vI 0) (vI 0) (vI 2) (vI 0) (vI ((xs 2) &&& 15)) (vI 0) (vI (-1)) (vI 0) (vI 0) (vI 0) (vI 0) (vI 0) (vI 0) (vI (xs 1)) (vI 0) (vI 0) (vI 0) (vI 0) (vI 0) (vI 0) (vI 0) (vI 0) (vI 0) (vI 0) (vI 0) (vI 0) (vI 0) (vI 0) (vI 0))) f_MO_152 d_MO_compile_190 h80 rfl ?_
          refine ab_bipush (v := 120) d_MO_compile_193 (by decide) ?_
          refine ab_iload_n d_MO_compile_195 rfl ?_
          refine ab_imul d_MO_compile_196 ?_
          refine ab_bipush (v := 12) d_MO_compile_197 (by decide) ?_
          refine ab_iload d_MO_compile_199 rfl ?_
          refine ab_imul d_MO_compile_201 ?_
          refine ab_topi (y := 12) (by decide) ?_
          refine ab_iadd d_MO_compile_202 ?_
          refine ab_iload d_MO_compile_203 rfl ?_
          refine ab_iadd d_MO_compile_205 ?_
          refine ab_aload_n d_MO_compile_206 rfl ?_
          refine ab_getf (fs := (m_fv (vI 0) (vI 0) (vI 0) (vI 0) (vI 0) (vI 0) (vI 0) (vI 0) (vI 2) (vI 0) (vI ((xs 2) &&& 15)) (vI 0) (vI (-1)) (vI 0) (vI 0) (vI 0) (vI 0) (vI 0) (vI 0) (vI (xs 1)) (vI 0) (vI 0) (vI 0) (vI 0) (vI 0) (vI 0) (vI 0) (vI 0) (vI 0) (vI 0) (vI 0) (vI 0) (vI 0) (vI 0) (vI 0))) f_MO_103 d_MO_compile_207 h80 rfl ?_
          refine ab_bipush (v := 12) d_MO_compile_210 (by decide) ?_
          refine ab_iload d_MO_compile_212 rfl ?_
          refine ab_imul d_MO_compile_214 ?_
          refine ab_topi (y := 12) (by decide) ?_
          refine ab_iload d_MO_compile_215 rfl ?_
          refine ab_iadd d_MO_compile_217 ?_
          refine ab_topi (y := 23) (by decide) ?_
          refine ab_iald d_MO_compile_218 h110 (by unfold vp_in; decide) ?_
          refine ab_topi (y := 0) rfl ?_
          refine ab_iast d_MO_compile_219 h126 (vp_in_iff.mpr (by have l0 := (show (0 : Int32).toInt = 0 by decide); have l1 := (show (5 : Int32).toInt = 5 by decide); have l2 := (show (11 : Int32).toInt = 11 by decide); have l3 := (show (12 : Int32).toInt = 12 by decide); have l4 := (show (31 : Int32).toInt = 31 by decide); have l5 := (show (120 : Int32).toInt = 120 by decide); simp only [Int32.le_iff_toInt_le, Int32.lt_iff_toInt_lt, ← Int32.toInt_inj] at c0 c1 c2 c3 c4 c5 c6 c7; have e0 : Int32.toInt (120 * (xs 1)) = Int32.toInt 120 * Int32.toInt (xs 1) := i32_mul (by simp only [l0, l1, l2, l3, l4, l5]; omega) (by simp only [l0, l1, l2, l3, l4, l5]; omega); have e1 : Int32.toInt ((120 * (xs 1)) + 12) = Int32.toInt (120 * (xs 1)) + Int32.toInt 12 := i32_add (by simp only [l0, l1, l2, l3, l4, l5, e0]; omega) (by simp only [l0, l1, l2, l3, l4, l5, e0]; omega); have e2 : Int32.toInt (((120 * (xs 1)) + 12) + 11) = Int32.toInt ((120 * (xs 1)) + 12) + Int32.toInt 11 := i32_add (by simp only [l0, l1, l2, l3, l4, l5, e0, e1]; omega) (by simp only [l0, l1, l2, l3, l4, l5, e0, e1]; omega); (try simp only [l0, l1, l2, l3, l4, l5] at e0 e1 e2); constructor <;> omega)) (by decide) ?_
          obtain ⟨G37, eG37⟩ : ∃ z : ab_G, z = List.set G36 126 (ab_if 720 ((upd f126_25 (Int32.toNatClampNeg (((120 * (xs 1)) + 12) + 11)) 0))) := ⟨_, rfl⟩
          have h80 := ab_keep eG37 (by decide) h80
          have h110 := ab_keep eG37 (by decide) h110
          have h127 := ab_keep eG37 (by decide) h127
          have hlen := ab_klen eG37 hlen
          have hsl := ab_ksl 720 eG37 h126 rfl rfl hsl
          have hfr := hfr.wr eG37 (by decide)
          have hpk := hpk.wr eG37 (by decide)
          have h126 := ab_kept eG37 h126
          change ab_W _ _ _ (List.set G36 126 (ab_if 720 ((upd f126_25 (Int32.toNatClampNeg (((120 * (xs 1)) + 12) + 11)) 0)))) 220 [some (vR 80), some (vI (xs 1)), some (vI (xs 2)), some (vI 1), some (vI 1), some (vI 11)] [] _
          rw [← eG37]
          obtain ⟨f126_26, h126⟩ : ∃ g : Nat → Int32, G37[126]? = some (ab_if 720 (g)) := ⟨_, h126⟩
          refine ab_iinc (v := 12) d_MO_compile_220 rfl (by decide) (Nat.le_of_ble_eq_true rfl) (Nat.le_of_ble_eq_true rfl) rfl ?_
          change ab_W _ _ _ G37 223 [some (vR 80), some (vI (xs 1)), some (vI (xs 2)), some (vI 1), some (vI 1), some (vI 12)] [] _
          refine ab_goto (tgt := 182) d_MO_compile_223 (by decide) ?_
          refine ab_iload d_MO_compile_182 rfl ?_
          refine ab_bipush (v := 12) d_MO_compile_184 (by decide) ?_
          refine ab_icmp_ge (tgt := 226) d_MO_compile_186 (by decide) (fun _ => ?_) (fun c => absurd c (by decide))
          refine ab_iinc (v := 2) d_MO_compile_226 rfl (by decide) (Nat.le_of_ble_eq_true rfl) (Nat.le_of_ble_eq_true rfl) rfl ?_
          change ab_W _ _ _ G37 229 [some (vR 80), some (vI (xs 1)), some (vI (xs 2)), some (vI 1), some (vI 2), some (vI 12)] [] _
          refine ab_goto (tgt := 135) d_MO_compile_229 (by decide) ?_
          refine ab_iload d_MO_compile_135 rfl ?_
          refine ab_bipush (v := 10) d_MO_compile_137 (by decide) ?_
          refine ab_icmp_ge (tgt := 232) d_MO_compile_139 (by decide) (fun c => absurd c (by decide)) (fun _ => ?_)
          refine ab_aload_n d_MO_compile_142 rfl ?_
          refine ab_getf (fs := (m_fv (vI 0) (vI 0) (vI 0) (vI 0) (vI 0) (vI 0) (vI 0) (vI 0) (vI 2) (vI 0) (vI ((xs 2) &&& 15)) (vI 0) (vI (-1)) (vI 0) (vI 0) (vI 0) (vI 0) (vI 0) (vI 0) (vI (xs 1)) (vI 0) (vI 0) (vI 0) (vI 0) (vI 0) (vI 0) (vI 0) (vI 0) (vI 0) (vI 0) (vI 0) (vI 0) (vI 0) (vI 0) (vI 0))) f_MO_155 d_MO_compile_143 h80 rfl ?_
          refine ab_bipush (v := 10) d_MO_compile_146 (by decide) ?_
          refine ab_iload_n d_MO_compile_148 rfl ?_
          refine ab_imul d_MO_compile_149 ?_
          refine ab_iload d_MO_compile_150 rfl ?_
          refine ab_iadd d_MO_compile_152 ?_
          refine ab_iload d_MO_compile_153 rfl ?_
          refine ab_if_le (tgt := 177) d_MO_compile_155 (by decide) (fun c => absurd c (by decide)) (fun _ => ?_)
          refine ab_iload d_MO_compile_158 rfl ?_
          refine ab_aload_n d_MO_compile_160 rfl ?_
          refine ab_getf (fs := (m_fv (vI 0) (vI 0) (vI 0) (vI 0) (vI 0) (vI 0) (vI 0) (vI 0) (vI 2) (vI 0) (vI ((xs 2) &&& 15)) (vI 0) (vI (-1)) (vI 0) (vI 0) (vI 0) (vI 0) (vI 0) (vI 0) (vI (xs 1)) (vI 0) (vI 0) (vI 0) (vI 0) (vI 0) (vI 0) (vI 0) (vI 0) (vI 0) (vI 0) (vI 0) (vI 0) (vI 0) (vI 0) (vI 0))) f_MO_395 d_MO_compile_161 h80 rfl ?_
          refine ab_icmp_gt (tgt := 177) d_MO_compile_164 (by decide) (fun _ => ?_) (fun c => absurd c (by decide))
          refine ab_iconst (v := 0) d_MO_compile_177 (by decide) ?_
          refine ab_iast d_MO_compile_178 h127 (vp_in_iff.mpr (by have l0 := (show (0 : Int32).toInt = 0 by decide); have l1 := (show (2 : Int32).toInt = 2 by decide); have l2 := (show (5 : Int32).toInt = 5 by decide); have l3 := (show (10 : Int32).toInt = 10 by decide); have l4 := (show (31 : Int32).toInt = 31 by decide); simp only [Int32.le_iff_toInt_le, Int32.lt_iff_toInt_lt, ← Int32.toInt_inj] at c0 c1 c2 c3 c4 c5 c6 c7; have e0 : Int32.toInt (10 * (xs 1)) = Int32.toInt 10 * Int32.toInt (xs 1) := i32_mul (by simp only [l0, l1, l2, l3, l4]; omega) (by simp only [l0, l1, l2, l3, l4]; omega); have e1 : Int32.toInt ((10 * (xs 1)) + 2) = Int32.toInt (10 * (xs 1)) + Int32.toInt 2 := i32_add (by simp only [l0, l1, l2, l3, l4, e0]; omega) (by simp only [l0, l1, l2, l3, l4, e0]; omega); (try simp only [l0, l1, l2, l3, l4] at e0 e1); constructor <;> omega)) (by decide) ?_
          obtain ⟨G38, eG38⟩ : ∃ z : ab_G, z = List.set G37 127 (ab_if 60 ((upd f127_14 (Int32.toNatClampNeg ((10 * (xs 1)) + 2)) 0))) := ⟨_, rfl⟩
          have h80 := ab_keep eG38 (by decide) h80
          have h110 := ab_keep eG38 (by decide) h110
          have h126 := ab_keep eG38 (by decide) h126
          have hlen := ab_klen eG38 hlen
          have hsl := ab_ksl 60 eG38 h127 rfl rfl hsl
          have hfr := hfr.wr eG38 (by decide)
          have hpk := hpk.wr eG38 (by decide)
          have h127 := ab_kept eG38 h127
          change ab_W _ _ _ (List.set G37 127 (ab_if 60 ((upd f127_14 (Int32.toNatClampNeg ((10 * (xs 1)) + 2)) 0)))) 179 [some (vR 80), some (vI (xs 1)), some (vI (xs 2)), some (vI 1), some (vI 2), some (vI 12)] [] _
          rw [← eG38]
          obtain ⟨f127_27, h127⟩ : ∃ g : Nat → Int32, G38[127]? = some (ab_if 60 (g)) := ⟨_, h127⟩
          refine ab_iconst (v := 0) d_MO_compile_179 (by decide) ?_
          refine ab_istore d_MO_compile_180 (Nat.le_of_ble_eq_true rfl) (Nat.le_of_ble_eq_true rfl) rfl ?_
          change ab_W _ _ _ G38 182 [some (vR 80), some (vI (xs 1)), some (vI (xs 2)), some (vI 1), some (vI 2), some (vI 0)] [] _
          refine ab_iload d_MO_compile_182 rfl ?_
          refine ab_bipush (v := 12) d_MO_compile_184 (by decide) ?_
          refine ab_icmp_ge (tgt := 226) d_MO_compile_186 (by decide) (fun c => absurd c (by decide)) (fun _ => ?_)
          refine ab_aload_n d_MO_compile_189 rfl ?_
          refine ab_getf (fs := (m_fv (vI 0) (vI 0) (vI 0) (vI 0) (vI 0) (vI 0) (vI 0) (vI 0) (vI 2) (vI 0) (vI ((xs 2) &&& 15)) (vI 0) (vI (-1)) (vI 0) (vI 0) (vI 0) (vI 0) (vI 0) (vI 0) (vI (xs 1)) (vI 0) (vI 0) (vI 0) (vI 0) (vI 0) (vI 0) (vI 0) (vI 0) (vI 0) (vI 0) (vI 0) (vI 0) (vI 0) (vI 0) (vI 0))) f_MO_152 d_MO_compile_190 h80 rfl ?_
          refine ab_bipush (v := 120) d_MO_compile_193 (by decide) ?_
          refine ab_iload_n d_MO_compile_195 rfl ?_
          refine ab_imul d_MO_compile_196 ?_
          refine ab_bipush (v := 12) d_MO_compile_197 (by decide) ?_
          refine ab_iload d_MO_compile_199 rfl ?_
          refine ab_imul d_MO_compile_201 ?_
          refine ab_topi (y := 24) (by decide) ?_
          refine ab_iadd d_MO_compile_202 ?_
          refine ab_iload d_MO_compile_203 rfl ?_
          refine ab_iadd d_MO_compile_205 ?_
          refine ab_topi (y := ((120 * (xs 1)) + 24)) (Int32.add_zero _) ?_
          refine ab_aload_n d_MO_compile_206 rfl ?_
          refine ab_getf (fs := (m_fv (vI 0) (vI 0) (vI 0) (vI 0) (vI 0) (vI 0) (vI 0) (vI 0) (vI 2) (vI 0) (vI ((xs 2) &&& 15)) (vI 0) (vI (-1)) (vI 0) (vI 0) (vI 0) (vI 0) (vI 0) (vI 0) (vI (xs 1)) (vI 0) (vI 0) (vI 0) (vI 0) (vI 0) (vI 0) (vI 0) (vI 0) (vI 0) (vI 0) (vI 0) (vI 0) (vI 0) (vI 0) (vI 0))) f_MO_103 d_MO_compile_207 h80 rfl ?_
          refine ab_bipush (v := 12) d_MO_compile_210 (by decide) ?_
          refine ab_iload d_MO_compile_212 rfl ?_
          refine ab_imul d_MO_compile_214 ?_
          refine ab_topi (y := 24) (by decide) ?_
          refine ab_iload d_MO_compile_215 rfl ?_
          refine ab_iadd d_MO_compile_217 ?_
          refine ab_topi (y := 24) (by decide) ?_
          refine ab_iald d_MO_compile_218 h110 (by unfold vp_in; decide) ?_
          refine ab_topi (y := 0) rfl ?_
          refine ab_iast d_MO_compile_219 h126 (vp_in_iff.mpr (by have l0 := (show (0 : Int32).toInt = 0 by decide); have l1 := (show (5 : Int32).toInt = 5 by decide); have l2 := (show (24 : Int32).toInt = 24 by decide); have l3 := (show (31 : Int32).toInt = 31 by decide); have l4 := (show (120 : Int32).toInt = 120 by decide); simp only [Int32.le_iff_toInt_le, Int32.lt_iff_toInt_lt, ← Int32.toInt_inj] at c0 c1 c2 c3 c4 c5 c6 c7; have e0 : Int32.toInt (120 * (xs 1)) = Int32.toInt 120 * Int32.toInt (xs 1) := i32_mul (by simp only [l0, l1, l2, l3, l4]; omega) (by simp only [l0, l1, l2, l3, l4]; omega); have e1 : Int32.toInt ((120 * (xs 1)) + 24) = Int32.toInt (120 * (xs 1)) + Int32.toInt 24 := i32_add (by simp only [l0, l1, l2, l3, l4, e0]; omega) (by simp only [l0, l1, l2, l3, l4, e0]; omega); (try simp only [l0, l1, l2, l3, l4] at e0 e1); constructor <;> omega)) (by decide) ?_
          obtain ⟨G39, eG39⟩ : ∃ z : ab_G, z = List.set G38 126 (ab_if 720 ((upd f126_26 (Int32.toNatClampNeg ((120 * (xs 1)) + 24)) 0))) := ⟨_, rfl⟩
          have h80 := ab_keep eG39 (by decide) h80
          have h110 := ab_keep eG39 (by decide) h110
          have h127 := ab_keep eG39 (by decide) h127
          have hlen := ab_klen eG39 hlen
          have hsl := ab_ksl 720 eG39 h126 rfl rfl hsl
          have hfr := hfr.wr eG39 (by decide)
          have hpk := hpk.wr eG39 (by decide)
          have h126 := ab_kept eG39 h126
          change ab_W _ _ _ (List.set G38 126 (ab_if 720 ((upd f126_26 (Int32.toNatClampNeg ((120 * (xs 1)) + 24)) 0)))) 220 [some (vR 80), some (vI (xs 1)), some (vI (xs 2)), some (vI 1), some (vI 2), some (vI 0)] [] _
          rw [← eG39]
          obtain ⟨f126_28, h126⟩ : ∃ g : Nat → Int32, G39[126]? = some (ab_if 720 (g)) := ⟨_, h126⟩
          refine ab_iinc (v := 1) d_MO_compile_220 rfl (by decide) (Nat.le_of_ble_eq_true rfl) (Nat.le_of_ble_eq_true rfl) rfl ?_
          change ab_W _ _ _ G39 223 [some (vR 80), some (vI (xs 1)), some (vI (xs 2)), some (vI 1), some (vI 2), some (vI 1)] [] _
          refine ab_goto (tgt := 182) d_MO_compile_223 (by decide) ?_
          refine ab_iload d_MO_compile_182 rfl ?_
          refine ab_bipush (v := 12) d_MO_compile_184 (by decide) ?_
          refine ab_icmp_ge (tgt := 226) d_MO_compile_186 (by decide) (fun c => absurd c (by decide)) (fun _ => ?_)
          refine ab_aload_n d_MO_compile_189 rfl ?_
          refine ab_getf (fs := (m_fv (vI 0) (vI 0) (vI 0) (vI 0) (vI 0) (vI 0) (vI 0) (vI 0) (vI 2) (vI 0) (vI ((xs 2) &&& 15)) (vI 0) (vI (-1)) (vI 0) (vI 0) (vI 0) (vI 0) (vI 0) (vI 0) (vI (xs 1)) (vI 0) (vI 0) (vI 0) (vI 0) (vI 0) (vI 0) (vI 0) (vI 0) (vI 0) (vI 0) (vI 0) (vI 0) (vI 0) (vI 0) (vI 0))) f_MO_152 d_MO_compile_190 h80 rfl ?_
          refine ab_bipush (v := 120) d_MO_compile_193 (by decide) ?_
          refine ab_iload_n d_MO_compile_195 rfl ?_
          refine ab_imul d_MO_compile_196 ?_
          refine ab_bipush (v := 12) d_MO_compile_197 (by decide) ?_
          refine ab_iload d_MO_compile_199 rfl ?_
          refine ab_imul d_MO_compile_201 ?_
          refine ab_topi (y := 24) (by decide) ?_
          refine ab_iadd d_MO_compile_202 ?_
          refine ab_iload d_MO_compile_203 rfl ?_
          refine ab_iadd d_MO_compile_205 ?_
          refine ab_aload_n d_MO_compile_206 rfl ?_
          refine ab_getf (fs := (m_fv (vI 0) (vI 0) (vI 0) (vI 0) (vI 0) (vI 0) (vI 0) (vI 0) (vI 2) (vI 0) (vI ((xs 2) &&& 15)) (vI 0) (vI (-1)) (vI 0) (vI 0) (vI 0) (vI 0) (vI 0) (vI 0) (vI (xs 1)) (vI 0) (vI 0) (vI 0) (vI 0) (vI 0) (vI 0) (vI 0) (vI 0) (vI 0) (vI 0) (vI 0) (vI 0) (vI 0) (vI 0) (vI 0))) f_MO_103 d_MO_compile_207 h80 rfl ?_
          refine ab_bipush (v := 12) d_MO_compile_210 (by decide) ?_
          refine ab_iload d_MO_compile_212 rfl ?_
          refine ab_imul d_MO_compile_214 ?_
          refine ab_topi (y := 24) (by decide) ?_
          refine ab_iload d_MO_compile_215 rfl ?_
          refine ab_iadd d_MO_compile_217 ?_
          refine ab_topi (y := 25) (by decide) ?_
          refine ab_iald d_MO_compile_218 h110 (by unfold vp_in; decide) ?_
          refine ab_topi (y := 0) rfl ?_
          refine ab_iast d_MO_compile_219 h126 (vp_in_iff.mpr (by have l0 := (show (0 : Int32).toInt = 0 by decide); have l1 := (show (1 : Int32).toInt = 1 by decide); have l2 := (show (5 : Int32).toInt = 5 by decide); have l3 := (show (24 : Int32).toInt = 24 by decide); have l4 := (show (31 : Int32).toInt = 31 by decide); have l5 := (show (120 : Int32).toInt = 120 by decide); simp only [Int32.le_iff_toInt_le, Int32.lt_iff_toInt_lt, ← Int32.toInt_inj] at c0 c1 c2 c3 c4 c5 c6 c7; have e0 : Int32.toInt (120 * (xs 1)) = Int32.toInt 120 * Int32.toInt (xs 1) := i32_mul (by simp only [l0, l1, l2, l3, l4, l5]; omega) (by simp only [l0, l1, l2, l3, l4, l5]; omega); have e1 : Int32.toInt ((120 * (xs 1)) + 24) = Int32.toInt (120 * (xs 1)) + Int32.toInt 24 := i32_add (by simp only [l0, l1, l2, l3, l4, l5, e0]; omega) (by simp only [l0, l1, l2, l3, l4, l5, e0]; omega); have e2 : Int32.toInt (((120 * (xs 1)) + 24) + 1) = Int32.toInt ((120 * (xs 1)) + 24) + Int32.toInt 1 := i32_add (by simp only [l0, l1, l2, l3, l4, l5, e0, e1]; omega) (by simp only [l0, l1, l2, l3, l4, l5, e0, e1]; omega); (try simp only [l0, l1, l2, l3, l4, l5] at e0 e1 e2); constructor <;> omega)) (by decide) ?_
          obtain ⟨G40, eG40⟩ : ∃ z : ab_G, z = List.set G39 126 (ab_if 720 ((upd f126_28 (Int32.toNatClampNeg (((120 * (xs 1)) + 24) + 1)) 0))) := ⟨_, rfl⟩
          have h80 := ab_keep eG40 (by decide) h80
          have h110 := ab_keep eG40 (by decide) h110
          have h127 := ab_keep eG40 (by decide) h127
          have hlen := ab_klen eG40 hlen
          have hsl := ab_ksl 720 eG40 h126 rfl rfl hsl
          have hfr := hfr.wr eG40 (by decide)
          have hpk := hpk.wr eG40 (by decide)
          have h126 := ab_kept eG40 h126
          change ab_W _ _ _ (List.set G39 126 (ab_if 720 ((upd f126_28 (Int32.toNatClampNeg (((120 * (xs 1)) + 24) + 1)) 0)))) 220 [some (vR 80), some (vI (xs 1)), some (vI (xs 2)), some (vI 1), some (vI 2), some (vI 1)] [] _
          rw [← eG40]
          obtain ⟨f126_29, h126⟩ : ∃ g : Nat → Int32, G40[126]? = some (ab_if 720 (g)) := ⟨_, h126⟩
          refine ab_iinc (v := 2) d_MO_compile_220 rfl (by decide) (Nat.le_of_ble_eq_true rfl) (Nat.le_of_ble_eq_true rfl) rfl ?_
          change ab_W _ _ _ G40 223 [some (vR 80), some (vI (xs 1)), some (vI (xs 2)), some (vI 1), some (vI 2), some (vI 2)] [] _
          refine ab_goto (tgt := 182) d_MO_compile_223 (by decide) ?_
          refine ab_iload d_MO_compile_182 rfl ?_
          refine ab_bipush (v := 12) d_MO_compile_184 (by decide) ?_
          refine ab_icmp_ge (tgt := 226) d_MO_compile_186 (by decide) (fun c => absurd c (by decide)) (fun _ => ?_)
          refine ab_aload_n d_MO_compile_189 rfl ?_
          refine ab_getf (fs := (m_fv (vI 0) (vI 0) (vI 0) (vI 0) (vI 0) (vI 0) (vI 0) (vI 0) (vI 2) (vI 0) (vI ((xs 2) &&& 15)) (vI 0) (vI (-1)) (vI 0) (vI 0) (vI 0) (vI 0) (vI 0) (vI 0) (vI (xs 1)) (vI 0) (vI 0) (vI 0) (vI 0) (vI 0) (vI 0) (vI 0) (vI 0) (vI 0) (vI 0) (vI 0) (vI 0) (vI 0) (vI 0) (vI 0))) f_MO_152 d_MO_compile_190 h80 rfl ?_
          refine ab_bipush (v := 120) d_MO_compile_193 (by decide) ?_
          refine ab_iload_n d_MO_compile_195 rfl ?_
          refine ab_imul d_MO_compile_196 ?_
          refine ab_bipush (v := 12) d_MO_compile_197 (by decide) ?_
          refine ab_iload d_MO_compile_199 rfl ?_
          refine ab_imul d_MO_compile_201 ?_
          refine ab_topi (y := 24) (by decide) ?_
          refine ab_iadd d_MO_compile_202 ?_
          refine ab_iload d_MO_compile_203 rfl ?_
          refine ab_iadd d_MO_compile_205 ?_
          refine ab_aload_n d_MO_compile_206 rfl ?_
          refine ab_getf (fs := (m_fv (vI 0) (vI 0) (vI 0) (vI 0) (vI 0) (vI 0) (vI 0) (vI 0) (vI 2) (vI 0) (vI ((xs 2) &&& 15)) (vI 0) (vI (-1)) (vI 0) (vI 0) (vI 0) (vI 0) (vI 0) (vI 0) (vI (xs 1)) (vI 0) (vI 0) (vI 0) (vI 0) (vI 0) (vI 0) (vI 0) (vI 0) (vI 0) (vI 0) (vI 0) (vI 0) (vI 0) (vI 0) (vI 0))) f_MO_103 d_MO_compile_207 h80 rfl ?_
          refine ab_bipush (v := 12) d_MO_compile_210 (by decide) ?_
          refine ab_iload d_MO_compile_212 rfl ?_
          refine ab_imul d_MO_compile_214 ?_
          refine ab_topi (y := 24) (by decide) ?_
          refine ab_iload d_MO_compile_215 rfl ?_
          refine ab_iadd d_MO_compile_217 ?_
          refine ab_topi (y := 26) (by decide) ?_
          refine ab_iald d_MO_compile_218 h110 (by unfold vp_in; decide) ?_
          refine ab_topi (y := 0) rfl ?_
          refine ab_iast d_MO_compile_219 h126 (vp_in_iff.mpr (by have l0 := (show (0 : Int32).toInt = 0 by decide); have l1 := (show (2 : Int32).toInt = 2 by decide); have l2 := (show (5 : Int32).toInt = 5 by decide); have l3 := (show (24 : Int32).toInt = 24 by decide); have l4 := (show (31 : Int32).toInt = 31 by decide); have l5 := (show (120 : Int32).toInt = 120 by decide); simp only [Int32.le_iff_toInt_le, Int32.lt_iff_toInt_lt, ← Int32.toInt_inj] at c0 c1 c2 c3 c4 c5 c6 c7; have e0 : Int32.toInt (120 * (xs 1)) = Int32.toInt 120 * Int32.toInt (xs 1) := i32_mul (by simp only [l0, l1, l2, l3, l4, l5]; omega) (by simp only [l0, l1, l2, l3, l4, l5]; omega); have e1 : Int32.toInt ((120 * (xs 1)) + 24) = Int32.toInt (120 * (xs 1)) + Int32.toInt 24 := i32_add (by simp only [l0, l1, l2, l3, l4, l5, e0]; omega) (by simp only [l0, l1, l2, l3, l4, l5, e0]; omega); have e2 : Int32.toInt (((120 * (xs 1)) + 24) + 2) = Int32.toInt ((120 * (xs 1)) + 24) + Int32.toInt 2 := i32_add (by simp only [l0, l1, l2, l3, l4, l5, e0, e1]; omega) (by simp only [l0, l1, l2, l3, l4, l5, e0, e1]; omega); (try simp only [l0, l1, l2, l3, l4, l5] at e0 e1 e2); constructor <;> omega)) (by decide) ?_
          obtain ⟨G41, eG41⟩ : ∃ z : ab_G, z = List.set G40 126 (ab_if 720 ((upd f126_29 (Int32.toNatClampNeg (((120 * (xs 1)) + 24) + 2)) 0))) := ⟨_, rfl⟩
          have h80 := ab_keep eG41 (by decide) h80
          have h110 := ab_keep eG41 (by decide) h110
          have h127 := ab_keep eG41 (by decide) h127
          have hlen := ab_klen eG41 hlen
          have hsl := ab_ksl 720 eG41 h126 rfl rfl hsl
          have hfr := hfr.wr eG41 (by decide)
          have hpk := hpk.wr eG41 (by decide)
          have h126 := ab_kept eG41 h126
          change ab_W _ _ _ (List.set G40 126 (ab_if 720 ((upd f126_29 (Int32.toNatClampNeg (((120 * (xs 1)) + 24) + 2)) 0)))) 220 [some (vR 80), some (vI (xs 1)), some (vI (xs 2)), some (vI 1), some (vI 2), some (vI 2)] [] _
          rw [← eG41]
          obtain ⟨f126_30, h126⟩ : ∃ g : Nat → Int32, G41[126]? = some (ab_if 720 (g)) := ⟨_, h126⟩
          refine ab_iinc (v := 3) d_MO_compile_220 rfl (by decide) (Nat.le_of_ble_eq_true rfl) (Nat.le_of_ble_eq_true rfl) rfl ?_
          change ab_W _ _ _ G41 223 [some (vR 80), some (vI (xs 1)), some (vI (xs 2)), some (vI 1), some (vI 2), some (vI 3)] [] _
          refine ab_goto (tgt := 182) d_MO_compile_223 (by decide) ?_
          refine ab_iload d_MO_compile_182 rfl ?_
          refine ab_bipush (v := 12) d_MO_compile_184 (by decide) ?_
          refine ab_icmp_ge (tgt := 226) d_MO_compile_186 (by decide) (fun c => absurd c (by decide)) (fun _ => ?_)
          refine ab_aload_n d_MO_compile_189 rfl ?_
          refine ab_getf (fs := (m_fv (vI 0) (vI 0) (vI 0) (vI 0) (vI 0) (vI 0) (vI 0) (vI 0) (vI 2) (vI 0) (vI ((xs 2) &&& 15)) (vI 0) (vI (-1)) (vI 0) (vI 0) (vI 0) (vI 0) (vI 0) (vI 0) (vI (xs 1)) (vI 0) (vI 0) (vI 0) (vI 0) (vI 0) (vI 0) (vI 0) (vI 0) (vI 0) (vI 0) (vI 0) (vI 0) (vI 0) (vI 0) (vI 0))) f_MO_152 d_MO_compile_190 h80 rfl ?_
          refine ab_bipush (v := 120) d_MO_compile_193 (by decide) ?_
          refine ab_iload_n d_MO_compile_195 rfl ?_
          refine ab_imul d_MO_compile_196 ?_
          refine ab_bipush (v := 12) d_MO_compile_197 (by decide) ?_
          refine ab_iload d_MO_compile_199 rfl ?_
          refine ab_imul d_MO_compile_201 ?_
          refine ab_topi (y := 24) (by decide) ?_
          refine ab_iadd d_MO_compile_202 ?_
          refine ab_iload d_MO_compile_203 rfl ?_
          refine ab_iadd d_MO_compile_205 ?_
          refine ab_aload_n d_MO_compile_206 rfl ?_
          refine ab_getf (fs := (m_fv (vI 0) (vI 0) (vI 0) (vI 0) (vI 0) (vI 0) (vI 0) (vI 0) (vI 2) (vI 0) (vI ((xs 2) &&& 15)) (vI 0) (vI (-1)) (vI 0) (vI 0) (vI 0) (vI 0) (vI 0) (vI 0) (vI (xs 1)) (vI 0) (vI 0) (vI 0) (vI 0) (vI 0) (vI 0) (vI 0) (vI 0) (vI 0) (vI 0) (vI 0) (vI 0) (vI 0) (vI 0) (vI 0))) f_MO_103 d_MO_compile_207 h80 rfl ?_
          refine ab_bipush (v := 12) d_MO_compile_210 (by decide) ?_
          refine ab_iload d_MO_compile_212 rfl ?_
          refine ab_imul d_MO_compile_214 ?_
          refine ab_topi (y := 24) (by decide) ?_
          refine ab_iload d_MO_compile_215 rfl ?_
          refine ab_iadd d_MO_compile_217 ?_
          refine ab_topi (y := 27) (by decide) ?_
          refine ab_iald d_MO_compile_218 h110 (by unfold vp_in; decide) ?_
          refine ab_topi (y := 0) rfl ?_
          refine ab_iast d_MO_compile_219 h126 (vp_in_iff.mpr (by have l0 := (show (0 : Int32).toInt = 0 by decide); have l1 := (show (3 : Int32).toInt = 3 by decide); have l2 := (show (5 : Int32).toInt = 5 by decide); have l3 := (show (24 : Int32).toInt = 24 by decide); have l4 := (show (31 : Int32).toInt = 31 by decide); have l5 := (show (120 : Int32).toInt = 120 by decide); simp only [Int32.le_iff_toInt_le, Int32.lt_iff_toInt_lt, ← Int32.toInt_inj] at c0 c1 c2 c3 c4 c5 c6 c7; have e0 : Int32.toInt (120 * (xs 1)) = Int32.toInt 120 * Int32.toInt (xs 1) := i32_mul (by simp only [l0, l1, l2, l3, l4, l5]; omega) (by simp only [l0, l1, l2, l3, l4, l5]; omega); have e1 : Int32.toInt ((120 * (xs 1)) + 24) = Int32.toInt (120 * (xs 1)) + Int32.toInt 24 := i32_add (by simp only [l0, l1, l2, l3, l4, l5, e0]; omega) (by simp only [l0, l1, l2, l3, l4, l5, e0]; omega); have e2 : Int32.toInt (((120 * (xs 1)) + 24) + 3) = Int32.toInt ((120 * (xs 1)) + 24) + Int32.toInt 3 := i32_add (by simp only [l0, l1, l2, l3, l4, l5, e0, e1]; omega) (by simp only [l0, l1, l2, l3, l4, l5, e0, e1]; omega); (try simp only [l0, l1, l2, l3, l4, l5] at e0 e1 e2); constructor <;> omega)) (by decide) ?_
          obtain ⟨G42, eG42⟩ : ∃ z : ab_G, z = List.set G41 126 (ab_if 720 ((upd f126_30 (Int32.toNatClampNeg (((120 * (xs 1)) + 24) + 3)) 0))) := ⟨_, rfl⟩
          have h80 := ab_keep eG42 (by decide) h80
          have h110 := ab_keep eG42 (by decide) h110
          have h127 := ab_keep eG42 (by decide) h127
          have hlen := ab_klen eG42 hlen
          have hsl := ab_ksl 720 eG42 h126 rfl rfl hsl
          have hfr := hfr.wr eG42 (by decide)
          have hpk := hpk.wr eG42 (by decide)
          have h126 := ab_kept eG42 h126
          change ab_W _ _ _ (List.set G41 126 (ab_if 720 ((upd f126_30 (Int32.toNatClampNeg (((120 * (xs 1)) + 24) + 3)) 0)))) 220 [some (vR 80), some (vI (xs 1)), some (vI (xs 2)), some (vI 1), some (vI 2), some (vI 3)] [] _
          rw [← eG42]
          obtain ⟨f126_31, h126⟩ : ∃ g : Nat → Int32, G42[126]? = some (ab_if 720 (g)) := ⟨_, h126⟩
          refine ab_iinc (v := 4) d_MO_compile_220 rfl (by decide) (Nat.le_of_ble_eq_true rfl) (Nat.le_of_ble_eq_true rfl) rfl ?_
          change ab_W _ _ _ G42 223 [some (vR 80), some (vI (xs 1)), some (vI (xs 2)), some (vI 1), some (vI 2), some (vI 4)] [] _
          refine ab_goto (tgt := 182) d_MO_compile_223 (by decide) ?_
          refine ab_iload d_MO_compile_182 rfl ?_
          refine ab_bipush (v := 12) d_MO_compile_184 (by decide) ?_
          refine ab_icmp_ge (tgt := 226) d_MO_compile_186 (by decide) (fun c => absurd c (by decide)) (fun _ => ?_)
          refine ab_aload_n d_MO_compile_189 rfl ?_
          refine ab_getf (fs := (m_fv (vI 0) (vI 0) (vI 0) (vI 0) (vI 0) (vI 0) (vI 0) (vI 0) (vI 2) (vI 0) (vI ((xs 2) &&& 15)) (vI 0) (vI (-1)) (vI 0) (vI 0) (vI 0) (vI 0) (vI 0) (vI 0) (vI (xs 1)) (vI 0) (vI 0) (vI 0) (vI 0) (vI 0) (vI 0) (vI 0) (vI 0) (vI 0) (vI 0) (vI 0) (vI 0) (vI 0) (vI 0) (vI 0))) f_MO_152 d_MO_compile_190 h80 rfl ?_
          refine ab_bipush (v := 120) d_MO_compile_193 (by decide) ?_
          refine ab_iload_n d_MO_compile_195 rfl ?_
          refine ab_imul d_MO_compile_196 ?_
          refine ab_bipush (v := 12) d_MO_compile_197 (by decide) ?_
          refine ab_iload d_MO_compile_199 rfl ?_
          refine ab_imul d_MO_compile_201 ?_
          refine ab_topi (y := 24) (by decide) ?_
          refine ab_iadd d_MO_compile_202 ?_
          refine ab_iload d_MO_compile_203 rfl ?_
          refine ab_iadd d_MO_compile_205 ?_
          refine ab_aload_n d_MO_compile_206 rfl ?_
          refine ab_getf (fs := (m_fv (vI 0) (vI 0) (vI 0) (vI 0) (vI 0) (vI 0) (vI 0) (vI 0) (vI 2) (vI 0) (vI ((xs 2) &&& 15)) (vI 0) (vI (-1)) (vI 0) (vI 0) (vI 0) (vI 0) (vI 0) (vI 0) (vI (xs 1)) (vI 0) (vI 0) (vI 0) (vI 0) (vI 0) (vI 0) (vI 0) (vI 0) (vI 0) (vI 0) (vI 0) (vI 0) (vI 0) (vI 0) (vI 0))) f_MO_103 d_MO_compile_207 h80 rfl ?_
          refine ab_bipush (v := 12) d_MO_compile_210 (by decide) ?_
          refine ab_iload d_MO_compile_212 rfl ?_
          refine ab_imul d_MO_compile_214 ?_
          refine ab_topi (y := 24) (by decide) ?_
          refine ab_iload d_MO_compile_215 rfl ?_
          refine ab_iadd d_MO_compile_217 ?_
          refine ab_topi (y := 28) (by decide) ?_
          refine ab_iald d_MO_compile_218 h110 (by unfold vp_in; decide) ?_
          refine ab_topi (y := 0) rfl ?_
          refine ab_iast d_MO_compile_219 h126 (vp_in_iff.mpr (by have l0 := (show (0 : Int32).toInt = 0 by decide); have l1 := (show (4 : Int32).toInt = 4 by decide); have l2 := (show (5 : Int32).toInt = 5 by decide); have l3 := (show (24 : Int32).toInt = 24 by decide); have l4 := (show (31 : Int32).toInt = 31 by decide); have l5 := (show (120 : Int32).toInt = 120 by decide); simp only [Int32.le_iff_toInt_le, Int32.lt_iff_toInt_lt, ← Int32.toInt_inj] at c0 c1 c2 c3 c4 c5 c6 c7; have e0 : Int32.toInt (120 * (xs 1)) = Int32.toInt 120 * Int32.toInt (xs 1) := i32_mul (by simp only [l0, l1, l2, l3, l4, l5]; omega) (by simp only [l0, l1, l2, l3, l4, l5]; omega); have e1 : Int32.toInt ((120 * (xs 1)) + 24) = Int32.toInt (120 * (xs 1)) + Int32.toInt 24 := i32_add (by simp only [l0, l1, l2, l3, l4, l5, e0]; omega) (by simp only [l0, l1, l2, l3, l4, l5, e0]; omega); have e2 : Int32.toInt (((120 * (xs 1)) + 24) + 4) = Int32.toInt ((120 * (xs 1)) + 24) + Int32.toInt 4 := i32_add (by simp only [l0, l1, l2, l3, l4, l5, e0, e1]; omega) (by simp only [l0, l1, l2, l3, l4, l5, e0, e1]; omega); (try simp only [l0, l1, l2, l3, l4, l5] at e0 e1 e2); constructor <;> omega)) (by decide) ?_
          obtain ⟨G43, eG43⟩ : ∃ z : ab_G, z = List.set G42 126 (ab_if 720 ((upd f126_31 (Int32.toNatClampNeg (((120 * (xs 1)) + 24) + 4)) 0))) := ⟨_, rfl⟩
          have h80 := ab_keep eG43 (by decide) h80
          have h110 := ab_keep eG43 (by decide) h110
          have h127 := ab_keep eG43 (by decide) h127
          have hlen := ab_klen eG43 hlen
          have hsl := ab_ksl 720 eG43 h126 rfl rfl hsl
          have hfr := hfr.wr eG43 (by decide)
          have hpk := hpk.wr eG43 (by decide)
          have h126 := ab_kept eG43 h126
          change ab_W _ _ _ (List.set G42 126 (ab_if 720 ((upd f126_31 (Int32.toNatClampNeg (((120 * (xs 1)) + 24) + 4)) 0)))) 220 [some (vR 80), some (vI (xs 1)), some (vI (xs 2)), some (vI 1), some (vI 2), some (vI 4)] [] _
          rw [← eG43]
          obtain ⟨f126_32, h126⟩ : ∃ g : Nat → Int32, G43[126]? = some (ab_if 720 (g)) := ⟨_, h126⟩
          refine ab_iinc (v := 5) d_MO_compile_220 rfl (by decide) (Nat.le_of_ble_eq_true rfl) (Nat.le_of_ble_eq_true rfl) rfl ?_
          change ab_W _ _ _ G43 223 [some (vR 80), some (vI (xs 1)), some (vI (xs 2)), some (vI 1), some (vI 2), some (vI 5)] [] _
          refine ab_goto (tgt := 182) d_MO_compile_223 (by decide) ?_
          refine ab_iload d_MO_compile_182 rfl ?_
          refine ab_bipush (v := 12) d_MO_compile_184 (by decide) ?_
          refine ab_icmp_ge (tgt := 226) d_MO_compile_186 (by decide) (fun c => absurd c (by decide)) (fun _ => ?_)
          refine ab_aload_n d_MO_compile_189 rfl ?_
          refine ab_getf (fs := (m_fv (vI 0) (vI 0) (vI 0) (vI 0) (vI 0) (vI 0) (vI 0) (vI 0) (vI 2) (vI 0) (vI ((xs 2) &&& 15)) (vI 0) (vI (-1)) (vI 0) (vI 0) (vI 0) (vI 0) (vI 0) (vI 0) (vI (xs 1)) (vI 0) (vI 0) (vI 0) (vI 0) (vI 0) (vI 0) (vI 0) (vI 0) (vI 0) (vI 0) (vI 0) (vI 0) (vI 0) (vI 0) (vI 0))) f_MO_152 d_MO_compile_190 h80 rfl ?_
          refine ab_bipush (v := 120) d_MO_compile_193 (by decide) ?_
          refine ab_iload_n d_MO_compile_195 rfl ?_
          refine ab_imul d_MO_compile_196 ?_
          refine ab_bipush (v := 12) d_MO_compile_197 (by decide) ?_
          refine ab_iload d_MO_compile_199 rfl ?_
          refine ab_imul d_MO_compile_201 ?_
          refine ab_topi (y := 24) (by decide) ?_
          refine ab_iadd d_MO_compile_202 ?_
          refine ab_iload d_MO_compile_203 rfl ?_
          refine ab_iadd d_MO_compile_205 ?_
          refine ab_aload_n d_MO_compile_206 rfl ?_
          refine ab_getf (fs := (m_fv (vI 0) (vI 0) (vI 0) (vI 0) (vI 0) (vI 0) (vI 0) (vI 0) (vI 2) (vI 0) (vI ((xs 2) &&& 15)) (vI 0) (vI (-1)) (vI 0) (vI 0) (vI 0) (vI 0) (vI 0) (vI 0) (vI (xs 1)) (vI 0) (vI 0) (vI 0) (vI 0) (vI 0) (vI 0) (vI 0) (vI 0) (vI 0) (vI 0) (vI 0) (vI 0) (vI 0) (vI 0) (vI 0))) f_MO_103 d_MO_compile_207 h80 rfl ?_
          refine ab_bipush (v := 12) d_MO_compile_210 (by decide) ?_
          refine ab_iload d_MO_compile_212 rfl ?_
          refine ab_imul d_MO_compile_214 ?_
          refine ab_topi (y := 24) (by decide) ?_
          refine ab_iload d_MO_compile_215 rfl ?_
          refine ab_iadd d_MO_compile_217 ?_
          refine ab_topi (y := 29) (by decide) ?_
          refine ab_iald d_MO_compile_218 h110 (by unfold vp_in; decide) ?_
          refine ab_topi (y := 0) rfl ?_
          refine ab_iast d_MO_compile_219 h126 (vp_in_iff.mpr (by have l0 := (show (0 : Int32).toInt = 0 by decide); have l1 := (show (5 : Int32).toInt = 5 by decide); have l2 := (show (24 : Int32).toInt = 24 by decide); have l3 := (show (31 : Int32).toInt = 31 by decide); have l4 := (show (120 : Int32).toInt = 120 by decide); simp only [Int32.le_iff_toInt_le, Int32.lt_iff_toInt_lt, ← Int32.toInt_inj] at c0 c1 c2 c3 c4 c5 c6 c7; have e0 : Int32.toInt (120 * (xs 1)) = Int32.toInt 120 * Int32.toInt (xs 1) := i32_mul (by simp only [l0, l1, l2, l3, l4]; omega) (by simp only [l0, l1, l2, l3, l4]; omega); have e1 : Int32.toInt ((120 * (xs 1)) + 24) = Int32.toInt (120 * (xs 1)) + Int32.toInt 24 := i32_add (by simp only [l0, l1, l2, l3, l4, e0]; omega) (by simp only [l0, l1, l2, l3, l4, e0]; omega); have e2 : Int32.toInt (((120 * (xs 1)) + 24) + 5) = Int32.toInt ((120 * (xs 1)) + 24) + Int32.toInt 5 := i32_add (by simp only [l0, l1, l2, l3, l4, e0, e1]; omega) (by simp only [l0, l1, l2, l3, l4, e0, e1]; omega); (try simp only [l0, l1, l2, l3, l4] at e0 e1 e2); constructor <;> omega)) (by decide) ?_
          obtain ⟨G44, eG44⟩ : ∃ z : ab_G, z = List.set G43 126 (ab_if 720 ((upd f126_32 (Int32.toNatClampNeg (((120 * (xs 1)) + 24) + 5)) 0))) := ⟨_, rfl⟩
          have h80 := ab_keep eG44 (by decide) h80
          have h110 := ab_keep eG44 (by decide) h110
          have h127 := ab_keep eG44 (by decide) h127
          have hlen := ab_klen eG44 hlen
          have hsl := ab_ksl 720 eG44 h126 rfl rfl hsl
          have hfr := hfr.wr eG44 (by decide)
          have hpk := hpk.wr eG44 (by decide)
          have h126 := ab_kept eG44 h126
          change ab_W _ _ _ (List.set G43 126 (ab_if 720 ((upd f126_32 (Int32.toNatClampNeg (((120 * (xs 1)) + 24) + 5)) 0)))) 220 [some (vR 80), some (vI (xs 1)), some (vI (xs 2)), some (vI 1), some (vI 2), some (vI 5)] [] _
          rw [← eG44]
          obtain ⟨f126_33, h126⟩ : ∃ g : Nat → Int32, G44[126]? = some (ab_if 720 (g)) := ⟨_, h126⟩
          refine ab_iinc (v := 6) d_MO_compile_220 rfl (by decide) (Nat.le_of_ble_eq_true rfl) (Nat.le_of_ble_eq_true rfl) rfl ?_
          change ab_W _ _ _ G44 223 [some (vR 80), some (vI (xs 1)), some (vI (xs 2)), some (vI 1), some (vI 2), some (vI 6)] [] _
          refine ab_goto (tgt := 182) d_MO_compile_223 (by decide) ?_
          refine ab_iload d_MO_compile_182 rfl ?_
          refine ab_bipush (v := 12) d_MO_compile_184 (by decide) ?_
          refine ab_icmp_ge (tgt := 226) d_MO_compile_186 (by decide) (fun c => absurd c (by decide)) (fun _ => ?_)
          refine ab_aload_n d_MO_compile_189 rfl ?_
          refine ab_getf (fs := (m_fv (vI 0) (vI 0) (vI 0) (vI 0) (vI 0) (vI 0) (vI 0) (vI 0) (vI 2) (vI 0) (vI ((xs 2) &&& 15)) (vI 0) (vI (-1)) (vI 0) (vI 0) (vI 0) (vI 0) (vI 0) (vI 0) (vI (xs 1)) (vI 0) (vI 0) (vI 0) (vI 0) (vI 0) (vI 0) (vI 0) (vI 0) (vI 0) (vI 0) (vI 0) (vI 0) (vI 0) (vI 0) (vI 0))) f_MO_152 d_MO_compile_190 h80 rfl ?_
          refine ab_bipush (v := 120) d_MO_compile_193 (by decide) ?_
          refine ab_iload_n d_MO_compile_195 rfl ?_
          refine ab_imul d_MO_compile_196 ?_
          refine ab_bipush (v := 12) d_MO_compile_197 (by decide) ?_
          refine ab_iload d_MO_compile_199 rfl ?_
          refine ab_imul d_MO_compile_201 ?_
          refine ab_topi (y := 24) (by decide) ?_
          refine ab_iadd d_MO_compile_202 ?_
          refine ab_iload d_MO_compile_203 rfl ?_
          refine ab_iadd d_MO_compile_205 ?_
          refine ab_aload_n d_MO_compile_206 rfl ?_
          refine ab_getf (fs := (m_fv (vI 0) (vI 0) (vI 0) (vI 0) (vI 0) (vI 0) (vI 0) (vI 0) (vI 2) (vI 0) (vI ((xs 2) &&& 15)) (vI 0) (vI (-1)) (vI 0) (vI 0) (vI 0) (vI 0) (vI 0) (vI 0) (vI (xs 1)) (vI 0) (vI 0) (vI 0) (vI 0) (vI 0) (vI 0) (vI 0) (vI 0) (vI 0) (vI 0) (vI 0) (vI 0) (vI 0) (vI 0) (vI 0))) f_MO_103 d_MO_compile_207 h80 rfl ?_
          refine ab_bipush (v := 12) d_MO_compile_210 (by decide) ?_
          refine ab_iload d_MO_compile_212 rfl ?_
          refine ab_imul d_MO_compile_214 ?_
          refine ab_topi (y := 24) (by decide) ?_
          refine ab_iload d_MO_compile_215 rfl ?_
          refine ab_iadd d_MO_compile_217 ?_
          refine ab_topi (y := 30) (by decide) ?_
          refine ab_iald d_MO_compile_218 h110 (by unfold vp_in; decide) ?_
          refine ab_topi (y := 0) rfl ?_
          refine ab_iast d_MO_compile_219 h126 (vp_in_iff.mpr (by have l0 := (show (0 : Int32).toInt = 0 by decide); have l1 := (show (5 : Int32).toInt = 5 by decide); have l2 := (show (6 : Int32).toInt = 6 by decide); have l3 := (show (24 : Int32).toInt = 24 by decide); have l4 := (show (31 : Int32).toInt = 31 by decide); have l5 := (show (120 : Int32).toInt = 120 by decide); simp only [Int32.le_iff_toInt_le, Int32.lt_iff_toInt_lt, ← Int32.toInt_inj] at c0 c1 c2 c3 c4 c5 c6 c7; have e0 : Int32.toInt (120 * (xs 1)) = Int32.toInt 120 * Int32.toInt (xs 1) := i32_mul (by simp only [l0, l1, l2, l3, l4, l5]; omega) (by simp only [l0, l1, l2, l3, l4, l5]; omega); have e1 : Int32.toInt ((120 * (xs 1)) + 24) = Int32.toInt (120 * (xs 1)) + Int32.toInt 24 := i32_add (by simp only [l0, l1, l2, l3, l4, l5, e0]; omega) (by simp only [l0, l1, l2, l3, l4, l5, e0]; omega); have e2 : Int32.toInt (((120 * (xs 1)) + 24) + 6) = Int32.toInt ((120 * (xs 1)) + 24) + Int32.toInt 6 := i32_add (by simp only [l0, l1, l2, l3, l4, l5, e0, e1]; omega) (by simp only [l0, l1, l2, l3, l4, l5, e0, e1]; omega); (try simp only [l0, l1, l2, l3, l4, l5] at e0 e1 e2); constructor <;> omega)) (by decide) ?_
          obtain ⟨G45, eG45⟩ : ∃ z : ab_G, z = List.set G44 126 (ab_if 720 ((upd f126_33 (Int32.toNatClampNeg (((120 * (xs 1)) + 24) + 6)) 0))) := ⟨_, rfl⟩
          have h80 := ab_keep eG45 (by decide) h80
          have h110 := ab_keep eG45 (by decide) h110
          have h127 := ab_keep eG45 (by decide) h127
          have hlen := ab_klen eG45 hlen
          have hsl := ab_ksl 720 eG45 h126 rfl rfl hsl
          have hfr := hfr.wr eG45 (by decide)
          have hpk := hpk.wr eG45 (by decide)
          have h126 := ab_kept eG45 h126
          change ab_W _ _ _ (List.set G44 126 (ab_if 720 ((upd f126_33 (Int32.toNatClampNeg (((120 * (xs 1)) + 24) + 6)) 0)))) 220 [some (vR 80), some (vI (xs 1)), some (vI (xs 2)), some (vI 1), some (vI 2), some (vI 6)] [] _
          rw [← eG45]
          obtain ⟨f126_34, h126⟩ : ∃ g : Nat → Int32, G45[126]? = some (ab_if 720 (g)) := ⟨_, h126⟩
          refine ab_iinc (v := 7) d_MO_compile_220 rfl (by decide) (Nat.le_of_ble_eq_true rfl) (Nat.le_of_ble_eq_true rfl) rfl ?_
          change ab_W _ _ _ G45 223 [some (vR 80), some (vI (xs 1)), some (vI (xs 2)), some (vI 1), some (vI 2), some (vI 7)] [] _
          refine ab_goto (tgt := 182) d_MO_compile_223 (by decide) ?_
          refine ab_iload d_MO_compile_182 rfl ?_
          refine ab_bipush (v := 12) d_MO_compile_184 (by decide) ?_
          refine ab_icmp_ge (tgt := 226) d_MO_compile_186 (by decide) (fun c => absurd c (by decide)) (fun _ => ?_)
          refine ab_aload_n d_MO_compile_189 rfl ?_
          refine ab_getf (fs := (m_fv (vI 0) (vI 0) (vI 0) (vI 0) (vI 0) (vI 0) (vI 0) (vI 0) (vI 2) (vI 0) (vI ((xs 2) &&& 15)) (vI 0) (vI (-1)) (vI 0) (vI 0) (vI 0) (vI 0) (vI 0) (vI 0) (vI (xs 1)) (vI 0) (vI 0) (vI 0) (vI 0) (vI 0) (vI 0) (vI 0) (vI 0) (vI 0) (vI 0) (vI 0) (vI 0) (vI 0) (vI 0) (vI 0))) f_MO_152 d_MO_compile_190 h80 rfl ?_
          refine ab_bipush (v := 120) d_MO_compile_193 (by decide) ?_
          refine ab_iload_n d_MO_compile_195 rfl ?_
          refine ab_imul d_MO_compile_196 ?_
          refine ab_bipush (v := 12) d_MO_compile_197 (by decide) ?_
          refine ab_iload d_MO_compile_199 rfl ?_
          refine ab_imul d_MO_compile_201 ?_
          refine ab_topi (y := 24) (by decide) ?_
          refine ab_iadd d_MO_compile_202 ?_
          refine ab_iload d_MO_compile_203 rfl ?_
          refine ab_iadd d_MO_compile_205 ?_
          refine ab_aload_n d_MO_compile_206 rfl ?_
          refine ab_getf (fs := (m_fv (vI 0) (vI 0) (vI 0) (vI 0) (vI 0) (vI 0) (vI 0) (vI 0) (vI 2) (vI 0) (vI ((xs 2) &&& 15)) (vI 0) (vI (-1)) (vI 0) (vI 0) (vI 0) (vI 0) (vI 0) (vI 0) (vI (xs 1)) (vI 0) (vI 0) (vI 0) (vI 0) (vI 0) (vI 0) (vI 0) (vI 0) (vI 0) (vI 0) (vI 0) (vI 0) (vI 0) (vI 0) (vI 0))) f_MO_103 d_MO_compile_207 h80 rfl ?_
          refine ab_bipush (v := 12) d_MO_compile_210 (by decide) ?_
          refine ab_iload d_MO_compile_212 rfl ?_
          refine ab_imul d_MO_compile_214 ?_
          refine ab_topi (y := 24) (by decide) ?_
          refine ab_iload d_MO_compile_215 rfl ?_
          refine ab_iadd d_MO_compile_217 ?_
          refine ab_topi (y := 31) (by decide) ?_
          refine ab_iald d_MO_compile_218 h110 (by unfold vp_in; decide) ?_
          refine ab_topi (y := 0) rfl ?_
          refine ab_iast d_MO_compile_219 h126 (vp_in_iff.mpr (by have l0 := (show (0 : Int32).toInt = 0 by decide); have l1 := (show (5 : Int32).toInt = 5 by decide); have l2 := (show (7 : Int32).toInt = 7 by decide); have l3 := (show (24 : Int32).toInt = 24 by decide); have l4 := (show (31 : Int32).toInt = 31 by decide); have l5 := (show (120 : Int32).toInt = 120 by decide); simp only [Int32.le_iff_toInt_le, Int32.lt_iff_toInt_lt, ← Int32.toInt_inj] at c0 c1 c2 c3 c4 c5 c6 c7; have e0 : Int32.toInt (120 * (xs 1)) = Int32.toInt 120 * Int32.toInt (xs 1) := i32_mul (by simp only [l0, l1, l2, l3, l4, l5]; omega) (by simp only [l0, l1, l2, l3, l4, l5]; omega); have e1 : Int32.toInt ((120 * (xs 1)) + 24) = Int32.toInt (120 * (xs 1)) + Int32.toInt 24 := i32_add (by simp only [l0, l1, l2, l3, l4, l5, e0]; omega) (by simp only [l0, l1, l2, l3, l4, l5, e0]; omega); have e2 : Int32.toInt (((120 * (xs 1)) + 24) + 7) = Int32.toInt ((120 * (xs 1)) + 24) + Int32.toInt 7 := i32_add (by simp only [l0, l1, l2, l3, l4, l5, e0, e1]; omega) (by simp only [l0, l1, l2, l3, l4, l5, e0, e1]; omega); (try simp only [l0, l1, l2, l3, l4, l5] at e0 e1 e2); constructor <;> omega)) (by decide) ?_
          obtain ⟨G46, eG46⟩ : ∃ z : ab_G, z = List.set G45 126 (ab_if 720 ((upd f126_34 (Int32.toNatClampNeg (((120 * (xs 1)) + 24) + 7)) 0))) := ⟨_, rfl⟩
          have h80 := ab_keep eG46 (by decide) h80
          have h110 := ab_keep eG46 (by decide) h110
          have h127 := ab_keep eG46 (by decide) h127
          have hlen := ab_klen eG46 hlen
          have hsl := ab_ksl 720 eG46 h126 rfl rfl hsl
          have hfr := hfr.wr eG46 (by decide)
          have hpk := hpk.wr eG46 (by decide)
          have h126 := ab_kept eG46 h126
          change ab_W _ _ _ (List.set G45 126 (ab_if 720 ((upd f126_34 (Int32.toNatClampNeg (((120 * (xs 1)) + 24) + 7)) 0)))) 220 [some (vR 80), some (vI (xs 1)), some (vI (xs 2)), some (vI 1), some (vI 2), some (vI 7)] [] _
          rw [← eG46]
          obtain ⟨f126_35, h126⟩ : ∃ g : Nat → Int32, G46[126]? = some (ab_if 720 (g)) := ⟨_, h126⟩
          refine ab_iinc (v := 8) d_MO_compile_220 rfl (by decide) (Nat.le_of_ble_eq_true rfl) (Nat.le_of_ble_eq_true rfl) rfl ?_
          change ab_W _ _ _ G46 223 [some (vR 80), some (vI (xs 1)), some (vI (xs 2)), some (vI 1), some (vI 2), some (vI 8)] [] _
          refine ab_goto (tgt := 182) d_MO_compile_223 (by decide) ?_
          refine ab_iload d_MO_compile_182 rfl ?_
          refine ab_bipush (v := 12) d_MO_compile_184 (by decide) ?_
          refine ab_icmp_ge (tgt := 226) d_MO_compile_186 (by decide) (fun c => absurd c (by decide)) (fun _ => ?_)
          refine ab_aload_n d_MO_compile_189 rfl ?_
          refine ab_getf (fs := (m_fv (vI 0) (vI 0) (vI 0) (vI 0) (vI 0) (vI 0) (vI 0) (vI 0) (vI 2) (vI 0) (vI ((xs 2) &&& 15)) (vI 0) (vI (-1)) (vI 0) (vI 0) (vI 0) (vI 0) (vI 0) (vI 0) (vI (xs 1)) (vI 0) (vI 0) (vI 0) (vI 0) (vI 0) (vI 0) (vI 0) (vI 0) (vI 0) (vI 0) (vI 0) (vI 0) (vI 0) (vI 0) (vI 0))) f_MO_152 d_MO_compile_190 h80 rfl ?_
          refine ab_bipush (v := 120) d_MO_compile_193 (by decide) ?_
          refine ab_iload_n d_MO_compile_195 rfl ?_
          refine ab_imul d_MO_compile_196 ?_
          refine ab_bipush (v := 12) d_MO_compile_197 (by decide) ?_
          refine ab_iload d_MO_compile_199 rfl ?_
          refine ab_imul d_MO_compile_201 ?_
          refine ab_topi (y := 24) (by decide) ?_
          refine ab_iadd d_MO_compile_202 ?_
          refine ab_iload d_MO_compile_203 rfl ?_
          refine ab_iadd d_MO_compile_205 ?_
          refine ab_aload_n d_MO_compile_206 rfl ?_
          refine ab_getf (fs := (m_fv (vI 0) (vI 0) (vI 0) (vI 0) (vI 0) (vI 0) (vI 0) (vI 0) (vI 2) (vI 0) (vI ((xs 2) &&& 15)) (vI 0) (vI (-1)) (vI 0) (vI 0) (vI 0) (vI 0) (vI 0) (vI 0) (vI (xs 1)) (vI 0) (vI 0) (vI 0) (vI 0) (vI 0) (vI 0) (vI 0) (vI 0) (vI 0) (vI 0) (vI 0) (vI 0) (vI 0) (vI 0) (vI 0))) f_MO_103 d_MO_compile_207 h80 rfl ?_
          refine ab_bipush (v := 12) d_MO_compile_210 (by decide) ?_
          refine ab_iload d_MO_compile_212 rfl ?_
          refine ab_imul d_MO_compile_214 ?_
          refine ab_topi (y := 24) (by decide) ?_
          refine ab_iload d_MO_compile_215 rfl ?_
          refine ab_iadd d_MO_compile_217 ?_
          refine ab_topi (y := 32) (by decide) ?_
          refine ab_iald d_MO_compile_218 h110 (by unfold vp_in; decide) ?_
          refine ab_topi (y := 0) rfl ?_
          refine ab_iast d_MO_compile_219 h126 (vp_in_iff.mpr (by have l0 := (show (0 : Int32).toInt = 0 by decide); have l1 := (show (5 : Int32).toInt = 5 by decide); have l2 := (show (8 : Int32).toInt = 8 by decide); have l3 := (show (24 : Int32).toInt = 24 by decide); have l4 := (show (31 : Int32).toInt = 31 by decide); have l5 := (show (120 : Int32).toInt = 120 by decide); simp only [Int32.le_iff_toInt_le, Int32.lt_iff_toInt_lt, ← Int32.toInt_inj] at c0 c1 c2 c3 c4 c5 c6 c7; have e0 : Int32.toInt (120 * (xs 1)) = Int32.toInt 120 * Int32.toInt (xs 1) := i32_mul (by simp only [l0, l1, l2, l3, l4, l5]; omega) (by simp only [l0, l1, l2, l3, l4, l5]; omega); have e1 : Int32.toInt ((120 * (xs 1)) + 24) = Int32.toInt (120 * (xs 1)) + Int32.toInt 24 := i32_add (by simp only [l0, l1, l2, l3, l4, l5, e0]; omega) (by simp only [l0, l1, l2, l3, l4, l5, e0]; omega); have e2 : Int32.toInt (((120 * (xs 1)) + 24) + 8) = Int32.toInt ((120 * (xs 1)) + 24) + Int32.toInt 8 := i32_add (by simp only [l0, l1, l2, l3, l4, l5, e0, e1]; omega) (by simp only [l0, l1, l2, l3, l4, l5, e0, e1]; omega); (try simp only [l0, l1, l2, l3, l4, l5] at e0 e1 e2); constructor <;> omega)) (by decide) ?_
          obtain ⟨G47, eG47⟩ : ∃ z : ab_G, z = List.set G46 126 (ab_if 720 ((upd f126_35 (Int32.toNatClampNeg (((120 * (xs 1)) + 24) + 8)) 0))) := ⟨_, rfl⟩
          have h80 := ab_keep eG47 (by decide) h80
          have h110 := ab_keep eG47 (by decide) h110
          have h127 := ab_keep eG47 (by decide) h127
          have hlen := ab_klen eG47 hlen
          have hsl := ab_ksl 720 eG47 h126 rfl rfl hsl
          have hfr := hfr.wr eG47 (by decide)
          have hpk := hpk.wr eG47 (by decide)
          have h126 := ab_kept eG47 h126
          change ab_W _ _ _ (List.set G46 126 (ab_if 720 ((upd f126_35 (Int32.toNatClampNeg (((120 * (xs 1)) + 24) + 8)) 0)))) 220 [some (vR 80), some (vI (xs 1)), some (vI (xs 2)), some (vI 1), some (vI 2), some (vI 8)] [] _
          rw [← eG47]
          obtain ⟨f126_36, h126⟩ : ∃ g : Nat → Int32, G47[126]? = some (ab_if 720 (g)) := ⟨_, h126⟩
          refine ab_iinc (v := 9) d_MO_compile_220 rfl (by decide) (Nat.le_of_ble_eq_true rfl) (Nat.le_of_ble_eq_true rfl) rfl ?_
          change ab_W _ _ _ G47 223 [some (vR 80), some (vI (xs 1)), some (vI (xs 2)), some (vI 1), some (vI 2), some (vI 9)] [] _
          refine ab_goto (tgt := 182) d_MO_compile_223 (by decide) ?_
          refine ab_iload d_MO_compile_182 rfl ?_
          refine ab_bipush (v := 12) d_MO_compile_184 (by decide) ?_
          refine ab_icmp_ge (tgt := 226) d_MO_compile_186 (by decide) (fun c => absurd c (by decide)) (fun _ => ?_)
          refine ab_aload_n d_MO_compile_189 rfl ?_
          refine ab_getf (fs := (m_fv (vI 0) (vI 0) (vI 0) (vI 0) (vI 0) (vI 0) (vI 0) (vI 0) (vI 2) (vI 0) (vI ((xs 2) &&& 15)) (vI 0) (vI (-1)) (vI 0) (vI 0) (vI 0) (vI 0) (vI 0) (vI 0) (vI (xs 1)) (vI 0) (vI 0) (vI 0) (vI 0) (vI 0) (vI 0) (vI 0) (vI 0) (vI 0) (vI 0) (vI 0) (vI 0) (vI 0) (vI 0) (vI 0))) f_MO_152 d_MO_compile_190 h80 rfl ?_
          refine ab_bipush (v := 120) d_MO_compile_193 (by decide) ?_
          refine ab_iload_n d_MO_compile_195 rfl ?_
          refine ab_imul d_MO_compile_196 ?_
          refine ab_bipush (v := 12) d_MO_compile_197 (by decide) ?_
          refine ab_iload d_MO_compile_199 rfl ?_
          refine ab_imul d_MO_compile_201 ?_
          refine ab_topi (y := 24) (by decide) ?_
          refine ab_iadd d_MO_compile_202 ?_
          refine ab_iload d_MO_compile_203 rfl ?_
          refine ab_iadd d_MO_compile_205 ?_
          refine ab_aload_n d_MO_compile_206 rfl ?_
          refine ab_getf (fs := (m_fv (vI 0) (vI 0) (vI 0) (vI 0) (vI 0) (vI 0) (vI 0) (vI 0) (vI 2) (vI 0) (vI ((xs 2) &&& 15)) (vI 0) (vI (-1)) (vI 0) (vI 0) (vI 0) (vI 0) (vI 0) (vI 0) (vI (xs 1)) (vI 0) (vI 0) (vI 0) (vI 0) (vI 0) (vI 0) (vI 0) (vI 0) (vI 0) (vI 0) (vI 0) (vI 0) (vI 0) (vI 0) (vI 0))) f_MO_103 d_MO_compile_207 h80 rfl ?_
          refine ab_bipush (v := 12) d_MO_compile_210 (by decide) ?_
          refine ab_iload d_MO_compile_212 rfl ?_
          refine ab_imul d_MO_compile_214 ?_
          refine ab_topi (y := 24) (by decide) ?_
          refine ab_iload d_MO_compile_215 rfl ?_
          refine ab_iadd d_MO_compile_217 ?_
          refine ab_topi (y := 33) (by decide) ?_
          refine ab_iald d_MO_compile_218 h110 (by unfold vp_in; decide) ?_
          refine ab_topi (y := 0) rfl ?_
          refine ab_iast d_MO_compile_219 h126 (vp_in_iff.mpr (by have l0 := (show (0 : Int32).toInt = 0 by decide); have l1 := (show (5 : Int32).toInt = 5 by decide); have l2 := (show (9 : Int32).toInt = 9 by decide); have l3 := (show (24 : Int32).toInt = 24 by decide); have l4 := (show (31 : Int32).toInt = 31 by decide); have l5 := (show (120 : Int32).toInt = 120 by decide); simp only [Int32.le_iff_toInt_le, Int32.lt_iff_toInt_lt, ← Int32.toInt_inj] at c0 c1 c2 c3 c4 c5 c6 c7; have e0 : Int32.toInt (120 * (xs 1)) = Int32.toInt 120 * Int32.toInt (xs 1) := i32_mul (by simp only [l0, l1, l2, l3, l4, l5]; omega) (by simp only [l0, l1, l2, l3, l4, l5]; omega); have e1 : Int32.toInt ((120 * (xs 1)) + 24) = Int32.toInt (120 * (xs 1)) + Int32.toInt 24 := i32_add (by simp only [l0, l1, l2, l3, l4, l5, e0]; omega) (by simp only [l0, l1, l2, l3, l4, l5, e0]; omega); have e2 : Int32.toInt (((120 * (xs 1)) + 24) + 9) = Int32.toInt ((120 * (xs 1)) + 24) + Int32.toInt 9 := i32_add (by simp only [l0, l1, l2, l3, l4, l5, e0, e1]; omega) (by simp only [l0, l1, l2, l3, l4, l5, e0, e1]; omega); (try simp only [l0, l1, l2, l3, l4, l5] at e0 e1 e2); constructor <;> omega)) (by decide) ?_
          obtain ⟨G48, eG48⟩ : ∃ z : ab_G, z = List.set G47 126 (ab_if 720 ((upd f126_36 (Int32.toNatClampNeg (((120 * (xs 1)) + 24) + 9)) 0))) := ⟨_, rfl⟩
          have h80 := ab_keep eG48 (by decide) h80
          have h110 := ab_keep eG48 (by decide) h110
          have h127 := ab_keep eG48 (by decide) h127
          have hlen := ab_klen eG48 hlen
          have hsl := ab_ksl 720 eG48 h126 rfl rfl hsl
          have hfr := hfr.wr eG48 (by decide)
          have hpk := hpk.wr eG48 (by decide)
          have h126 := ab_kept eG48 h126
          change ab_W _ _ _ (List.set G47 126 (ab_if 720 ((upd f126_36 (Int32.toNatClampNeg (((120 * (xs 1)) + 24) + 9)) 0)))) 220 [some (vR 80), some (vI (xs 1)), some (vI (xs 2)), some (vI 1), some (vI 2), some (vI 9)] [] _
          rw [← eG48]
          obtain ⟨f126_37, h126⟩ : ∃ g : Nat → Int32, G48[126]? = some (ab_if 720 (g)) := ⟨_, h126⟩
          refine ab_iinc (v := 10) d_MO_compile_220 rfl (by decide) (Nat.le_of_ble_eq_true rfl) (Nat.le_of_ble_eq_true rfl) rfl ?_
          change ab_W _ _ _ G48 223 [some (vR 80), some (vI (xs 1)), some (vI (xs 2)), some (vI 1), some (vI 2), some (vI 10)] [] _
          refine ab_goto (tgt := 182) d_MO_compile_223 (by decide) ?_
          refine ab_iload d_MO_compile_182 rfl ?_
          refine ab_bipush (v := 12) d_MO_compile_184 (by decide) ?_
          refine ab_icmp_ge (tgt := 226) d_MO_compile_186 (by decide) (fun c => absurd c (by decide)) (fun _ => ?_)
          refine ab_aload_n d_MO_compile_189 rfl ?_
          refine ab_getf (fs := (m_fv (vI 0) (vI 0) (vI 0) (vI 0) (vI 0) (vI 0) (vI 0) (vI 0) (vI 2) (vI 0) (vI ((xs 2) &&& 15)) (vI 0) (vI (-1)) (vI 0) (vI 0) (vI 0) (vI 0) (vI 0) (vI 0) (vI (xs 1)) (vI 0) (vI 0) (vI 0) (vI 0) (vI 0) (vI 0) (vI 0) (vI 0) (vI 0) (vI 0) (vI 0) (vI 0) (vI 0) (vI 0) (vI 0))) f_MO_152 d_MO_compile_190 h80 rfl ?_
          refine ab_bipush (v := 120) d_MO_compile_193 (by decide) ?_
          refine ab_iload_n d_MO_compile_195 rfl ?_
          refine ab_imul d_MO_compile_196 ?_
          refine ab_bipush (v := 12) d_MO_compile_197 (by decide) ?_
          refine ab_iload d_MO_compile_199 rfl ?_
          refine ab_imul d_MO_compile_201 ?_
          refine ab_topi (y := 24) (by decide) ?_
          refine ab_iadd d_MO_compile_202 ?_
          refine ab_iload d_MO_compile_203 rfl ?_
          refine ab_iadd d_MO_compile_205 ?_
          refine ab_aload_n d_MO_compile_206 rfl ?_
          refine ab_getf (fs := (m_fv (vI 0) (vI 0) (vI 0) (vI 0) (vI 0) (vI 0) (vI 0) (vI 0) (vI 2) (vI 0) (vI ((xs 2) &&& 15)) (vI 0) (vI (-1)) (vI 0) (vI 0) (vI 0) (vI 0) (vI 0) (vI 0) (vI (xs 1)) (vI 0) (vI 0) (vI 0) (vI 0) (vI 0) (vI 0) (vI 0) (vI 0) (vI 0) (vI 0) (vI 0) (vI 0) (vI 0) (vI 0) (vI 0))) f_MO_103 d_MO_compile_207 h80 rfl ?_
          refine ab_bipush (v := 12) d_MO_compile_210 (by decide) ?_
          refine ab_iload d_MO_compile_212 rfl ?_
          refine ab_imul d_MO_compile_214 ?_
          refine ab_topi (y := 24) (by decide) ?_
          refine ab_iload d_MO_compile_215 rfl ?_
          refine ab_iadd d_MO_compile_217 ?_
          refine ab_topi (y := 34) (by decide) ?_
          refine ab_iald d_MO_compile_218 h110 (by unfold vp_in; decide) ?_
          refine ab_topi (y := 0) rfl ?_
          refine ab_iast d_MO_compile_219 h126 (vp_in_iff.mpr (by have l0 := (show (0 : Int32).toInt = 0 by decide); have l1 := (show (5 : Int32).toInt = 5 by decide); have l2 := (show (10 : Int32).toInt = 10 by decide); have l3 := (show (24 : Int32).toInt = 24 by decide); have l4 := (show (31 : Int32).toInt = 31 by decide); have l5 := (show (120 : Int32).toInt = 120 by decide); simp only [Int32.le_iff_toInt_le, Int32.lt_iff_toInt_lt, ← Int32.toInt_inj] at c0 c1 c2 c3 c4 c5 c6 c7; have e0 : Int32.toInt (120 * (xs 1)) = Int32.toInt 120 * Int32.toInt (xs 1) := i32_mul (by simp only [l0, l1, l2, l3, l4, l5]; omega) (by simp only [l0, l1, l2, l3, l4, l5]; omega); have e1 : Int32.toInt ((120 * (xs 1)) + 24) = Int32.toInt (120 * (xs 1)) + Int32.toInt 24 := i32_add (by simp only [l0, l1, l2, l3, l4, l5, e0]; omega) (by simp only [l0, l1, l2, l3, l4, l5, e0]; omega); have e2 : Int32.toInt (((120 * (xs 1)) + 24) + 10) = Int32.toInt ((120 * (xs 1)) + 24) + Int32.toInt 10 := i32_add (by simp only [l0, l1, l2, l3, l4, l5, e0, e1]; omega) (by simp only [l0, l1, l2, l3, l4, l5, e0, e1]; omega); (try simp only [l0, l1, l2, l3, l4, l5] at e0 e1 e2); constructor <;> omega)) (by decide) ?_
          obtain ⟨G49, eG49⟩ : ∃ z : ab_G, z = List.set G48 126 (ab_if 720 ((upd f126_37 (Int32.toNatClampNeg (((120 * (xs 1)) + 24) + 10)) 0))) := ⟨_, rfl⟩
          have h80 := ab_keep eG49 (by decide) h80
          have h110 := ab_keep eG49 (by decide) h110
          have h127 := ab_keep eG49 (by decide) h127
          have hlen := ab_klen eG49 hlen
          have hsl := ab_ksl 720 eG49 h126 rfl rfl hsl
          have hfr := hfr.wr eG49 (by decide)
          have hpk := hpk.wr eG49 (by decide)
          have h126 := ab_kept eG49 h126
          change ab_W _ _ _ (List.set G48 126 (ab_if 720 ((upd f126_37 (Int32.toNatClampNeg (((120 * (xs 1)) + 24) + 10)) 0)))) 220 [some (vR 80), some (vI (xs 1)), some (vI (xs 2)), some (vI 1), some (vI 2), some (vI 10)] [] _
          rw [← eG49]
          obtain ⟨f126_38, h126⟩ : ∃ g : Nat → Int32, G49[126]? = some (ab_if 720 (g)) := ⟨_, h126⟩
          refine ab_iinc (v := 11) d_MO_compile_220 rfl (by decide) (Nat.le_of_ble_eq_true rfl) (Nat.le_of_ble_eq_true rfl) rfl ?_
          change ab_W _ _ _ G49 223 [some (vR 80), some (vI (xs 1)), some (vI (xs 2)), some (vI 1), some (vI 2), some (vI 11)] [] _
          refine ab_goto (tgt := 182) d_MO_compile_223 (by decide) ?_
          refine ab_iload d_MO_compile_182 rfl ?_
          refine ab_bipush (v := 12) d_MO_compile_184 (by decide) ?_
          refine ab_icmp_ge (tgt := 226) d_MO_compile_186 (by decide) (fun c => absurd c (by decide)) (fun _ => ?_)
          refine ab_aload_n d_MO_compile_189 rfl ?_
          refine ab_getf (fs := (m_fv (vI 0) (vI 0) (vI 0) (vI 0) (vI 0) (vI 0) (vI 0) (vI 0) (vI 2) (vI 0) (vI ((xs 2) &&& 15)) (vI 0) (vI (-1)) (vI 0) (vI 0) (vI 0) (vI 0) (vI 0) (vI 0) (vI (xs 1)) (vI 0) (vI 0) (vI 0) (vI 0) (vI 0) (vI 0) (vI 0) (vI 0) (vI 0) (vI 0) (vI 0) (vI 0) (vI 0) (vI 0) (vI 0))) f_MO_152 d_MO_compile_190 h80 rfl ?_
          refine ab_bipush (v := 120) d_MO_compile_193 (by decide) ?_
          refine ab_iload_n d_MO_compile_195 rfl ?_
          refine ab_imul d_MO_compile_196 ?_
          refine ab_bipush (v := 12) d_MO_compile_197 (by decide) ?_
          refine ab_iload d_MO_compile_199 rfl ?_
          refine ab_imul d_MO_compile_201 ?_
          refine ab_topi (y := 24) (by decide) ?_
          refine ab_iadd d_MO_compile_202 ?_
          refine ab_iload d_MO_compile_203 rfl ?_
          refine ab_iadd d_MO_compile_205 ?_
          refine ab_aload_n d_MO_compile_206 rfl ?_
          refine ab_getf (fs := (m_fv (vI 0) (vI 0) (vI 0) (vI 0) (vI 0) (vI 0) (vI 0) (vI 0) (vI 2) (vI 0) (vI ((xs 2) &&& 15)) (vI 0) (vI (-1)) (vI 0) (vI 0) (vI 0) (vI 0) (vI 0) (vI 0) (vI (xs 1)) (vI 0) (vI 0) (vI 0) (vI 0) (vI 0) (vI 0) (vI 0) (vI 0) (vI 0) (vI 0) (vI 0) (vI 0) (vI 0) (vI 0) (vI 0))) f_MO_103 d_MO_compile_207 h80 rfl ?_
          refine ab_bipush (v := 12) d_MO_compile_210 (by decide) ?_
          refine ab_iload d_MO_compile_212 rfl ?_
          refine ab_imul d_MO_compile_214 ?_
          refine ab_topi (y := 24) (by decide) ?_
          refine ab_iload d_MO_compile_215 rfl ?_
          refine ab_iadd d_MO_compile_217 ?_
          refine ab_topi (y := 35) (by decide) ?_
          refine ab_iald d_MO_compile_218 h110 (by unfold vp_in; decide) ?_
          refine ab_topi (y := 0) rfl ?_
          refine ab_iast d_MO_compile_219 h126 (vp_in_iff.mpr (by have l0 := (show (0 : Int32).toInt = 0 by decide); have l1 := (show (5 : Int32).toInt = 5 by decide); have l2 := (show (11 : Int32).toInt = 11 by decide); have l3 := (show (24 : Int32).toInt = 24 by decide); have l4 := (show (31 : Int32).toInt = 31 by decide); have l5 := (show (120 : Int32).toInt = 120 by decide); simp only [Int32.le_iff_toInt_le, Int32.lt_iff_toInt_lt, ← Int32.toInt_inj] at c0 c1 c2 c3 c4 c5 c6 c7; have e0 : Int32.toInt (120 * (xs 1)) = Int32.toInt 120 * Int32.toInt (xs 1) := i32_mul (by simp only [l0, l1, l2, l3, l4, l5]; omega) (by simp only [l0, l1, l2, l3, l4, l5]; omega); have e1 : Int32.toInt ((120 * (xs 1)) + 24) = Int32.toInt (120 * (xs 1)) + Int32.toInt 24 := i32_add (by simp only [l0, l1, l2, l3, l4, l5, e0]; omega) (by simp only [l0, l1, l2, l3, l4, l5, e0]; omega); have e2 : Int32.toInt (((120 * (xs 1)) + 24) + 11) = Int32.toInt ((120 * (xs 1)) + 24) + Int32.toInt 11 := i32_add (by simp only [l0, l1, l2, l3, l4, l5, e0, e1]; omega) (by simp only [l0, l1, l2, l3, l4, l5, e0, e1]; omega); (try simp only [l0, l1, l2, l3, l4, l5] at e0 e1 e2); constructor <;> omega)) (by decide) ?_
          obtain ⟨G50, eG50⟩ : ∃ z : ab_G, z = List.set G49 126 (ab_if 720 ((upd f126_38 (Int32.toNatClampNeg (((120 * (xs 1)) + 24) + 11)) 0))) := ⟨_, rfl⟩
          have h80 := ab_keep eG50 (by decide) h80
          have h110 := ab_keep eG50 (by decide) h110
          have h127 := ab_keep eG50 (by decide) h127
          have hlen := ab_klen eG50 hlen
          have hsl := ab_ksl 720 eG50 h126 rfl rfl hsl
          have hfr := hfr.wr eG50 (by decide)
          have hpk := hpk.wr eG50 (by decide)
          have h126 := ab_kept eG50 h126
          change ab_W _ _ _ (List.set G49 126 (ab_if 720 ((upd f126_38 (Int32.toNatClampNeg (((120 * (xs 1)) + 24) + 11)) 0)))) 220 [some (vR 80), some (vI (xs 1)), some (vI (xs 2)), some (vI 1), some (vI 2), some (vI 11)] [] _
          rw [← eG50]
          obtain ⟨f126_39, h126⟩ : ∃ g : Nat → Int32, G50[126]? = some (ab_if 720 (g)) := ⟨_, h126⟩
          refine ab_iinc (v := 12) d_MO_compile_220 rfl (by decide) (Nat.le_of_ble_eq_true rfl) (Nat.le_of_ble_eq_true rfl) rfl ?_
          change ab_W _ _ _ G50 223 [some (vR 80), some (vI (xs 1)), some (vI (xs 2)), some (vI 1), some (vI 2), some (vI 12)] [] _
          refine ab_goto (tgt := 182) d_MO_compile_223 (by decide) ?_
          refine ab_iload d_MO_compile_182 rfl ?_
          refine ab_bipush (v := 12) d_MO_compile_184 (by decide) ?_
          refine ab_icmp_ge (tgt := 226) d_MO_compile_186 (by decide) (fun _ => ?_) (fun c => absurd c (by decide))
          refine ab_iinc (v := 3) d_MO_compile_226 rfl (by decide) (Nat.le_of_ble_eq_true rfl) (Nat.le_of_ble_eq_true rfl) rfl ?_
          change ab_W _ _ _ G50 229 [some (vR 80), some (vI (xs 1)), some (vI (xs 2)), some (vI 1), some (vI 3), some (vI 12)] [] _
          refine ab_goto (tgt := 135) d_MO_compile_229 (by decide) ?_
          refine ab_iload d_MO_compile_135 rfl ?_
          refine ab_bipush (v := 10) d_MO_compile_137 (by decide) ?_
          refine ab_icmp_ge (tgt := 232) d_MO_compile_139 (by decide) (fun c => absurd c (by decide)) (fun _ => ?_)
          refine ab_aload_n d_MO_compile_142 rfl ?_
          refine ab_getf (fs := (m_fv (vI 0) (vI 0) (vI 0) (vI 0) (vI 0) (vI 0) (vI 0) (vI 0) (vI 2) (vI 0) (vI ((xs 2) &&& 15)) (vI 0) (vI (-1)) (vI 0) (vI 0) (vI 0) (vI 0) (vI 0) (vI 0) (vI (xs 1)) (vI 0) (vI 0) (vI 0) (vI 0) (vI 0) (vI 0) (vI 0) (vI 0) (vI 0) (vI 0) (vI 0) (vI 0) (vI 0) (vI 0) (vI 0))) f_MO_155 d_MO_compile_143 h80 rfl ?_
          refine ab_bipush (v := 10) d_MO_compile_146 (by decide) ?_
          refine ab_iload_n d_MO_compile_148 rfl ?_
          refine ab_imul d_MO_compile_149 ?_
          refine ab_iload d_MO_compile_150 rfl ?_
          refine ab_iadd d_MO_compile_152 ?_
          refine ab_iload d_MO_compile_153 rfl ?_
          refine ab_if_le (tgt := 177) d_MO_compile_155 (by decide) (fun c => absurd c (by decide)) (fun _ => ?_)
          refine ab_iload d_MO_compile_158 rfl ?_
          refine ab_aload_n d_MO_compile_160 rfl ?_
          refine ab_getf (fs := (m_fv (vI 0) (vI 0) (vI 0) (vI 0) (vI 0) (vI 0) (vI 0) (vI 0) (vI 2) (vI 0) (vI ((xs 2) &&& 15)) (vI 0) (vI (-1)) (vI 0) (vI 0) (vI 0) (vI 0) (vI 0) (vI 0) (vI (xs 1)) (vI 0) (vI 0) (vI 0) (vI 0) (vI 0) (vI 0) (vI 0) (vI 0) (vI 0) (vI 0) (vI 0) (vI 0) (vI 0) (vI 0) (vI 0))) f_MO_395 d_MO_compile_161 h80 rfl ?_
          refine ab_icmp_gt (tgt := 177) d_MO_compile_164 (by decide) (fun _ => ?_) (fun c => absurd c (by decide))
          refine ab_iconst (v := 0) d_MO_compile_177 (by decide) ?_
          refine ab_iast d_MO_compile_178 h127 (vp_in_iff.mpr (by have l0 := (show (0 : Int32).toInt = 0 by decide); have l1 := (show (3 : Int32).toInt = 3 by decide); have l2 := (show (5 : Int32).toInt = 5 by decide); have l3 := (show (10 : Int32).toInt = 10 by decide); have l4 := (show (31 : Int32).toInt = 31 by decide); simp only [Int32.le_iff_toInt_le, Int32.lt_iff_toInt_lt, ← Int32.toInt_inj] at c0 c1 c2 c3 c4 c5 c6 c7; have e0 : Int32.toInt (10 * (xs 1)) = Int32.toInt 10 * Int32.toInt (xs 1) := i32_mul (by simp only [l0, l1, l2, l3, l4]; omega) (by simp only [l0, l1, l2, l3, l4]; omega); have e1 : Int32.toInt ((10 * (xs 1)) + 3) = Int32.toInt (10 * (xs 1)) + Int32.toInt 3 := i32_add (by simp only [l0, l1, l2, l3, l4, e0]; omega) (by simp only [l0, l1, l2, l3, l4, e0]; omega); (try simp only [l0, l1, l2, l3, l4] at e0 e1); constructor <;> omega)) (by decide) ?_
          obtain ⟨G51, eG51⟩ : ∃ z : ab_G, z = List.set G50 127 (ab_if 60 ((upd f127_27 (Int32.toNatClampNeg ((10 * (xs 1)) + 3)) 0))) := ⟨_, rfl⟩
          have h80 := ab_keep eG51 (by decide) h80
          have h110 := ab_keep eG51 (by decide) h110
          have h126 := ab_keep eG51 (by decide) h126
          have hlen := ab_klen eG51 hlen
          have hsl := ab_ksl 60 eG51 h127 rfl rfl hsl
          have hfr := hfr.wr eG51 (by decide)
          have hpk := hpk.wr eG51 (by decide)
          have h127 := ab_kept eG51 h127
          change ab_W _ _ _ (List.set G50 127 (ab_if 60 ((upd f127_27 (Int32.toNatClampNeg ((10 * (xs 1)) + 3)) 0)))) 179 [some (vR 80), some (vI (xs 1)), some (vI (xs 2)), some (vI 1), some (vI 3), some (vI 12)] [] _
          rw [← eG51]
          obtain ⟨f127_40, h127⟩ : ∃ g : Nat → Int32, G51[127]? = some (ab_if 60 (g)) := ⟨_, h127⟩
          refine ab_iconst (v := 0) d_MO_compile_179 (by decide) ?_
          refine ab_istore d_MO_compile_180 (Nat.le_of_ble_eq_true rfl) (Nat.le_of_ble_eq_true rfl) rfl ?_
          change ab_W _ _ _ G51 182 [some (vR 80), some (vI (xs 1)), some (vI (xs 2)), some (vI 1), some (vI 3), some (vI 0)] [] _
          refine ab_iload d_MO_compile_182 rfl ?_
          refine ab_bipush (v := 12) d_MO_compile_184 (by decide) ?_
          refine ab_icmp_ge (tgt := 226) d_MO_compile_186 (by decide) (fun c => absurd c (by decide)) (fun _ => ?_)
          refine ab_aload_n d_MO_compile_189 rfl ?_
          refine ab_getf (fs := (m_fv (vI 0) (vI 0) (vI 0) (vI 0) (vI 0) (vI 0) (vI 0) (vI 0) (vI 2) (vI 0) (vI ((xs 2) &&& 15)) (vI 0) (vI (-1)) (vI 0) (vI 0) (vI 0) (vI 0) (vI 0) (vI 0) (vI (xs 1)) (vI 0) (vI 0) (vI 0) (vI 0) (vI 0) (vI 0) (vI 0) (vI 0) (vI 0) (vI 0) (vI 0) (vI 0) (vI 0) (vI 0) (vI 0))) f_MO_152 d_MO_compile_190 h80 rfl ?_
          refine ab_bipush (v := 120) d_MO_compile_193 (by decide) ?_
          refine ab_iload_n d_MO_compile_195 rfl ?_
          refine ab_imul d_MO_compile_196 ?_
          refine ab_bipush (v := 12) d_MO_compile_197 (by decide) ?_
          refine ab_iload d_MO_compile_199 rfl ?_
          refine ab_imul d_MO_compile_201 ?_
          refine ab_topi (y := 36) (by decide) ?_
          refine ab_iadd d_MO_compile_202 ?_
          refine ab_iload d_MO_compile_203 rfl ?_
          refine ab_iadd d_MO_compile_205 ?_
          refine ab_topi (y := ((120 * (xs 1)) + 36)) (Int32.add_zero _) ?_
          refine ab_aload_n d_MO_compile_206 rfl ?_
          refine ab_getf (fs := (m_fv (vI 0) (vI 0) (vI 0) (vI 0) (vI 0) (vI 0) (vI 0) (vI 0) (vI 2) (vI 0) (vI ((xs 2) &&& 15)) (vI 0) (vI (-1)) (vI 0) (vI 0) (vI 0) (vI 0) (vI 0) (vI 0) (vI (xs 1)) (vI 0) (vI 0) (vI 0) (vI 0) (vI 0) (vI 0) (vI 0) (vI 0) (vI 0) (vI 0) (vI 0) (vI 0) (vI 0) (vI 0) (vI 0))) f_MO_103 d_MO_compile_207 h80 rfl ?_
          refine ab_bipush (v := 12) d_MO_compile_210 (by decide) ?_
          refine ab_iload d_MO_compile_212 rfl ?_
          refine ab_imul d_MO_compile_214 ?_
          refine ab_topi (y := 36) (by decide) ?_
          refine ab_iload d_MO_compile_215 rfl ?_
          refine ab_iadd d_MO_compile_217 ?_
          refine ab_topi (y := 36) (by decide) ?_
          refine ab_iald d_MO_compile_218 h110 (by unfold vp_in; decide) ?_
          refine ab_topi (y := 0) rfl ?_
          refine ab_iast d_MO_compile_219 h126 (vp_in_iff.mpr (by have l0 := (show (0 : Int32).toInt = 0 by decide); have l1 := (show (5 : Int32).toInt = 5 by decide); have l2 := (show (31 : Int32).toInt = 31 by decide); have l3 := (show (36 : Int32).toInt = 36 by decide); have l4 := (show (120 : Int32).toInt = 120 by decide); simp only [Int32.le_iff_toInt_le, Int32.lt_iff_toInt_lt, ← Int32.toInt_inj] at c0 c1 c2 c3 c4 c5 c6 c7; have e0 : Int32.toInt (120 * (xs 1)) = Int32.toInt 120 * Int32.toInt (xs 1) := i32_mul (by simp only [l0, l1, l2, l3, l4]; omega) (by simp only [l0, l1, l2, l3, l4]; omega); have e1 : Int32.toInt ((120 * (xs 1)) + 36) = Int32.toInt (120 * (xs 1)) + Int32.toInt 36 := i32_add (by simp only [l0, l1, l2, l3, l4, e0]; omega) (by simp only [l0, l1, l2, l3, l4, e0]; omega); (try simp only [l0, l1, l2, l3, l4] at e0 e1); constructor <;> omega)) (by decide) ?_
          obtain ⟨G52, eG52⟩ : ∃ z : ab_G, z = List.set G51 126 (ab_if 720 ((upd f126_39 (Int32.toNatClampNeg ((120 * (xs 1)) + 36)) 0))) := ⟨_, rfl⟩
          have h80 := ab_keep eG52 (by decide) h80
          have h110 := ab_keep eG52 (by decide) h110
          have h127 := ab_keep eG52 (by decide) h127
          have hlen := ab_klen eG52 hlen
          have hsl := ab_ksl 720 eG52 h126 rfl rfl hsl
          have hfr := hfr.wr eG52 (by decide)
          have hpk := hpk.wr eG52 (by decide)
          have h126 := ab_kept eG52 h126
          change ab_W _ _ _ (List.set G51 126 (ab_if 720 ((upd f126_39 (Int32.toNatClampNeg ((120 * (xs 1)) + 36)) 0)))) 220 [some (vR 80), some (vI (xs 1)), some (vI (xs 2)), some (vI 1), some (vI 3), some (vI 0)] [] _
          rw [← eG52]
          obtain ⟨f126_41, h126⟩ : ∃ g : Nat → Int32, G52[126]? = some (ab_if 720 (g)) := ⟨_, h126⟩
          refine ab_iinc (v := 1) d_MO_compile_220 rfl (by decide) (Nat.le_of_ble_eq_true rfl) (Nat.le_of_ble_eq_true rfl) rfl ?_
          change ab_W _ _ _ G52 223 [some (vR 80), some (vI (xs 1)), some (vI (xs 2)), some (vI 1), some (vI 3), some (vI 1)] [] _
          refine ab_goto (tgt := 182) d_MO_compile_223 (by decide) ?_
          refine ab_iload d_MO_compile_182 rfl ?_
          refine ab_bipush (v := 12) d_MO_compile_184 (by decide) ?_
          refine ab_icmp_ge (tgt := 226) d_MO_compile_186 (by decide) (fun c => absurd c (by decide)) (fun _ => ?_)
          refine ab_aload_n d_MO_compile_189 rfl ?_
          refine ab_getf (fs := (m_fv (vI 0) (vI 0) (vI 0) (vI 0) (vI 0) (vI 0) (vI 0) (vI 0) (vI 2) (vI 0) (vI ((xs 2) &&& 15)) (vI 0) (vI (-1)) (vI 0) (vI 0) (vI 0) (vI 0) (vI 0) (vI 0) (vI (xs 1)) (vI 0) (vI 0) (vI 0) (vI 0) (vI 0) (vI 0) (vI 0) (vI 0) (vI 0) (vI 0) (vI 0) (vI 0) (vI 0) (vI 0) (vI 0))) f_MO_152 d_MO_compile_190 h80 rfl ?_
          refine ab_bipush (v := 120) d_MO_compile_193 (by decide) ?_
          refine ab_iload_n d_MO_compile_195 rfl ?_
          refine ab_imul d_MO_compile_196 ?_
          refine ab_bipush (v := 12) d_MO_compile_197 (by decide) ?_
          refine ab_iload d_MO_compile_199 rfl ?_
          refine ab_imul d_MO_compile_201 ?_
          refine ab_topi (y := 36) (by decide) ?_
          refine ab_iadd d_MO_compile_202 ?_
          refine ab_iload d_MO_compile_203 rfl ?_
          refine ab_iadd d_MO_compile_205 ?_
          refine ab_aload_n d_MO_compile_206 rfl ?_
          refine ab_getf (fs := (m_fv (vI 0) (vI 0) (vI 0) (vI 0) (vI 0) (vI 0) (vI 0) (vI 0) (vI 2) (vI 0) (vI ((xs 2) &&& 15)) (vI 0) (vI (-1)) (vI 0) (vI 0) (vI 0) (vI 0) (vI 0) (vI 0) (vI (xs 1)) (vI 0) (vI 0) (vI 0) (vI 0) (vI 0) (vI 0) (vI 0) (vI 0) (vI 0) (vI 0) (vI 0) (vI 0) (vI 0) (vI 0) (vI 0))) f_MO_103 d_MO_compile_207 h80 rfl ?_
          refine ab_bipush (v := 12) d_MO_compile_210 (by decide) ?_
          refine ab_iload d_MO_compile_212 rfl ?_
          refine ab_imul d_MO_compile_214 ?_
          refine ab_topi (y := 36) (by decide) ?_
          refine ab_iload d_MO_compile_215 rfl ?_
          refine ab_iadd d_MO_compile_217 ?_
          refine ab_topi (y := 37) (by decide) ?_
          refine ab_iald d_MO_compile_218 h110 (by unfold vp_in; decide) ?_
          refine ab_topi (y := 0) rfl ?_
          refine ab_iast d_MO_compile_219 h126 (vp_in_iff.mpr (by have l0 := (show (0 : Int32).toInt = 0 by decide); have l1 := (show (1 : Int32).toInt = 1 by decide); have l2 := (show (5 : Int32).toInt = 5 by decide); have l3 := (show (31 : Int32).toInt = 31 by decide); have l4 := (show (36 : Int32).toInt = 36 by decide); have l5 := (show (120 : Int32).toInt = 120 by decide); simp only [Int32.le_iff_toInt_le, Int32.lt_iff_toInt_lt, ← Int32.toInt_inj] at c0 c1 c2 c3 c4 c5 c6 c7; have e0 : Int32.toInt (120 * (xs 1)) = Int32.toInt 120 * Int32.toInt (xs 1) := i32_mul (by simp only [l0, l1, l2, l3, l4, l5]; omega) (by simp only [l0, l1, l2, l3, l4, l5]; omega); have e1 : Int32.toInt ((120 * (xs 1)) + 36) = Int32.toInt (120 * (xs 1)) + Int32.toInt 36 := i32_add (by simp only [l0, l1, l2, l3, l4, l5, e0]; omega) (by simp only [l0, l1, l2, l3, l4, l5, e0]; omega); have e2 : Int32.toInt (((120 * (xs 1)) + 36) + 1) = Int32.toInt ((120 * (xs 1)) + 36) + Int32.toInt 1 := i32_add (by simp only [l0, l1, l2, l3, l4, l5, e0, e1]; omega) (by simp only [l0, l1, l2, l3, l4, l5, e0, e1]; omega); (try simp only [l0, l1, l2, l3, l4, l5] at e0 e1 e2); constructor <;> omega)) (by decide) ?_
          obtain ⟨G53, eG53⟩ : ∃ z : ab_G, z = List.set G52 126 (ab_if 720 ((upd f126_41 (Int32.toNatClampNeg (((120 * (xs 1)) + 36) + 1)) 0))) := ⟨_, rfl⟩
          have h80 := ab_keep eG53 (by decide) h80
          have h110 := ab_keep eG53 (by decide) h110
          have h127 := ab_keep eG53 (by decide) h127
          have hlen := ab_klen eG53 hlen
          have hsl := ab_ksl 720 eG53 h126 rfl rfl hsl
          have hfr := hfr.wr eG53 (by decide)
          have hpk := hpk.wr eG53 (by decide)
          have h126 := ab_kept eG53 h126
          change ab_W _ _ _ (List.set G52 126 (ab_if 720 ((upd f126_41 (Int32.toNatClampNeg (((120 * (xs 1)) + 36) + 1)) 0)))) 220 [some (vR 80), some (vI (xs 1)), some (vI (xs 2)), some (vI 1), some (vI 3), some (vI 1)] [] _
          rw [← eG53]
          obtain ⟨f126_42, h126⟩ : ∃ g : Nat → Int32, G53[126]? = some (ab_if 720 (g)) := ⟨_, h126⟩
          refine ab_iinc (v := 2) d_MO_compile_220 rfl (by decide) (Nat.le_of_ble_eq_true rfl) (Nat.le_of_ble_eq_true rfl) rfl ?_
          change ab_W _ _ _ G53 223 [some (vR 80), some (vI (xs 1)), some (vI (xs 2)), some (vI 1), some (vI 3), some (vI 2)] [] _
          refine ab_goto (tgt := 182) d_MO_compile_223 (by decide) ?_
          refine ab_iload d_MO_compile_182 rfl ?_
          refine ab_bipush (v := 12) d_MO_compile_184 (by decide) ?_
          refine ab_icmp_ge (tgt := 226) d_MO_compile_186 (by decide) (fun c => absurd c (by decide)) (fun _ => ?_)
          refine ab_aload_n d_MO_compile_189 rfl ?_
          refine ab_getf (fs := (m_fv (vI 0) (vI 0) (vI 0) (vI 0) (vI 0) (vI 0) (vI 0) (vI 0) (vI 2) (vI 0) (vI ((xs 2) &&& 15)) (vI 0) (vI (-1)) (vI 0) (vI 0) (vI 0) (vI 0) (vI 0) (vI 0) (vI (xs 1)) (vI 0) (vI 0) (vI 0) (vI 0) (vI 0) (vI 0) (vI 0) (vI 0) (vI 0) (vI 0) (vI 0) (vI 0) (vI 0) (vI 0) (vI 0))) f_MO_152 d_MO_compile_190 h80 rfl ?_
          refine ab_bipush (v := 120) d_MO_compile_193 (by decide) ?_
          refine ab_iload_n d_MO_compile_195 rfl ?_
          refine ab_imul d_MO_compile_196 ?_
          refine ab_bipush (v := 12) d_MO_compile_197 (by decide) ?_
          refine ab_iload d_MO_compile_199 rfl ?_
          refine ab_imul d_MO_compile_201 ?_
          refine ab_topi (y := 36) (by decide) ?_
          refine ab_iadd d_MO_compile_202 ?_
          refine ab_iload d_MO_compile_203 rfl ?_
          refine ab_iadd d_MO_compile_205 ?_
          refine ab_aload_n d_MO_compile_206 rfl ?_
          refine ab_getf (fs := (m_fv (vI 0) (vI 0) (vI 0) (vI 0) (vI 0) (vI 0) (vI 0) (vI 0) (vI 2) (vI 0) (vI ((xs 2) &&& 15)) (vI 0) (vI (-1)) (vI 0) (vI 0) (vI 0) (vI 0) (vI 0) (vI 0) (vI (xs 1)) (vI 0) (vI 0) (vI 0) (vI 0) (vI 0) (vI 0) (vI 0) (vI 0) (vI 0) (vI 0) (vI 0) (vI 0) (vI 0) (vI 0) (vI 0))) f_MO_103 d_MO_compile_207 h80 rfl ?_
          refine ab_bipush (v := 12) d_MO_compile_210 (by decide) ?_
          refine ab_iload d_MO_compile_212 rfl ?_
          refine ab_imul d_MO_compile_214 ?_
          refine ab_topi (y := 36) (by decide) ?_
          refine ab_iload d_MO_compile_215 rfl ?_
          refine ab_iadd d_MO_compile_217 ?_
          refine ab_topi (y := 38) (by decide) ?_
          refine ab_iald d_MO_compile_218 h110 (by unfold vp_in; decide) ?_
          refine ab_topi (y := 0) rfl ?_
          refine ab_iast d_MO_compile_219 h126 (vp_in_iff.mpr (by have l0 := (show (0 : Int32).toInt = 0 by decide); have l1 := (show (2 : Int32).toInt = 2 by decide); have l2 := (show (5 : Int32).toInt = 5 by decide); have l3 := (show (31 : Int32).toInt = 31 by decide); have l4 := (show (36 : Int32).toInt = 36 by decide); have l5 := (show (120 : Int32).toInt = 120 by decide); simp only [Int32.le_iff_toInt_le, Int32.lt_iff_toInt_lt, ← Int32.toInt_inj] at c0 c1 c2 c3 c4 c5 c6 c7; have e0 : Int32.toInt (120 * (xs 1)) = Int32.toInt 120 * Int32.toInt (xs 1) := i32_mul (by simp only [l0, l1, l2, l3, l4, l5]; omega) (by simp only [l0, l1, l2, l3, l4, l5]; omega); have e1 : Int32.toInt ((120 * (xs 1)) + 36) = Int32.toInt (120 * (xs 1)) + Int32.toInt 36 := i32_add (by simp only [l0, l1, l2, l3, l4, l5, e0]; omega) (by simp only [l0, l1, l2, l3, l4, l5, e0]; omega); have e2 : Int32.toInt (((120 * (xs 1)) + 36) + 2) = Int32.toInt ((120 * (xs 1)) + 36) + Int32.toInt 2 := i32_add (by simp only [l0, l1, l2, l3, l4, l5, e0, e1]; omega) (by simp only [l0, l1, l2, l3, l4, l5, e0, e1]; omega); (try simp only [l0, l1, l2, l3, l4, l5] at e0 e1 e2); constructor <;> omega)) (by decide) ?_
          obtain ⟨G54, eG54⟩ : ∃ z : ab_G, z = List.set G53 126 (ab_if 720 ((upd f126_42 (Int32.toNatClampNeg (((120 * (xs 1)) + 36) + 2)) 0))) := ⟨_, rfl⟩
          have h80 := ab_keep eG54 (by decide) h80
          have h110 := ab_keep eG54 (by decide) h110
          have h127 := ab_keep eG54 (by decide) h127
          have hlen := ab_klen eG54 hlen
          have hsl := ab_ksl 720 eG54 h126 rfl rfl hsl
          have hfr := hfr.wr eG54 (by decide)
          have hpk := hpk.wr eG54 (by decide)
          have h126 := ab_kept eG54 h126
          change ab_W _ _ _ (List.set G53 126 (ab_if 720 ((upd f126_42 (Int32.toNatClampNeg (((120 * (xs 1)) + 36) + 2)) 0)))) 220 [some (vR 80), some (vI (xs 1)), some (vI (xs 2)), some (vI 1), some (vI 3), some (vI 2)] [] _
          rw [← eG54]
          obtain ⟨f126_43, h126⟩ : ∃ g : Nat → Int32, G54[126]? = some (ab_if 720 (g)) := ⟨_, h126⟩
          refine ab_iinc (v := 3) d_MO_compile_220 rfl (by decide) (Nat.le_of_ble_eq_true rfl) (Nat.le_of_ble_eq_true rfl) rfl ?_
          change ab_W _ _ _ G54 223 [some (vR 80), some (vI (xs 1)), some (vI (xs 2)), some (vI 1), some (vI 3), some (vI 3)] [] _
          refine ab_goto (tgt := 182) d_MO_compile_223 (by decide) ?_
          refine ab_iload d_MO_compile_182 rfl ?_
          refine ab_bipush (v := 12) d_MO_compile_184 (by decide) ?_
          refine ab_icmp_ge (tgt := 226) d_MO_compile_186 (by decide) (fun c => absurd c (by decide)) (fun _ => ?_)
          refine ab_aload_n d_MO_compile_189 rfl ?_
          refine ab_getf (fs := (m_fv (vI 0) (vI 0) (vI 0) (vI 0) (vI 0) (vI 0) (vI 0) (vI 0) (vI 2) (vI 0) (vI ((xs 2) &&& 15)) (vI 0) (vI (-1)) (vI 0) (vI 0) (vI 0) (vI 0) (vI 0) (vI 0) (vI (xs 1)) (vI 0) (vI 0) (vI 0) (vI 0) (vI 0) (vI 0) (vI 0) (vI 0) (vI 0) (vI 0) (vI 0) (vI 0) (vI 0) (vI 0) (vI 0))) f_MO_152 d_MO_compile_190 h80 rfl ?_
          refine ab_bipush (v := 120) d_MO_compile_193 (by decide) ?_
          refine ab_iload_n d_MO_compile_195 rfl ?_
          refine ab_imul d_MO_compile_196 ?_
          refine ab_bipush (v := 12) d_MO_compile_197 (by decide) ?_
          refine ab_iload d_MO_compile_199 rfl ?_
          refine ab_imul d_MO_compile_201 ?_
          refine ab_topi (y := 36) (by decide) ?_
          refine ab_iadd d_MO_compile_202 ?_
          refine ab_iload d_MO_compile_203 rfl ?_
          refine ab_iadd d_MO_compile_205 ?_
          refine ab_aload_n d_MO_compile_206 rfl ?_
          refine ab_getf (fs := (m_fv (vI 0) (vI 0) (vI 0) (vI 0) (vI 0) (vI 0) (vI 0) (vI 0) (vI 2) (vI 0) (vI ((xs 2) &&& 15)) (vI 0) (vI (-1)) (vI 0) (vI 0) (vI 0) (vI 0) (vI 0) (vI 0) (vI (xs 1)) (vI 0) (vI 0) (vI 0) (vI 0) (vI 0) (vI 0) (vI 0) (vI 0) (vI 0) (vI 0) (vI 0) (vI 0) (vI 0) (vI 0) (vI 0))) f_MO_103 d_MO_compile_207 h80 rfl ?_
          refine ab_bipush (v := 12) d_MO_compile_210 (by decide) ?_
          refine ab_iload d_MO_compile_212 rfl ?_
          refine ab_imul d_MO_compile_214 ?_
          refine ab_topi (y := 36) (by decide) ?_
          refine ab_iload d_MO_compile_215 rfl ?_
          refine ab_iadd d_MO_compile_217 ?_
          refine ab_topi (y := 39) (by decide) ?_
          refine ab_iald d_MO_compile_218 h110 (by unfold vp_in; decide) ?_
          refine ab_topi (y := 0) rfl ?_
          refine ab_iast d_MO_compile_219 h126 (vp_in_iff.mpr (by have l0 := (show (0 : Int32).toInt = 0 by decide); have l1 := (show (3 : Int32).toInt = 3 by decide); have l2 := (show (5 : Int32).toInt = 5 by decide); have l3 := (show (31 : Int32).toInt = 31 by decide); have l4 := (show (36 : Int32).toInt = 36 by decide); have l5 := (show (120 : Int32).toInt = 120 by decide); simp only [Int32.le_iff_toInt_le, Int32.lt_iff_toInt_lt, ← Int32.toInt_inj] at c0 c1 c2 c3 c4 c5 c6 c7; have e0 : Int32.toInt (120 * (xs 1)) = Int32.toInt 120 * Int32.toInt (xs 1) := i32_mul (by simp only [l0, l1, l2, l3, l4, l5]; omega) (by simp only [l0, l1, l2, l3, l4, l5]; omega); have e1 : Int32.toInt ((120 * (xs 1)) + 36) = Int32.toInt (120 * (xs 1)) + Int32.toInt 36 := i32_add (by simp only [l0, l1, l2, l3, l4, l5, e0]; omega) (by simp only [l0, l1, l2, l3, l4, l5, e0]; omega); have e2 : Int32.toInt (((120 * (xs 1)) + 36) + 3) = Int32.toInt ((120 * (xs 1)) + 36) + Int32.toInt 3 := i32_add (by simp only [l0, l1, l2, l3, l4, l5, e0, e1]; omega) (by simp only [l0, l1, l2, l3, l4, l5, e0, e1]; omega); (try simp only [l0, l1, l2, l3, l4, l5] at e0 e1 e2); constructor <;> omega)) (by decide) ?_
          obtain ⟨G55, eG55⟩ : ∃ z : ab_G, z = List.set G54 126 (ab_if 720 ((upd f126_43 (Int32.toNatClampNeg (((120 * (xs 1)) + 36) + 3)) 0))) := ⟨_, rfl⟩
          have h80 := ab_keep eG55 (by decide) h80
          have h110 := ab_keep eG55 (by decide) h110
          have h127 := ab_keep eG55 (by decide) h127
          have hlen := ab_klen eG55 hlen
          have hsl := ab_ksl 720 eG55 h126 rfl rfl hsl
          have hfr := hfr.wr eG55 (by decide)
          have hpk := hpk.wr eG55 (by decide)
          have h126 := ab_kept eG55 h126
          change ab_W _ _ _ (List.set G54 126 (ab_if 720 ((upd f126_43 (Int32.toNatClampNeg (((120 * (xs 1)) + 36) + 3)) 0)))) 220 [some (vR 80), some (vI (xs 1)), some (vI (xs 2)), some (vI 1), some (vI 3), some (vI 3)] [] _
          rw [← eG55]
          obtain ⟨f126_44, h126⟩ : ∃ g : Nat → Int32, G55[126]? = some (ab_if 720 (g)) := ⟨_, h126⟩
          refine ab_iinc (v := 4) d_MO_compile_220 rfl (by decide) (Nat.le_of_ble_eq_true rfl) (Nat.le_of_ble_eq_true rfl) rfl ?_
          change ab_W _ _ _ G55 223 [some (vR 80), some (vI (xs 1)), some (vI (xs 2)), some (vI 1), some (vI 3), some (vI 4)] [] _
          refine ab_goto (tgt := 182) d_MO_compile_223 (by decide) ?_
          refine ab_iload d_MO_compile_182 rfl ?_
          refine ab_bipush (v := 12) d_MO_compile_184 (by decide) ?_
          refine ab_icmp_ge (tgt := 226) d_MO_compile_186 (by decide) (fun c => absurd c (by decide)) (fun _ => ?_)
          refine ab_aload_n d_MO_compile_189 rfl ?_
          refine ab_getf (fs := (m_fv (vI 0) (vI 0) (vI 0) (vI 0) (vI 0) (vI 0) (vI 0) (vI 0) (vI 2) (vI 0) (vI ((xs 2) &&& 15)) (vI 0) (vI (-1)) (vI 0) (vI 0) (vI 0) (vI 0) (vI 0) (vI 0) (vI (xs 1)) (vI 0) (vI 0) (vI 0) (vI 0) (vI 0) (vI 0) (vI 0) (vI 0) (vI 0) (vI 0) (vI 0) (vI 0) (vI 0) (vI 0) (vI 0))) f_MO_152 d_MO_compile_190 h80 rfl ?_
          refine ab_bipush (v := 120) d_MO_compile_193 (by decide) ?_
          refine ab_iload_n d_MO_compile_195 rfl ?_
          refine ab_imul d_MO_compile_196 ?_
          refine ab_bipush (v := 12) d_MO_compile_197 (by decide) ?_
          refine ab_iload d_MO_compile_199 rfl ?_
          refine ab_imul d_MO_compile_201 ?_
          refine ab_topi (y := 36) (by decide) ?_
          refine ab_iadd d_MO_compile_202 ?_
          refine ab_iload d_MO_compile_203 rfl ?_
          refine ab_iadd d_MO_compile_205 ?_
          refine ab_aload_n d_MO_compile_206 rfl ?_
          refine ab_getf (fs := (m_fv (vI 0) (vI 0) (vI 0) (vI 0) (vI 0) (vI 0) (vI 0) (vI 0) (vI 2) (vI 0) (vI ((xs 2) &&& 15)) (vI 0) (vI (-1)) (vI 0) (vI 0) (vI 0) (vI 0) (vI 0) (vI 0) (vI (xs 1)) (vI 0) (vI 0) (vI 0) (vI 0) (vI 0) (vI 0) (vI 0) (vI 0) (vI 0) (vI 0) (vI 0) (vI 0) (vI 0) (vI 0) (vI 0))) f_MO_103 d_MO_compile_207 h80 rfl ?_
          refine ab_bipush (v := 12) d_MO_compile_210 (by decide) ?_
          refine ab_iload d_MO_compile_212 rfl ?_
          refine ab_imul d_MO_compile_214 ?_
          refine ab_topi (y := 36) (by decide) ?_
          refine ab_iload d_MO_compile_215 rfl ?_
          refine ab_iadd d_MO_compile_217 ?_
          refine ab_topi (y := 40) (by decide) ?_
          refine ab_iald d_MO_compile_218 h110 (by unfold vp_in; decide) ?_
          refine ab_topi (y := 0) rfl ?_
          refine ab_iast d_MO_compile_219 h126 (vp_in_iff.mpr (by have l0 := (show (0 : Int32).toInt = 0 by decide); have l1 := (show (4 : Int32).toInt = 4 by decide); have l2 := (show (5 : Int32).toInt = 5 by decide); have l3 := (show (31 : Int32).toInt = 31 by decide); have l4 := (show (36 : Int32).toInt = 36 by decide); have l5 := (show (120 : Int32).toInt = 120 by decide); simp only [Int32.le_iff_toInt_le, Int32.lt_iff_toInt_lt, ← Int32.toInt_inj] at c0 c1 c2 c3 c4 c5 c6 c7; have e0 : Int32.toInt (120 * (xs 1)) = Int32.toInt 120 * Int32.toInt (xs 1) := i32_mul (by simp only [l0, l1, l2, l3, l4, l5]; omega) (by simp only [l0, l1, l2, l3, l4, l5]; omega); have e1 : Int32.toInt ((120 * (xs 1)) + 36) = Int32.toInt (120 * (xs 1)) + Int32.toInt 36 := i32_add (by simp only [l0, l1, l2, l3, l4, l5, e0]; omega) (by simp only [l0, l1, l2, l3, l4, l5, e0]; omega); have e2 : Int32.toInt (((120 * (xs 1)) + 36) + 4) = Int32.toInt ((120 * (xs 1)) + 36) + Int32.toInt 4 := i32_add (by simp only [l0, l1, l2, l3, l4, l5, e0, e1]; omega) (by simp only [l0, l1, l2, l3, l4, l5, e0, e1]; omega); (try simp only [l0, l1, l2, l3, l4, l5] at e0 e1 e2); constructor <;> omega)) (by decide) ?_
          obtain ⟨G56, eG56⟩ : ∃ z : ab_G, z = List.set G55 126 (ab_if 720 ((upd f126_44 (Int32.toNatClampNeg (((120 * (xs 1)) + 36) + 4)) 0))) := ⟨_, rfl⟩
          have h80 := ab_keep eG56 (by decide) h80
          have h110 := ab_keep eG56 (by decide) h110
          have h127 := ab_keep eG56 (by decide) h127
          have hlen := ab_klen eG56 hlen
          have hsl := ab_ksl 720 eG56 h126 rfl rfl hsl
          have hfr := hfr.wr eG56 (by decide)
          have hpk := hpk.wr eG56 (by decide)
          have h126 := ab_kept eG56 h126
          change ab_W _ _ _ (List.set G55 126 (ab_if 720 ((upd f126_44 (Int32.toNatClampNeg (((120 * (xs 1)) + 36) + 4)) 0)))) 220 [some (vR 80), some (vI (xs 1)), some (vI (xs 2)), some (vI 1), some (vI 3), some (vI 4)] [] _
          rw [← eG56]
          obtain ⟨f126_45, h126⟩ : ∃ g : Nat → Int32, G56[126]? = some (ab_if 720 (g)) := ⟨_, h126⟩
          refine ab_iinc (v := 5) d_MO_compile_220 rfl (by decide) (Nat.le_of_ble_eq_true rfl) (Nat.le_of_ble_eq_true rfl) rfl ?_
          change ab_W _ _ _ G56 223 [some (vR 80), some (vI (xs 1)), some (vI (xs 2)), some (vI 1), some (vI 3), some (vI 5)] [] _
          refine ab_goto (tgt := 182) d_MO_compile_223 (by decide) ?_
          refine ab_iload d_MO_compile_182 rfl ?_
          refine ab_bipush (v := 12) d_MO_compile_184 (by decide) ?_
          refine ab_icmp_ge (tgt := 226) d_MO_compile_186 (by decide) (fun c => absurd c (by decide)) (fun _ => ?_)
          refine ab_aload_n d_MO_compile_189 rfl ?_
          refine ab_getf (fs := (m_fv (vI 0) (vI 0) (vI 0) (vI 0) (vI 0) (vI 0) (vI 0) (vI 0) (vI 2) (vI 0) (vI ((xs 2) &&& 15)) (vI 0) (vI (-1)) (vI 0) (vI 0) (vI 0) (vI 0) (vI 0) (vI 0) (vI (xs 1)) (vI 0) (vI 0) (vI 0) (vI 0) (vI 0) (vI 0) (vI 0) (vI 0) (vI 0) (vI 0) (vI 0) (vI 0) (vI 0) (vI 0) (vI 0))) f_MO_152 d_MO_compile_190 h80 rfl ?_
          refine ab_bipush (v := 120) d_MO_compile_193 (by decide) ?_
          refine ab_iload_n d_MO_compile_195 rfl ?_
          refine ab_imul d_MO_compile_196 ?_
          refine ab_bipush (v := 12) d_MO_compile_197 (by decide) ?_
          refine ab_iload d_MO_compile_199 rfl ?_
          refine ab_imul d_MO_compile_201 ?_
          refine ab_topi (y := 36) (by decide) ?_
          refine ab_iadd d_MO_compile_202 ?_
          refine ab_iload d_MO_compile_203 rfl ?_
          refine ab_iadd d_MO_compile_205 ?_
          refine ab_aload_n d_MO_compile_206 rfl ?_
          refine ab_getf (fs := (m_fv (vI 0) (vI 0) (vI 0) (vI 0) (vI 0) (vI 0) (vI 0) (vI 0) (vI 2) (vI 0) (vI ((xs 2) &&& 15)) (vI 0) (vI (-1)) (vI 0) (vI 0) (vI 0) (vI 0) (vI 0) (vI 0) (vI (xs 1)) (vI 0) (vI 0) (vI 0) (vI 0) (vI 0) (vI 0) (vI 0) (vI 0) (vI 0) (vI 0) (vI 0) (vI 0) (vI 0) (vI 0) (vI 0))) f_MO_103 d_MO_compile_207 h80 rfl ?_
          refine ab_bipush (v := 12) d_MO_compile_210 (by decide) ?_
          refine ab_iload d_MO_compile_212 rfl ?_
          refine ab_imul d_MO_compile_214 ?_
          refine ab_topi (y := 36) (by decide) ?_
          refine ab_iload d_MO_compile_215 rfl ?_
          refine ab_iadd d_MO_compile_217 ?_
          refine ab_topi (y := 41) (by decide) ?_
          refine ab_iald d_MO_compile_218 h110 (by unfold vp_in; decide) ?_
          refine ab_topi (y := 0) rfl ?_
          refine ab_iast d_MO_compile_219 h126 (vp_in_iff.mpr (by have l0 := (show (0 : Int32).toInt = 0 by decide); have l1 := (show (5 : Int32).toInt = 5 by decide); have l2 := (show (31 : Int32).toInt = 31 by decide); have l3 := (show (36 : Int32).toInt = 36 by decide); have l4 := (show (120 : Int32).toInt = 120 by decide); simp only [Int32.le_iff_toInt_le, Int32.lt_iff_toInt_lt, ← Int32.toInt_inj] at c0 c1 c2 c3 c4 c5 c6 c7; have e0 : Int32.toInt (120 * (xs 1)) = Int32.toInt 120 * Int32.toInt (xs 1) := i32_mul (by simp only [l0, l1, l2, l3, l4]; omega) (by simp only [l0, l1, l2, l3, l4]; omega); have e1 : Int32.toInt ((120 * (xs 1)) + 36) = Int32.toInt (120 * (xs 1)) + Int32.toInt 36 := i32_add (by simp only [l0, l1, l2, l3, l4, e0]; omega) (by simp only [l0, l1, l2, l3, l4, e0]; omega); have e2 : Int32.toInt (((120 * (xs 1)) + 36) + 5) = Int32.toInt ((120 * (xs 1)) + 36) + Int32.toInt 5 := i32_add (by simp only [l0, l1, l2, l3, l4, e0, e1]; omega) (by simp only [l0, l1, l2, l3, l4, e0, e1]; omega); (try simp only [l0, l1, l2, l3, l4] at e0 e1 e2); constructor <;> omega)) (by decide) ?_
          obtain ⟨G57, eG57⟩ : ∃ z : ab_G, z = List.set G56 126 (ab_if 720 ((upd f126_45 (Int32.toNatClampNeg (((120 * (xs 1)) + 36) + 5)) 0))) := ⟨_, rfl⟩
          have h80 := ab_keep eG57 (by decide) h80
          have h110 := ab_keep eG57 (by decide) h110
          have h127 := ab_keep eG57 (by decide) h127
          have hlen := ab_klen eG57 hlen
          have hsl := ab_ksl 720 eG57 h126 rfl rfl hsl
          have hfr := hfr.wr eG57 (by decide)
          have hpk := hpk.wr eG57 (by decide)
          have h126 := ab_kept eG57 h126
          change ab_W _ _ _ (List.set G56 126 (ab_if 720 ((upd f126_45 (Int32.toNatClampNeg (((120 * (xs 1)) + 36) + 5)) 0)))) 220 [some (vR 80), some (vI (xs 1)), some (vI (xs 2)), some (vI 1), some (vI 3), some (vI 5)] [] _
          rw [← eG57]
          obtain ⟨f126_46, h126⟩ : ∃ g : Nat → Int32, G57[126]? = some (ab_if 720 (g)) := ⟨_, h126⟩
          refine ab_iinc (v := 6) d_MO_compile_220 rfl (by decide) (Nat.le_of_ble_eq_true rfl) (Nat.le_of_ble_eq_true rfl) rfl ?_
          change ab_W _ _ _ G57 223 [some (vR 80), some (vI (xs 1)), some (vI (xs 2)), some (vI 1), some (vI 3), some (vI 6)] [] _
          refine ab_goto (tgt := 182) d_MO_compile_223 (by decide) ?_
          refine ab_iload d_MO_compile_182 rfl ?_
          refine ab_bipush (v := 12) d_MO_compile_184 (by decide) ?_
          refine ab_icmp_ge (tgt := 226) d_MO_compile_186 (by decide) (fun c => absurd c (by decide)) (fun _ => ?_)
          refine ab_aload_n d_MO_compile_189 rfl ?_
          refine ab_getf (fs := (m_fv (vI 0) (vI 0) (vI 0) (vI 0) (vI 0) (vI 0) (vI 0) (vI 0) (vI 2) (vI 0) (vI ((xs 2) &&& 15)) (vI 0) (vI (-1)) (vI 0) (vI 0) (vI 0) (vI 0) (vI 0) (vI 0) (vI (xs 1)) (vI 0) (vI 0) (vI 0) (vI 0) (vI 0) (vI 0) (vI 0) (vI 0) (vI 0) (vI 0) (vI 0) (vI 0) (vI 0) (vI 0) (vI 0))) f_MO_152 d_MO_compile_190 h80 rfl ?_
          refine ab_bipush (v := 120) d_MO_compile_193 (by decide) ?_
          refine ab_iload_n d_MO_compile_195 rfl ?_
          refine ab_imul d_MO_compile_196 ?_
          refine ab_bipush (v := 12) d_MO_compile_197 (by decide) ?_
          refine ab_iload d_MO_compile_199 rfl ?_
          refine ab_imul d_MO_compile_201 ?_
          refine ab_topi (y := 36) (by decide) ?_
          refine ab_iadd d_MO_compile_202 ?_
          refine ab_iload d_MO_compile_203 rfl ?_
          refine ab_iadd d_MO_compile_205 ?_
          refine ab_aload_n d_MO_compile_206 rfl ?_
          refine ab_getf (fs := (m_fv (vI 0) (vI 0) (vI 0) (vI 0) (vI 0) (vI 0) (vI 0) (vI 0) (vI 2) (vI 0) (vI ((xs 2) &&& 15)) (vI 0) (vI (-1)) (vI 0) (vI 0) (vI 0) (vI 0) (vI 0) (vI 0) (vI (xs 1)) (vI 0) (vI 0) (vI 0) (vI 0) (vI 0) (vI 0) (vI 0) (vI 0) (vI 0) (vI 0) (vI 0) (vI 0) (vI 0) (vI 0) (vI 0))) f_MO_103 d_MO_compile_207 h80 rfl ?_
          refine ab_bipush (v := 12) d_MO_compile_210 (by decide) ?_
          refine ab_iload d_MO_compile_212 rfl ?_
          refine ab_imul d_MO_compile_214 ?_
          refine ab_topi (y := 36) (by decide) ?_
          refine ab_iload d_MO_compile_215 rfl ?_
          refine ab_iadd d_MO_compile_217 ?_
          refine ab_topi (y := 42) (by decide) ?_
          refine ab_iald d_MO_compile_218 h110 (by unfold vp_in; decide) ?_
          refine ab_topi (y := 0) rfl ?_
          refine ab_iast d_MO_compile_219 h126 (vp_in_iff.mpr (by have l0 := (show (0 : Int32).toInt = 0 by decide); have l1 := (show (5 : Int32).toInt = 5 by decide); have l2 := (show (6 : Int32).toInt = 6 by decide); have l3 := (show (31 : Int32).toInt = 31 by decide); have l4 := (show (36 : Int32).toInt = 36 by decide); have l5 := (show (120 : Int32).toInt = 120 by decide); simp only [Int32.le_iff_toInt_le, Int32.lt_iff_toInt_lt, ← Int32.toInt_inj] at c0 c1 c2 c3 c4 c5 c6 c7; have e0 : Int32.toInt (120 * (xs 1)) = Int32.toInt 120 * Int32.toInt (xs 1) := i32_mul (by simp only [l0, l1, l2, l3, l4, l5]; omega) (by simp only [l0, l1, l2, l3, l4, l5]; omega); have e1 : Int32.toInt ((120 * (xs 1)) + 36) = Int32.toInt (120 * (xs 1)) + Int32.toInt 36 := i32_add (by simp only [l0, l1, l2, l3, l4, l5, e0]; omega) (by simp only [l0, l1, l2, l3, l4, l5, e0]; omega); have e2 : Int32.toInt (((120 * (xs 1)) + 36) + 6) = Int32.toInt ((120 * (xs 1)) + 36) + Int32.toInt 6 := i32_add (by simp only [l0, l1, l2, l3, l4, l5, e0, e1]; omega) (by simp only [l0, l1, l2, l3, l4, l5, e0, e1]; omega); (try simp only [l0, l1, l2, l3, l4, l5] at e0 e1 e2); constructor <;> omega)) (by decide) ?_
          obtain ⟨G58, eG58⟩ : ∃ z : ab_G, z = List.set G57 126 (ab_if 720 ((upd f126_46 (Int32.toNatClampNeg (((120 * (xs 1)) + 36) + 6)) 0))) := ⟨_, rfl⟩
          have h80 := ab_keep eG58 (by decide) h80
          have h110 := ab_keep eG58 (by decide) h110
          have h127 := ab_keep eG58 (by decide) h127
          have hlen := ab_klen eG58 hlen
          have hsl := ab_ksl 720 eG58 h126 rfl rfl hsl
          have hfr := hfr.wr eG58 (by decide)
          have hpk := hpk.wr eG58 (by decide)
          have h126 := ab_kept eG58 h126
          change ab_W _ _ _ (List.set G57 126 (ab_if 720 ((upd f126_46 (Int32.toNatClampNeg (((120 * (xs 1)) + 36) + 6)) 0)))) 220 [some (vR 80), some (vI (xs 1)), some (vI (xs 2)), some (vI 1), some (vI 3), some (vI 6)] [] _
          rw [← eG58]
          obtain ⟨f126_47, h126⟩ : ∃ g : Nat → Int32, G58[126]? = some (ab_if 720 (g)) := ⟨_, h126⟩
          refine ab_iinc (v := 7) d_MO_compile_220 rfl (by decide) (Nat.le_of_ble_eq_true rfl) (Nat.le_of_ble_eq_true rfl) rfl ?_
          change ab_W _ _ _ G58 223 [some (vR 80), some (vI (xs 1)), some (vI (xs 2)), some (vI 1), some (vI 3), some (vI 7)] [] _
          refine ab_goto (tgt := 182) d_MO_compile_223 (by decide) ?_
          refine ab_iload d_MO_compile_182 rfl ?_
          refine ab_bipush (v := 12) d_MO_compile_184 (by decide) ?_
          refine ab_icmp_ge (tgt := 226) d_MO_compile_186 (by decide) (fun c => absurd c (by decide)) (fun _ => ?_)
          refine ab_aload_n d_MO_compile_189 rfl ?_
          refine ab_getf (fs := (m_fv (vI 0) (vI 0) (vI 0) (vI 0) (vI 0) (vI 0) (vI 0) (vI 0) (vI 2) (vI 0) (vI ((xs 2) &&& 15)) (vI 0) (vI (-1)) (vI 0) (vI 0) (vI 0) (vI 0) (vI 0) (vI 0) (vI (xs 1)) (vI 0) (vI 0) (vI 0) (vI 0) (vI 0) (vI 0) (vI 0) (vI 0) (vI 0) (vI 0) (vI 0) (vI 0) (vI 0) (vI 0) (vI 0))) f_MO_152 d_MO_compile_190 h80 rfl ?_
          refine ab_bipush (v := 120) d_MO_compile_193 (by decide) ?_
          refine ab_iload_n d_MO_compile_195 rfl ?_
          refine ab_imul d_MO_compile_196 ?_
          refine ab_bipush (v := 12) d_MO_compile_197 (by decide) ?_
          refine ab_iload d_MO_compile_199 rfl ?_
          refine ab_imul d_MO_compile_201 ?_
          refine ab_topi (y := 36) (by decide) ?_
          refine ab_iadd d_MO_compile_202 ?_
          refine ab_iload d_MO_compile_203 rfl ?_
          refine ab_iadd d_MO_compile_205 ?_
          refine ab_aload_n d_MO_compile_206 rfl ?_
          refine ab_getf (fs := (m_fv (vI 0) (vI 0) (vI 0) (vI 0) (vI 0) (vI 0) (vI 0) (vI 0) (vI 2) (vI 0) (vI ((xs 2) &&& 15)) (vI 0) (vI (-1)) (vI 0) (vI 0) (vI 0) (vI 0) (vI 0) (vI 0) (vI (xs 1)) (vI 0) (vI 0) (vI 0) (vI 0) (vI 0) (vI 0) (vI 0) (vI 0) (vI 0) (vI 0) (vI 0) (vI 0) (vI 0) (vI 0) (vI 0))) f_MO_103 d_MO_compile_207 h80 rfl ?_
          refine ab_bipush (v := 12) d_MO_compile_210 (by decide) ?_
          refine ab_iload d_MO_compile_212 rfl ?_
          refine ab_imul d_MO_compile_214 ?_
          refine ab_topi (y := 36) (by decide) ?_
          refine ab_iload d_MO_compile_215 rfl ?_
          refine ab_iadd d_MO_compile_217 ?_
          refine ab_topi (y := 43) (by decide) ?_
          refine ab_iald d_MO_compile_218 h110 (by unfold vp_in; decide) ?_
          refine ab_topi (y := 0) rfl ?_
          refine ab_iast d_MO_compile_219 h126 (vp_in_iff.mpr (by have l0 := (show (0 : Int32).toInt = 0 by decide); have l1 := (show (5 : Int32).toInt = 5 by decide); have l2 := (show (7 : Int32).toInt = 7 by decide); have l3 := (show (31 : Int32).toInt = 31 by decide); have l4 := (show (36 : Int32).toInt = 36 by decide); have l5 := (show (120 : Int32).toInt = 120 by decide); simp only [Int32.le_iff_toInt_le, Int32.lt_iff_toInt_lt, ← Int32.toInt_inj] at c0 c1 c2 c3 c4 c5 c6 c7; have e0 : Int32.toInt (120 * (xs 1)) = Int32.toInt 120 * Int32.toInt (xs 1) := i32_mul (by simp only [l0, l1, l2, l3, l4, l5]; omega) (by simp only [l0, l1, l2, l3, l4, l5]; omega); have e1 : Int32.toInt ((120 * (xs 1)) + 36) = Int32.toInt (120 * (xs 1)) + Int32.toInt 36 := i32_add (by simp only [l0, l1, l2, l3, l4, l5, e0]; omega) (by simp only [l0, l1, l2, l3, l4, l5, e0]; omega); have e2 : Int32.toInt (((120 * (xs 1)) + 36) + 7) = Int32.toInt ((120 * (xs 1)) + 36) + Int32.toInt 7 := i32_add (by simp only [l0, l1, l2, l3, l4, l5, e0, e1]; omega) (by simp only [l0, l1, l2, l3, l4, l5, e0, e1]; omega); (try simp only [l0, l1, l2, l3, l4, l5] at e0 e1 e2); constructor <;> omega)) (by decide) ?_
          obtain ⟨G59, eG59⟩ : ∃ z : ab_G, z = List.set G58 126 (ab_if 720 ((upd f126_47 (Int32.toNatClampNeg (((120 * (xs 1)) + 36) + 7)) 0))) := ⟨_, rfl⟩
          have h80 := ab_keep eG59 (by decide) h80
          have h110 := ab_keep eG59 (by decide) h110
          have h127 := ab_keep eG59 (by decide) h127
          have hlen := ab_klen eG59 hlen
          have hsl := ab_ksl 720 eG59 h126 rfl rfl hsl
          have hfr := hfr.wr eG59 (by decide)
          have hpk := hpk.wr eG59 (by decide)
          have h126 := ab_kept eG59 h126
          change ab_W _ _ _ (List.set G58 126 (ab_if 720 ((upd f126_47 (Int32.toNatClampNeg (((120 * (xs 1)) + 36) + 7)) 0)))) 220 [some (vR 80), some (vI (xs 1)), some (vI (xs 2)), some (vI 1), some (vI 3), some (vI 7)] [] _
          rw [← eG59]
          obtain ⟨f126_48, h126⟩ : ∃ g : Nat → Int32, G59[126]? = some (ab_if 720 (g)) := ⟨_, h126⟩
          refine ab_iinc (v := 8) d_MO_compile_220 rfl (by decide) (Nat.le_of_ble_eq_true rfl) (Nat.le_of_ble_eq_true rfl) rfl ?_
          change ab_W _ _ _ G59 223 [some (vR 80), some (vI (xs 1)), some (vI (xs 2)), some (vI 1), some (vI 3), some (vI 8)] [] _
          refine ab_goto (tgt := 182) d_MO_compile_223 (by decide) ?_
          refine ab_iload d_MO_compile_182 rfl ?_
          refine ab_bipush (v := 12) d_MO_compile_184 (by decide) ?_
          refine ab_icmp_ge (tgt := 226) d_MO_compile_186 (by decide) (fun c => absurd c (by decide)) (fun _ => ?_)
          refine ab_aload_n d_MO_compile_189 rfl ?_
          refine ab_getf (fs := (m_fv (vI 0) (vI 0) (vI 0) (vI 0) (vI 0) (vI 0) (vI 0) (vI 0) (vI 2) (vI 0) (vI ((xs 2) &&& 15)) (vI 0) (vI (-1)) (vI 0) (vI 0) (vI 0) (vI 0) (vI 0) (vI 0) (vI (xs 1)) (vI 0) (vI 0) (vI 0) (vI 0) (vI 0) (vI 0) (vI 0) (vI 0) (vI 0) (vI 0) (vI 0) (vI 0) (vI 0) (vI 0) (vI 0))) f_MO_152 d_MO_compile_190 h80 rfl ?_
          refine ab_bipush (v := 120) d_MO_compile_193 (by decide) ?_
          refine ab_iload_n d_MO_compile_195 rfl ?_
          refine ab_imul d_MO_compile_196 ?_
          refine ab_bipush (v := 12) d_MO_compile_197 (by decide) ?_
          refine ab_iload d_MO_compile_199 rfl ?_
          refine ab_imul d_MO_compile_201 ?_
          refine ab_topi (y := 36) (by decide) ?_
          refine ab_iadd d_MO_compile_202 ?_
          refine ab_iload d_MO_compile_203 rfl ?_
          refine ab_iadd d_MO_compile_205 ?_
          refine ab_aload_n d_MO_compile_206 rfl ?_
          refine ab_getf (fs := (m_fv (vI 0) (vI 0) (vI 0) (vI 0) (vI 0) (vI 0) (vI 0) (vI 0) (vI 2) (vI 0) (vI ((xs 2) &&& 15)) (vI 0) (vI (-1)) (vI 0) (vI 0) (vI 0) (vI 0) (vI 0) (vI 0) (vI (xs 1)) (vI 0) (vI 0) (vI 0) (vI 0) (vI 0) (vI 0) (vI 0) (vI 0) (vI 0) (vI 0) (vI 0) (vI 0) (vI 0) (vI 0) (vI 0))) f_MO_103 d_MO_compile_207 h80 rfl ?_
          refine ab_bipush (v := 12) d_MO_compile_210 (by decide) ?_
          refine ab_iload d_MO_compile_212 rfl ?_
          refine ab_imul d_MO_compile_214 ?_
          refine ab_topi (y := 36) (by decide) ?_
          refine ab_iload d_MO_compile_215 rfl ?_
          refine ab_iadd d_MO_compile_217 ?_
          refine ab_topi (y := 44) (by decide) ?_
          refine ab_iald d_MO_compile_218 h110 (by unfold vp_in; decide) ?_
          refine ab_topi (y := 0) rfl ?_
          refine ab_iast d_MO_compile_219 h126 (vp_in_iff.mpr (by have l0 := (show (0 : Int32).toInt = 0 by decide); have l1 := (show (5 : Int32).toInt = 5 by decide); have l2 := (show (8 : Int32).toInt = 8 by decide); have l3 := (show (31 : Int32).toInt = 31 by decide); have l4 := (show (36 : Int32).toInt = 36 by decide); have l5 := (show (120 : Int32).toInt = 120 by decide); simp only [Int32.le_iff_toInt_le, Int32.lt_iff_toInt_lt, ← Int32.toInt_inj] at c0 c1 c2 c3 c4 c5 c6 c7; have e0 : Int32.toInt (120 * (xs 1)) = Int32.toInt 120 * Int32.toInt (xs 1) := i32_mul (by simp only [l0, l1, l2, l3, l4, l5]; omega) (by simp only [l0, l1, l2, l3, l4, l5]; omega); have e1 : Int32.toInt ((120 * (xs 1)) + 36) = Int32.toInt (120 * (xs 1)) + Int32.toInt 36 := i32_add (by simp only [l0, l1, l2, l3, l4, l5, e0]; omega) (by simp only [l0, l1, l2, l3, l4, l5, e0]; omega); have e2 : Int32.toInt (((120 * (xs 1)) + 36) + 8) = Int32.toInt ((120 * (xs 1)) + 36) + Int32.toInt 8 := i32_add (by simp only [l0, l1, l2, l3, l4, l5, e0, e1]; omega) (by simp only [l0, l1, l2, l3, l4, l5, e0, e1]; omega); (try simp only [l0, l1, l2, l3, l4, l5] at e0 e1 e2); constructor <;> omega)) (by decide) ?_
          obtain ⟨G60, eG60⟩ : ∃ z : ab_G, z = List.set G59 126 (ab_if 720 ((upd f126_48 (Int32.toNatClampNeg (((120 * (xs 1)) + 36) + 8)) 0))) := ⟨_, rfl⟩
          have h80 := ab_keep eG60 (by decide) h80
          have h110 := ab_keep eG60 (by decide) h110
          have h127 := ab_keep eG60 (by decide) h127
          have hlen := ab_klen eG60 hlen
          have hsl := ab_ksl 720 eG60 h126 rfl rfl hsl
          have hfr := hfr.wr eG60 (by decide)
          have hpk := hpk.wr eG60 (by decide)
          have h126 := ab_kept eG60 h126
          change ab_W _ _ _ (List.set G59 126 (ab_if 720 ((upd f126_48 (Int32.toNatClampNeg (((120 * (xs 1)) + 36) + 8)) 0)))) 220 [some (vR 80), some (vI (xs 1)), some (vI (xs 2)), some (vI 1), some (vI 3), some (vI 8)] [] _
          rw [← eG60]
          obtain ⟨f126_49, h126⟩ : ∃ g : Nat → Int32, G60[126]? = some (ab_if 720 (g)) := ⟨_, h126⟩
          refine ab_iinc (v := 9) d_MO_compile_220 rfl (by decide) (Nat.le_of_ble_eq_true rfl) (Nat.le_of_ble_eq_true rfl) rfl ?_
          change ab_W _ _ _ G60 223 [some (vR 80), some (vI (xs 1)), some (vI (xs 2)), some (vI 1), some (vI 3), some (vI 9)] [] _
          refine ab_goto (tgt := 182) d_MO_compile_223 (by decide) ?_
          refine ab_iload d_MO_compile_182 rfl ?_
          refine ab_bipush (v := 12) d_MO_compile_184 (by decide) ?_
          refine ab_icmp_ge (tgt := 226) d_MO_compile_186 (by decide) (fun c => absurd c (by decide)) (fun _ => ?_)
          refine ab_aload_n d_MO_compile_189 rfl ?_
          refine ab_getf (fs := (m_fv (vI 0) (vI 0) (vI 0) (vI 0) (vI 0) (vI 0) (vI 0) (vI 0) (vI 2) (vI 0) (vI ((xs 2) &&& 15)) (vI 0) (vI (-1)) (vI 0) (vI 0) (vI 0) (vI 0) (vI 0) (vI 0) (vI (xs 1)) (vI 0) (vI 0) (vI 0) (vI 0) (vI 0) (vI 0) (vI 0) (vI 0) (vI 0) (vI 0) (vI 0) (vI 0) (vI 0) (vI 0) (vI 0))) f_MO_152 d_MO_compile_190 h80 rfl ?_
          refine ab_bipush (v := 120) d_MO_compile_193 (by decide) ?_
          refine ab_iload_n d_MO_compile_195 rfl ?_
          refine ab_imul d_MO_compile_196 ?_
          refine ab_bipush (v := 12) d_MO_compile_197 (by decide) ?_
          refine ab_iload d_MO_compile_199 rfl ?_
          refine ab_imul d_MO_compile_201 ?_
          refine ab_topi (y := 36) (by decide) ?_
          refine ab_iadd d_MO_compile_202 ?_
          refine ab_iload d_MO_compile_203 rfl ?_
          refine ab_iadd d_MO_compile_205 ?_
          refine ab_aload_n d_MO_compile_206 rfl ?_
          refine ab_getf (fs := (m_fv (vI 0) (vI 0) (vI 0) (vI 0) (vI 0) (vI 0) (vI 0) (vI 0) (vI 2) (vI 0) (vI ((xs 2) &&& 15)) (vI 0) (vI (-1)) (vI 0) (vI 0) (vI 0) (vI 0) (vI 0) (vI 0) (vI (xs 1)) (vI 0) (vI 0) (vI 0) (vI 0) (vI 0) (vI 0) (vI 0) (vI 0) (vI 0) (vI 0) (vI 0) (vI 0) (vI 0) (vI 0) (vI 0))) f_MO_103 d_MO_compile_207 h80 rfl ?_
          refine ab_bipush (v := 12) d_MO_compile_210 (by decide) ?_
          refine ab_iload d_MO_compile_212 rfl ?_
          refine ab_imul d_MO_compile_214 ?_
          refine ab_topi (y := 36) (by decide) ?_
          refine ab_iload d_MO_compile_215 rfl ?_
          refine ab_iadd d_MO_compile_217 ?_
          refine ab_topi (y := 45) (by decide) ?_
          refine ab_iald d_MO_compile_218 h110 (by unfold vp_in; decide) ?_
          refine ab_topi (y := 0) rfl ?_
          refine ab_iast d_MO_compile_219 h126 (vp_in_iff.mpr (by have l0 := (show (0 : Int32).toInt = 0 by decide); have l1 := (show (5 : Int32).toInt = 5 by decide); have l2 := (show (9 : Int32).toInt = 9 by decide); have l3 := (show (31 : Int32).toInt = 31 by decide); have l4 := (show (36 : Int32).toInt = 36 by decide); have l5 := (show (120 : Int32).toInt = 120 by decide); simp only [Int32.le_iff_toInt_le, Int32.lt_iff_toInt_lt, ← Int32.toInt_inj] at c0 c1 c2 c3 c4 c5 c6 c7; have e0 : Int32.toInt (120 * (xs 1)) = Int32.toInt 120 * Int32.toInt (xs 1) := i32_mul (by simp only [l0, l1, l2, l3, l4, l5]; omega) (by simp only [l0, l1, l2, l3, l4, l5]; omega); have e1 : Int32.toInt ((120 * (xs 1)) + 36) = Int32.toInt (120 * (xs 1)) + Int32.toInt 36 := i32_add (by simp only [l0, l1, l2, l3, l4, l5, e0]; omega) (by simp only [l0, l1, l2, l3, l4, l5, e0]; omega); have e2 : Int32.toInt (((120 * (xs 1)) + 36) + 9) = Int32.toInt ((120 * (xs 1)) + 36) + Int32.toInt 9 := i32_add (by simp only [l0, l1, l2, l3, l4, l5, e0, e1]; omega) (by simp only [l0, l1, l2, l3, l4, l5, e0, e1]; omega); (try simp only [l0, l1, l2, l3, l4, l5] at e0 e1 e2); constructor <;> omega)) (by decide) ?_
          obtain ⟨G61, eG61⟩ : ∃ z : ab_G, z = List.set G60 126 (ab_if 720 ((upd f126_49 (Int32.toNatClampNeg (((120 * (xs 1)) + 36) + 9)) 0))) := ⟨_, rfl⟩
          have h80 := ab_keep eG61 (by decide) h80
          have h110 := ab_keep eG61 (by decide) h110
          have h127 := ab_keep eG61 (by decide) h127
          have hlen := ab_klen eG61 hlen
          have hsl := ab_ksl 720 eG61 h126 rfl rfl hsl
          have hfr := hfr.wr eG61 (by decide)
          have hpk := hpk.wr eG61 (by decide)
          have h126 := ab_kept eG61 h126
          change ab_W _ _ _ (List.set G60 126 (ab_if 720 ((upd f126_49 (Int32.toNatClampNeg (((120 * (xs 1)) + 36) + 9)) 0)))) 220 [some (vR 80), some (vI (xs 1)), some (vI (xs 2)), some (vI 1), some (vI 3), some (vI 9)] [] _
          rw [← eG61]
          obtain ⟨f126_50, h126⟩ : ∃ g : Nat → Int32, G61[126]? = some (ab_if 720 (g)) := ⟨_, h126⟩
          refine ab_iinc (v := 10) d_MO_compile_220 rfl (by decide) (Nat.le_of_ble_eq_true rfl) (Nat.le_of_ble_eq_true rfl) rfl ?_
          change ab_W _ _ _ G61 223 [some (vR 80), some (vI (xs 1)), some (vI (xs 2)), some (vI 1), some (vI 3), some (vI 10)] [] _
          refine ab_goto (tgt := 182) d_MO_compile_223 (by decide) ?_
          refine ab_iload d_MO_compile_182 rfl ?_
          refine ab_bipush (v := 12) d_MO_compile_184 (by decide) ?_
          refine ab_icmp_ge (tgt := 226) d_MO_compile_186 (by decide) (fun c => absurd c (by decide)) (fun _ => ?_)
          refine ab_aload_n d_MO_compile_189 rfl ?_
          refine ab_getf (fs := (m_fv (vI 0) (vI 0) (vI 0) (vI 0) (vI 0) (vI 0) (vI 0) (vI 0) (vI 2) (vI 0) (vI ((xs 2) &&& 15)) (vI 0) (vI (-1)) (vI 0) (vI 0) (vI 0) (vI 0) (vI 0) (vI 0) (vI (xs 1)) (vI 0) (vI 0) (vI 0) (vI 0) (vI 0) (vI 0) (vI 0) (vI 0) (vI 0) (vI 0) (vI 0) (vI 0) (vI 0) (vI 0) (vI 0))) f_MO_152 d_MO_compile_190 h80 rfl ?_
          refine ab_bipush (v := 120) d_MO_compile_193 (by decide) ?_
          refine ab_iload_n d_MO_compile_195 rfl ?_
          refine ab_imul d_MO_compile_196 ?_
          refine ab_bipush (v := 12) d_MO_compile_197 (by decide) ?_
          refine ab_iload d_MO_compile_199 rfl ?_
          refine ab_imul d_MO_compile_201 ?_
          refine ab_topi (y := 36) (by decide) ?_
          refine ab_iadd d_MO_compile_202 ?_
          refine ab_iload d_MO_compile_203 rfl ?_
          refine ab_iadd d_MO_compile_205 ?_
          refine ab_aload_n d_MO_compile_206 rfl ?_
          refine ab_getf (fs := (m_fv (vI 0) (vI 0) (vI 0) (vI 0) (vI 0) (vI 0) (vI 0) (vI 0) (vI 2) (vI 0) (vI ((xs 2) &&& 15)) (vI 0) (vI (-1)) (vI 0) (vI 0) (vI 0) (vI 0) (vI 0) (vI 0) (vI (xs 1)) (vI 0) (vI 0) (vI 0) (vI 0) (vI 0) (vI 0) (vI 0) (vI 0) (vI 0) (vI 0) (vI 0) (vI 0) (vI 0) (vI 0) (vI 0))) f_MO_103 d_MO_compile_207 h80 rfl ?_
          refine ab_bipush (v := 12) d_MO_compile_210 (by decide) ?_
          refine ab_iload d_MO_compile_212 rfl ?_
          refine ab_imul d_MO_compile_214 ?_
          refine ab_topi (y := 36) (by decide) ?_
          refine ab_iload d_MO_compile_215 rfl ?_
          refine ab_iadd d_MO_compile_217 ?_
          refine ab_topi (y := 46) (by decide) ?_
          refine ab_iald d_MO_compile_218 h110 (by unfold vp_in; decide) ?_
          refine ab_topi (y := 0) rfl ?_
          refine ab_iast d_MO_compile_219 h126 (vp_in_iff.mpr (by have l0 := (show (0 : Int32).toInt = 0 by decide); have l1 := (show (5 : Int32).toInt = 5 by decide); have l2 := (show (10 : Int32).toInt = 10 by decide); have l3 := (show (31 : Int32).toInt = 31 by decide); have l4 := (show (36 : Int32).toInt = 36 by decide); have l5 := (show (120 : Int32).toInt = 120 by decide); simp only [Int32.le_iff_toInt_le, Int32.lt_iff_toInt_lt, ← Int32.toInt_inj] at c0 c1 c2 c3 c4 c5 c6 c7; have e0 : Int32.toInt (120 * (xs 1)) = Int32.toInt 120 * Int32.toInt (xs 1) := i32_mul (by simp only [l0, l1, l2, l3, l4, l5]; omega) (by simp only [l0, l1, l2, l3, l4, l5]; omega); have e1 : Int32.toInt ((120 * (xs 1)) + 36) = Int32.toInt (120 * (xs 1)) + Int32.toInt 36 := i32_add (by simp only [l0, l1, l2, l3, l4, l5, e0]; omega) (by simp only [l0, l1, l2, l3, l4, l5, e0]; omega); have e2 : Int32.toInt (((120 * (xs 1)) + 36) + 10) = Int32.toInt ((120 * (xs 1)) + 36) + Int32.toInt 10 := i32_add (by simp only [l0, l1, l2, l3, l4, l5, e0, e1]; omega) (by simp only [l0, l1, l2, l3, l4, l5, e0, e1]; omega); (try simp only [l0, l1, l2, l3, l4, l5] at e0 e1 e2); constructor <;> omega)) (by decide) ?_
          obtain ⟨G62, eG62⟩ : ∃ z : ab_G, z = List.set G61 126 (ab_if 720 ((upd f126_50 (Int32.toNatClampNeg (((120 * (xs 1)) + 36) + 10)) 0))) := ⟨_, rfl⟩
          have h80 := ab_keep eG62 (by decide) h80
          have h110 := ab_keep eG62 (by decide) h110
          have h127 := ab_keep eG62 (by decide) h127
          have hlen := ab_klen eG62 hlen
          have hsl := ab_ksl 720 eG62 h126 rfl rfl hsl
          have hfr := hfr.wr eG62 (by decide)
          have hpk := hpk.wr eG62 (by decide)
          have h126 := ab_kept eG62 h126
          change ab_W _ _ _ (List.set G61 126 (ab_if 720 ((upd f126_50 (Int32.toNatClampNeg (((120 * (xs 1)) + 36) + 10)) 0)))) 220 [some (vR 80), some (vI (xs 1)), some (vI (xs 2)), some (vI 1), some (vI 3), some (vI 10)] [] _
          rw [← eG62]
          obtain ⟨f126_51, h126⟩ : ∃ g : Nat → Int32, G62[126]? = some (ab_if 720 (g)) := ⟨_, h126⟩
          refine ab_iinc (v := 11) d_MO_compile_220 rfl (by decide) (Nat.le_of_ble_eq_true rfl) (Nat.le_of_ble_eq_true rfl) rfl ?_
          change ab_W _ _ _ G62 223 [some (vR 80), some (vI (xs 1)), some (vI (xs 2)), some (vI 1), some (vI 3), some (vI 11)] [] _
          refine ab_goto (tgt := 182) d_MO_compile_223 (by decide) ?_
          refine ab_iload d_MO_compile_182 rfl ?_
          refine ab_bipush (v := 12) d_MO_compile_184 (by decide) ?_
          refine ab_icmp_ge (tgt := 226) d_MO_compile_186 (by decide) (fun c => absurd c (by decide)) (fun _ => ?_)
          refine ab_aload_n d_MO_compile_189 rfl ?_
          refine ab_getf (fs := (m_fv (vI 0) (vI 0) (vI 0) (vI 0) (vI 0) (vI 0) (vI 0) (vI 0) (vI 2) (vI 0) (vI ((xs 2) &&& 15)) (vI 0) (vI (-1)) (vI 0) (vI 0) (vI 0) (vI 0) (vI 0) (vI 0) (vI (xs 1)) (vI 0) (vI 0) (vI 0) (vI 0) (vI 0) (vI 0) (vI 0) (vI 0) (vI 0) (vI 0) (vI 0) (vI 0) (vI 0) (vI 0) (vI 0))) f_MO_152 d_MO_compile_190 h80 rfl ?_
          refine ab_bipush (v := 120) d_MO_compile_193 (by decide) ?_
          refine ab_iload_n d_MO_compile_195 rfl ?_
          refine ab_imul d_MO_compile_196 ?_
          refine ab_bipush (v := 12) d_MO_compile_197 (by decide) ?_
          refine ab_iload d_MO_compile_199 rfl ?_
          refine ab_imul d_MO_compile_201 ?_
          refine ab_topi (y := 36) (by decide) ?_
          refine ab_iadd d_MO_compile_202 ?_
          refine ab_iload d_MO_compile_203 rfl ?_
          refine ab_iadd d_MO_compile_205 ?_
          refine ab_aload_n d_MO_compile_206 rfl ?_
          refine ab_getf (fs := (m_fv (vI 0) (vI 0) (vI 0) (vI 0) (vI 0) (vI 0) (vI 0) (vI 0) (vI 2) (vI 0) (vI ((xs 2) &&& 15)) (vI 0) (vI (-1)) (vI 0) (vI 0) (vI 0) (vI 0) (vI 0) (vI 0) (vI (xs 1)) (vI 0) (vI 0) (vI 0) (vI 0) (vI 0) (vI 0) (vI 0) (vI 0) (vI 0) (vI 0) (vI 0) (vI 0) (vI 0) (vI 0) (vI 0))) f_MO_103 d_MO_compile_207 h80 rfl ?_
          refine ab_bipush (v := 12) d_MO_compile_210 (by decide) ?_
          refine ab_iload d_MO_compile_212 rfl ?_
          refine ab_imul d_MO_compile_214 ?_
          refine ab_topi (y := 36) (by decide) ?_
          refine ab_iload d_MO_compile_215 rfl ?_
          refine ab_iadd d_MO_compile_217 ?_
          refine ab_topi (y := 47) (by decide) ?_
          refine ab_iald d_MO_compile_218 h110 (by unfold vp_in; decide) ?_
          refine ab_topi (y := 0) rfl ?_
          refine ab_iast d_MO_compile_219 h126 (vp_in_iff.mpr (by have l0 := (show (0 : Int32).toInt = 0 by decide); have l1 := (show (5 : Int32).toInt = 5 by decide); have l2 := (show (11 : Int32).toInt = 11 by decide); have l3 := (show (31 : Int32).toInt = 31 by decide); have l4 := (show (36 : Int32).toInt = 36 by decide); have l5 := (show (120 : Int32).toInt = 120 by decide); simp only [Int32.le_iff_toInt_le, Int32.lt_iff_toInt_lt, ← Int32.toInt_inj] at c0 c1 c2 c3 c4 c5 c6 c7; have e0 : Int32.toInt (120 * (xs 1)) = Int32.toInt 120 * Int32.toInt (xs 1) := i32_mul (by simp only [l0, l1, l2, l3, l4, l5]; omega) (by simp only [l0, l1, l2, l3, l4, l5]; omega); have e1 : Int32.toInt ((120 * (xs 1)) + 36) = Int32.toInt (120 * (xs 1)) + Int32.toInt 36 := i32_add (by simp only [l0, l1, l2, l3, l4, l5, e0]; omega) (by simp only [l0, l1, l2, l3, l4, l5, e0]; omega); have e2 : Int32.toInt (((120 * (xs 1)) + 36) + 11) = Int32.toInt ((120 * (xs 1)) + 36) + Int32.toInt 11 := i32_add (by simp only [l0, l1, l2, l3, l4, l5, e0, e1]; omega) (by simp only [l0, l1, l2, l3, l4, l5, e0, e1]; omega); (try simp only [l0, l1, l2, l3, l4, l5] at e0 e1 e2); constructor <;> omega)) (by decide) ?_
          obtain ⟨G63, eG63⟩ : ∃ z : ab_G, z = List.set G62 126 (ab_if 720 ((upd f126_51 (Int32.toNatClampNeg (((120 * (xs 1)) + 36) + 11)) 0))) := ⟨_, rfl⟩
          have h80 := ab_keep eG63 (by decide) h80
          have h110 := ab_keep eG63 (by decide) h110
          have h127 := ab_keep eG63 (by decide) h127
          have hlen := ab_klen eG63 hlen
          have hsl := ab_ksl 720 eG63 h126 rfl rfl hsl
          have hfr := hfr.wr eG63 (by decide)
          have hpk := hpk.wr eG63 (by decide)
          have h126 := ab_kept eG63 h126
          change ab_W _ _ _ (List.set G62 126 (ab_if 720 ((upd f126_51 (Int32.toNatClampNeg (((120 * (xs 1)) + 36) + 11)) 0)))) 220 [some (vR 80), some (vI (xs 1)), some (vI (xs 2)), some (vI 1), some (vI 3), some (vI 11)] [] _
          rw [← eG63]
          obtain ⟨f126_52, h126⟩ : ∃ g : Nat → Int32, G63[126]? = some (ab_if 720 (g)) := ⟨_, h126⟩
          refine ab_iinc (v := 12) d_MO_compile_220 rfl (by decide) (Nat.le_of_ble_eq_true rfl) (Nat.le_of_ble_eq_true rfl) rfl ?_
          change ab_W _ _ _ G63 223 [some (vR 80), some (vI (xs 1)), some (vI (xs 2)), some (vI 1), some (vI 3), some (vI 12)] [] _
          refine ab_goto (tgt := 182) d_MO_compile_223 (by decide) ?_
          refine ab_iload d_MO_compile_182 rfl ?_
          refine ab_bipush (v := 12) d_MO_compile_184 (by decide) ?_
          refine ab_icmp_ge (tgt := 226) d_MO_compile_186 (by decide) (fun _ => ?_) (fun c => absurd c (by decide))
          refine ab_iinc (v := 4) d_MO_compile_226 rfl (by decide) (Nat.le_of_ble_eq_true rfl) (Nat.le_of_ble_eq_true rfl) rfl ?_
          change ab_W _ _ _ G63 229 [some (vR 80), some (vI (xs 1)), some (vI (xs 2)), some (vI 1), some (vI 4), some (vI 12)] [] _
          refine ab_goto (tgt := 135) d_MO_compile_229 (by decide) ?_
          refine ab_iload d_MO_compile_135 rfl ?_
          refine ab_bipush (v := 10) d_MO_compile_137 (by decide) ?_
          refine ab_icmp_ge (tgt := 232) d_MO_compile_139 (by decide) (fun c => absurd c (by decide)) (fun _ => ?_)
          refine ab_aload_n d_MO_compile_142 rfl ?_
          refine ab_getf (fs := (m_fv (vI 0) (vI 0) (vI 0) (vI 0) (vI 0) (vI 0) (vI 0) (vI 0) (vI 2) (vI 0) (vI ((xs 2) &&& 15)) (vI 0) (vI (-1)) (vI 0) (vI 0) (vI 0) (vI 0) (vI 0) (vI 0) (vI (xs 1)) (vI 0) (vI 0) (vI 0) (vI 0) (vI 0) (vI 0) (vI 0) (vI 0) (vI 0) (vI 0) (vI 0) (vI 0) (vI 0) (vI 0) (vI 0))) f_MO_155 d_MO_compile_143 h80 rfl ?_
          refine ab_bipush (v := 10) d_MO_compile_146 (by decide) ?_
          refine ab_iload_n d_MO_compile_148 rfl ?_
          refine ab_imul d_MO_compile_149 ?_
          refine ab_iload d_MO_compile_150 rfl ?_
          refine ab_iadd d_MO_compile_152 ?_
          refine ab_iload d_MO_compile_153 rfl ?_
          refine ab_if_le (tgt := 177) d_MO_compile_155 (by decide) (fun c => absurd c (by decide)) (fun _ => ?_)
          refine ab_iload d_MO_compile_158 rfl ?_
          refine ab_aload_n d_MO_compile_160 rfl ?_
          refine ab_getf (fs := (m_fv (vI 0) (vI 0) (vI 0) (vI 0) (vI 0) (vI 0) (vI 0) (vI 0) (vI 2) (vI 0) (vI ((xs 2) &&& 15)) (vI 0) (vI (-1)) (vI 0) (vI 0) (vI 0) (vI 0) (vI 0) (vI 0) (vI (xs 1)) (vI 0) (vI 0) (vI 0) (vI 0) (vI 0) (vI 0) (vI 0) (vI 0) (vI 0) (vI 0) (vI 0) (vI 0) (vI 0) (vI 0) (vI 0))) f_MO_395 d_MO_compile_161 h80 rfl ?_
          refine ab_icmp_gt (tgt := 177) d_MO_compile_164 (by decide) (fun _ => ?_) (fun c => absurd c (by decide))
          refine ab_iconst (v := 0) d_MO_compile_177 (by decide) ?_
          refine ab_iast d_MO_compile_178 h127 (vp_in_iff.mpr (by have l0 := (show (0 : Int32).toInt = 0 by decide); have l1 := (show (4 : Int32).toInt = 4 by decide); have l2 := (show (5 : Int32).toInt = 5 by decide); have l3 := (show (10 : Int32).toInt = 10 by decide); have l4 := (show (31 : Int32).toInt = 31 by decide); simp only [Int32.le_iff_toInt_le, Int32.lt_iff_toInt_lt, ← Int32.toInt_inj] at c0 c1 c2 c3 c4 c5 c6 c7; have e0 : Int32.toInt (10 * (xs 1)) = Int32.toInt 10 * Int32.toInt (xs 1) := i32_mul (by simp only [l0, l1, l2, l3, l4]; omega) (by simp only [l0, l1, l2, l3, l4]; omega); have e1 : Int32.toInt ((10 * (xs 1)) + 4) = Int32.toInt (10 * (xs 1)) + Int32.toInt 4 := i32_add (by simp only [l0, l1, l2, l3, l4, e0]; omega) (by simp only [l0, l1, l2, l3, l4, e0]; omega); (try simp only [l0, l1, l2, l3, l4] at e0 e1); constructor <;> omega)) (by decide) ?_
          obtain ⟨G64, eG64⟩ : ∃ z : ab_G, z = List.set G63 127 (ab_if 60 ((upd f127_40 (Int32.toNatClampNeg ((10 * (xs 1)) + 4)) 0))) := ⟨_, rfl⟩
          have h80 := ab_keep eG64 (by decide) h80
          have h110 := ab_keep eG64 (by decide) h110
          have h126 := ab_keep eG64 (by decide) h126
          have hlen := ab_klen eG64 hlen
          have hsl := ab_ksl 60 eG64 h127 rfl rfl hsl
          have hfr := hfr.wr eG64 (by decide)
          have hpk := hpk.wr eG64 (by decide)
          have h127 := ab_kept eG64 h127
          change ab_W _ _ _ (List.set G63 127 (ab_if 60 ((upd f127_40 (Int32.toNatClampNeg ((10 * (xs 1)) + 4)) 0)))) 179 [some (vR 80), some (vI (xs 1)), some (vI (xs 2)), some (vI 1), some (vI 4), some (vI 12)] [] _
          rw [← eG64]
          obtain ⟨f127_53, h127⟩ : ∃ g : Nat → Int32, G64[127]? = some (ab_if 60 (g)) := ⟨_, h127⟩
          refine ab_iconst (v := 0) d_MO_compile_179 (by decide) ?_
          refine ab_istore d_MO_compile_180 (Nat.le_of_ble_eq_true rfl) (Nat.le_of_ble_eq_true rfl) rfl ?_
          change ab_W _ _ _ G64 182 [some (vR 80), some (vI (xs 1)), some (vI (xs 2)), some (vI 1), some (vI 4), some (vI 0)] [] _
          refine ab_iload d_MO_compile_182 rfl ?_
          refine ab_bipush (v := 12) d_MO_compile_184 (by decide) ?_
          refine ab_icmp_ge (tgt := 226) d_MO_compile_186 (by decide) (fun c => absurd c (by decide)) (fun _ => ?_)
          refine ab_aload_n d_MO_compile_189 rfl ?_
          refine ab_getf (fs := (m_fv (vI 0) (vI 0) (vI 0) (vI 0) (vI 0) (vI 0) (vI 0) (vI 0) (vI 2) (vI 0) (vI ((xs 2) &&& 15)) (vI 0) (vI (-1)) (vI 0) (vI 0) (vI 0) (vI 0) (vI 0) (vI 0) (vI (xs 1)) (vI 0) (vI 0) (vI 0) (vI 0) (vI 0) (vI 0) (vI 0) (vI 0) (vI 0) (vI 0) (vI 0) (vI 0) (vI 0) (vI 0) (vI 0))) f_MO_152 d_MO_compile_190 h80 rfl ?_
          refine ab_bipush (v := 120) d_MO_compile_193 (by decide) ?_
          refine ab_iload_n d_MO_compile_195 rfl ?_
          refine ab_imul d_MO_compile_196 ?_
          refine ab_bipush (v := 12) d_MO_compile_197 (by decide) ?_
          refine ab_iload d_MO_compile_199 rfl ?_
          refine ab_imul d_MO_compile_201 ?_
          refine ab_topi (y := 48) (by decide) ?_
          refine ab_iadd d_MO_compile_202 ?_
          refine ab_iload d_MO_compile_203 rfl ?_
          refine ab_iadd d_MO_compile_205 ?_
          refine ab_topi (y := ((120 * (xs 1)) + 48)) (Int32.add_zero _) ?_
          refine ab_aload_n d_MO_compile_206 rfl ?_
          refine ab_getf (fs := (m_fv (vI 0) (vI 0) (vI 0) (vI 0) (vI 0) (vI 0) (vI 0) (vI 0) (vI 2) (vI 0) (vI ((xs 2) &&& 15)) (vI 0) (vI (-1)) (vI 0) (vI 0) (vI 0) (vI 0) (vI 0) (vI 0) (vI (xs 1)) (vI 0) (vI 0) (vI 0) (vI 0) (vI 0) (vI 0) (vI 0) (vI 0) (vI 0) (vI 0) (vI 0) (vI 0) (vI 0) (vI 0) (vI 0))) f_MO_103 d_MO_compile_207 h80 rfl ?_
          refine ab_bipush (v := 12) d_MO_compile_210 (by decide) ?_
          refine ab_iload d_MO_compile_212 rfl ?_
          refine ab_imul d_MO_compile_214 ?_
          refine ab_topi (y := 48) (by decide) ?_
          refine ab_iload d_MO_compile_215 rfl ?_
          refine ab_iadd d_MO_compile_217 ?_
          refine ab_topi (y := 48) (by decide) ?_
          refine ab_iald d_MO_compile_218 h110 (by unfold vp_in; decide) ?_
          refine ab_topi (y := 0) rfl ?_
          refine ab_iast d_MO_compile_219 h126 (vp_in_iff.mpr (by have l0 := (show (0 : Int32).toInt = 0 by decide); have l1 := (show (5 : Int32).toInt = 5 by decide); have l2 := (show (31 : Int32).toInt = 31 by decide); have l3 := (show (48 : Int32).toInt = 48 by decide); have l4 := (show (120 : Int32).toInt = 120 by decide); simp only [Int32.le_iff_toInt_le, Int32.lt_iff_toInt_lt, ← Int32.toInt_inj] at c0 c1 c2 c3 c4 c5 c6 c7; have e0 : Int32.toInt (120 * (xs 1)) = Int32.toInt 120 * Int32.toInt (xs 1) := i32_mul (by simp only [l0, l1, l2, l3, l4]; omega) (by simp only [l0, l1, l2, l3, l4]; omega); have e1 : Int32.toInt ((120 * (xs 1)) + 48) = Int32.toInt (120 * (xs 1)) + Int32.toInt 48 := i32_add (by simp only [l0, l1, l2, l3, l4, e0]; omega) (by simp only [l0, l1, l2, l3, l4, e0]; omega); (try simp only [l0, l1, l2, l3, l4] at e0 e1); constructor <;> omega)) (by decide) ?_
          obtain ⟨G65, eG65⟩ : ∃ z : ab_G, z = List.set G64 126 (ab_if 720 ((upd f126_52 (Int32.toNatClampNeg ((120 * (xs 1)) + 48)) 0))) := ⟨_, rfl⟩
          have h80 := ab_keep eG65 (by decide) h80
          have h110 := ab_keep eG65 (by decide) h110
          have h127 := ab_keep eG65 (by decide) h127
          have hlen := ab_klen eG65 hlen
          have hsl := ab_ksl 720 eG65 h126 rfl rfl hsl
          have hfr := hfr.wr eG65 (by decide)
          have hpk := hpk.wr eG65 (by decide)
          have h126 := ab_kept eG65 h126
          change ab_W _ _ _ (List.set G64 126 (ab_if 720 ((upd f126_52 (Int32.toNatClampNeg ((120 * (xs 1)) + 48)) 0)))) 220 [some (vR 80), some (vI (xs 1)), some (vI (xs 2)), some (vI 1), some (vI 4), some (vI 0)] [] _
          rw [← eG65]
          obtain ⟨f126_54, h126⟩ : ∃ g : Nat → Int32, G65[126]? = some (ab_if 720 (g)) := ⟨_, h126⟩
          refine ab_iinc (v := 1) d_MO_compile_220 rfl (by decide) (Nat.le_of_ble_eq_true rfl) (Nat.le_of_ble_eq_true rfl) rfl ?_
          change ab_W _ _ _ G65 223 [some (vR 80), some (vI (xs 1)), some (vI (xs 2)), some (vI 1), some (vI 4), some (vI 1)] [] _
          refine ab_goto (tgt := 182) d_MO_compile_223 (by decide) ?_
          refine ab_iload d_MO_compile_182 rfl ?_
          refine ab_bipush (v := 12) d_MO_compile_184 (by decide) ?_
          refine ab_icmp_ge (tgt := 226) d_MO_compile_186 (by decide) (fun c => absurd c (by decide)) (fun _ => ?_)
          refine ab_aload_n d_MO_compile_189 rfl ?_
          refine ab_getf (fs := (m_fv (vI 0) (vI 0) (vI 0) (vI 0) (vI 0) (vI 0) (vI 0) (vI 0) (vI 2) (vI 0) (vI ((xs 2) &&& 15)) (vI 0) (vI (-1)) (vI 0) (vI 0) (vI 0) (vI 0) (vI 0) (vI 0) (vI (xs 1)) (vI 0) (vI 0) (vI 0) (vI 0) (vI 0) (vI 0) (vI 0) (vI 0) (vI 0) (vI 0) (vI 0) (vI 0) (vI 0) (vI 0) (vI 0))) f_MO_152 d_MO_compile_190 h80 rfl ?_
          refine ab_bipush (v := 120) d_MO_compile_193 (by decide) ?_
          refine ab_iload_n d_MO_compile_195 rfl ?_
          refine ab_imul d_MO_compile_196 ?_
          refine ab_bipush (v := 12) d_MO_compile_197 (by decide) ?_
          refine ab_iload d_MO_compile_199 rfl ?_
          refine ab_imul d_MO_compile_201 ?_
          refine ab_topi (y := 48) (by decide) ?_
          refine ab_iadd d_MO_compile_202 ?_
          refine ab_iload d_MO_compile_203 rfl ?_
          refine ab_iadd d_MO_compile_205 ?_
          refine ab_aload_n d_MO_compile_206 rfl ?_
          refine ab_getf (fs := (m_fv (vI 0) (vI 0) (vI 0) (vI 0) (vI 0) (vI 0) (vI 0) (vI 0) (vI 2) (vI 0) (vI ((xs 2) &&& 15)) (vI 0) (vI (-1)) (vI 0) (vI 0) (vI 0) (vI 0) (vI 0) (vI 0) (vI (xs 1)) (vI 0) (vI 0) (vI 0) (vI 0) (vI 0) (vI 0) (vI 0) (vI 0) (vI 0) (vI 0) (vI 0) (vI 0) (vI 0) (vI 0) (vI 0))) f_MO_103 d_MO_compile_207 h80 rfl ?_
          refine ab_bipush (v := 12) d_MO_compile_210 (by decide) ?_
          refine ab_iload d_MO_compile_212 rfl ?_
          refine ab_imul d_MO_compile_214 ?_
          refine ab_topi (y := 48) (by decide) ?_
          refine ab_iload d_MO_compile_215 rfl ?_
          refine ab_iadd d_MO_compile_217 ?_
          refine ab_topi (y := 49) (by decide) ?_
          refine ab_iald d_MO_compile_218 h110 (by unfold vp_in; decide) ?_
          refine ab_topi (y := 0) rfl ?_
          refine ab_iast d_MO_compile_219 h126 (vp_in_iff.mpr (by have l0 := (show (0 : Int32).toInt = 0 by decide); have l1 := (show (1 : Int32).toInt = 1 by decide); have l2 := (show (5 : Int32).toInt = 5 by decide); have l3 := (show (31 : Int32).toInt = 31 by decide); have l4 := (show (48 : Int32).toInt = 48 by decide); have l5 := (show (120 : Int32).toInt = 120 by decide); simp only [Int32.le_iff_toInt_le, Int32.lt_iff_toInt_lt, ← Int32.toInt_inj] at c0 c1 c2 c3 c4 c5 c6 c7; have e0 : Int32.toInt (120 * (xs 1)) = Int32.toInt 120 * Int32.toInt (xs 1) := i32_mul (by simp only [l0, l1, l2, l3, l4, l5]; omega) (by simp only [l0, l1, l2, l3, l4, l5]; omega); have e1 : Int32.toInt ((120 * (xs 1)) + 48) = Int32.toInt (120 * (xs 1)) + Int32.toInt 48 := i32_add (by simp only [l0, l1, l2, l3, l4, l5, e0]; omega) (by simp only [l0, l1, l2, l3, l4, l5, e0]; omega); have e2 : Int32.toInt (((120 * (xs 1)) + 48) + 1) = Int32.toInt ((120 * (xs 1)) + 48) + Int32.toInt 1 := i32_add (by simp only [l0, l1, l2, l3, l4, l5, e0, e1]; omega) (by simp only [l0, l1, l2, l3, l4, l5, e0, e1]; omega); (try simp only [l0, l1, l2, l3, l4, l5] at e0 e1 e2); constructor <;> omega)) (by decide) ?_
          obtain ⟨G66, eG66⟩ : ∃ z : ab_G, z = List.set G65 126 (ab_if 720 ((upd f126_54 (Int32.toNatClampNeg (((120 * (xs 1)) + 48) + 1)) 0))) := ⟨_, rfl⟩
          have h80 := ab_keep eG66 (by decide) h80
          have h110 := ab_keep eG66 (by decide) h110
          have h127 := ab_keep eG66 (by decide) h127
          have hlen := ab_klen eG66 hlen
          have hsl := ab_ksl 720 eG66 h126 rfl rfl hsl
          have hfr := hfr.wr eG66 (by decide)
          have hpk := hpk.wr eG66 (by decide)
          have h126 := ab_kept eG66 h126
          change ab_W _ _ _ (List.set G65 126 (ab_if 720 ((upd f126_54 (Int32.toNatClampNeg (((120 * (xs 1)) + 48) + 1)) 0)))) 220 [some (vR 80), some (vI (xs 1)), some (vI (xs 2)), some (vI 1), some (vI 4), some (vI 1)] [] _
          rw [← eG66]
          obtain ⟨f126_55, h126⟩ : ∃ g : Nat → Int32, G66[126]? = some (ab_if 720 (g)) := ⟨_, h126⟩
          refine ab_iinc (v := 2) d_MO_compile_220 rfl (by decide) (Nat.le_of_ble_eq_true rfl) (Nat.le_of_ble_eq_true rfl) rfl ?_
          change ab_W _ _ _ G66 223 [some (vR 80), some (vI (xs 1)), some (vI (xs 2)), some (vI 1), some (vI 4), some (vI 2)] [] _
          refine ab_goto (tgt := 182) d_MO_compile_223 (by decide) ?_
          refine ab_iload d_MO_compile_182 rfl ?_
          refine ab_bipush (v := 12) d_MO_compile_184 (by decide) ?_
          refine ab_icmp_ge (tgt := 226) d_MO_compile_186 (by decide) (fun c => absurd c (by decide)) (fun _ => ?_)
          refine ab_aload_n d_MO_compile_189 rfl ?_
          refine ab_getf (fs := (m_fv (vI 0) (vI 0) (vI 0) (vI 0) (vI 0) (vI 0) (vI 0) (vI 0) (vI 2) (vI 0) (vI ((xs 2) &&& 15)) (vI 0) (vI (-1)) (vI 0) (vI 0) (vI 0) (vI 0) (vI 0) (vI 0) (vI (xs 1)) (vI 0) (vI 0) (vI 0) (vI 0) (vI 0) (vI 0) (vI 0) (vI 0) (vI 0) (vI 0) (vI 0) (vI 0) (vI 0) (vI 0) (vI 0))) f_MO_152 d_MO_compile_190 h80 rfl ?_
          refine ab_bipush (v := 120) d_MO_compile_193 (by decide) ?_
          refine ab_iload_n d_MO_compile_195 rfl ?_
          refine ab_imul d_MO_compile_196 ?_
          refine ab_bipush (v := 12) d_MO_compile_197 (by decide) ?_
          refine ab_iload d_MO_compile_199 rfl ?_
          refine ab_imul d_MO_compile_201 ?_
          refine ab_topi (y := 48) (by decide) ?_
          refine ab_iadd d_MO_compile_202 ?_
          refine ab_iload d_MO_compile_203 rfl ?_
          refine ab_iadd d_MO_compile_205 ?_
          refine ab_aload_n d_MO_compile_206 rfl ?_
          refine ab_getf (fs := (m_fv (vI 0) (vI 0) (vI 0) (vI 0) (vI 0) (vI 0) (vI 0) (vI 0) (vI 2) (vI 0) (vI ((xs 2) &&& 15)) (vI 0) (vI (-1)) (vI 0) (vI 0) (vI 0) (vI 0) (vI 0) (vI 0) (vI (xs 1)) (vI 0) (vI 0) (vI 0) (vI 0) (vI 0) (vI 0) (vI 0) (vI 0) (vI 0) (vI 0) (vI 0) (vI 0) (vI 0) (vI 0) (vI 0))) f_MO_103 d_MO_compile_207 h80 rfl ?_
          refine ab_bipush (v := 12) d_MO_compile_210 (by decide) ?_
          refine ab_iload d_MO_compile_212 rfl ?_
          refine ab_imul d_MO_compile_214 ?_
          refine ab_topi (y := 48) (by decide) ?_
          refine ab_iload d_MO_compile_215 rfl ?_
          refine ab_iadd d_MO_compile_217 ?_
          refine ab_topi (y := 50) (by decide) ?_
          refine ab_iald d_MO_compile_218 h110 (by unfold vp_in; decide) ?_
          refine ab_topi (y := 0) rfl ?_
          refine ab_iast d_MO_compile_219 h126 (vp_in_iff.mpr (by have l0 := (show (0 : Int32).toInt = 0 by decide); have l1 := (show (2 : Int32).toInt = 2 by decide); have l2 := (show (5 : Int32).toInt = 5 by decide); have l3 := (show (31 : Int32).toInt = 31 by decide); have l4 := (show (48 : Int32).toInt = 48 by decide); have l5 := (show (120 : Int32).toInt = 120 by decide); simp only [Int32.le_iff_toInt_le, Int32.lt_iff_toInt_lt, ← Int32.toInt_inj] at c0 c1 c2 c3 c4 c5 c6 c7; have e0 : Int32.toInt (120 * (xs 1)) = Int32.toInt 120 * Int32.toInt (xs 1) := i32_mul (by simp only [l0, l1, l2, l3, l4, l5]; omega) (by simp only [l0, l1, l2, l3, l4, l5]; omega); have e1 : Int32.toInt ((120 * (xs 1)) + 48) = Int32.toInt (120 * (xs 1)) + Int32.toInt 48 := i32_add (by simp only [l0, l1, l2, l3, l4, l5, e0]; omega) (by simp only [l0, l1, l2, l3, l4, l5, e0]; omega); have e2 : Int32.toInt (((120 * (xs 1)) + 48) + 2) = Int32.toInt ((120 * (xs 1)) + 48) + Int32.toInt 2 := i32_add (by simp only [l0, l1, l2, l3, l4, l5, e0, e1]; omega) (by simp only [l0, l1, l2, l3, l4, l5, e0, e1]; omega); (try simp only [l0, l1, l2, l3, l4, l5] at e0 e1 e2); constructor <;> omega)) (by decide) ?_
          obtain ⟨G67, eG67⟩ : ∃ z : ab_G, z = List.set G66 126 (ab_if 720 ((upd f126_55 (Int32.toNatClampNeg (((120 * (xs 1)) + 48) + 2)) 0))) := ⟨_, rfl⟩
          have h80 := ab_keep eG67 (by decide) h80
          have h110 := ab_keep eG67 (by decide) h110
          have h127 := ab_keep eG67 (by decide) h127
          have hlen := ab_klen eG67 hlen
          have hsl := ab_ksl 720 eG67 h126 rfl rfl hsl
          have hfr := hfr.wr eG67 (by decide)
          have hpk := hpk.wr eG67 (by decide)
          have h126 := ab_kept eG67 h126
          change ab_W _ _ _ (List.set G66 126 (ab_if 720 ((upd f126_55 (Int32.toNatClampNeg (((120 * (xs 1)) + 48) + 2)) 0)))) 220 [some (vR 80), some (vI (xs 1)), some (vI (xs 2)), some (vI 1), some (vI 4), some (vI 2)] [] _
          rw [← eG67]
          obtain ⟨f126_56, h126⟩ : ∃ g : Nat → Int32, G67[126]? = some (ab_if 720 (g)) := ⟨_, h126⟩
          refine ab_iinc (v := 3) d_MO_compile_220 rfl (by decide) (Nat.le_of_ble_eq_true rfl) (Nat.le_of_ble_eq_true rfl) rfl ?_
          change ab_W _ _ _ G67 223 [some (vR 80), some (vI (xs 1)), some (vI (xs 2)), some (vI 1), some (vI 4), some (vI 3)] [] _
          refine ab_goto (tgt := 182) d_MO_compile_223 (by decide) ?_
          refine ab_iload d_MO_compile_182 rfl ?_
          refine ab_bipush (v := 12) d_MO_compile_184 (by decide) ?_
          refine ab_icmp_ge (tgt := 226) d_MO_compile_186 (by decide) (fun c => absurd c (by decide)) (fun _ => ?_)
          refine ab_aload_n d_MO_compile_189 rfl ?_
          refine ab_getf (fs := (m_fv (vI 0) (vI 0) (vI 0) (vI 0) (vI 0) (vI 0) (vI 0) (vI 0) (vI 2) (vI 0) (vI ((xs 2) &&& 15)) (vI 0) (vI (-1)) (vI 0) (vI 0) (vI 0) (vI 0) (vI 0) (vI 0) (vI (xs 1)) (vI 0) (vI 0) (vI 0) (vI 0) (vI 0) (vI 0) (vI 0) (vI 0) (vI 0) (vI 0) (vI 0) (vI 0) (vI 0) (vI 0) (vI 0))) f_MO_152 d_MO_compile_190 h80 rfl ?_
          refine ab_bipush (v := 120) d_MO_compile_193 (by decide) ?_
          refine ab_iload_n d_MO_compile_195 rfl ?_
          refine ab_imul d_MO_compile_196 ?_
          refine ab_bipush (v := 12) d_MO_compile_197 (by decide) ?_
          refine ab_iload d_MO_compile_199 rfl ?_
          refine ab_imul d_MO_compile_201 ?_
          refine ab_topi (y := 48) (by decide) ?_
          refine ab_iadd d_MO_compile_202 ?_
          refine ab_iload d_MO_compile_203 rfl ?_
          refine ab_iadd d_MO_compile_205 ?_
          refine ab_aload_n d_MO_compile_206 rfl ?_
          refine ab_getf (fs := (m_fv (vI 0) (vI 0) (vI 0) (vI 0) (vI 0) (vI 0) (vI 0) (vI 0) (vI 2) (vI 0) (vI ((xs 2) &&& 15)) (vI 0) (vI (-1)) (vI 0) (vI 0) (vI 0) (vI 0) (vI 0) (vI 0) (vI (xs 1)) (vI 0) (vI 0) (vI 0) (vI 0) (vI 0) (vI 0) (vI 0) (vI 0) (vI 0) (vI 0) (vI 0) (vI 0) (vI 0) (vI 0) (vI 0))) f_MO_103 d_MO_compile_207 h80 rfl ?_
          refine ab_bipush (v := 12) d_MO_compile_210 (by decide) ?_
          refine ab_iload d_MO_compile_212 rfl ?_
          refine ab_imul d_MO_compile_214 ?_
          refine ab_topi (y := 48) (by decide) ?_
          refine ab_iload d_MO_compile_215 rfl ?_
          refine ab_iadd d_MO_compile_217 ?_
          refine ab_topi (y := 51) (by decide) ?_
          refine ab_iald d_MO_compile_218 h110 (by unfold vp_in; decide) ?_
          refine ab_topi (y := 0) rfl ?_
          refine ab_iast d_MO_compile_219 h126 (vp_in_iff.mpr (by have l0 := (show (0 : Int32).toInt = 0 by decide); have l1 := (show (3 : Int32).toInt = 3 by decide); have l2 := (show (5 : Int32).toInt = 5 by decide); have l3 := (show (31 : Int32).toInt = 31 by decide); have l4 := (show (48 : Int32).toInt = 48 by decide); have l5 := (show (120 : Int32).toInt = 120 by decide); simp only [Int32.le_iff_toInt_le, Int32.lt_iff_toInt_lt, ← Int32.toInt_inj] at c0 c1 c2 c3 c4 c5 c6 c7; have e0 : Int32.toInt (120 * (xs 1)) = Int32.toInt 120 * Int32.toInt (xs 1) := i32_mul (by simp only [l0, l1, l2, l3, l4, l5]; omega) (by simp only [l0, l1, l2, l3, l4, l5]; omega); have e1 : Int32.toInt ((120 * (xs 1)) + 48) = Int32.toInt (120 * (xs 1)) + Int32.toInt 48 := i32_add (by simp only [l0, l1, l2, l3, l4, l5, e0]; omega) (by simp only [l0, l1, l2, l3, l4, l5, e0]; omega); have e2 : Int32.toInt (((120 * (xs 1)) + 48) + 3) = Int32.toInt ((120 * (xs 1)) + 48) + Int32.toInt 3 := i32_add (by simp only [l0, l1, l2, l3, l4, l5, e0, e1]; omega) (by simp only [l0, l1, l2, l3, l4, l5, e0, e1]; omega); (try simp only [l0, l1, l2, l3, l4, l5] at e0 e1 e2); constructor <;> omega)) (by decide) ?_
          obtain ⟨G68, eG68⟩ : ∃ z : ab_G, z = List.set G67 126 (ab_if 720 ((upd f126_56 (Int32.toNatClampNeg (((120 * (xs 1)) + 48) + 3)) 0))) := ⟨_, rfl⟩
          have h80 := ab_keep eG68 (by decide) h80
          have h110 := ab_keep eG68 (by decide) h110
          have h127 := ab_keep eG68 (by decide) h127
          have hlen := ab_klen eG68 hlen
          have hsl := ab_ksl 720 eG68 h126 rfl rfl hsl
          have hfr := hfr.wr eG68 (by decide)
          have hpk := hpk.wr eG68 (by decide)
          have h126 := ab_kept eG68 h126
          change ab_W _ _ _ (List.set G67 126 (ab_if 720 ((upd f126_56 (Int32.toNatClampNeg (((120 * (xs 1)) + 48) + 3)) 0)))) 220 [some (vR 80), some (vI (xs 1)), some (vI (xs 2)), some (vI 1), some (vI 4), some (vI 3)] [] _
          rw [← eG68]
          obtain ⟨f126_57, h126⟩ : ∃ g : Nat → Int32, G68[126]? = some (ab_if 720 (g)) := ⟨_, h126⟩
          refine ab_iinc (v := 4) d_MO_compile_220 rfl (by decide) (Nat.le_of_ble_eq_true rfl) (Nat.le_of_ble_eq_true rfl) rfl ?_
          change ab_W _ _ _ G68 223 [some (vR 80), some (vI (xs 1)), some (vI (xs 2)), some (vI 1), some (vI 4), some (vI 4)] [] _
          refine ab_goto (tgt := 182) d_MO_compile_223 (by decide) ?_
          refine ab_iload d_MO_compile_182 rfl ?_
          refine ab_bipush (v := 12) d_MO_compile_184 (by decide) ?_
          refine ab_icmp_ge (tgt := 226) d_MO_compile_186 (by decide) (fun c => absurd c (by decide)) (fun _ => ?_)
          refine ab_aload_n d_MO_compile_189 rfl ?_
          refine ab_getf (fs := (m_fv (vI 0) (vI 0) (vI 0) (vI 0) (vI 0) (vI 0) (vI 0) (vI 0) (vI 2) (vI 0) (vI ((xs 2) &&& 15)) (vI 0) (vI (-1)) (vI 0) (vI 0) (vI 0) (vI 0) (vI 0) (vI 0) (vI (xs 1)) (vI 0) (vI 0) (vI 0) (vI 0) (vI 0) (vI 0) (vI 0) (vI 0) (vI 0) (vI 0) (vI 0) (vI 0) (vI 0) (vI 0) (vI 0))) f_MO_152 d_MO_compile_190 h80 rfl ?_
          refine ab_bipush (v := 120) d_MO_compile_193 (by decide) ?_
          refine ab_iload_n d_MO_compile_195 rfl ?_
          refine ab_imul d_MO_compile_196 ?_
          refine ab_bipush (v := 12) d_MO_compile_197 (by decide) ?_
          refine ab_iload d_MO_compile_199 rfl ?_
          refine ab_imul d_MO_compile_201 ?_
          refine ab_topi (y := 48) (by decide) ?_
          refine ab_iadd d_MO_compile_202 ?_
          refine ab_iload d_MO_compile_203 rfl ?_
          refine ab_iadd d_MO_compile_205 ?_
          refine ab_aload_n d_MO_compile_206 rfl ?_
          refine ab_getf (fs := (m_fv (vI 0) (vI 0) (vI 0) (vI 0) (vI 0) (vI 0) (vI 0) (vI 0) (vI 2) (vI 0) (vI ((xs 2) &&& 15)) (vI 0) (vI (-1)) (vI 0) (vI 0) (vI 0) (vI 0) (vI 0) (vI 0) (vI (xs 1)) (vI 0) (vI 0) (vI 0) (vI 0) (vI 0) (vI 0) (vI 0) (vI 0) (vI 0) (vI 0) (vI 0) (vI 0) (vI 0) (vI 0) (vI 0))) f_MO_103 d_MO_compile_207 h80 rfl ?_
          refine ab_bipush (v := 12) d_MO_compile_210 (by decide) ?_
          refine ab_iload d_MO_compile_212 rfl ?_
          refine ab_imul d_MO_compile_214 ?_
          refine ab_topi (y := 48) (by decide) ?_
          refine ab_iload d_MO_compile_215 rfl ?_
          refine ab_iadd d_MO_compile_217 ?_
          refine ab_topi (y := 52) (by decide) ?_
          refine ab_iald d_MO_compile_218 h110 (by unfold vp_in; decide) ?_
          refine ab_topi (y := 0) rfl ?_
          refine ab_iast d_MO_compile_219 h126 (vp_in_iff.mpr (by have l0 := (show (0 : Int32).toInt = 0 by decide); have l1 := (show (4 : Int32).toInt = 4 by decide); have l2 := (show (5 : Int32).toInt = 5 by decide); have l3 := (show (31 : Int32).toInt = 31 by decide); have l4 := (show (48 : Int32).toInt = 48 by decide); have l5 := (show (120 : Int32).toInt = 120 by decide); simp only [Int32.le_iff_toInt_le, Int32.lt_iff_toInt_lt, ← Int32.toInt_inj] at c0 c1 c2 c3 c4 c5 c6 c7; have e0 : Int32.toInt (120 * (xs 1)) = Int32.toInt 120 * Int32.toInt (xs 1) := i32_mul (by simp only [l0, l1, l2, l3, l4, l5]; omega) (by simp only [l0, l1, l2, l3, l4, l5]; omega); have e1 : Int32.toInt ((120 * (xs 1)) + 48) = Int32.toInt (120 * (xs 1)) + Int32.toInt 48 := i32_add (by simp only [l0, l1, l2, l3, l4, l5, e0]; omega) (by simp only [l0, l1, l2, l3, l4, l5, e0]; omega); have e2 : Int32.toInt (((120 * (xs 1)) + 48) + 4) = Int32.toInt ((120 * (xs 1)) + 48) + Int32.toInt 4 := i32_add (by simp only [l0, l1, l2, l3, l4, l5, e0, e1]; omega) (by simp only [l0, l1, l2, l3, l4, l5, e0, e1]; omega); (try simp only [l0, l1, l2, l3, l4, l5] at e0 e1 e2); constructor <;> omega)) (by decide) ?_
          obtain ⟨G69, eG69⟩ : ∃ z : ab_G, z = List.set G68 126 (ab_if 720 ((upd f126_57 (Int32.toNatClampNeg (((120 * (xs 1)) + 48) + 4)) 0))) := ⟨_, rfl⟩
          have h80 := ab_keep eG69 (by decide) h80
          have h110 := ab_keep eG69 (by decide) h110
          have h127 := ab_keep eG69 (by decide) h127
          have hlen := ab_klen eG69 hlen
          have hsl := ab_ksl 720 eG69 h126 rfl rfl hsl
          have hfr := hfr.wr eG69 (by decide)
          have hpk := hpk.wr eG69 (by decide)
          have h126 := ab_kept eG69 h126
          change ab_W _ _ _ (List.set G68 126 (ab_if 720 ((upd f126_57 (Int32.toNatClampNeg (((120 * (xs 1)) + 48) + 4)) 0)))) 220 [some (vR 80), some (vI (xs 1)), some (vI (xs 2)), some (vI 1), some (vI 4), some (vI 4)] [] _
          rw [← eG69]
          obtain ⟨f126_58, h126⟩ : ∃ g : Nat → Int32, G69[126]? = some (ab_if 720 (g)) := ⟨_, h126⟩
          refine ab_iinc (v := 5) d_MO_compile_220 rfl (by decide) (Nat.le_of_ble_eq_true rfl) (Nat.le_of_ble_eq_true rfl) rfl ?_
          change ab_W _ _ _ G69 223 [some (vR 80), some (vI (xs 1)), some (vI (xs 2)), some (vI 1), some (vI 4), some (vI 5)] [] _
          refine ab_goto (tgt := 182) d_MO_compile_223 (by decide) ?_
          refine ab_iload d_MO_compile_182 rfl ?_
          refine ab_bipush (v := 12) d_MO_compile_184 (by decide) ?_
          refine ab_icmp_ge (tgt := 226) d_MO_compile_186 (by decide) (fun c => absurd c (by decide)) (fun _ => ?_)
          refine ab_aload_n d_MO_compile_189 rfl ?_
          refine ab_getf (fs := (m_fv (vI 0) (vI 0) (vI 0) (vI 0) (vI 0) (vI 0) (vI 0) (vI 0) (vI 2) (vI 0) (vI ((xs 2) &&& 15)) (vI 0) (vI (-1)) (vI 0) (vI 0) (vI 0) (vI 0) (vI 0) (vI 0) (vI (xs 1)) (vI 0) (vI 0) (vI 0) (vI 0) (vI 0) (vI 0) (vI 0) (vI 0) (vI 0) (vI 0) (vI 0) (vI 0) (vI 0) (vI 0) (vI 0))) f_MO_152 d_MO_compile_190 h80 rfl ?_
          refine ab_bipush (v := 120) d_MO_compile_193 (by decide) ?_
          refine ab_iload_n d_MO_compile_195 rfl ?_
          refine ab_imul d_MO_compile_196 ?_
          refine ab_bipush (v := 12) d_MO_compile_197 (by decide) ?_
          refine ab_iload d_MO_compile_199 rfl ?_
          refine ab_imul d_MO_compile_201 ?_
          refine ab_topi (y := 48) (by decide) ?_
          refine ab_iadd d_MO_compile_202 ?_
          refine ab_iload d_MO_compile_203 rfl ?_
          refine ab_iadd d_MO_compile_205 ?_
          refine ab_aload_n d_MO_compile_206 rfl ?_
          refine ab_getf (fs := (m_fv (vI 0) (vI 0) (vI 0) (vI 0) (vI 0) (vI 0) (vI 0) (vI 0) (vI 2) (vI 0) (vI ((xs 2) &&& 15)) (vI 0) (vI (-1)) (vI 0) (vI 0) (vI 0) (vI 0) (vI 0) (vI 0) (vI (xs 1)) (vI 0) (vI 0) (vI 0) (vI 0) (vI 0) (vI 0) (vI 0) (vI 0) (vI 0) (vI 0) (vI 0) (vI 0) (vI 0) (vI 0) (vI 0))) f_MO_103 d_MO_compile_207 h80 rfl ?_
          refine ab_bipush (v := 12) d_MO_compile_210 (by decide) ?_
          refine ab_iload d_MO_compile_212 rfl ?_
          refine ab_imul d_MO_compile_214 ?_
          refine ab_topi (y := 48) (by decide) ?_
          refine ab_iload d_MO_compile_215 rfl ?_
          refine ab_iadd d_MO_compile_217 ?_
          refine ab_topi (y := 53) (by decide) ?_
          refine ab_iald d_MO_compile_218 h110 (by unfold vp_in; decide) ?_
          refine ab_topi (y := 0) rfl ?_
          refine ab_iast d_MO_compile_219 h126 (vp_in_iff.mpr (by have l0 := (show (0 : Int32).toInt = 0 by decide); have l1 := (show (5 : Int32).toInt = 5 by decide); have l2 := (show (31 : Int32).toInt = 31 by decide); have l3 := (show (48 : Int32).toInt = 48 by decide); have l4 := (show (120 : Int32).toInt = 120 by decide); simp only [Int32.le_iff_toInt_le, Int32.lt_iff_toInt_lt, ← Int32.toInt_inj] at c0 c1 c2 c3 c4 c5 c6 c7; have e0 : Int32.toInt (120 * (xs 1)) = Int32.toInt 120 * Int32.toInt (xs 1) := i32_mul (by simp only [l0, l1, l2, l3, l4]; omega) (by simp only [l0, l1, l2, l3, l4]; omega); have e1 : Int32.toInt ((120 * (xs 1)) + 48) = Int32.toInt (120 * (xs 1)) + Int32.toInt 48 := i32_add (by simp only [l0, l1, l2, l3, l4, e0]; omega) (by simp only [l0, l1, l2, l3, l4, e0]; omega); have e2 : Int32.toInt (((120 * (xs 1)) + 48) + 5) = Int32.toInt ((120 * (xs 1)) + 48) + Int32.toInt 5 := i32_add (by simp only [l0, l1, l2, l3, l4, e0, e1]; omega) (by simp only [l0, l1, l2, l3, l4, e0, e1]; omega); (try simp only [l0, l1, l2, l3, l4] at e0 e1 e2); constructor <;> omega)) (by decide) ?_
          obtain ⟨G70, eG70⟩ : ∃ z : ab_G, z = List.set G69 126 (ab_if 720 ((upd f126_58 (Int32.toNatClampNeg (((120 * (xs 1)) + 48) + 5)) 0))) := ⟨_, rfl⟩
          have h80 := ab_keep eG70 (by decide) h80
          have h110 := ab_keep eG70 (by decide) h110
          have h127 := ab_keep eG70 (by decide) h127
          have hlen := ab_klen eG70 hlen
          have hsl := ab_ksl 720 eG70 h126 rfl rfl hsl
          have hfr := hfr.wr eG70 (by decide)
          have hpk := hpk.wr eG70 (by decide)
          have h126 := ab_kept eG70 h126
          change ab_W _ _ _ (List.set G69 126 (ab_if 720 ((upd f126_58 (Int32.toNatClampNeg (((120 * (xs 1)) + 48) + 5)) 0)))) 220 [some (vR 80), some (vI (xs 1)), some (vI (xs 2)), some (vI 1), some (vI 4), some (vI 5)] [] _
          rw [← eG70]
          obtain ⟨f126_59, h126⟩ : ∃ g : Nat → Int32, G70[126]? = some (ab_if 720 (g)) := ⟨_, h126⟩
          refine ab_iinc (v := 6) d_MO_compile_220 rfl (by decide) (Nat.le_of_ble_eq_true rfl) (Nat.le_of_ble_eq_true rfl) rfl ?_
          change ab_W _ _ _ G70 223 [some (vR 80), some (vI (xs 1)), some (vI (xs 2)), some (vI 1), some (vI 4), some (vI 6)] [] _
          refine ab_goto (tgt := 182) d_MO_compile_223 (by decide) ?_
          refine ab_iload d_MO_compile_182 rfl ?_
          refine ab_bipush (v := 12) d_MO_compile_184 (by decide) ?_
          refine ab_icmp_ge (tgt := 226) d_MO_compile_186 (by decide) (fun c => absurd c (by decide)) (fun _ => ?_)
          refine ab_aload_n d_MO_compile_189 rfl ?_
          refine ab_getf (fs := (m_fv (vI 0) (vI 0) (vI 0) (vI 0) (vI 0) (vI 0) (vI 0) (vI 0) (vI 2) (vI 0) (vI ((xs 2) &&& 15)) (vI 0) (vI (-1)) (vI 0) (vI 0) (vI 0) (vI 0) (vI 0) (vI 0) (vI (xs 1)) (vI 0) (vI 0) (vI 0) (vI 0) (vI 0) (vI 0) (vI 0) (vI 0) (vI 0) (vI 0) (vI 0) (vI 0) (vI 0) (vI 0) (vI 0))) f_MO_152 d_MO_compile_190 h80 rfl ?_
          refine ab_bipush (v := 120) d_MO_compile_193 (by decide) ?_
          refine ab_iload_n d_MO_compile_195 rfl ?_
          refine ab_imul d_MO_compile_196 ?_
          refine ab_bipush (v := 12) d_MO_compile_197 (by decide) ?_
          refine ab_iload d_MO_compile_199 rfl ?_
          refine ab_imul d_MO_compile_201 ?_
          refine ab_topi (y := 48) (by decide) ?_
          refine ab_iadd d_MO_compile_202 ?_
          refine ab_iload d_MO_compile_203 rfl ?_
          refine ab_iadd d_MO_compile_205 ?_
          refine ab_aload_n d_MO_compile_206 rfl ?_
          refine ab_getf (fs := (m_fv (vI 0) (vI 0) (vI 0) (vI 0) (vI 0) (vI 0) (vI 0) (vI 0) (vI 2) (vI 0) (vI ((xs 2) &&& 15)) (vI 0) (vI (-1)) (vI 0) (vI 0) (vI 0) (vI 0) (vI 0) (vI 0) (vI (xs 1)) (vI 0) (vI 0) (vI 0) (vI 0) (vI 0) (vI 0) (vI 0) (vI 0) (vI 0) (vI 0) (vI 0) (vI 0) (vI 0) (vI 0) (vI 0))) f_MO_103 d_MO_compile_207 h80 rfl ?_
          refine ab_bipush (v := 12) d_MO_compile_210 (by decide) ?_
          refine ab_iload d_MO_compile_212 rfl ?_
          refine ab_imul d_MO_compile_214 ?_
          refine ab_topi (y := 48) (by decide) ?_
          refine ab_iload d_MO_compile_215 rfl ?_
          refine ab_iadd d_MO_compile_217 ?_
          refine ab_topi (y := 54) (by decide) ?_
          refine ab_iald d_MO_compile_218 h110 (by unfold vp_in; decide) ?_
          refine ab_topi (y := 0) rfl ?_
          refine ab_iast d_MO_compile_219 h126 (vp_in_iff.mpr (by have l0 := (show (0 : Int32).toInt = 0 by decide); have l1 := (show (5 : Int32).toInt = 5 by decide); have l2 := (show (6 : Int32).toInt = 6 by decide); have l3 := (show (31 : Int32).toInt = 31 by decide); have l4 := (show (48 : Int32).toInt = 48 by decide); have l5 := (show (120 : Int32).toInt = 120 by decide); simp only [Int32.le_iff_toInt_le, Int32.lt_iff_toInt_lt, ← Int32.toInt_inj] at c0 c1 c2 c3 c4 c5 c6 c7; have e0 : Int32.toInt (120 * (xs 1)) = Int32.toInt 120 * Int32.toInt (xs 1) := i32_mul (by simp only [l0, l1, l2, l3, l4, l5]; omega) (by simp only [l0, l1, l2, l3, l4, l5]; omega); have e1 : Int32.toInt ((120 * (xs 1)) + 48) = Int32.toInt (120 * (xs 1)) + Int32.toInt 48 := i32_add (by simp only [l0, l1, l2, l3, l4, l5, e0]; omega) (by simp only [l0, l1, l2, l3, l4, l5, e0]; omega); have e2 : Int32.toInt (((120 * (xs 1)) + 48) + 6) = Int32.toInt ((120 * (xs 1)) + 48) + Int32.toInt 6 := i32_add (by simp only [l0, l1, l2, l3, l4, l5, e0, e1]; omega) (by simp only [l0, l1, l2, l3, l4, l5, e0, e1]; omega); (try simp only [l0, l1, l2, l3, l4, l5] at e0 e1 e2); constructor <;> omega)) (by decide) ?_
          obtain ⟨G71, eG71⟩ : ∃ z : ab_G, z = List.set G70 126 (ab_if 720 ((upd f126_59 (Int32.toNatClampNeg (((120 * (xs 1)) + 48) + 6)) 0))) := ⟨_, rfl⟩
          have h80 := ab_keep eG71 (by decide) h80
          have h110 := ab_keep eG71 (by decide) h110
          have h127 := ab_keep eG71 (by decide) h127
          have hlen := ab_klen eG71 hlen
          have hsl := ab_ksl 720 eG71 h126 rfl rfl hsl
          have hfr := hfr.wr eG71 (by decide)
          have hpk := hpk.wr eG71 (by decide)
          have h126 := ab_kept eG71 h126
          change ab_W _ _ _ (List.set G70 126 (ab_if 720 ((upd f126_59 (Int32.toNatClampNeg (((120 * (xs 1)) + 48) + 6)) 0)))) 220 [some (vR 80), some (vI (xs 1)), some (vI (xs 2)), some (vI 1), some (vI 4), some (vI 6)] [] _
          rw [← eG71]
          obtain ⟨f126_60, h126⟩ : ∃ g : Nat → Int32, G71[126]? = some (ab_if 720 (g)) := ⟨_, h126⟩
          refine ab_iinc (v := 7) d_MO_compile_220 rfl (by decide) (Nat.le_of_ble_eq_true rfl) (Nat.le_of_ble_eq_true rfl) rfl ?_
          change ab_W _ _ _ G71 223 [some (vR 80), some (vI (xs 1)), some (vI (xs 2)), some (vI 1), some (vI 4), some (vI 7)] [] _
          refine ab_goto (tgt := 182) d_MO_compile_223 (by decide) ?_
          refine ab_iload d_MO_compile_182 rfl ?_
          refine ab_bipush (v := 12) d_MO_compile_184 (by decide) ?_
          refine ab_icmp_ge (tgt := 226) d_MO_compile_186 (by decide) (fun c => absurd c (by decide)) (fun _ => ?_)
          refine ab_aload_n d_MO_compile_189 rfl ?_
          refine ab_getf (fs := (m_fv (vI 0) (vI 0) (vI 0) (vI 0) (vI 0) (vI 0) (vI 0) (vI 0) (vI 2) (vI 0) (vI ((xs 2) &&& 15)) (vI 0) (vI (-1)) (vI 0) (vI 0) (vI 0) (vI 0) (vI 0) (vI 0) (vI (xs 1)) (vI 0) (vI 0) (vI 0) (vI 0) (vI 0) (vI 0) (vI 0) (vI 0) (vI 0) (vI 0) (vI 0) (vI 0) (vI 0) (vI 0) (vI 0))) f_MO_152 d_MO_compile_190 h80 rfl ?_
          refine ab_bipush (v := 120) d_MO_compile_193 (by decide) ?_
          refine ab_iload_n d_MO_compile_195 rfl ?_
          refine ab_imul d_MO_compile_196 ?_
          refine ab_bipush (v := 12) d_MO_compile_197 (by decide) ?_
          refine ab_iload d_MO_compile_199 rfl ?_
          refine ab_imul d_MO_compile_201 ?_
          refine ab_topi (y := 48) (by decide) ?_
          refine ab_iadd d_MO_compile_202 ?_
          refine ab_iload d_MO_compile_203 rfl ?_
          refine ab_iadd d_MO_compile_205 ?_
          refine ab_aload_n d_MO_compile_206 rfl ?_
          refine ab_getf (fs := (m_fv (vI 0) (vI 0) (vI 0) (vI 0) (vI 0) (vI 0) (vI 0) (vI 0) (vI 2) (vI 0) (vI ((xs 2) &&& 15)) (vI 0) (vI (-1)) (vI 0) (vI 0) (vI 0) (vI 0) (vI 0) (vI 0) (vI (xs 1)) (vI 0) (vI 0) (vI 0) (vI 0) (vI 0) (vI 0) (vI 0) (vI 0) (vI 0) (vI 0) (vI 0) (vI 0) (vI 0) (vI 0) (vI 0))) f_MO_103 d_MO_compile_207 h80 rfl ?_
          refine ab_bipush (v := 12) d_MO_compile_210 (by decide) ?_
          refine ab_iload d_MO_compile_212 rfl ?_
          refine ab_imul d_MO_compile_214 ?_
          refine ab_topi (y := 48) (by decide) ?_
          refine ab_iload d_MO_compile_215 rfl ?_
          refine ab_iadd d_MO_compile_217 ?_
          refine ab_topi (y := 55) (by decide) ?_
          refine ab_iald d_MO_compile_218 h110 (by unfold vp_in; decide) ?_
          refine ab_topi (y := 0) rfl ?_
          refine ab_iast d_MO_compile_219 h126 (vp_in_iff.mpr (by have l0 := (show (0 : Int32).toInt = 0 by decide); have l1 := (show (5 : Int32).toInt = 5 by decide); have l2 := (show (7 : Int32).toInt = 7 by decide); have l3 := (show (31 : Int32).toInt = 31 by decide); have l4 := (show (48 : Int32).toInt = 48 by decide); have l5 := (show (120 : Int32).toInt = 120 by decide); simp only [Int32.le_iff_toInt_le, Int32.lt_iff_toInt_lt, ← Int32.toInt_inj] at c0 c1 c2 c3 c4 c5 c6 c7; have e0 : Int32.toInt (120 * (xs 1)) = Int32.toInt 120 * Int32.toInt (xs 1) := i32_mul (by simp only [l0, l1, l2, l3, l4, l5]; omega) (by simp only [l0, l1, l2, l3, l4, l5]; omega); have e1 : Int32.toInt ((120 * (xs 1)) + 48) = Int32.toInt (120 * (xs 1)) + Int32.toInt 48 := i32_add (by simp only [l0, l1, l2, l3, l4, l5, e0]; omega) (by simp only [l0, l1, l2, l3, l4, l5, e0]; omega); have e2 : Int32.toInt (((120 * (xs 1)) + 48) + 7) = Int32.toInt ((120 * (xs 1)) + 48) + Int32.toInt 7 := i32_add (by simp only [l0, l1, l2, l3, l4, l5, e0, e1]; omega) (by simp only [l0, l1, l2, l3, l4, l5, e0, e1]; omega); (try simp only [l0, l1, l2, l3, l4, l5] at e0 e1 e2); constructor <;> omega)) (by decide) ?_
          obtain ⟨G72, eG72⟩ : ∃ z : ab_G, z = List.set G71 126 (ab_if 720 ((upd f126_60 (Int32.toNatClampNeg (((120 * (xs 1)) + 48) + 7)) 0))) := ⟨_, rfl⟩
          have h80 := ab_keep eG72 (by decide) h80
          have h110 := ab_keep eG72 (by decide) h110
          have h127 := ab_keep eG72 (by decide) h127
          have hlen := ab_klen eG72 hlen
          have hsl := ab_ksl 720 eG72 h126 rfl rfl hsl
          have hfr := hfr.wr eG72 (by decide)
          have hpk := hpk.wr eG72 (by decide)
          have h126 := ab_kept eG72 h126
          change ab_W _ _ _ (List.set G71 126 (ab_if 720 ((upd f126_60 (Int32.toNatClampNeg (((120 * (xs 1)) + 48) + 7)) 0)))) 220 [some (vR 80), some (vI (xs 1)), some (vI (xs 2)), some (vI 1), some (vI 4), some (vI 7)] [] _
          rw [← eG72]
          obtain ⟨f126_61, h126⟩ : ∃ g : Nat → Int32, G72[126]? = some (ab_if 720 (g)) := ⟨_, h126⟩
          refine ab_iinc (v := 8) d_MO_compile_220 rfl (by decide) (Nat.le_of_ble_eq_true rfl) (Nat.le_of_ble_eq_true rfl) rfl ?_
          change ab_W _ _ _ G72 223 [some (vR 80), some (vI (xs 1)), some (vI (xs 2)), some (vI 1), some (vI 4), some (vI 8)] [] _
          refine ab_goto (tgt := 182) d_MO_compile_223 (by decide) ?_
          refine ab_iload d_MO_compile_182 rfl ?_
          refine ab_bipush (v := 12) d_MO_compile_184 (by decide) ?_
          refine ab_icmp_ge (tgt := 226) d_MO_compile_186 (by decide) (fun c => absurd c (by decide)) (fun _ => ?_)
          refine ab_aload_n d_MO_compile_189 rfl ?_
          refine ab_getf (fs := (m_fv (vI 0) (vI 0) (vI 0) (vI 0) (vI 0) (vI 0) (vI 0) (vI 0) (vI 2) (vI 0) (vI ((xs 2) &&& 15)) (vI 0) (vI (-1)) (vI 0) (vI 0) (vI 0) (vI 0) (vI 0) (vI 0) (vI (xs 1)) (vI 0) (vI 0) (vI 0) (vI 0) (vI 0) (vI 0) (vI 0) (vI 0) (vI 0) (vI 0) (vI 0) (vI 0) (vI 0) (vI 0) (vI 0))) f_MO_152 d_MO_compile_190 h80 rfl ?_
          refine ab_bipush (v := 120) d_MO_compile_193 (by decide) ?_
          refine ab_iload_n d_MO_compile_195 rfl ?_
          refine ab_imul d_MO_compile_196 ?_
          refine ab_bipush (v := 12) d_MO_compile_197 (by decide) ?_
          refine ab_iload d_MO_compile_199 rfl ?_
          refine ab_imul d_MO_compile_201 ?_
          refine ab_topi (y := 48) (by decide) ?_
          refine ab_iadd d_MO_compile_202 ?_
          refine ab_iload d_MO_compile_203 rfl ?_
          refine ab_iadd d_MO_compile_205 ?_
          refine ab_aload_n d_MO_compile_206 rfl ?_
          refine ab_getf (fs := (m_fv (vI 0) (vI 0) (vI 0) (vI 0) (vI 0) (vI 0) (vI 0) (vI 0) (vI 2) (vI 0) (vI ((xs 2) &&& 15)) (vI 0) (vI (-1)) (vI 0) (vI 0) (vI 0) (vI 0) (vI 0) (vI 0) (vI (xs 1)) (vI 0) (vI 0) (vI 0) (vI 0) (vI 0) (vI 0) (vI 0) (vI 0) (vI 0) (vI 0) (vI 0) (vI 0) (vI 0) (vI 0) (vI 0))) f_MO_103 d_MO_compile_207 h80 rfl ?_
          refine ab_bipush (v := 12) d_MO_compile_210 (by decide) ?_
          refine ab_iload d_MO_compile_212 rfl ?_
          refine ab_imul d_MO_compile_214 ?_
          refine ab_topi (y := 48) (by decide) ?_
          refine ab_iload d_MO_compile_215 rfl ?_
          refine ab_iadd d_MO_compile_217 ?_
          refine ab_topi (y := 56) (by decide) ?_
          refine ab_iald d_MO_compile_218 h110 (by unfold vp_in; decide) ?_
          refine ab_topi (y := 0) rfl ?_
          refine ab_iast d_MO_compile_219 h126 (vp_in_iff.mpr (by have l0 := (show (0 : Int32).toInt = 0 by decide); have l1 := (show (5 : Int32).toInt = 5 by decide); have l2 := (show (8 : Int32).toInt = 8 by decide); have l3 := (show (31 : Int32).toInt = 31 by decide); have l4 := (show (48 : Int32).toInt = 48 by decide); have l5 := (show (120 : Int32).toInt = 120 by decide); simp only [Int32.le_iff_toInt_le, Int32.lt_iff_toInt_lt, ← Int32.toInt_inj] at c0 c1 c2 c3 c4 c5 c6 c7; have e0 : Int32.toInt (120 * (xs 1)) = Int32.toInt 120 * Int32.toInt (xs 1) := i32_mul (by simp only [l0, l1, l2, l3, l4, l5]; omega) (by simp only [l0, l1, l2, l3, l4, l5]; omega); have e1 : Int32.toInt ((120 * (xs 1)) + 48) = Int32.toInt (120 * (xs 1)) + Int32.toInt 48 := i32_add (by simp only [l0, l1, l2, l3, l4, l5, e0]; omega) (by simp only [l0, l1, l2, l3, l4, l5, e0]; omega); have e2 : Int32.toInt (((120 * (xs 1)) + 48) + 8) = Int32.toInt ((120 * (xs 1)) + 48) + Int32.toInt 8 := i32_add (by simp only [l0, l1, l2, l3, l4, l5, e0, e1]; omega) (by simp only [l0, l1, l2, l3, l4, l5, e0, e1]; omega); (try simp only [l0, l1, l2, l3, l4, l5] at e0 e1 e2); constructor <;> omega)) (by decide) ?_
          obtain ⟨G73, eG73⟩ : ∃ z : ab_G, z = List.set G72 126 (ab_if 720 ((upd f126_61 (Int32.toNatClampNeg (((120 * (xs 1)) + 48) + 8)) 0))) := ⟨_, rfl⟩
          have h80 := ab_keep eG73 (by decide) h80
          have h110 := ab_keep eG73 (by decide) h110
          have h127 := ab_keep eG73 (by decide) h127
          have hlen := ab_klen eG73 hlen
          have hsl := ab_ksl 720 eG73 h126 rfl rfl hsl
          have hfr := hfr.wr eG73 (by decide)
          have hpk := hpk.wr eG73 (by decide)
          have h126 := ab_kept eG73 h126
          change ab_W _ _ _ (List.set G72 126 (ab_if 720 ((upd f126_61 (Int32.toNatClampNeg (((120 * (xs 1)) + 48) + 8)) 0)))) 220 [some (vR 80), some (vI (xs 1)), some (vI (xs 2)), some (vI 1), some (vI 4), some (vI 8)] [] _
          rw [← eG73]
          obtain ⟨f126_62, h126⟩ : ∃ g : Nat → Int32, G73[126]? = some (ab_if 720 (g)) := ⟨_, h126⟩
          refine ab_iinc (v := 9) d_MO_compile_220 rfl (by decide) (Nat.le_of_ble_eq_true rfl) (Nat.le_of_ble_eq_true rfl) rfl ?_
          change ab_W _ _ _ G73 223 [some (vR 80), some (vI (xs 1)), some (vI (xs 2)), some (vI 1), some (vI 4), some (vI 9)] [] _
          refine ab_goto (tgt := 182) d_MO_compile_223 (by decide) ?_
          refine ab_iload d_MO_compile_182 rfl ?_
          refine ab_bipush (v := 12) d_MO_compile_184 (by decide) ?_
          refine ab_icmp_ge (tgt := 226) d_MO_compile_186 (by decide) (fun c => absurd c (by decide)) (fun _ => ?_)
          refine ab_aload_n d_MO_compile_189 rfl ?_
          refine ab_getf (fs := (m_fv (vI 0) (vI 0) (vI 0) (vI 0) (vI 0) (vI 0) (vI 0) (vI 0) (vI 2) (vI 0) (vI ((xs 2) &&& 15)) (vI 0) (vI (-1)) (vI 0) (vI 0) (vI 0) (vI 0) (vI 0) (vI 0) (vI (xs 1)) (vI 0) (vI 0) (vI 0) (vI 0) (vI 0) (vI 0) (vI 0) (vI 0) (vI 0) (vI 0) (vI 0) (vI 0) (vI 0) (vI 0) (vI 0))) f_MO_152 d_MO_compile_190 h80 rfl ?_
          refine ab_bipush (v := 120) d_MO_compile_193 (by decide) ?_
          refine ab_iload_n d_MO_compile_195 rfl ?_
          refine ab_imul d_MO_compile_196 ?_
          refine ab_bipush (v := 12) d_MO_compile_197 (by decide) ?_
          refine ab_iload d_MO_compile_199 rfl ?_
          refine ab_imul d_MO_compile_201 ?_
          refine ab_topi (y := 48) (by decide) ?_
          refine ab_iadd d_MO_compile_202 ?_
          refine ab_iload d_MO_compile_203 rfl ?_
          refine ab_iadd d_MO_compile_205 ?_
          refine ab_aload_n d_MO_compile_206 rfl ?_
          refine ab_getf (fs := (m_fv (vI 0) (vI 0) (vI 0) (vI 0) (vI 0) (vI 0) (vI 0) (vI 0) (vI 2) (vI 0) (vI ((xs 2) &&& 15)) (vI 0) (vI (-1)) (vI 0) (vI 0) (vI 0) (vI 0) (vI 0) (vI 0) (vI (xs 1)) (vI 0) (vI 0) (vI 0) (vI 0) (vI 0) (vI 0) (vI 0) (vI 0) (vI 0) (vI 0) (vI 0) (vI 0) (vI 0) (vI 0) (vI 0))) f_MO_103 d_MO_compile_207 h80 rfl ?_
          refine ab_bipush (v := 12) d_MO_compile_210 (by decide) ?_
          refine ab_iload d_MO_compile_212 rfl ?_
          refine ab_imul d_MO_compile_214 ?_
          refine ab_topi (y := 48) (by decide) ?_
          refine ab_iload d_MO_compile_215 rfl ?_
          refine ab_iadd d_MO_compile_217 ?_
          refine ab_topi (y := 57) (by decide) ?_
          refine ab_iald d_MO_compile_218 h110 (by unfold vp_in; decide) ?_
          refine ab_topi (y := 0) rfl ?_
          refine ab_iast d_MO_compile_219 h126 (vp_in_iff.mpr (by have l0 := (show (0 : Int32).toInt = 0 by decide); have l1 := (show (5 : Int32).toInt = 5 by decide); have l2 := (show (9 : Int32).toInt = 9 by decide); have l3 := (show (31 : Int32).toInt = 31 by decide); have l4 := (show (48 : Int32).toInt = 48 by decide); have l5 := (show (120 : Int32).toInt = 120 by decide); simp only [Int32.le_iff_toInt_le, Int32.lt_iff_toInt_lt, ← Int32.toInt_inj] at c0 c1 c2 c3 c4 c5 c6 c7; have e0 : Int32.toInt (120 * (xs 1)) = Int32.toInt 120 * Int32.toInt (xs 1) := i32_mul (by simp only [l0, l1, l2, l3, l4, l5]; omega) (by simp only [l0, l1, l2, l3, l4, l5]; omega); have e1 : Int32.toInt ((120 * (xs 1)) + 48) = Int32.toInt (120 * (xs 1)) + Int32.toInt 48 := i32_add (by simp only [l0, l1, l2, l3, l4, l5, e0]; omega) (by simp only [l0, l1, l2, l3, l4, l5, e0]; omega); have e2 : Int32.toInt (((120 * (xs 1)) + 48) + 9) = Int32.toInt ((120 * (xs 1)) + 48) + Int32.toInt 9 := i32_add (by simp only [l0, l1, l2, l3, l4, l5, e0, e1]; omega) (by simp only [l0, l1, l2, l3, l4, l5, e0, e1]; omega); (try simp only [l0, l1, l2, l3, l4, l5] at e0 e1 e2); constructor <;> omega)) (by decide) ?_
          obtain ⟨G74, eG74⟩ : ∃ z : ab_G, z = List.set G73 126 (ab_if 720 ((upd f126_62 (Int32.toNatClampNeg (((120 * (xs 1)) + 48) + 9)) 0))) := ⟨_, rfl⟩
          have h80 := ab_keep eG74 (by decide) h80
          have h110 := ab_keep eG74 (by decide) h110
          have h127 := ab_keep eG74 (by decide) h127
          have hlen := ab_klen eG74 hlen
          have hsl := ab_ksl 720 eG74 h126 rfl rfl hsl
          have hfr := hfr.wr eG74 (by decide)
          have hpk := hpk.wr eG74 (by decide)
          have h126 := ab_kept eG74 h126
          change ab_W _ _ _ (List.set G73 126 (ab_if 720 ((upd f126_62 (Int32.toNatClampNeg (((120 * (xs 1)) + 48) + 9)) 0)))) 220 [some (vR 80), some (vI (xs 1)), some (vI (xs 2)), some (vI 1), some (vI 4), some (vI 9)] [] _
          rw [← eG74]
          obtain ⟨f126_63, h126⟩ : ∃ g : Nat → Int32, G74[126]? = some (ab_if 720 (g)) := ⟨_, h126⟩
          refine ab_iinc (v := 10) d_MO_compile_220 rfl (by decide) (Nat.le_of_ble_eq_true rfl) (Nat.le_of_ble_eq_true rfl) rfl ?_
          change ab_W _ _ _ G74 223 [some (vR 80), some (vI (xs 1)), some (vI (xs 2)), some (vI 1), some (vI 4), some (vI 10)] [] _
          refine ab_goto (tgt := 182) d_MO_compile_223 (by decide) ?_
          refine ab_iload d_MO_compile_182 rfl ?_
          refine ab_bipush (v := 12) d_MO_compile_184 (by decide) ?_
          refine ab_icmp_ge (tgt := 226) d_MO_compile_186 (by decide) (fun c => absurd c (by decide)) (fun _ => ?_)
          refine ab_aload_n d_MO_compile_189 rfl ?_
          refine ab_getf (fs := (m_fv (vI 0) (vI 0) (vI 0) (vI 0) (vI 0) (vI 0) (vI 0) (vI 0) (vI 2) (vI 0) (vI ((xs 2) &&& 15)) (vI 0) (vI (-1)) (vI 0) (vI 0) (vI 0) (vI 0) (vI 0) (vI 0) (vI (xs 1)) (vI 0) (vI 0) (vI 0) (vI 0) (vI 0) (vI 0) (vI 0) (vI 0) (vI 0) (vI 0) (vI 0) (vI 0) (vI 0) (vI 0) (vI 0))) f_MO_152 d_MO_compile_190 h80 rfl ?_
          refine ab_bipush (v := 120) d_MO_compile_193 (by decide) ?_
          refine ab_iload_n d_MO_compile_195 rfl ?_
          refine ab_imul d_MO_compile_196 ?_
          refine ab_bipush (v := 12) d_MO_compile_197 (by decide) ?_
          refine ab_iload d_MO_compile_199 rfl ?_
          refine ab_imul d_MO_compile_201 ?_
          refine ab_topi (y := 48) (by decide) ?_
          refine ab_iadd d_MO_compile_202 ?_
          refine ab_iload d_MO_compile_203 rfl ?_
          refine ab_iadd d_MO_compile_205 ?_
          refine ab_aload_n d_MO_compile_206 rfl ?_
          refine ab_getf (fs := (m_fv (vI 0) (vI 0) (vI 0) (vI 0) (vI 0) (vI 0) (vI 0) (vI 0) (vI 2) (vI 0) (vI ((xs 2) &&& 15)) (vI 0) (vI (-1)) (vI 0) (vI 0) (vI 0) (vI 0) (vI 0) (vI 0) (vI (xs 1)) (vI 0) (vI 0) (vI 0) (vI 0) (vI 0) (vI 0) (vI 0) (vI 0) (vI 0) (vI 0) (vI 0) (vI 0) (vI 0) (vI 0) (vI 0))) f_MO_103 d_MO_compile_207 h80 rfl ?_
          refine ab_bipush (v := 12) d_MO_compile_210 (by decide) ?_
          refine ab_iload d_MO_compile_212 rfl ?_
          refine ab_imul d_MO_compile_214 ?_
          refine ab_topi (y := 48) (by decide) ?_
          refine ab_iload d_MO_compile_215 rfl ?_
          refine ab_iadd d_MO_compile_217 ?_
          refine ab_topi (y := 58) (by decide) ?_
          refine ab_iald d_MO_compile_218 h110 (by unfold vp_in; decide) ?_
          refine ab_topi (y := 0) rfl ?_
          refine ab_iast d_MO_compile_219 h126 (vp_in_iff.mpr (by have l0 := (show (0 : Int32).toInt = 0 by decide); have l1 := (show (5 : Int32).toInt = 5 by decide); have l2 := (show (10 : Int32).toInt = 10 by decide); have l3 := (show (31 : Int32).toInt = 31 by decide); have l4 := (show (48 : Int32).toInt = 48 by decide); have l5 := (show (120 : Int32).toInt = 120 by decide); simp only [Int32.le_iff_toInt_le, Int32.lt_iff_toInt_lt, ← Int32.toInt_inj] at c0 c1 c2 c3 c4 c5 c6 c7; have e0 : Int32.toInt (120 * (xs 1)) = Int32.toInt 120 * Int32.toInt (xs 1) := i32_mul (by simp only [l0, l1, l2, l3, l4, l5]; omega) (by simp only [l0, l1, l2, l3, l4, l5]; omega); have e1 : Int32.toInt ((120 * (xs 1)) + 48) = Int32.toInt (120 * (xs 1)) + Int32.toInt 48 := i32_add (by simp only [l0, l1, l2, l3, l4, l5, e0]; omega) (by simp only [l0, l1, l2, l3, l4, l5, e0]; omega); have e2 : Int32.toInt (((120 * (xs 1)) + 48) + 10) = Int32.toInt ((120 * (xs 1)) + 48) + Int32.toInt 10 := i32_add (by simp only [l0, l1, l2, l3, l4, l5, e0, e1]; omega) (by simp only [l0, l1, l2, l3, l4, l5, e0, e1]; omega); (try simp only [l0, l1, l2, l3, l4, l5] at e0 e1 e2); constructor <;> omega)) (by decide) ?_
          obtain ⟨G75, eG75⟩ : ∃ z : ab_G, z = List.set G74 126 (ab_if 720 ((upd f126_63 (Int32.toNatClampNeg (((120 * (xs 1)) + 48) + 10)) 0))) := ⟨_, rfl⟩
          have h80 := ab_keep eG75 (by decide) h80
          have h110 := ab_keep eG75 (by decide) h110
          have h127 := ab_keep eG75 (by decide) h127
          have hlen := ab_klen eG75 hlen
          have hsl := ab_ksl 720 eG75 h126 rfl rfl hsl
          have hfr := hfr.wr eG75 (by decide)
          have hpk := hpk.wr eG75 (by decide)
          have h126 := ab_kept eG75 h126
          change ab_W _ _ _ (List.set G74 126 (ab_if 720 ((upd f126_63 (Int32.toNatClampNeg (((120 * (xs 1)) + 48) + 10)) 0)))) 220 [some (vR 80), some (vI (xs 1)), some (vI (xs 2)), some (vI 1), some (vI 4), some (vI 10)] [] _
          rw [← eG75]
          obtain ⟨f126_64, h126⟩ : ∃ g : Nat → Int32, G75[126]? = some (ab_if 720 (g)) := ⟨_, h126⟩
          refine ab_iinc (v := 11) d_MO_compile_220 rfl (by decide) (Nat.le_of_ble_eq_true rfl) (Nat.le_of_ble_eq_true rfl) rfl ?_
          change ab_W _ _ _ G75 223 [some (vR 80), some (vI (xs 1)), some (vI (xs 2)), some (vI 1), some (vI 4), some (vI 11)] [] _
          refine ab_goto (tgt := 182) d_MO_compile_223 (by decide) ?_
          refine ab_iload d_MO_compile_182 rfl ?_
          refine ab_bipush (v := 12) d_MO_compile_184 (by decide) ?_
          refine ab_icmp_ge (tgt := 226) d_MO_compile_186 (by decide) (fun c => absurd c (by decide)) (fun _ => ?_)
          refine ab_aload_n d_MO_compile_189 rfl ?_
          refine ab_getf (fs := (m_fv (vI 0) (vI 0) (vI 0) (vI 0) (vI 0) (vI 0) (vI 0) (vI 0) (vI 2) (vI 0) (vI ((xs 2) &&& 15)) (vI 0) (vI (-1)) (vI 0) (vI 0) (vI 0) (vI 0) (vI 0) (vI 0) (vI (xs 1)) (vI 0) (vI 0) (vI 0) (vI 0) (vI 0) (vI 0) (vI 0) (vI 0) (vI 0) (vI 0) (vI 0) (vI 0) (vI 0) (vI 0) (vI 0))) f_MO_152 d_MO_compile_190 h80 rfl ?_
          refine ab_bipush (v := 120) d_MO_compile_193 (by decide) ?_
          refine ab_iload_n d_MO_compile_195 rfl ?_
          refine ab_imul d_MO_compile_196 ?_
          refine ab_bipush (v := 12) d_MO_compile_197 (by decide) ?_
          refine ab_iload d_MO_compile_199 rfl ?_
          refine ab_imul d_MO_compile_201 ?_
          refine ab_topi (y := 48) (by decide) ?_
          refine ab_iadd d_MO_compile_202 ?_
          refine ab_iload d_MO_compile_203 rfl ?_
          refine ab_iadd d_MO_compile_205 ?_
          refine ab_aload_n d_MO_compile_206 rfl ?_
          refine ab_getf (fs := (m_fv (vI 0) (vI 0) (vI 0) (vI 0) (vI 0) (vI 0) (vI 0) (vI 0) (vI 2) (vI 0) (vI ((xs 2) &&& 15)) (vI 0) (vI (-1)) (vI 0) (vI 0) (vI 0) (vI 0) (vI 0) (vI 0) (vI (xs 1)) (vI 0) (vI 0) (vI 0) (vI 0) (vI 0) (vI 0) (vI 0) (vI 0) (vI 0) (vI 0) (vI 0) (vI 0) (vI 0) (vI 0) (vI 0))) f_MO_103 d_MO_compile_207 h80 rfl ?_
          refine ab_bipush (v := 12) d_MO_compile_210 (by decide) ?_
          refine ab_iload d_MO_compile_212 rfl ?_
          refine ab_imul d_MO_compile_214 ?_
          refine ab_topi (y := 48) (by decide) ?_
          refine ab_iload d_MO_compile_215 rfl ?_
          refine ab_iadd d_MO_compile_217 ?_
          refine ab_topi (y := 59) (by decide) ?_
          refine ab_iald d_MO_compile_218 h110 (by unfold vp_in; decide) ?_
          refine ab_topi (y := 0) rfl ?_
          refine ab_iast d_MO_compile_219 h126 (vp_in_iff.mpr (by have l0 := (show (0 : Int32).toInt = 0 by decide); have l1 := (show (5 : Int32).toInt = 5 by decide); have l2 := (show (11 : Int32).toInt = 11 by decide); have l3 := (show (31 : Int32).toInt = 31 by decide); have l4 := (show (48 : Int32).toInt = 48 by decide); have l5 := (show (120 : Int32).toInt = 120 by decide); simp only [Int32.le_iff_toInt_le, Int32.lt_iff_toInt_lt, ← Int32.toInt_inj] at c0 c1 c2 c3 c4 c5 c6 c7; have e0 : Int32.toInt (120 * (xs 1)) = Int32.toInt 120 * Int32.toInt (xs 1) := i32_mul (by simp only [l0, l1, l2, l3, l4, l5]; omega) (by simp only [l0, l1, l2, l3, l4, l5]; omega); have e1 : Int32.toInt ((120 * (xs 1)) + 48) = Int32.toInt (120 * (xs 1)) + Int32.toInt 48 := i32_add (by simp only [l0, l1, l2, l3, l4, l5, e0]; omega) (by simp only [l0, l1, l2, l3, l4, l5, e0]; omega); have e2 : Int32.toInt (((120 * (xs 1)) + 48) + 11) = Int32.toInt ((120 * (xs 1)) + 48) + Int32.toInt 11 := i32_add (by simp only [l0, l1, l2, l3, l4, l5, e0, e1]; omega) (by simp only [l0, l1, l2, l3, l4, l5, e0, e1]; omega); (try simp only [l0, l1, l2, l3, l4, l5] at e0 e1 e2); constructor <;> omega)) (by decide) ?_
          obtain ⟨G76, eG76⟩ : ∃ z : ab_G, z = List.set G75 126 (ab_if 720 ((upd f126_64 (Int32.toNatClampNeg (((120 * (xs 1)) + 48) + 11)) 0))) := ⟨_, rfl⟩
          have h80 := ab_keep eG76 (by decide) h80
          have h110 := ab_keep eG76 (by decide) h110
          have h127 := ab_keep eG76 (by decide) h127
          have hlen := ab_klen eG76 hlen
          have hsl := ab_ksl 720 eG76 h126 rfl rfl hsl
          have hfr := hfr.wr eG76 (by decide)
          have hpk := hpk.wr eG76 (by decide)
          have h126 := ab_kept eG76 h126
          change ab_W _ _ _ (List.set G75 126 (ab_if 720 ((upd f126_64 (Int32.toNatClampNeg (((120 * (xs 1)) + 48) + 11)) 0)))) 220 [some (vR 80), some (vI (xs 1)), some (vI (xs 2)), some (vI 1), some (vI 4), some (vI 11)] [] _
          rw [← eG76]
          obtain ⟨f126_65, h126⟩ : ∃ g : Nat → Int32, G76[126]? = some (ab_if 720 (g)) := ⟨_, h126⟩
          refine ab_iinc (v := 12) d_MO_compile_220 rfl (by decide) (Nat.le_of_ble_eq_true rfl) (Nat.le_of_ble_eq_true rfl) rfl ?_
          change ab_W _ _ _ G76 223 [some (vR 80), some (vI (xs 1)), some (vI (xs 2)), some (vI 1), some (vI 4), some (vI 12)] [] _
          refine ab_goto (tgt := 182) d_MO_compile_223 (by decide) ?_
          refine ab_iload d_MO_compile_182 rfl ?_
          refine ab_bipush (v := 12) d_MO_compile_184 (by decide) ?_
          refine ab_icmp_ge (tgt := 226) d_MO_compile_186 (by decide) (fun _ => ?_) (fun c => absurd c (by decide))
          refine ab_iinc (v := 5) d_MO_compile_226 rfl (by decide) (Nat.le_of_ble_eq_true rfl) (Nat.le_of_ble_eq_true rfl) rfl ?_
          change ab_W _ _ _ G76 229 [some (vR 80), some (vI (xs 1)), some (vI (xs 2)), some (vI 1), some (vI 5), some (vI 12)] [] _
          refine ab_goto (tgt := 135) d_MO_compile_229 (by decide) ?_
          refine ab_iload d_MO_compile_135 rfl ?_
          refine ab_bipush (v := 10) d_MO_compile_137 (by decide) ?_
          refine ab_icmp_ge (tgt := 232) d_MO_compile_139 (by decide) (fun c => absurd c (by decide)) (fun _ => ?_)
          refine ab_aload_n d_MO_compile_142 rfl ?_
          refine ab_getf (fs := (m_fv (vI 0) (vI 0) (vI 0) (vI 0) (vI 0) (vI 0) (vI 0) (vI 0) (vI 2) (vI 0) (vI ((xs 2) &&& 15)) (vI 0) (vI (-1)) (vI 0) (vI 0) (vI 0) (vI 0) (vI 0) (vI 0) (vI (xs 1)) (vI 0) (vI 0) (vI 0) (vI 0) (vI 0) (vI 0) (vI 0) (vI 0) (vI 0) (vI 0) (vI 0) (vI 0) (vI 0) (vI 0) (vI 0))) f_MO_155 d_MO_compile_143 h80 rfl ?_
          refine ab_bipush (v := 10) d_MO_compile_146 (by decide) ?_
          refine ab_iload_n d_MO_compile_148 rfl ?_
          refine ab_imul d_MO_compile_149 ?_
          refine ab_iload d_MO_compile_150 rfl ?_
          refine ab_iadd d_MO_compile_152 ?_
          refine ab_iload d_MO_compile_153 rfl ?_
          refine ab_if_le (tgt := 177) d_MO_compile_155 (by decide) (fun c => absurd c (by decide)) (fun _ => ?_)
          refine ab_iload d_MO_compile_158 rfl ?_
          refine ab_aload_n d_MO_compile_160 rfl ?_
          refine ab_getf (fs := (m_fv (vI 0) (vI 0) (vI 0) (vI 0) (vI 0) (vI 0) (vI 0) (vI 0) (vI 2) (vI 0) (vI ((xs 2) &&& 15)) (vI 0) (vI (-1)) (vI 0) (vI 0) (vI 0) (vI 0) (vI 0) (vI 0) (vI (xs 1)) (vI 0) (vI 0) (vI 0) (vI 0) (vI 0) (vI 0) (vI 0) (vI 0) (vI 0) (vI 0) (vI 0) (vI 0) (vI 0) (vI 0) (vI 0))) f_MO_395 d_MO_compile_161 h80 rfl ?_
          refine ab_icmp_gt (tgt := 177) d_MO_compile_164 (by decide) (fun _ => ?_) (fun c => absurd c (by decide))
          refine ab_iconst (v := 0) d_MO_compile_177 (by decide) ?_
          refine ab_iast d_MO_compile_178 h127 (vp_in_iff.mpr (by have l0 := (show (0 : Int32).toInt = 0 by decide); have l1 := (show (5 : Int32).toInt = 5 by decide); have l2 := (show (10 : Int32).toInt = 10 by decide); have l3 := (show (31 : Int32).toInt = 31 by decide); simp only [Int32.le_iff_toInt_le, Int32.lt_iff_toInt_lt, ← Int32.toInt_inj] at c0 c1 c2 c3 c4 c5 c6 c7; have e0 : Int32.toInt (10 * (xs 1)) = Int32.toInt 10 * Int32.toInt (xs 1) := i32_mul (by simp only [l0, l1, l2, l3]; omega) (by simp only [l0, l1, l2, l3]; omega); have e1 : Int32.toInt ((10 * (xs 1)) + 5) = Int32.toInt (10 * (xs 1)) + Int32.toInt 5 := i32_add (by simp only [l0, l1, l2, l3, e0]; omega) (by simp only [l0, l1, l2, l3, e0]; omega); (try simp only [l0, l1, l2, l3] at e0 e1); constructor <;> omega)) (by decide) ?_
          obtain ⟨G77, eG77⟩ : ∃ z : ab_G, z = List.set G76 127 (ab_if 60 ((upd f127_53 (Int32.toNatClampNeg ((10 * (xs 1)) + 5)) 0))) := ⟨_, rfl⟩
          have h80 := ab_keep eG77 (by decide) h80
          have h110 := ab_keep eG77 (by decide) h110
          have h126 := ab_keep eG77 (by decide) h126
          have hlen := ab_klen eG77 hlen
          have hsl := ab_ksl 60 eG77 h127 rfl rfl hsl
          have hfr := hfr.wr eG77 (by decide)
          have hpk := hpk.wr eG77 (by decide)
          have h127 := ab_kept eG77 h127
          change ab_W _ _ _ (List.set G76 127 (ab_if 60 ((upd f127_53 (Int32.toNatClampNeg ((10 * (xs 1)) + 5)) 0)))) 179 [some (vR 80), some (vI (xs 1)), some (vI (xs 2)), some (vI 1), some (vI 5), some (vI 12)] [] _
          rw [← eG77]
          obtain ⟨f127_66, h127⟩ : ∃ g : Nat → Int32, G77[127]? = some (ab_if 60 (g)) := ⟨_, h127⟩
          refine ab_iconst (v := 0) d_MO_compile_179 (by decide) ?_
          refine ab_istore d_MO_compile_180 (Nat.le_of_ble_eq_true rfl) (Nat.le_of_ble_eq_true rfl) rfl ?_
          change ab_W _ _ _ G77 182 [some (vR 80), some (vI (xs 1)), some (vI (xs 2)), some (vI 1), some (vI 5), some (vI 0)] [] _
          refine ab_iload d_MO_compile_182 rfl ?_
          refine ab_bipush (v := 12) d_MO_compile_184 (by decide) ?_
          refine ab_icmp_ge (tgt := 226) d_MO_compile_186 (by decide) (fun c => absurd c (by decide)) (fun _ => ?_)
          refine ab_aload_n d_MO_compile_189 rfl ?_
          refine ab_getf (fs := (m_fv (vI 0) (vI 0) (vI 0) (vI 0) (vI 0) (vI 0) (vI 0) (vI 0) (vI 2) (vI 0) (vI ((xs 2) &&& 15)) (vI 0) (vI (-1)) (vI 0) (vI 0) (vI 0) (vI 0) (vI 0) (vI 0) (vI (xs 1)) (vI 0) (vI 0) (vI 0) (vI 0) (vI 0) (vI 0) (vI 0) (vI 0) (vI 0) (vI 0) (vI 0) (vI 0) (vI 0) (vI 0) (vI 0))) f_MO_152 d_MO_compile_190 h80 rfl ?_
          refine ab_bipush (v := 120) d_MO_compile_193 (by decide) ?_
          refine ab_iload_n d_MO_compile_195 rfl ?_
          refine ab_imul d_MO_compile_196 ?_
          refine ab_bipush (v := 12) d_MO_compile_197 (by decide) ?_
          refine ab_iload d_MO_compile_199 rfl ?_
          refine ab_imul d_MO_compile_201 ?_
          refine ab_topi (y := 60) (by decide) ?_
          refine ab_iadd d_MO_compile_202 ?_
          refine ab_iload d_MO_compile_203 rfl ?_
          refine ab_iadd d_MO_compile_205 ?_
          refine ab_topi (y := ((120 * (xs 1)) + 60)) (Int32.add_zero _) ?_
          refine ab_aload_n d_MO_compile_206 rfl ?_
          refine ab_getf (fs := (m_fv (vI 0) (vI 0) (vI 0) (vI 0) (vI 0) (vI 0) (vI 0) (vI 0) (vI 2) (vI 0) (vI ((xs 2) &&& 15)) (vI 0) (vI (-1)) (vI 0) (vI 0) (vI 0) (vI 0) (vI 0) (vI 0) (vI (xs 1)) (vI 0) (vI 0) (vI 0) (vI 0) (vI 0) (vI 0) (vI 0) (vI 0) (vI 0) (vI 0) (vI 0) (vI 0) (vI 0) (vI 0) (vI 0))) f_MO_103 d_MO_compile_207 h80 rfl ?_
          refine ab_bipush (v := 12) d_MO_compile_210 (by decide) ?_
          refine ab_iload d_MO_compile_212 rfl ?_
          refine ab_imul d_MO_compile_214 ?_
          refine ab_topi (y := 60) (by decide) ?_
          refine ab_iload d_MO_compile_215 rfl ?_
          refine ab_iadd d_MO_compile_217 ?_
          refine ab_topi (y := 60) (by decide) ?_
          refine ab_iald d_MO_compile_218 h110 (by unfold vp_in; decide) ?_
          refine ab_topi (y := 0) rfl ?_
          refine ab_iast d_MO_compile_219 h126 (vp_in_iff.mpr (by have l0 := (show (0 : Int32).toInt = 0 by decide); have l1 := (show (5 : Int32).toInt = 5 by decide); have l2 := (show (31 : Int32).toInt = 31 by decide); have l3 := (show (60 : Int32).toInt = 60 by decide); have l4 := (show (120 : Int32).toInt = 120 by decide); simp only [Int32.le_iff_toInt_le, Int32.lt_iff_toInt_lt, ← Int32.toInt_inj] at c0 c1 c2 c3 c4 c5 c6 c7; have e0 : Int32.toInt (120 * (xs 1)) = Int32.toInt 120 * Int32.toInt (xs 1) := i32_mul (by simp only [l0, l1, l2, l3, l4]; omega) (by simp only [l0, l1, l2, l3, l4]; omega); have e1 : Int32.toInt ((120 * (xs 1)) + 60) = Int32.toInt (120 * (xs 1)) + Int32.toInt 60 := i32_add (by simp only [l0, l1, l2, l3, l4, e0]; omega) (by simp only [l0, l1, l2, l3, l4, e0]; omega); (try simp only [l0, l1, l2, l3, l4] at e0 e1); constructor <;> omega)) (by decide) ?_
          obtain ⟨G78, eG78⟩ : ∃ z : ab_G, z = List.set G77 126 (ab_if 720 ((upd f126_65 (Int32.toNatClampNeg ((120 * (xs 1)) + 60)) 0))) := ⟨_, rfl⟩
          have h80 := ab_keep eG78 (by decide) h80
          have h110 := ab_keep eG78 (by decide) h110
          have h127 := ab_keep eG78 (by decide) h127
          have hlen := ab_klen eG78 hlen
          have hsl := ab_ksl 720 eG78 h126 rfl rfl hsl
          have hfr := hfr.wr eG78 (by decide)
          have hpk := hpk.wr eG78 (by decide)
          have h126 := ab_kept eG78 h126
          change ab_W _ _ _ (List.set G77 126 (ab_if 720 ((upd f126_65 (Int32.toNatClampNeg ((120 * (xs 1)) + 60)) 0)))) 220 [some (vR 80), some (vI (xs 1)), some (vI (xs 2)), some (vI 1), some (vI 5), some (vI 0)] [] _
          rw [← eG78]
          obtain ⟨f126_67, h126⟩ : ∃ g : Nat → Int32, G78[126]? = some (ab_if 720 (g)) := ⟨_, h126⟩
          refine ab_iinc (v := 1) d_MO_compile_220 rfl (by decide) (Nat.le_of_ble_eq_true rfl) (Nat.le_of_ble_eq_true rfl) rfl ?_
          change ab_W _ _ _ G78 223 [some (vR 80), some (vI (xs 1)), some (vI (xs 2)), some (vI 1), some (vI 5), some (vI 1)] [] _
          refine ab_goto (tgt := 182) d_MO_compile_223 (by decide) ?_
          refine ab_iload d_MO_compile_182 rfl ?_
          refine ab_bipush (v := 12) d_MO_compile_184 (by decide) ?_
          refine ab_icmp_ge (tgt := 226) d_MO_compile_186 (by decide) (fun c => absurd c (by decide)) (fun _ => ?_)
          refine ab_aload_n d_MO_compile_189 rfl ?_
          refine ab_getf (fs := (m_fv (vI 0) (vI 0) (vI 0) (vI 0) (vI 0) (vI 0) (vI 0) (vI 0) (vI 2) (vI 0) (vI ((xs 2) &&& 15)) (vI 0) (vI (-1)) (vI 0) (vI 0) (vI 0) (vI 0) (vI 0) (vI 0) (vI (xs 1)) (vI 0) (vI 0) (vI 0) (vI 0) (vI 0) (vI 0) (vI 0) (vI 0) (vI 0) (vI 0) (vI 0) (vI 0) (vI 0) (vI 0) (vI 0))) f_MO_152 d_MO_compile_190 h80 rfl ?_
          refine ab_bipush (v := 120) d_MO_compile_193 (by decide) ?_
          refine ab_iload_n d_MO_compile_195 rfl ?_
          refine ab_imul d_MO_compile_196 ?_
          refine ab_bipush (v := 12) d_MO_compile_197 (by decide) ?_
          refine ab_iload d_MO_compile_199 rfl ?_
          refine ab_imul d_MO_compile_201 ?_
          refine ab_topi (y := 60) (by decide) ?_
          refine ab_iadd d_MO_compile_202 ?_
          refine ab_iload d_MO_compile_203 rfl ?_
          refine ab_iadd d_MO_compile_205 ?_
          refine ab_aload_n d_MO_compile_206 rfl ?_
          refine ab_getf (fs := (m_fv (vI 0) (vI 0) (vI 0) (vI 0) (vI 0) (vI 0) (vI 0) (vI 0) (vI 2) (vI 0) (vI ((xs 2) &&& 15)) (vI 0) (vI (-1)) (vI 0) (vI 0) (vI 0) (vI 0) (vI 0) (vI 0) (vI (xs 1)) (vI 0) (vI 0) (vI 0) (vI 0) (vI 0) (vI 0) (vI 0) (vI 0) (vI 0) (vI 0) (vI 0) (vI 0) (vI 0) (vI 0) (vI 0))) f_MO_103 d_MO_compile_207 h80 rfl ?_
          refine ab_bipush (v := 12) d_MO_compile_210 (by decide) ?_
          refine ab_iload d_MO_compile_212 rfl ?_
          refine ab_imul d_MO_compile_214 ?_
          refine ab_topi (y := 60) (by decide) ?_
          refine ab_iload d_MO_compile_215 rfl ?_
          refine ab_iadd d_MO_compile_217 ?_
          refine ab_topi (y := 61) (by decide) ?_
          refine ab_iald d_MO_compile_218 h110 (by unfold vp_in; decide) ?_
          refine ab_topi (y := 0) rfl ?_
          refine ab_iast d_MO_compile_219 h126 (vp_in_iff.mpr (by have l0 := (show (0 : Int32).toInt = 0 by decide); have l1 := (show (1 : Int32).toInt = 1 by decide); have l2 := (show (5 : Int32).toInt = 5 by decide); have l3 := (show (31 : Int32).toInt = 31 by decide); have l4 := (show (60 : Int32).toInt = 60 by decide); have l5 := (show (120 : Int32).toInt = 120 by decide); simp only [Int32.le_iff_toInt_le, Int32.lt_iff_toInt_lt, ← Int32.toInt_inj] at c0 c1 c2 c3 c4 c5 c6 c7; have e0 : Int32.toInt (120 * (xs 1)) = Int32.toInt 120 * Int32.toInt (xs 1) := i32_mul (by simp only [l0, l1, l2, l3, l4, l5]; omega) (by simp only [l0, l1, l2, l3, l4, l5]; omega); have e1 : Int32.toInt ((120 * (xs 1)) + 60) = Int32.toInt (120 * (xs 1)) + Int32.toInt 60 := i32_add (by simp only [l0, l1, l2, l3, l4, l5, e0]; omega) (by simp only [l0, l1, l2, l3, l4, l5, e0]; omega); have e2 : Int32.toInt (((120 * (xs 1)) + 60) + 1) = Int32.toInt ((120 * (xs 1)) + 60) + Int32.toInt 1 := i32_add (by simp only [l0, l1, l2, l3, l4, l5, e0, e1]; omega) (by simp only [l0, l1, l2, l3, l4, l5, e0, e1]; omega); (try simp only [l0, l1, l2, l3, l4, l5] at e0 e1 e2); constructor <;> omega)) (by decide) ?_
          obtain ⟨G79, eG79⟩ : ∃ z : ab_G, z = List.set G78 126 (ab_if 720 ((upd f126_67 (Int32.toNatClampNeg (((120 * (xs 1)) + 60) + 1)) 0))) := ⟨_, rfl⟩
          have h80 := ab_keep eG79 (by decide) h80
          have h110 := ab_keep eG79 (by decide) h110
          have h127 := ab_keep eG79 (by decide) h127
          have hlen := ab_klen eG79 hlen
          have hsl := ab_ksl 720 eG79 h126 rfl rfl hsl
          have hfr := hfr.wr eG79 (by decide)
          have hpk := hpk.wr eG79 (by decide)
          have h126 := ab_kept eG79 h126
          change ab_W _ _ _ (List.set G78 126 (ab_if 720 ((upd f126_67 (Int32.toNatClampNeg (((120 * (xs 1)) + 60) + 1)) 0)))) 220 [some (vR 80), some (vI (xs 1)), some (vI (xs 2)), some (vI 1), some (vI 5), some (vI 1)] [] _
          rw [← eG79]
          obtain ⟨f126_68, h126⟩ : ∃ g : Nat → Int32, G79[126]? = some (ab_if 720 (g)) := ⟨_, h126⟩
          refine ab_iinc (v := 2) d_MO_compile_220 rfl (by decide) (Nat.le_of_ble_eq_true rfl) (Nat.le_of_ble_eq_true rfl) rfl ?_
          change ab_W _ _ _ G79 223 [some (vR 80), some (vI (xs 1)), some (vI (xs 2)), some (vI 1), some (vI 5), some (vI 2)] [] _
          refine ab_goto (tgt := 182) d_MO_compile_223 (by decide) ?_
          refine ab_iload d_MO_compile_182 rfl ?_
          refine ab_bipush (v := 12) d_MO_compile_184 (by decide) ?_
          refine ab_icmp_ge (tgt := 226) d_MO_compile_186 (by decide) (fun c => absurd c (by decide)) (fun _ => ?_)
          refine ab_aload_n d_MO_compile_189 rfl ?_
          refine ab_getf (fs := (m_fv (vI 0) (vI 0) (vI 0) (vI 0) (vI 0) (vI 0) (vI 0) (vI 0) (vI 2) (vI 0) (vI ((xs 2) &&& 15)) (vI 0) (vI (-1)) (vI 0) (vI 0) (vI 0) (vI 0) (vI 0) (vI 0) (vI (xs 1)) (vI 0) (vI 0) (vI 0) (vI 0) (vI 0) (vI 0) (vI 0) (vI 0) (vI 0) (vI 0) (vI 0) (vI 0) (vI 0) (vI 0) (vI 0))) f_MO_152 d_MO_compile_190 h80 rfl ?_
          refine ab_bipush (v := 120) d_MO_compile_193 (by decide) ?_
          refine ab_iload_n d_MO_compile_195 rfl ?_
          refine ab_imul d_MO_compile_196 ?_
          refine ab_bipush (v := 12) d_MO_compile_197 (by decide) ?_
          refine ab_iload d_MO_compile_199 rfl ?_
          refine ab_imul d_MO_compile_201 ?_
          refine ab_topi (y := 60) (by decide) ?_
          refine ab_iadd d_MO_compile_202 ?_
          refine ab_iload d_MO_compile_203 rfl ?_
          refine ab_iadd d_MO_compile_205 ?_
          refine ab_aload_n d_MO_compile_206 rfl ?_
          refine ab_getf (fs := (m_fv (vI 0) (vI 0) (vI 0) (vI 0) (vI 0) (vI 0) (vI 0) (vI 0) (vI 2) (vI 0) (vI ((xs 2) &&& 15)) (vI 0) (vI (-1)) (vI 0) (vI 0) (vI 0) (vI 0) (vI 0) (vI 0) (vI (xs 1)) (vI 0) (vI 0) (vI 0) (vI 0) (vI 0) (vI 0) (vI 0) (vI 0) (vI 0) (vI 0) (vI 0) (vI 0) (vI 0) (vI 0) (vI 0))) f_MO_103 d_MO_compile_207 h80 rfl ?_
          refine ab_bipush (v := 12) d_MO_compile_210 (by decide) ?_
          refine ab_iload d_MO_compile_212 rfl ?_
          refine ab_imul d_MO_compile_214 ?_
          refine ab_topi (y := 60) (by decide) ?_
          refine ab_iload d_MO_compile_215 rfl ?_
          refine ab_iadd d_MO_compile_217 ?_
          refine ab_topi (y := 62) (by decide) ?_
          refine ab_iald d_MO_compile_218 h110 (by unfold vp_in; decide) ?_
          refine ab_topi (y := 0) rfl ?_
          refine ab_iast d_MO_compile_219 h126 (vp_in_iff.mpr (by have l0 := (show (0 : Int32).toInt = 0 by decide); have l1 := (show (2 : Int32).toInt = 2 by decide); have l2 := (show (5 : Int32).toInt = 5 by decide); have l3 := (show (31 : Int32).toInt = 31 by decide); have l4 := (show (60 : Int32).toInt = 60 by decide); have l5 := (show (120 : Int32).toInt = 120 by decide); simp only [Int32.le_iff_toInt_le, Int32.lt_iff_toInt_lt, ← Int32.toInt_inj] at c0 c1 c2 c3 c4 c5 c6 c7; have e0 : Int32.toInt (120 * (xs 1)) = Int32.toInt 120 * Int32.toInt (xs 1) := i32_mul (by simp only [l0, l1, l2, l3, l4, l5]; omega) (by simp only [l0, l1, l2, l3, l4, l5]; omega); have e1 : Int32.toInt ((120 * (xs 1)) + 60) = Int32.toInt (120 * (xs 1)) + Int32.toInt 60 := i32_add (by simp only [l0, l1, l2, l3, l4, l5, e0]; omega) (by simp only [l0, l1, l2, l3, l4, l5, e0]; omega); have e2 : Int32.toInt (((120 * (xs 1)) + 60) + 2) = Int32.toInt ((120 * (xs 1)) + 60) + Int32.toInt 2 := i32_add (by simp only [l0, l1, l2, l3, l4, l5, e0, e1]; omega) (by simp only [l0, l1, l2, l3, l4, l5, e0, e1]; omega); (try simp only [l0, l1, l2, l3, l4, l5] at e0 e1 e2); constructor <;> omega)) (by decide) ?_
          obtain ⟨G80, eG80⟩ : ∃ z : ab_G, z = List.set G79 126 (ab_if 720 ((upd f126_68 (Int32.toNatClampNeg (((120 * (xs 1)) + 60) + 2)) 0))) := ⟨_, rfl⟩
          have h80 := ab_keep eG80 (by decide) h80
          have h110 := ab_keep eG80 (by decide) h110
          have h127 := ab_keep eG80 (by decide) h127
          have hlen := ab_klen eG80 hlen
          have hsl := ab_ksl 720 eG80 h126 rfl rfl hsl
          have hfr := hfr.wr eG80 (by decide)
          have hpk := hpk.wr eG80 (by decide)
          have h126 := ab_kept eG80 h126
          change ab_W _ _ _ (List.set G79 126 (ab_if 720 ((upd f126_68 (Int32.toNatClampNeg (((120 * (xs 1)) + 60) + 2)) 0)))) 220 [some (vR 80), some (vI (xs 1)), some (vI (xs 2)), some (vI 1), some (vI 5), some (vI 2)] [] _
          rw [← eG80]
          obtain ⟨f126_69, h126⟩ : ∃ g : Nat → Int32, G80[126]? = some (ab_if 720 (g)) := ⟨_, h126⟩
          refine ab_iinc (v := 3) d_MO_compile_220 rfl (by decide) (Nat.le_of_ble_eq_true rfl) (Nat.le_of_ble_eq_true rfl) rfl ?_
          change ab_W _ _ _ G80 223 [some (vR 80), some (vI (xs 1)), some (vI (xs 2)), some (vI 1), some (vI 5), some (vI 3)] [] _
          refine ab_goto (tgt := 182) d_MO_compile_223 (by decide) ?_
          refine ab_iload d_MO_compile_182 rfl ?_
          refine ab_bipush (v := 12) d_MO_compile_184 (by decide) ?_
          refine ab_icmp_ge (tgt := 226) d_MO_compile_186 (by decide) (fun c => absurd c (by decide)) (fun _ => ?_)
          refine ab_aload_n d_MO_compile_189 rfl ?_
          refine ab_getf (fs := (m_fv (vI 0) (vI 0) (vI 0) (vI 0) (vI 0) (vI 0) (vI 0) (vI 0) (vI 2) (vI 0) (vI ((xs 2) &&& 15)) (vI 0) (vI (-1)) (vI 0) (vI 0) (vI 0) (vI 0) (vI 0) (vI 0) (vI (xs 1)) (vI 0) (vI 0) (vI 0) (vI 0) (vI 0) (vI 0) (vI 0) (vI 0) (vI 0) (vI 0) (vI 0) (vI 0) (vI 0) (vI 0) (vI 0))) f_MO_152 d_MO_compile_190 h80 rfl ?_
          refine ab_bipush (v := 120) d_MO_compile_193 (by decide) ?_
          refine ab_iload_n d_MO_compile_195 rfl ?_
          refine ab_imul d_MO_compile_196 ?_
          refine ab_bipush (v := 12) d_MO_compile_197 (by decide) ?_
          refine ab_iload d_MO_compile_199 rfl ?_
          refine ab_imul d_MO_compile_201 ?_
          refine ab_topi (y := 60) (by decide) ?_
          refine ab_iadd d_MO_compile_202 ?_
          refine ab_iload d_MO_compile_203 rfl ?_
          refine ab_iadd d_MO_compile_205 ?_
          refine ab_aload_n d_MO_compile_206 rfl ?_
          refine ab_getf (fs := (m_fv (vI 0) (vI 0) (vI 0) (vI 0) (vI 0) (vI 0) (vI 0) (vI 0) (vI 2) (vI 0) (vI ((xs 2) &&& 15)) (vI 0) (vI (-1)) (vI 0) (vI 0) (vI 0) (vI 0) (vI 0) (vI 0) (vI (xs 1)) (vI 0) (vI 0) (vI 0) (vI 0) (vI 0) (vI 0) (vI 0) (vI 0) (vI 0) (vI 0) (vI 0) (vI 0) (vI 0) (vI 0) (vI 0))) f_MO_103 d_MO_compile_207 h80 rfl ?_
          refine ab_bipush (v := 12) d_MO_compile_210 (by decide) ?_
          refine ab_iload d_MO_compile_212 rfl ?_
          refine ab_imul d_MO_compile_214 ?_
          refine ab_topi (y := 60) (by decide) ?_
          refine ab_iload d_MO_compile_215 rfl ?_
          refine ab_iadd d_MO_compile_217 ?_
          refine ab_topi (y := 63) (by decide) ?_
          refine ab_iald d_MO_compile_218 h110 (by unfold vp_in; decide) ?_
          refine ab_topi (y := 0) rfl ?_
          refine ab_iast d_MO_compile_219 h126 (vp_in_iff.mpr (by have l0 := (show (0 : Int32).toInt = 0 by decide); have l1 := (show (3 : Int32).toInt = 3 by decide); have l2 := (show (5 : Int32).toInt = 5 by decide); have l3 := (show (31 : Int32).toInt = 31 by decide); have l4 := (show (60 : Int32).toInt = 60 by decide); have l5 := (show (120 : Int32).toInt = 120 by decide); simp only [Int32.le_iff_toInt_le, Int32.lt_iff_toInt_lt, ← Int32.toInt_inj] at c0 c1 c2 c3 c4 c5 c6 c7; have e0 : Int32.toInt (120 * (xs 1)) = Int32.toInt 120 * Int32.toInt (xs 1) := i32_mul (by simp only [l0, l1, l2, l3, l4, l5]; omega) (by simp only [l0, l1, l2, l3, l4, l5]; omega); have e1 : Int32.toInt ((120 * (xs 1)) + 60) = Int32.toInt (120 * (xs 1)) + Int32.toInt 60 := i32_add (by simp only [l0, l1, l2, l3, l4, l5, e0]; omega) (by simp only [l0, l1, l2, l3, l4, l5, e0]; omega); have e2 : Int32.toInt (((120 * (xs 1)) + 60) + 3) = Int32.toInt ((120 * (xs 1)) + 60) + Int32.toInt 3 := i32_add (by simp only [l0, l1, l2, l3, l4, l5, e0, e1]; omega) (by simp only [l0, l1, l2, l3, l4, l5, e0, e1]; omega); (try simp only [l0, l1, l2, l3, l4, l5] at e0 e1 e2); constructor <;> omega)) (by decide) ?_
          obtain ⟨G81, eG81⟩ : ∃ z : ab_G, z = List.set G80 126 (ab_if 720 ((upd f126_69 (Int32.toNatClampNeg (((120 * (xs 1)) + 60) + 3)) 0))) := ⟨_, rfl⟩
          have h80 := ab_keep eG81 (by decide) h80
          have h110 := ab_keep eG81 (by decide) h110
          have h127 := ab_keep eG81 (by decide) h127
          have hlen := ab_klen eG81 hlen
          have hsl := ab_ksl 720 eG81 h126 rfl rfl hsl
          have hfr := hfr.wr eG81 (by decide)
          have hpk := hpk.wr eG81 (by decide)
          have h126 := ab_kept eG81 h126
          change ab_W _ _ _ (List.set G80 126 (ab_if 720 ((upd f126_69 (Int32.toNatClampNeg (((120 * (xs 1)) + 60) + 3)) 0)))) 220 [some (vR 80), some (vI (xs 1)), some (vI (xs 2)), some (vI 1), some (vI 5), some (vI 3)] [] _
          rw [← eG81]
          obtain ⟨f126_70, h126⟩ : ∃ g : Nat → Int32, G81[126]? = some (ab_if 720 (g)) := ⟨_, h126⟩
          refine ab_iinc (v := 4) d_MO_compile_220 rfl (by decide) (Nat.le_of_ble_eq_true rfl) (Nat.le_of_ble_eq_true rfl) rfl ?_
          change ab_W _ _ _ G81 223 [some (vR 80), some (vI (xs 1)), some (vI (xs 2)), some (vI 1), some (vI 5), some (vI 4)] [] _
          refine ab_goto (tgt := 182) d_MO_compile_223 (by decide) ?_
          refine ab_iload d_MO_compile_182 rfl ?_
          refine ab_bipush (v := 12) d_MO_compile_184 (by decide) ?_
          refine ab_icmp_ge (tgt := 226) d_MO_compile_186 (by decide) (fun c => absurd c (by decide)) (fun _ => ?_)
          refine ab_aload_n d_MO_compile_189 rfl ?_
          refine ab_getf (fs := (m_fv (vI 0) (vI 0) (vI 0) (vI 0) (vI 0) (vI 0) (vI 0) (vI 0) (vI 2) (vI 0) (vI ((xs 2) &&& 15)) (vI 0) (vI (-1)) (vI 0) (vI 0) (vI 0) (vI 0) (vI 0) (vI 0) (vI (xs 1)) (vI 0) (vI 0) (vI 0) (vI 0) (vI 0) (vI 0) (vI 0) (vI 0) (vI 0) (vI 0) (vI 0) (vI 0) (vI 0) (vI 0) (vI 0))) f_MO_152 d_MO_compile_190 h80 rfl ?_
          refine ab_bipush (v := 120) d_MO_compile_193 (by decide) ?_
          refine ab_iload_n d_MO_compile_195 rfl ?_
          refine ab_imul d_MO_compile_196 ?_
          refine ab_bipush (v := 12) d_MO_compile_197 (by decide) ?_
          refine ab_iload d_MO_compile_199 rfl ?_
          refine ab_imul d_MO_compile_201 ?_
          refine ab_topi (y := 60) (by decide) ?_
          refine ab_iadd d_MO_compile_202 ?_
          refine ab_iload d_MO_compile_203 rfl ?_
          refine ab_iadd d_MO_compile_205 ?_
          refine ab_aload_n d_MO_compile_206 rfl ?_
          refine ab_getf (fs := (m_fv (vI 0) (vI 0) (vI 0) (vI 0) (vI 0) (vI 0) (vI 0) (vI 0) (vI 2) (vI 0) (vI ((xs 2) &&& 15)) (vI 0) (vI (-1)) (vI 0) (vI 0) (vI 0) (vI 0) (vI 0) (vI 0) (vI (xs 1)) (vI 0) (vI 0) (vI 0) (vI 0) (vI 0) (vI 0) (vI 0) (vI 0) (vI 0) (vI 0) (vI 0) (vI 0) (vI 0) (vI 0) (vI 0))) f_MO_103 d_MO_compile_207 h80 rfl ?_
          refine ab_bipush (v := 12) d_MO_compile_210 (by decide) ?_
          refine ab_iload d_MO_compile_212 rfl ?_
          refine ab_imul d_MO_compile_214 ?_
          refine ab_topi (y := 60) (by decide) ?_
          refine ab_iload d_MO_compile_215 rfl ?_
          refine ab_iadd d_MO_compile_217 ?_
          refine ab_topi (y := 64) (by decide) ?_
          refine ab_iald d_MO_compile_218 h110 (by unfold vp_in; decide) ?_
          refine ab_topi (y := 0) rfl ?_
          refine ab_iast d_MO_compile_219 h126 (vp_in_iff.mpr (by have l0 := (show (0 : Int32).toInt = 0 by decide); have l1 := (show (4 : Int32).toInt = 4 by decide); have l2 := (show (5 : Int32).toInt = 5 by decide); have l3 := (show (31 : Int32).toInt = 31 by decide); have l4 := (show (60 : Int32).toInt = 60 by decide); have l5 := (show (120 : Int32).toInt = 120 by decide); simp only [Int32.le_iff_toInt_le, Int32.lt_iff_toInt_lt, ← Int32.toInt_inj] at c0 c1 c2 c3 c4 c5 c6 c7; have e0 : Int32.toInt (120 * (xs 1)) = Int32.toInt 120 * Int32.toInt (xs 1) := i32_mul (by simp only [l0, l1, l2, l3, l4, l5]; omega) (by simp only [l0, l1, l2, l3, l4, l5]; omega); have e1 : Int32.toInt ((120 * (xs 1)) + 60) = Int32.toInt (120 * (xs 1)) + Int32.toInt 60 := i32_add (by simp only [l0, l1, l2, l3, l4, l5, e0]; omega) (by simp only [l0, l1, l2, l3, l4, l5, e0]; omega); have e2 : Int32.toInt (((120 * (xs 1)) + 60) + 4) = Int32.toInt ((120 * (xs 1)) + 60) + Int32.toInt 4 := i32_add (by simp only [l0, l1, l2, l3, l4, l5, e0, e1]; omega) (by simp only [l0, l1, l2, l3, l4, l5, e0, e1]; omega); (try simp only [l0, l1, l2, l3, l4, l5] at e0 e1 e2); constructor <;> omega)) (by decide) ?_
          obtain ⟨G82, eG82⟩ : ∃ z : ab_G, z = List.set G81 126 (ab_if 720 ((upd f126_70 (Int32.toNatClampNeg (((120 * (xs 1)) + 60) + 4)) 0))) := ⟨_, rfl⟩
          have h80 := ab_keep eG82 (by decide) h80
          have h110 := ab_keep eG82 (by decide) h110
          have h127 := ab_keep eG82 (by decide) h127
          have hlen := ab_klen eG82 hlen
          have hsl := ab_ksl 720 eG82 h126 rfl rfl hsl
          have hfr := hfr.wr eG82 (by decide)
          have hpk := hpk.wr eG82 (by decide)
          have h126 := ab_kept eG82 h126
          change ab_W _ _ _ (List.set G81 126 (ab_if 720 ((upd f126_70 (Int32.toNatClampNeg (((120 * (xs 1)) + 60) + 4)) 0)))) 220 [some (vR 80), some (vI (xs 1)), some (vI (xs 2)), some (vI 1), some (vI 5), some (vI 4)] [] _
          rw [← eG82]
          obtain ⟨f126_71, h126⟩ : ∃ g : Nat → Int32, G82[126]? = some (ab_if 720 (g)) := ⟨_, h126⟩
          refine ab_iinc (v := 5) d_MO_compile_220 rfl (by decide) (Nat.le_of_ble_eq_true rfl) (Nat.le_of_ble_eq_true rfl) rfl ?_
          change ab_W _ _ _ G82 223 [some (vR 80), some (vI (xs 1)), some (vI (xs 2)), some (vI 1), some (vI 5), some (vI 5)] [] _
          refine ab_goto (tgt := 182) d_MO_compile_223 (by decide) ?_
          refine ab_iload d_MO_compile_182 rfl ?_
          refine ab_bipush (v := 12) d_MO_compile_184 (by decide) ?_
          refine ab_icmp_ge (tgt := 226) d_MO_compile_186 (by decide) (fun c => absurd c (by decide)) (fun _ => ?_)
          refine ab_aload_n d_MO_compile_189 rfl ?_
          refine ab_getf (fs := (m_fv (vI 0) (vI 0) (vI 0) (vI 0) (vI 0) (vI 0) (vI 0) (vI 0) (vI 2) (vI 0) (vI ((xs 2) &&& 15)) (vI 0) (vI (-1)) (vI 0) (vI 0) (vI 0) (vI 0) (vI 0) (vI 0) (vI (xs 1)) (vI 0) (vI 0) (vI 0) (vI 0) (vI 0) (vI 0) (vI 0) (vI 0) (vI 0) (vI 0) (vI 0) (vI 0) (vI 0) (vI 0) (vI 0))) f_MO_152 d_MO_compile_190 h80 rfl ?_
          refine ab_bipush (v := 120) d_MO_compile_193 (by decide) ?_
          refine ab_iload_n d_MO_compile_195 rfl ?_
          refine ab_imul d_MO_compile_196 ?_
          refine ab_bipush (v := 12) d_MO_compile_197 (by decide) ?_
          refine ab_iload d_MO_compile_199 rfl ?_
          refine ab_imul d_MO_compile_201 ?_
          refine ab_topi (y := 60) (by decide) ?_
          refine ab_iadd d_MO_compile_202 ?_
          refine ab_iload d_MO_compile_203 rfl ?_
          refine ab_iadd d_MO_compile_205 ?_
          refine ab_aload_n d_MO_compile_206 rfl ?_
          refine ab_getf (fs := (m_fv (vI 0) (vI 0) (vI 0) (vI 0) (vI 0) (vI 0) (vI 0) (vI 0) (vI 2) (vI 0) (vI ((xs 2) &&& 15)) (vI 0) (vI (-1)) (vI 0) (vI 0) (vI 0) (vI 0) (vI 0) (vI 0) (vI (xs 1)) (vI 0) (vI 0) (vI 0) (vI 0) (vI 0) (vI 0) (vI 0) (vI 0) (vI 0) (vI 0) (vI 0) (vI 0) (vI 0) (vI 0) (vI 0))) f_MO_103 d_MO_compile_207 h80 rfl ?_
          refine ab_bipush (v := 12) d_MO_compile_210 (by decide) ?_
          refine ab_iload d_MO_compile_212 rfl ?_
          refine ab_imul d_MO_compile_214 ?_
          refine ab_topi (y := 60) (by decide) ?_
          refine ab_iload d_MO_compile_215 rfl ?_
          refine ab_iadd d_MO_compile_217 ?_
          refine ab_topi (y := 65) (by decide) ?_
          refine ab_iald d_MO_compile_218 h110 (by unfold vp_in; decide) ?_
          refine ab_topi (y := 0) rfl ?_
          refine ab_iast d_MO_compile_219 h126 (vp_in_iff.mpr (by have l0 := (show (0 : Int32).toInt = 0 by decide); have l1 := (show (5 : Int32).toInt = 5 by decide); have l2 := (show (31 : Int32).toInt = 31 by decide); have l3 := (show (60 : Int32).toInt = 60 by decide); have l4 := (show (120 : Int32).toInt = 120 by decide); simp only [Int32.le_iff_toInt_le, Int32.lt_iff_toInt_lt, ← Int32.toInt_inj] at c0 c1 c2 c3 c4 c5 c6 c7; have e0 : Int32.toInt (120 * (xs 1)) = Int32.toInt 120 * Int32.toInt (xs 1) := i32_mul (by simp only [l0, l1, l2, l3, l4]; omega) (by simp only [l0, l1, l2, l3, l4]; omega); have e1 : Int32.toInt ((120 * (xs 1)) + 60) = Int32.toInt (120 * (xs 1)) + Int32.toInt 60 := i32_add (by simp only [l0, l1, l2, l3, l4, e0]; omega) (by simp only [l0, l1, l2, l3, l4, e0]; omega); have e2 : Int32.toInt (((120 * (xs 1)) + 60) + 5) = Int32.toInt ((120 * (xs 1)) + 60) + Int32.toInt 5 := i32_add (by simp only [l0, l1, l2, l3, l4, e0, e1]; omega) (by simp only [l0, l1, l2, l3, l4, e0, e1]; omega); (try simp only [l0, l1, l2, l3, l4] at e0 e1 e2); constructor <;> omega)) (by decide) ?_
          obtain ⟨G83, eG83⟩ : ∃ z : ab_G, z = List.set G82 126 (ab_if 720 ((upd f126_71 (Int32.toNatClampNeg (((120 * (xs 1)) + 60) + 5)) 0))) := ⟨_, rfl⟩
          have h80 := ab_keep eG83 (by decide) h80
          have h110 := ab_keep eG83 (by decide) h110
          have h127 := ab_keep eG83 (by decide) h127
          have hlen := ab_klen eG83 hlen
          have hsl := ab_ksl 720 eG83 h126 rfl rfl hsl
          have hfr := hfr.wr eG83 (by decide)
          have hpk := hpk.wr eG83 (by decide)
          have h126 := ab_kept eG83 h126
          change ab_W _ _ _ (List.set G82 126 (ab_if 720 ((upd f126_71 (Int32.toNatClampNeg (((120 * (xs 1)) + 60) + 5)) 0)))) 220 [some (vR 80), some (vI (xs 1)), some (vI (xs 2)), some (vI 1), some (vI 5), some (vI 5)] [] _
          rw [← eG83]
          obtain ⟨f126_72, h126⟩ : ∃ g : Nat → Int32, G83[126]? = some (ab_if 720 (g)) := ⟨_, h126⟩
          refine ab_iinc (v := 6) d_MO_compile_220 rfl (by decide) (Nat.le_of_ble_eq_true rfl) (Nat.le_of_ble_eq_true rfl) rfl ?_
          change ab_W _ _ _ G83 223 [some (vR 80), some (vI (xs 1)), some (vI (xs 2)), some (vI 1), some (vI 5), some (vI 6)] [] _
          refine ab_goto (tgt := 182) d_MO_compile_223 (by decide) ?_
          refine ab_iload d_MO_compile_182 rfl ?_
          refine ab_bipush (v := 12) d_MO_compile_184 (by decide) ?_
          refine ab_icmp_ge (tgt := 226) d_MO_compile_186 (by decide) (fun c => absurd c (by decide)) (fun _ => ?_)
          refine ab_aload_n d_MO_compile_189 rfl ?_
          refine ab_getf (fs := (m_fv (vI 0) (vI 0) (vI 0) (vI 0) (vI 0) (vI 0) (vI 0) (vI 0) (vI 2) (vI 0) (vI ((xs 2) &&& 15)) (vI 0) (vI (-1)) (vI 0) (vI 0) (vI 0) (vI 0) (vI 0) (vI 0) (vI (xs 1)) (vI 0) (vI 0) (vI 0) (vI 0) (vI 0) (vI 0) (vI 0) (vI 0) (vI 0) (vI 0) (vI 0) (vI 0) (vI 0) (vI 0) (vI 0))) f_MO_152 d_MO_compile_190 h80 rfl ?_
          refine ab_bipush (v := 120) d_MO_compile_193 (by decide) ?_
          refine ab_iload_n d_MO_compile_195 rfl ?_
          refine ab_imul d_MO_compile_196 ?_
          refine ab_bipush (v := 12) d_MO_compile_197 (by decide) ?_
          refine ab_iload d_MO_compile_199 rfl ?_
          refine ab_imul d_MO_compile_201 ?_
          refine ab_topi (y := 60) (by decide) ?_
          refine ab_iadd d_MO_compile_202 ?_
          refine ab_iload d_MO_compile_203 rfl ?_
          refine ab_iadd d_MO_compile_205 ?_
          refine ab_aload_n d_MO_compile_206 rfl ?_
          refine ab_getf (fs := (m_fv (vI 0) (vI 0) (vI 0) (vI 0) (vI 0) (vI 0) (vI 0) (vI 0) (vI 2) (vI 0) (vI ((xs 2) &&& 15)) (vI 0) (vI (-1)) (vI 0) (vI 0) (vI 0) (vI 0) (vI 0) (vI 0) (vI (xs 1)) (vI 0) (vI 0) (vI 0) (vI 0) (vI 0) (vI 0) (vI 0) (vI 0) (vI 0) (vI 0) (vI 0) (vI 0) (vI 0) (vI 0) (vI 0))) f_MO_103 d_MO_compile_207 h80 rfl ?_
          refine ab_bipush (v := 12) d_MO_compile_210 (by decide) ?_
          refine ab_iload d_MO_compile_212 rfl ?_
          refine ab_imul d_MO_compile_214 ?_
          refine ab_topi (y := 60) (by decide) ?_
          refine ab_iload d_MO_compile_215 rfl ?_
          refine ab_iadd d_MO_compile_217 ?_
          refine ab_topi (y := 66) (by decide) ?_
          refine ab_iald d_MO_compile_218 h110 (by unfold vp_in; decide) ?_
          refine ab_topi (y := 0) rfl ?_
          refine ab_iast d_MO_compile_219 h126 (vp_in_iff.mpr (by have l0 := (show (0 : Int32).toInt = 0 by decide); have l1 := (show (5 : Int32).toInt = 5 by decide); have l2 := (show (6 : Int32).toInt = 6 by decide); have l3 := (show (31 : Int32).toInt = 31 by decide); have l4 := (show (60 : Int32).toInt = 60 by decide); have l5 := (show (120 : Int32).toInt = 120 by decide); simp only [Int32.le_iff_toInt_le, Int32.lt_iff_toInt_lt, ← Int32.toInt_inj] at c0 c1 c2 c3 c4 c5 c6 c7; have e0 : Int32.toInt (120 * (xs 1)) = Int32.toInt 120 * Int32.toInt (xs 1) := i32_mul (by simp only [l0, l1, l2, l3, l4, l5]; omega) (by simp only [l0, l1, l2, l3, l4, l5]; omega); have e1 : Int32.toInt ((120 * (xs 1)) + 60) = Int32.toInt (120 * (xs 1)) + Int32.toInt 60 := i32_add (by simp only [l0, l1, l2, l3, l4, l5, e0]; omega) (by simp only [l0, l1, l2, l3, l4, l5, e0]; omega); have e2 : Int32.toInt (((120 * (xs 1)) + 60) + 6) = Int32.toInt ((120 * (xs 1)) + 60) + Int32.toInt 6 := i32_add (by simp only [l0, l1, l2, l3, l4, l5, e0, e1]; omega) (by simp only [l0, l1, l2, l3, l4, l5, e0, e1]; omega); (try simp only [l0, l1, l2, l3, l4, l5] at e0 e1 e2); constructor <;> omega)) (by decide) ?_
          obtain ⟨G84, eG84⟩ : ∃ z : ab_G, z = List.set G83 126 (ab_if 720 ((upd f126_72 (Int32.toNatClampNeg (((120 * (xs 1)) + 60) + 6)) 0))) := ⟨_, rfl⟩
          have h80 := ab_keep eG84 (by decide) h80
          have h110 := ab_keep eG84 (by decide) h110
          have h127 := ab_keep eG84 (by decide) h127
          have hlen := ab_klen eG84 hlen
          have hsl := ab_ksl 720 eG84 h126 rfl rfl hsl
          have hfr := hfr.wr eG84 (by decide)
          have hpk := hpk.wr eG84 (by decide)
          have h126 := ab_kept eG84 h126
          change ab_W _ _ _ (List.set G83 126 (ab_if 720 ((upd f126_72 (Int32.toNatClampNeg (((120 * (xs 1)) + 60) + 6)) 0)))) 220 [some (vR 80), some (vI (xs 1)), some (vI (xs 2)), some (vI 1), some (vI 5), some (vI 6)] [] _
          rw [← eG84]
          obtain ⟨f126_73, h126⟩ : ∃ g : Nat → Int32, G84[126]? = some (ab_if 720 (g)) := ⟨_, h126⟩
          refine ab_iinc (v := 7) d_MO_compile_220 rfl (by decide) (Nat.le_of_ble_eq_true rfl) (Nat.le_of_ble_eq_true rfl) rfl ?_
          change ab_W _ _ _ G84 223 [some (vR 80), some (vI (xs 1)), some (vI (xs 2)), some (vI 1), some (vI 5), some (vI 7)] [] _
          refine ab_goto (tgt := 182) d_MO_compile_223 (by decide) ?_
          refine ab_iload d_MO_compile_182 rfl ?_
          refine ab_bipush (v := 12) d_MO_compile_184 (by decide) ?_
          refine ab_icmp_ge (tgt := 226) d_MO_compile_186 (by decide) (fun c => absurd c (by decide)) (fun _ => ?_)
          refine ab_aload_n d_MO_compile_189 rfl ?_
          refine ab_getf (fs := (m_fv (vI 0) (vI 0) (vI 0) (vI 0) (vI 0) (vI 0) (vI 0) (vI 0) (vI 2) (vI 0) (vI ((xs 2) &&& 15)) (vI 0) (vI (-1)) (vI 0) (vI 0) (vI 0) (vI 0) (vI 0) (vI 0) (vI (xs 1)) (vI 0) (vI 0) (vI 0) (vI 0) (vI 0) (vI 0) (vI 0) (vI 0) (vI 0) (vI 0) (vI 0) (vI 0) (vI 0) (vI 0) (vI 0))) f_MO_152 d_MO_compile_190 h80 rfl ?_
          refine ab_bipush (v := 120) d_MO_compile_193 (by decide) ?_
          refine ab_iload_n d_MO_compile_195 rfl ?_
          refine ab_imul d_MO_compile_196 ?_
          refine ab_bipush (v := 12) d_MO_compile_197 (by decide) ?_
          refine ab_iload d_MO_compile_199 rfl ?_
          refine ab_imul d_MO_compile_201 ?_
          refine ab_topi (y := 60) (by decide) ?_
          refine ab_iadd d_MO_compile_202 ?_
          refine ab_iload d_MO_compile_203 rfl ?_
          refine ab_iadd d_MO_compile_205 ?_
          refine ab_aload_n d_MO_compile_206 rfl ?_
          refine ab_getf (fs := (m_fv (vI 0) (vI 0) (vI 0) (vI 0) (vI 0) (vI 0) (vI 0) (vI 0) (vI 2) (vI 0) (vI ((xs 2) &&& 15)) (vI 0) (vI (-1)) (vI 0) (vI 0) (vI 0) (vI 0) (vI 0) (vI 0) (vI (xs 1)) (vI 0) (vI 0) (vI 0) (vI 0) (vI 0) (vI 0) (vI 0) (vI 0) (vI 0) (vI 0) (vI 0) (vI 0) (vI 0) (vI 0) (vI 0))) f_MO_103 d_MO_compile_207 h80 rfl ?_
          refine ab_bipush (v := 12) d_MO_compile_210 (by decide) ?_
          refine ab_iload d_MO_compile_212 rfl ?_
          refine ab_imul d_MO_compile_214 ?_
          refine ab_topi (y := 60) (by decide) ?_
          refine ab_iload d_MO_compile_215 rfl ?_
          refine ab_iadd d_MO_compile_217 ?_
          refine ab_topi (y := 67) (by decide) ?_
          refine ab_iald d_MO_compile_218 h110 (by unfold vp_in; decide) ?_
          refine ab_topi (y := 0) rfl ?_
          refine ab_iast d_MO_compile_219 h126 (vp_in_iff.mpr (by have l0 := (show (0 : Int32).toInt = 0 by decide); have l1 := (show (5 : Int32).toInt = 5 by decide); have l2 := (show (7 : Int32).toInt = 7 by decide); have l3 := (show (31 : Int32).toInt = 31 by decide); have l4 := (show (60 : Int32).toInt = 60 by decide); have l5 := (show (120 : Int32).toInt = 120 by decide); simp only [Int32.le_iff_toInt_le, Int32.lt_iff_toInt_lt, ← Int32.toInt_inj] at c0 c1 c2 c3 c4 c5 c6 c7; have e0 : Int32.toInt (120 * (xs 1)) = Int32.toInt 120 * Int32.toInt (xs 1) := i32_mul (by simp only [l0, l1, l2, l3, l4, l5]; omega) (by simp only [l0, l1, l2, l3, l4, l5]; omega); have e1 : Int32.toInt ((120 * (xs 1)) + 60) = Int32.toInt (120 * (xs 1)) + Int32.toInt 60 := i32_add (by simp only [l0, l1, l2, l3, l4, l5, e0]; omega) (by simp only [l0, l1, l2, l3, l4, l5, e0]; omega); have e2 : Int32.toInt (((120 * (xs 1)) + 60) + 7) = Int32.toInt ((120 * (xs 1)) + 60) + Int32.toInt 7 := i32_add (by simp only [l0, l1, l2, l3, l4, l5, e0, e1]; omega) (by simp only [l0, l1, l2, l3, l4, l5, e0, e1]; omega); (try simp only [l0, l1, l2, l3, l4, l5] at e0 e1 e2); constructor <;> omega)) (by decide) ?_
          obtain ⟨G85, eG85⟩ : ∃ z : ab_G, z = List.set G84 126 (ab_if 720 ((upd f126_73 (Int32.toNatClampNeg (((120 * (xs 1)) + 60) + 7)) 0))) := ⟨_, rfl⟩
          have h80 := ab_keep eG85 (by decide) h80
          have h110 := ab_keep eG85 (by decide) h110
          have h127 := ab_keep eG85 (by decide) h127
          have hlen := ab_klen eG85 hlen
          have hsl := ab_ksl 720 eG85 h126 rfl rfl hsl
          have hfr := hfr.wr eG85 (by decide)
          have hpk := hpk.wr eG85 (by decide)
          have h126 := ab_kept eG85 h126
          change ab_W _ _ _ (List.set G84 126 (ab_if 720 ((upd f126_73 (Int32.toNatClampNeg (((120 * (xs 1)) + 60) + 7)) 0)))) 220 [some (vR 80), some (vI (xs 1)), some (vI (xs 2)), some (vI 1), some (vI 5), some (vI 7)] [] _
          rw [← eG85]
          obtain ⟨f126_74, h126⟩ : ∃ g : Nat → Int32, G85[126]? = some (ab_if 720 (g)) := ⟨_, h126⟩
          refine ab_iinc (v := 8) d_MO_compile_220 rfl (by decide) (Nat.le_of_ble_eq_true rfl) (Nat.le_of_ble_eq_true rfl) rfl ?_
          change ab_W _ _ _ G85 223 [some (vR 80), some (vI (xs 1)), some (vI (xs 2)), some (vI 1), some (vI 5), some (vI 8)] [] _
          refine ab_goto (tgt := 182) d_MO_compile_223 (by decide) ?_
          refine ab_iload d_MO_compile_182 rfl ?_
          refine ab_bipush (v := 12) d_MO_compile_184 (by decide) ?_
          refine ab_icmp_ge (tgt := 226) d_MO_compile_186 (by decide) (fun c => absurd c (by decide)) (fun _ => ?_)
          refine ab_aload_n d_MO_compile_189 rfl ?_
          refine ab_getf (fs := (m_fv (vI 0) (vI 0) (vI 0) (vI 0) (vI 0) (vI 0) (vI 0) (vI 0) (vI 2) (vI 0) (vI ((xs 2) &&& 15)) (vI 0) (vI (-1)) (vI 0) (vI 0) (vI 0) (vI 0) (vI 0) (vI 0) (vI (xs 1)) (vI 0) (vI 0) (vI 0) (vI 0) (vI 0) (vI 0) (vI 0) (vI 0) (vI 0) (vI 0) (vI 0) (vI 0) (vI 0) (vI 0) (vI 0))) f_MO_152 d_MO_compile_190 h80 rfl ?_
          refine ab_bipush (v := 120) d_MO_compile_193 (by decide) ?_
          refine ab_iload_n d_MO_compile_195 rfl ?_
          refine ab_imul d_MO_compile_196 ?_
          refine ab_bipush (v := 12) d_MO_compile_197 (by decide) ?_
          refine ab_iload d_MO_compile_199 rfl ?_
          refine ab_imul d_MO_compile_201 ?_
          refine ab_topi (y := 60) (by decide) ?_
          refine ab_iadd d_MO_compile_202 ?_
          refine ab_iload d_MO_compile_203 rfl ?_
          refine ab_iadd d_MO_compile_205 ?_
          refine ab_aload_n d_MO_compile_206 rfl ?_
          refine ab_getf (fs := (m_fv (vI 0) (vI 0) (vI 0) (vI 0) (vI 0) (vI 0) (vI 0) (vI 0) (vI 2) (vI 0) (vI ((xs 2) &&& 15)) (vI 0) (vI (-1)) (vI 0) (vI 0) (vI 0) (vI 0) (vI 0) (vI 0) (vI (xs 1)) (vI 0) (vI 0) (vI 0) (vI 0) (vI 0) (vI 0) (vI 0) (vI 0) (vI 0) (vI 0) (vI 0) (vI 0) (vI 0) (vI 0) (vI 0))) f_MO_103 d_MO_compile_207 h80 rfl ?_
          refine ab_bipush (v := 12) d_MO_compile_210 (by decide) ?_
          refine ab_iload d_MO_compile_212 rfl ?_
          refine ab_imul d_MO_compile_214 ?_
          refine ab_topi (y := 60) (by decide) ?_
          refine ab_iload d_MO_compile_215 rfl ?_
          refine ab_iadd d_MO_compile_217 ?_
          refine ab_topi (y := 68) (by decide) ?_
          refine ab_iald d_MO_compile_218 h110 (by unfold vp_in; decide) ?_
          refine ab_topi (y := 0) rfl ?_
          refine ab_iast d_MO_compile_219 h126 (vp_in_iff.mpr (by have l0 := (show (0 : Int32).toInt = 0 by decide); have l1 := (show (5 : Int32).toInt = 5 by decide); have l2 := (show (8 : Int32).toInt = 8 by decide); have l3 := (show (31 : Int32).toInt = 31 by decide); have l4 := (show (60 : Int32).toInt = 60 by decide); have l5 := (show (120 : Int32).toInt = 120 by decide); simp only [Int32.le_iff_toInt_le, Int32.lt_iff_toInt_lt, ← Int32.toInt_inj] at c0 c1 c2 c3 c4 c5 c6 c7; have e0 : Int32.toInt (120 * (xs 1)) = Int32.toInt 120 * Int32.toInt (xs 1) := i32_mul (by simp only [l0, l1, l2, l3, l4, l5]; omega) (by simp only [l0, l1, l2, l3, l4, l5]; omega); have e1 : Int32.toInt ((120 * (xs 1)) + 60) = Int32.toInt (120 * (xs 1)) + Int32.toInt 60 := i32_add (by simp only [l0, l1, l2, l3, l4, l5, e0]; omega) (by simp only [l0, l1, l2, l3, l4, l5, e0]; omega); have e2 : Int32.toInt (((120 * (xs 1)) + 60) + 8) = Int32.toInt ((120 * (xs 1)) + 60) + Int32.toInt 8 := i32_add (by simp only [l0, l1, l2, l3, l4, l5, e0, e1]; omega) (by simp only [l0, l1, l2, l3, l4, l5, e0, e1]; omega); (try simp only [l0, l1, l2, l3, l4, l5] at e0 e1 e2); constructor <;> omega)) (by decide) ?_
          obtain ⟨G86, eG86⟩ : ∃ z : ab_G, z = List.set G85 126 (ab_if 720 ((upd f126_74 (Int32.toNatClampNeg (((120 * (xs 1)) + 60) + 8)) 0))) := ⟨_, rfl⟩
          have h80 := ab_keep eG86 (by decide) h80
          have h110 := ab_keep eG86 (by decide) h110
          have h127 := ab_keep eG86 (by decide) h127
          have hlen := ab_klen eG86 hlen
          have hsl := ab_ksl 720 eG86 h126 rfl rfl hsl
          have hfr := hfr.wr eG86 (by decide)
          have hpk := hpk.wr eG86 (by decide)
          have h126 := ab_kept eG86 h126
          change ab_W _ _ _ (List.set G85 126 (ab_if 720 ((upd f126_74 (Int32.toNatClampNeg (((120 * (xs 1)) + 60) + 8)) 0)))) 220 [some (vR 80), some (vI (xs 1)), some (vI (xs 2)), some (vI 1), some (vI 5), some (vI 8)] [] _
          rw [← eG86]
          obtain ⟨f126_75, h126⟩ : ∃ g : Nat → Int32, G86[126]? = some (ab_if 720 (g)) := ⟨_, h126⟩
          refine ab_iinc (v := 9) d_MO_compile_220 rfl (by decide) (Nat.le_of_ble_eq_true rfl) (Nat.le_of_ble_eq_true rfl) rfl ?_
          change ab_W _ _ _ G86 223 [some (vR 80), some (vI (xs 1)), some (vI (xs 2)), some (vI 1), some (vI 5), some (vI 9)] [] _
          refine ab_goto (tgt := 182) d_MO_compile_223 (by decide) ?_
          refine ab_iload d_MO_compile_182 rfl ?_
          refine ab_bipush (v := 12) d_MO_compile_184 (by decide) ?_
          refine ab_icmp_ge (tgt := 226) d_MO_compile_186 (by decide) (fun c => absurd c (by decide)) (fun _ => ?_)
          refine ab_aload_n d_MO_compile_189 rfl ?_
          refine ab_getf (fs := (m_fv (vI 0) (vI 0) (vI 0) (vI 0) (vI 0) (vI 0) (vI 0) (vI 0) (vI 2) (vI 0) (vI ((xs 2) &&& 15)) (vI 0) (vI (-1)) (vI 0) (vI 0) (vI 0) (vI 0) (vI 0) (vI 0) (vI (xs 1)) (vI 0) (vI 0) (vI 0) (vI 0) (vI 0) (vI 0) (vI 0) (vI 0) (vI 0) (vI 0) (vI 0) (vI 0) (vI 0) (vI 0) (vI 0))) f_MO_152 d_MO_compile_190 h80 rfl ?_
          refine ab_bipush (v := 120) d_MO_compile_193 (by decide) ?_
          refine ab_iload_n d_MO_compile_195 rfl ?_
          refine ab_imul d_MO_compile_196 ?_
          refine ab_bipush (v := 12) d_MO_compile_197 (by decide) ?_
          refine ab_iload d_MO_compile_199 rfl ?_
          refine ab_imul d_MO_compile_201 ?_
          refine ab_topi (y := 60) (by decide) ?_
          refine ab_iadd d_MO_compile_202 ?_
          refine ab_iload d_MO_compile_203 rfl ?_
          refine ab_iadd d_MO_compile_205 ?_
          refine ab_aload_n d_MO_compile_206 rfl ?_
          refine ab_getf (fs := (m_fv (vI 0) (vI 0) (vI 0) (vI 0) (vI 0) (vI 0) (vI 0) (vI 0) (vI 2) (vI 0) (vI ((xs 2) &&& 15)) (vI 0) (vI (-1)) (vI 0) (vI 0) (vI 0) (vI 0) (vI 0) (vI 0) (vI (xs 1)) (vI 0) (vI 0) (vI 0) (vI 0) (vI 0) (vI 0) (vI 0) (vI 0) (vI 0) (vI 0) (vI 0) (vI 0) (vI 0) (vI 0) (vI 0))) f_MO_103 d_MO_compile_207 h80 rfl ?_
          refine ab_bipush (v := 12) d_MO_compile_210 (by decide) ?_
          refine ab_iload d_MO_compile_212 rfl ?_
          refine ab_imul d_MO_compile_214 ?_
          refine ab_topi (y := 60) (by decide) ?_
          refine ab_iload d_MO_compile_215 rfl ?_
          refine ab_iadd d_MO_compile_217 ?_
          refine ab_topi (y := 69) (by decide) ?_
          refine ab_iald d_MO_compile_218 h110 (by unfold vp_in; decide) ?_
          refine ab_topi (y := 0) rfl ?_
          refine ab_iast d_MO_compile_219 h126 (vp_in_iff.mpr (by have l0 := (show (0 : Int32).toInt = 0 by decide); have l1 := (show (5 : Int32).toInt = 5 by decide); have l2 := (show (9 : Int32).toInt = 9 by decide); have l3 := (show (31 : Int32).toInt = 31 by decide); have l4 := (show (60 : Int32).toInt = 60 by decide); have l5 := (show (120 : Int32).toInt = 120 by decide); simp only [Int32.le_iff_toInt_le, Int32.lt_iff_toInt_lt, ← Int32.toInt_inj] at c0 c1 c2 c3 c4 c5 c6 c7; have e0 : Int32.toInt (120 * (xs 1)) = Int32.toInt 120 * Int32.toInt (xs 1) := i32_mul (by simp only [l0, l1, l2, l3, l4, l5]; omega) (by simp only [l0, l1, l2, l3, l4, l5]; omega); have e1 : Int32.toInt ((120 * (xs 1)) + 60) = Int32.toInt (120 * (xs 1)) + Int32.toInt 60 := i32_add (by simp only [l0, l1, l2, l3, l4, l5, e0]; omega) (by simp only [l0, l1, l2, l3, l4, l5, e0]; omega); have e2 : Int32.toInt (((120 * (xs 1)) + 60) + 9) = Int32.toInt ((120 * (xs 1)) + 60) + Int32.toInt 9 := i32_add (by simp only [l0, l1, l2, l3, l4, l5, e0, e1]; omega) (by simp only [l0, l1, l2, l3, l4, l5, e0, e1]; omega); (try simp only [l0, l1, l2, l3, l4, l5] at e0 e1 e2); constructor <;> omega)) (by decide) ?_
          obtain ⟨G87, eG87⟩ : ∃ z : ab_G, z = List.set G86 126 (ab_if 720 ((upd f126_75 (Int32.toNatClampNeg (((120 * (xs 1)) + 60) + 9)) 0))) := ⟨_, rfl⟩
          have h80 := ab_keep eG87 (by decide) h80
          have h110 := ab_keep eG87 (by decide) h110
          have h127 := ab_keep eG87 (by decide) h127
          have hlen := ab_klen eG87 hlen
          have hsl := ab_ksl 720 eG87 h126 rfl rfl hsl
          have hfr := hfr.wr eG87 (by decide)
          have hpk := hpk.wr eG87 (by decide)
          have h126 := ab_kept eG87 h126
          change ab_W _ _ _ (List.set G86 126 (ab_if 720 ((upd f126_75 (Int32.toNatClampNeg (((120 * (xs 1)) + 60) + 9)) 0)))) 220 [some (vR 80), some (vI (xs 1)), some (vI (xs 2)), some (vI 1), some (vI 5), some (vI 9)] [] _
          rw [← eG87]
          obtain ⟨f126_76, h126⟩ : ∃ g : Nat → Int32, G87[126]? = some (ab_if 720 (g)) := ⟨_, h126⟩
          refine ab_iinc (v := 10) d_MO_compile_220 rfl (by decide) (Nat.le_of_ble_eq_true rfl) (Nat.le_of_ble_eq_true rfl) rfl ?_
          change ab_W _ _ _ G87 223 [some (vR 80), some (vI (xs 1)), some (vI (xs 2)), some (vI 1), some (vI 5), some (vI 10)] [] _
          refine ab_goto (tgt := 182) d_MO_compile_223 (by decide) ?_
          refine ab_iload d_MO_compile_182 rfl ?_
          refine ab_bipush (v := 12) d_MO_compile_184 (by decide) ?_
          refine ab_icmp_ge (tgt := 226) d_MO_compile_186 (by decide) (fun c => absurd c (by decide)) (fun _ => ?_)
          refine ab_aload_n d_MO_compile_189 rfl ?_
          refine ab_getf (fs := (m_fv (vI 0) (vI 0) (vI 0) (vI 0) (vI 0) (vI 0) (vI 0) (vI 0) (vI 2) (vI 0) (vI ((xs 2) &&& 15)) (vI 0) (vI (-1)) (vI 0) (vI 0) (vI 0) (vI 0) (vI 0) (vI 0) (vI (xs 1)) (vI 0) (vI 0) (vI 0) (vI 0) (vI 0) (vI 0) (vI 0) (vI 0) (vI 0) (vI 0) (vI 0) (vI 0) (vI 0) (vI 0) (vI 0))) f_MO_152 d_MO_compile_190 h80 rfl ?_
          refine ab_bipush (v := 120) d_MO_compile_193 (by decide) ?_
          refine ab_iload_n d_MO_compile_195 rfl ?_
          refine ab_imul d_MO_compile_196 ?_
          refine ab_bipush (v := 12) d_MO_compile_197 (by decide) ?_
          refine ab_iload d_MO_compile_199 rfl ?_
          refine ab_imul d_MO_compile_201 ?_
          refine ab_topi (y := 60) (by decide) ?_
          refine ab_iadd d_MO_compile_202 ?_
          refine ab_iload d_MO_compile_203 rfl ?_
          refine ab_iadd d_MO_compile_205 ?_
          refine ab_aload_n d_MO_compile_206 rfl ?_
          refine ab_getf (fs := (m_fv (vI 0) (vI 0) (vI 0) (vI 0) (vI 0) (vI 0) (vI 0) (vI 0) (vI 2) (vI 0) (vI ((xs 2) &&& 15)) (vI 0) (vI (-1)) (vI 0) (vI 0) (vI 0) (vI 0) (vI 0) (vI 0) (vI (xs 1)) (vI 0) (vI 0) (vI 0) (vI 0) (vI 0) (vI 0) (vI 0) (vI 0) (vI 0) (vI 0) (vI 0) (vI 0) (vI 0) (vI 0) (vI 0))) f_MO_103 d_MO_compile_207 h80 rfl ?_
          refine ab_bipush (v := 12) d_MO_compile_210 (by decide) ?_
          refine ab_iload d_MO_compile_212 rfl ?_
          refine ab_imul d_MO_compile_214 ?_
          refine ab_topi (y := 60) (by decide) ?_
          refine ab_iload d_MO_compile_215 rfl ?_
          refine ab_iadd d_MO_compile_217 ?_
          refine ab_topi (y := 70) (by decide) ?_
          refine ab_iald d_MO_compile_218 h110 (by unfold vp_in; decide) ?_
          refine ab_topi (y := 0) rfl ?_
          refine ab_iast d_MO_compile_219 h126 (vp_in_iff.mpr (by have l0 := (show (0 : Int32).toInt = 0 by decide); have l1 := (show (5 : Int32).toInt = 5 by decide); have l2 := (show (10 : Int32).toInt = 10 by decide); have l3 := (show (31 : Int32).toInt = 31 by decide); have l4 := (show (60 : Int32).toInt = 60 by decide); have l5 := (show (120 : Int32).toInt = 120 by decide); simp only [Int32.le_iff_toInt_le, Int32.lt_iff_toInt_lt, ← Int32.toInt_inj] at c0 c1 c2 c3 c4 c5 c6 c7; have e0 : Int32.toInt (120 * (xs 1)) = Int32.toInt 120 * Int32.toInt (xs 1) := i32_mul (by simp only [l0, l1, l2, l3, l4, l5]; omega) (by simp only [l0, l1, l2, l3, l4, l5]; omega); have e1 : Int32.toInt ((120 * (xs 1)) + 60) = Int32.toInt (120 * (xs 1)) + Int32.toInt 60 := i32_add (by simp only [l0, l1, l2, l3, l4, l5, e0]; omega) (by simp only [l0, l1, l2, l3, l4, l5, e0]; omega); have e2 : Int32.toInt (((120 * (xs 1)) + 60) + 10) = Int32.toInt ((120 * (xs 1)) + 60) + Int32.toInt 10 := i32_add (by simp only [l0, l1, l2, l3, l4, l5, e0, e1]; omega) (by simp only [l0, l1, l2, l3, l4, l5, e0, e1]; omega); (try simp only [l0, l1, l2, l3, l4, l5] at e0 e1 e2); constructor <;> omega)) (by decide) ?_
          obtain ⟨G88, eG88⟩ : ∃ z : ab_G, z = List.set G87 126 (ab_if 720 ((upd f126_76 (Int32.toNatClampNeg (((120 * (xs 1)) + 60) + 10)) 0))) := ⟨_, rfl⟩
          have h80 := ab_keep eG88 (by decide) h80
          have h110 := ab_keep eG88 (by decide) h110
          have h127 := ab_keep eG88 (by decide) h127
          have hlen := ab_klen eG88 hlen
          have hsl := ab_ksl 720 eG88 h126 rfl rfl hsl
          have hfr := hfr.wr eG88 (by decide)
          have hpk := hpk.wr eG88 (by decide)
          have h126 := ab_kept eG88 h126
          change ab_W _ _ _ (List.set G87 126 (ab_if 720 ((upd f126_76 (Int32.toNatClampNeg (((120 * (xs 1)) + 60) + 10)) 0)))) 220 [some (vR 80), some (vI (xs 1)), some (vI (xs 2)), some (vI 1), some (vI 5), some (vI 10)] [] _
          rw [← eG88]
          obtain ⟨f126_77, h126⟩ : ∃ g : Nat → Int32, G88[126]? = some (ab_if 720 (g)) := ⟨_, h126⟩
          refine ab_iinc (v := 11) d_MO_compile_220 rfl (by decide) (Nat.le_of_ble_eq_true rfl) (Nat.le_of_ble_eq_true rfl) rfl ?_
          change ab_W _ _ _ G88 223 [some (vR 80), some (vI (xs 1)), some (vI (xs 2)), some (vI 1), some (vI 5), some (vI 11)] [] _
          refine ab_goto (tgt := 182) d_MO_compile_223 (by decide) ?_
          refine ab_iload d_MO_compile_182 rfl ?_
          refine ab_bipush (v := 12) d_MO_compile_184 (by decide) ?_
          refine ab_icmp_ge (tgt := 226) d_MO_compile_186 (by decide) (fun c => absurd c (by decide)) (fun _ => ?_)
          refine ab_aload_n d_MO_compile_189 rfl ?_
          refine ab_getf (fs := (m_fv (vI 0) (vI 0) (vI 0) (vI 0) (vI 0) (vI 0) (vI 0) (vI 0) (vI 2) (vI 0) (vI ((xs 2) &&& 15)) (vI 0) (vI (-1)) (vI 0) (vI 0) (vI 0) (vI 0) (vI 0) (vI 0) (vI (xs 1)) (vI 0) (vI 0) (vI 0) (vI 0) (vI 0) (vI 0) (vI 0) (vI 0) (vI 0) (vI 0) (vI 0) (vI 0) (vI 0) (vI 0) (vI 0))) f_MO_152 d_MO_compile_190 h80 rfl ?_
          refine ab_bipush (v := 120) d_MO_compile_193 (by decide) ?_
          refine ab_iload_n d_MO_compile_195 rfl ?_
          refine ab_imul d_MO_compile_196 ?_
          refine ab_bipush (v := 12) d_MO_compile_197 (by decide) ?_
          refine ab_iload d_MO_compile_199 rfl ?_
          refine ab_imul d_MO_compile_201 ?_
          refine ab_topi (y := 60) (by decide) ?_
          refine ab_iadd d_MO_compile_202 ?_
          refine ab_iload d_MO_compile_203 rfl ?_
          refine ab_iadd d_MO_compile_205 ?_
          refine ab_aload_n d_MO_compile_206 rfl ?_
          refine ab_getf (fs := (m_fv (vI 0) (vI 0) (vI 0) (vI 0) (vI 0) (vI 0) (vI 0) (vI 0) (vI 2) (vI 0) (vI ((xs 2) &&& 15)) (vI 0) (vI (-1)) (vI 0) (vI 0) (vI 0) (vI 0) (vI 0) (vI 0) (vI (xs 1)) (vI 0) (vI 0) (vI 0) (vI 0) (vI 0) (vI 0) (vI 0) (vI 0) (vI 0) (vI 0) (vI 0) (vI 0) (vI 0) (vI 0) (vI 0))) f_MO_103 d_MO_compile_207 h80 rfl ?_
          refine ab_bipush (v := 12) d_MO_compile_210 (by decide) ?_
          refine ab_iload d_MO_compile_212 rfl ?_
          refine ab_imul d_MO_compile_214 ?_
          refine ab_topi (y := 60) (by decide) ?_
          refine ab_iload d_MO_compile_215 rfl ?_
          refine ab_iadd d_MO_compile_217 ?_
          refine ab_topi (y := 71) (by decide) ?_
          refine ab_iald d_MO_compile_218 h110 (by unfold vp_in; decide) ?_
          refine ab_topi (y := 0) rfl ?_
          refine ab_iast d_MO_compile_219 h126 (vp_in_iff.mpr (by have l0 := (show (0 : Int32).toInt = 0 by decide); have l1 := (show (5 : Int32).toInt = 5 by decide); have l2 := (show (11 : Int32).toInt = 11 by decide); have l3 := (show (31 : Int32).toInt = 31 by decide); have l4 := (show (60 : Int32).toInt = 60 by decide); have l5 := (show (120 : Int32).toInt = 120 by decide); simp only [Int32.le_iff_toInt_le, Int32.lt_iff_toInt_lt, ← Int32.toInt_inj] at c0 c1 c2 c3 c4 c5 c6 c7; have e0 : Int32.toInt (120 * (xs 1)) = Int32.toInt 120 * Int32.toInt (xs 1) := i32_mul (by simp only [l0, l1, l2, l3, l4, l5]; omega) (by simp only [l0, l1, l2, l3, l4, l5]; omega); have e1 : Int32.toInt ((120 * (xs 1)) + 60) = Int32.toInt (120 * (xs 1)) + Int32.toInt 60 := i32_add (by simp only [l0, l1, l2, l3, l4, l5, e0]; omega) (by simp only [l0, l1, l2, l3, l4, l5, e0]; omega); have e2 : Int32.toInt (((120 * (xs 1)) + 60) + 11) = Int32.toInt ((120 * (xs 1)) + 60) + Int32.toInt 11 := i32_add (by simp only [l0, l1, l2, l3, l4, l5, e0, e1]; omega) (by simp only [l0, l1, l2, l3, l4, l5, e0, e1]; omega); (try simp only [l0, l1, l2, l3, l4, l5] at e0 e1 e2); constructor <;> omega)) (by decide) ?_
          obtain ⟨G89, eG89⟩ : ∃ z : ab_G, z = List.set G88 126 (ab_if 720 ((upd f126_77 (Int32.toNatClampNeg (((120 * (xs 1)) + 60) + 11)) 0))) := ⟨_, rfl⟩
          have h80 := ab_keep eG89 (by decide) h80
          have h110 := ab_keep eG89 (by decide) h110
          have h127 := ab_keep eG89 (by decide) h127
          have hlen := ab_klen eG89 hlen
          have hsl := ab_ksl 720 eG89 h126 rfl rfl hsl
          have hfr := hfr.wr eG89 (by decide)
          have hpk := hpk.wr eG89 (by decide)
          have h126 := ab_kept eG89 h126
          change ab_W _ _ _ (List.set G88 126 (ab_if 720 ((upd f126_77 (Int32.toNatClampNeg (((120 * (xs 1)) + 60) + 11)) 0)))) 220 [some (vR 80), some (vI (xs 1)), some (vI (xs 2)), some (vI 1), some (vI 5), some (vI 11)] [] _
          rw [← eG89]
          obtain ⟨f126_78, h126⟩ : ∃ g : Nat → Int32, G89[126]? = some (ab_if 720 (g)) := ⟨_, h126⟩
          refine ab_iinc (v := 12) d_MO_compile_220 rfl (by decide) (Nat.le_of_ble_eq_true rfl) (Nat.le_of_ble_eq_true rfl) rfl ?_
          change ab_W _ _ _ G89 223 [some (vR 80), some (vI (xs 1)), some (vI (xs 2)), some (vI 1), some (vI 5), some (vI 12)] [] _
          refine ab_goto (tgt := 182) d_MO_compile_223 (by decide) ?_
          refine ab_iload d_MO_compile_182 rfl ?_
          refine ab_bipush (v := 12) d_MO_compile_184 (by decide) ?_
          refine ab_icmp_ge (tgt := 226) d_MO_compile_186 (by decide) (fun _ => ?_) (fun c => absurd c (by decide))
          refine ab_iinc (v := 6) d_MO_compile_226 rfl (by decide) (Nat.le_of_ble_eq_true rfl) (Nat.le_of_ble_eq_true rfl) rfl ?_
          change ab_W _ _ _ G89 229 [some (vR 80), some (vI (xs 1)), some (vI (xs 2)), some (vI 1), some (vI 6), some (vI 12)] [] _
          refine ab_goto (tgt := 135) d_MO_compile_229 (by decide) ?_
          refine ab_iload d_MO_compile_135 rfl ?_
          refine ab_bipush (v := 10) d_MO_compile_137 (by decide) ?_
          refine ab_icmp_ge (tgt := 232) d_MO_compile_139 (by decide) (fun c => absurd c (by decide)) (fun _ => ?_)
          refine ab_aload_n d_MO_compile_142 rfl ?_
          refine ab_getf (fs := (m_fv (vI 0) (vI 0) (vI 0) (vI 0) (vI 0) (vI 0) (vI 0) (vI 0) (vI 2) (vI 0) (vI ((xs 2) &&& 15)) (vI 0) (vI (-1)) (vI 0) (vI 0) (vI 0) (vI 0) (vI 0) (vI 0) (vI (xs 1)) (vI 0) (vI 0) (vI 0) (vI 0) (vI 0) (vI 0) (vI 0) (vI 0) (vI 0) (vI 0) (vI 0) (vI 0) (vI 0) (vI 0) (vI 0))) f_MO_155 d_MO_compile_143 h80 rfl ?_
          refine ab_bipush (v := 10) d_MO_compile_146 (by decide) ?_
          refine ab_iload_n d_MO_compile_148 rfl ?_
          refine ab_imul d_MO_compile_149 ?_
          refine ab_iload d_MO_compile_150 rfl ?_
          refine ab_iadd d_MO_compile_152 ?_
          refine ab_iload d_MO_compile_153 rfl ?_
          refine ab_if_le (tgt := 177) d_MO_compile_155 (by decide) (fun c => absurd c (by decide)) (fun _ => ?_)
          refine ab_iload d_MO_compile_158 rfl ?_
          refine ab_aload_n d_MO_compile_160 rfl ?_
          refine ab_getf (fs := (m_fv (vI 0) (vI 0) (vI 0) (vI 0) (vI 0) (vI 0) (vI 0) (vI 0) (vI 2) (vI 0) (vI ((xs 2) &&& 15)) (vI 0) (vI (-1)) (vI 0) (vI 0) (vI 0) (vI 0) (vI 0) (vI 0) (vI (xs 1)) (vI 0) (vI 0) (vI 0) (vI 0) (vI 0) (vI 0) (vI 0) (vI 0) (vI 0) (vI 0) (vI 0) (vI 0) (vI 0) (vI 0) (vI 0))) f_MO_395 d_MO_compile_161 h80 rfl ?_
          refine ab_icmp_gt (tgt := 177) d_MO_compile_164 (by decide) (fun _ => ?_) (fun c => absurd c (by decide))
          refine ab_iconst (v := 0) d_MO_compile_177 (by decide) ?_
          refine ab_iast d_MO_compile_178 h127 (vp_in_iff.mpr (by have l0 := (show (0 : Int32).toInt = 0 by decide); have l1 := (show (5 : Int32).toInt = 5 by decide); have l2 := (show (6 : Int32).toInt = 6 by decide); have l3 := (show (10 : Int32).toInt = 10 by decide); have l4 := (show (31 : Int32).toInt = 31 by decide); simp only [Int32.le_iff_toInt_le, Int32.lt_iff_toInt_lt, ← Int32.toInt_inj] at c0 c1 c2 c3 c4 c5 c6 c7; have e0 : Int32.toInt (10 * (xs 1)) = Int32.toInt 10 * Int32.toInt (xs 1) := i32_mul (by simp only [l0, l1, l2, l3, l4]; omega) (by simp only [l0, l1, l2, l3, l4]; omega); have e1 : Int32.toInt ((10 * (xs 1)) + 6) = Int32.toInt (10 * (xs 1)) + Int32.toInt 6 := i32_add (by simp only [l0, l1, l2, l3, l4, e0]; omega) (by simp only [l0, l1, l2, l3, l4, e0]; omega); (try simp only [l0, l1, l2, l3, l4] at e0 e1); constructor <;> omega)) (by decide) ?_
          obtain ⟨G90, eG90⟩ : ∃ z : ab_G, z = List.set G89 127 (ab_if 60 ((upd f127_66 (Int32.toNatClampNeg ((10 * (xs 1)) + 6)) 0))) := ⟨_, rfl⟩
          have h80 := ab_keep eG90 (by decide) h80
          have h110 := ab_keep eG90 (by decide) h110
          have h126 := ab_keep eG90 (by decide) h126
          have hlen := ab_klen eG90 hlen
          have hsl := ab_ksl 60 eG90 h127 rfl rfl hsl
          have hfr := hfr.wr eG90 (by decide)
          have hpk := hpk.wr eG90 (by decide)
          have h127 := ab_kept eG90 h127
          change ab_W _ _ _ (List.set G89 127 (ab_if 60 ((upd f127_66 (Int32.toNatClampNeg ((10 * (xs 1)) + 6)) 0)))) 179 [some (vR 80), some (vI (xs 1)), some (vI (xs 2)), some (vI 1), some (vI 6), some (vI 12)] [] _
          rw [← eG90]
          obtain ⟨f127_79, h127⟩ : ∃ g : Nat → Int32, G90[127]? = some (ab_if 60 (g)) := ⟨_, h127⟩
          refine ab_iconst (v := 0) d_MO_compile_179 (by decide) ?_
          refine ab_istore d_MO_compile_180 (Nat.le_of_ble_eq_true rfl) (Nat.le_of_ble_eq_true rfl) rfl ?_
          change ab_W _ _ _ G90 182 [some (vR 80), some (vI (xs 1)), some (vI (xs 2)), some (vI 1), some (vI 6), some (vI 0)] [] _
          refine ab_iload d_MO_compile_182 rfl ?_
          refine ab_bipush (v := 12) d_MO_compile_184 (by decide) ?_
          refine ab_icmp_ge (tgt := 226) d_MO_compile_186 (by decide) (fun c => absurd c (by decide)) (fun _ => ?_)
          refine ab_aload_n d_MO_compile_189 rfl ?_
          refine ab_getf (fs := (m_fv (vI 0) (vI 0) (vI 0) (vI 0) (vI 0) (vI 0) (vI 0) (vI 0) (vI 2) (vI 0) (vI ((xs 2) &&& 15)) (vI 0) (vI (-1)) (vI 0) (vI 0) (vI 0) (vI 0) (vI 0) (vI 0) (vI (xs 1)) (vI 0) (vI 0) (vI 0) (vI 0) (vI 0) (vI 0) (vI 0) (vI 0) (vI 0) (vI 0) (vI 0) (vI 0) (vI 0) (vI 0) (vI 0))) f_MO_152 d_MO_compile_190 h80 rfl ?_
          refine ab_bipush (v := 120) d_MO_compile_193 (by decide) ?_
          refine ab_iload_n d_MO_compile_195 rfl ?_
          refine ab_imul d_MO_compile_196 ?_
          refine ab_bipush (v := 12) d_MO_compile_197 (by decide) ?_
          refine ab_iload d_MO_compile_199 rfl ?_
          refine ab_imul d_MO_compile_201 ?_
          refine ab_topi (y := 72) (by decide) ?_
          refine ab_iadd d_MO_compile_202 ?_
          refine ab_iload d_MO_compile_203 rfl ?_
          refine ab_iadd d_MO_compile_205 ?_
          refine ab_topi (y := ((120 * (xs 1)) + 72)) (Int32.add_zero _) ?_
          refine ab_aload_n d_MO_compile_206 rfl ?_
          refine ab_getf (fs := (m_fv (vI 0) (vI 0) (vI 0) (vI 0) (vI 0) (vI 0) (vI 0) (vI 0) (vI 2) (vI 0) (vI ((xs 2) &&& 15)) (vI 0) (vI (-1)) (vI 0) (vI 0) (vI 0) (vI 0) (vI 0) (vI 0) (vI (xs 1)) (vI 0) (vI 0) (vI 0) (vI 0) (vI 0) (vI 0) (vI 0) (vI 0) (vI 0) (vI 0) (vI 0) (vI 0) (vI 0) (vI 0) (vI 0))) f_MO_103 d_MO_compile_207 h80 rfl ?_
          refine ab_bipush (v := 12) d_MO_compile_210 (by decide) ?_
          refine ab_iload d_MO_compile_212 rfl ?_
          refine ab_imul d_MO_compile_214 ?_
          refine ab_topi (y := 72) (by decide) ?_
          refine ab_iload d_MO_compile_215 rfl ?_
          refine ab_iadd d_MO_compile_217 ?_
          refine ab_topi (y := 72) (by decide) ?_
          refine ab_iald d_MO_compile_218 h110 (by unfold vp_in; decide) ?_
          refine ab_topi (y := 0) rfl ?_
          refine ab_iast d_MO_compile_219 h126 (vp_in_iff.mpr (by have l0 := (show (0 : Int32).toInt = 0 by decide); have l1 := (show (5 : Int32).toInt = 5 by decide); have l2 := (show (31 : Int32).toInt = 31 by decide); have l3 := (show (72 : Int32).toInt = 72 by decide); have l4 := (show (120 : Int32).toInt = 120 by decide); simp only [Int32.le_iff_toInt_le, Int32.lt_iff_toInt_lt, ← Int32.toInt_inj] at c0 c1 c2 c3 c4 c5 c6 c7; have e0 : Int32.toInt (120 * (xs 1)) = Int32.toInt 120 * Int32.toInt (xs 1) := i32_mul (by simp only [l0, l1, l2, l3, l4]; omega) (by simp only [l0, l1, l2, l3, l4]; omega); have e1 : Int32.toInt ((120 * (xs 1)) + 72) = Int32.toInt (120 * (xs 1)) + Int32.toInt 72 := i32_add (by simp only [l0, l1, l2, l3, l4, e0]; omega) (by simp only [l0, l1, l2, l3, l4, e0]; omega); (try simp only [l0, l1, l2, l3, l4] at e0 e1); constructor <;> omega)) (by decide) ?_
          obtain ⟨G91, eG91⟩ : ∃ z : ab_G, z = List.set G90 126 (ab_if 720 ((upd f126_78 (Int32.toNatClampNeg ((120 * (xs 1)) + 72)) 0))) := ⟨_, rfl⟩
          have h80 := ab_keep eG91 (by decide) h80
          have h110 := ab_keep eG91 (by decide) h110
          have h127 := ab_keep eG91 (by decide) h127
          have hlen := ab_klen eG91 hlen
          have hsl := ab_ksl 720 eG91 h126 rfl rfl hsl
          have hfr := hfr.wr eG91 (by decide)
          have hpk := hpk.wr eG91 (by decide)
          have h126 := ab_kept eG91 h126
          change ab_W _ _ _ (List.set G90 126 (ab_if 720 ((upd f126_78 (Int32.toNatClampNeg ((120 * (xs 1)) + 72)) 0)))) 220 [some (vR 80), some (vI (xs 1)), some (vI (xs 2)), some (vI 1), some (vI 6), some (vI 0)] [] _
          rw [← eG91]
          obtain ⟨f126_80, h126⟩ : ∃ g : Nat → Int32, G91[126]? = some (ab_if 720 (g)) := ⟨_, h126⟩
          refine ab_iinc (v := 1) d_MO_compile_220 rfl (by decide) (Nat.le_of_ble_eq_true rfl) (Nat.le_of_ble_eq_true rfl) rfl ?_
          change ab_W _ _ _ G91 223 [some (vR 80), some (vI (xs 1)), some (vI (xs 2)), some (vI 1), some (vI 6), some (vI 1)] [] _
          refine ab_goto (tgt := 182) d_MO_compile_223 (by decide) ?_
          refine ab_iload d_MO_compile_182 rfl ?_
          refine ab_bipush (v := 12) d_MO_compile_184 (by decide) ?_
          refine ab_icmp_ge (tgt := 226) d_MO_compile_186 (by decide) (fun c => absurd c (by decide)) (fun _ => ?_)
          refine ab_aload_n d_MO_compile_189 rfl ?_
          refine ab_getf (fs := (m_fv (vI 0) (vI 0) (vI 0) (vI 0) (vI 0) (vI 0) (vI 0) (vI 0) (vI 2) (vI 0) (vI ((xs 2) &&& 15)) (vI 0) (vI (-1)) (vI 0) (vI 0) (vI 0) (vI 0) (vI 0) (vI 0) (vI (xs 1)) (vI 0) (vI 0) (vI 0) (vI 0) (vI 0) (vI 0) (vI 0) (vI 0) (vI 0) (vI 0) (vI 0) (vI 0) (vI 0) (vI 0) (vI 0))) f_MO_152 d_MO_compile_190 h80 rfl ?_
          refine ab_bipush (v := 120) d_MO_compile_193 (by decide) ?_
          refine ab_iload_n d_MO_compile_195 rfl ?_
          refine ab_imul d_MO_compile_196 ?_
          refine ab_bipush (v := 12) d_MO_compile_197 (by decide) ?_
          refine ab_iload d_MO_compile_199 rfl ?_
          refine ab_imul d_MO_compile_201 ?_
          refine ab_topi (y := 72) (by decide) ?_
          refine ab_iadd d_MO_compile_202 ?_
          refine ab_iload d_MO_compile_203 rfl ?_
          refine ab_iadd d_MO_compile_205 ?_
          refine ab_aload_n d_MO_compile_206 rfl ?_
          refine ab_getf (fs := (m_fv (vI 0) (vI 0) (vI 0) (vI 0) (vI 0) (vI 0) (vI 0) (vI 0) (vI 2) (vI 0) (vI ((xs 2) &&& 15)) (vI 0) (vI (-1)) (vI 0) (vI 0) (vI 0) (vI 0) (vI 0) (vI 0) (vI (xs 1)) (vI 0) (vI 0) (vI 0) (vI 0) (vI 0) (vI 0) (vI 0) (vI 0) (vI 0) (vI 0) (vI 0) (vI 0) (vI 0) (vI 0) (vI 0))) f_MO_103 d_MO_compile_207 h80 rfl ?_
          refine ab_bipush (v := 12) d_MO_compile_210 (by decide) ?_
          refine ab_iload d_MO_compile_212 rfl ?_
          refine ab_imul d_MO_compile_214 ?_
          refine ab_topi (y := 72) (by decide) ?_
          refine ab_iload d_MO_compile_215 rfl ?_
          refine ab_iadd d_MO_compile_217 ?_
          refine ab_topi (y := 73) (by decide) ?_
          refine ab_iald d_MO_compile_218 h110 (by unfold vp_in; decide) ?_
          refine ab_topi (y := 0) rfl ?_
          refine ab_iast d_MO_compile_219 h126 (vp_in_iff.mpr (by have l0 := (show (0 : Int32).toInt = 0 by decide); have l1 := (show (1 : Int32).toInt = 1 by decide); have l2 := (show (5 : Int32).toInt = 5 by decide); have l3 := (show (31 : Int32).toInt = 31 by decide); have l4 := (show (72 : Int32).toInt = 72 by decide); have l5 := (show (120 : Int32).toInt = 120 by decide); simp only [Int32.le_iff_toInt_le, Int32.lt_iff_toInt_lt, ← Int32.toInt_inj] at c0 c1 c2 c3 c4 c5 c6 c7; have e0 : Int32.toInt (120 * (xs 1)) = Int32.toInt 120 * Int32.toInt (xs 1) := i32_mul (by simp only [l0, l1, l2, l3, l4, l5]; omega) (by simp only [l0, l1, l2, l3, l4, l5]; omega); have e1 : Int32.toInt ((120 * (xs 1)) + 72) = Int32.toInt (120 * (xs 1)) + Int32.toInt 72 := i32_add (by simp only [l0, l1, l2, l3, l4, l5, e0]; omega) (by simp only [l0, l1, l2, l3, l4, l5, e0]; omega); have e2 : Int32.toInt (((120 * (xs 1)) + 72) + 1) = Int32.toInt ((120 * (xs 1)) + 72) + Int32.toInt 1 := i32_add (by simp only [l0, l1, l2, l3, l4, l5, e0, e1]; omega) (by simp only [l0, l1, l2, l3, l4, l5, e0, e1]; omega); (try simp only [l0, l1, l2, l3, l4, l5] at e0 e1 e2); constructor <;> omega)) (by decide) ?_
          obtain ⟨G92, eG92⟩ : ∃ z : ab_G, z = List.set G91 126 (ab_if 720 ((upd f126_80 (Int32.toNatClampNeg (((120 * (xs 1)) + 72) + 1)) 0))) := ⟨_, rfl⟩
          have h80 := ab_keep eG92 (by decide) h80
          have h110 := ab_keep eG92 (by decide) h110
          have h127 := ab_keep eG92 (by decide) h127
          have hlen := ab_klen eG92 hlen
          have hsl := ab_ksl 720 eG92 h126 rfl rfl hsl
          have hfr := hfr.wr eG92 (by decide)
          have hpk := hpk.wr eG92 (by decide)
          have h126 := ab_kept eG92 h126
          change ab_W _ _ _ (List.set G91 126 (ab_if 720 ((upd f126_80 (Int32.toNatClampNeg (((120 * (xs 1)) + 72) + 1)) 0)))) 220 [some (vR 80), some (vI (xs 1)), some (vI (xs 2)), some (vI 1), some (vI 6), some (vI 1)] [] _
          rw [← eG92]
          obtain ⟨f126_81, h126⟩ : ∃ g : Nat → Int32, G92[126]? = some (ab_if 720 (g)) := ⟨_, h126⟩
          refine ab_iinc (v := 2) d_MO_compile_220 rfl (by decide) (Nat.le_of_ble_eq_true rfl) (Nat.le_of_ble_eq_true rfl) rfl ?_
          change ab_W _ _ _ G92 223 [some (vR 80), some (vI (xs 1)), some (vI (xs 2)), some (vI 1), some (vI 6), some (vI 2)] [] _
          refine ab_goto (tgt := 182) d_MO_compile_223 (by decide) ?_
          refine ab_iload d_MO_compile_182 rfl ?_
          refine ab_bipush (v := 12) d_MO_compile_184 (by decide) ?_
          refine ab_icmp_ge (tgt := 226) d_MO_compile_186 (by decide) (fun c => absurd c (by decide)) (fun _ => ?_)
          refine ab_aload_n d_MO_compile_189 rfl ?_
          refine ab_getf (fs := (m_fv (vI 0) (vI 0) (vI 0) (vI 0) (vI 0) (vI 0) (vI 0) (vI 0) (vI 2) (vI 0) (vI ((xs 2) &&& 15)) (vI 0) (vI (-1)) (vI 0) (vI 0) (vI 0) (vI 0) (vI 0) (vI 0) (vI (xs 1)) (vI 0) (vI 0) (vI 0) (vI 0) (vI 0) (vI 0) (vI 0) (vI 0) (vI 0) (vI 0) (vI 0) (vI 0) (vI 0) (vI 0) (vI 0))) f_MO_152 d_MO_compile_190 h80 rfl ?_
          refine ab_bipush (v := 120) d_MO_compile_193 (by decide) ?_
          refine ab_iload_n d_MO_compile_195 rfl ?_
          refine ab_imul d_MO_compile_196 ?_
          refine ab_bipush (v := 12) d_MO_compile_197 (by decide) ?_
          refine ab_iload d_MO_compile_199 rfl ?_
          refine ab_imul d_MO_compile_201 ?_
          refine ab_topi (y := 72) (by decide) ?_
          refine ab_iadd d_MO_compile_202 ?_
          refine ab_iload d_MO_compile_203 rfl ?_
          refine ab_iadd d_MO_compile_205 ?_
          refine ab_aload_n d_MO_compile_206 rfl ?_
          refine ab_getf (fs := (m_fv (vI 0) (vI 0) (vI 0) (vI 0) (vI 0) (vI 0) (vI 0) (vI 0) (vI 2) (vI 0) (vI ((xs 2) &&& 15)) (vI 0) (vI (-1)) (vI 0) (vI 0) (vI 0) (vI 0) (vI 0) (vI 0) (vI (xs 1)) (vI 0) (vI 0) (vI 0) (vI 0) (vI 0) (vI 0) (vI 0) (vI 0) (vI 0) (vI 0) (vI 0) (vI 0) (vI 0) (vI 0) (vI 0))) f_MO_103 d_MO_compile_207 h80 rfl ?_
          refine ab_bipush (v := 12) d_MO_compile_210 (by decide) ?_
          refine ab_iload d_MO_compile_212 rfl ?_
          refine ab_imul d_MO_compile_214 ?_
          refine ab_topi (y := 72) (by decide) ?_
          refine ab_iload d_MO_compile_215 rfl ?_
          refine ab_iadd d_MO_compile_217 ?_
          refine ab_topi (y := 74) (by decide) ?_
          refine ab_iald d_MO_compile_218 h110 (by unfold vp_in; decide) ?_
          refine ab_topi (y := 0) rfl ?_
          refine ab_iast d_MO_compile_219 h126 (vp_in_iff.mpr (by have l0 := (show (0 : Int32).toInt = 0 by decide); have l1 := (show (2 : Int32).toInt = 2 by decide); have l2 := (show (5 : Int32).toInt = 5 by decide); have l3 := (show (31 : Int32).toInt = 31 by decide); have l4 := (show (72 : Int32).toInt = 72 by decide); have l5 := (show (120 : Int32).toInt = 120 by decide); simp only [Int32.le_iff_toInt_le, Int32.lt_iff_toInt_lt, ← Int32.toInt_inj] at c0 c1 c2 c3 c4 c5 c6 c7; have e0 : Int32.toInt (120 * (xs 1)) = Int32.toInt 120 * Int32.toInt (xs 1) := i32_mul (by simp only [l0, l1, l2, l3, l4, l5]; omega) (by simp only [l0, l1, l2, l3, l4, l5]; omega); have e1 : Int32.toInt ((120 * (xs 1)) + 72) = Int32.toInt (120 * (xs 1)) + Int32.toInt 72 := i32_add (by simp only [l0, l1, l2, l3, l4, l5, e0]; omega) (by simp only [l0, l1, l2, l3, l4, l5, e0]; omega); have e2 : Int32.toInt (((120 * (xs 1)) + 72) + 2) = Int32.toInt ((120 * (xs 1)) + 72) + Int32.toInt 2 := i32_add (by simp only [l0, l1, l2, l3, l4, l5, e0, e1]; omega) (by simp only [l0, l1, l2, l3, l4, l5, e0, e1]; omega); (try simp only [l0, l1, l2, l3, l4, l5] at e0 e1 e2); constructor <;> omega)) (by decide) ?_
          obtain ⟨G93, eG93⟩ : ∃ z : ab_G, z = List.set G92 126 (ab_if 720 ((upd f126_81 (Int32.toNatClampNeg (((120 * (xs 1)) + 72) + 2)) 0))) := ⟨_, rfl⟩
          have h80 := ab_keep eG93 (by decide) h80
          have h110 := ab_keep eG93 (by decide) h110
          have h127 := ab_keep eG93 (by decide) h127
          have hlen := ab_klen eG93 hlen
          have hsl := ab_ksl 720 eG93 h126 rfl rfl hsl
          have hfr := hfr.wr eG93 (by decide)
          have hpk := hpk.wr eG93 (by decide)
          have h126 := ab_kept eG93 h126
          change ab_W _ _ _ (List.set G92 126 (ab_if 720 ((upd f126_81 (Int32.toNatClampNeg (((120 * (xs 1)) + 72) + 2)) 0)))) 220 [some (vR 80), some (vI (xs 1)), some (vI (xs 2)), some (vI 1), some (vI 6), some (vI 2)] [] _
          rw [← eG93]
          obtain ⟨f126_82, h126⟩ : ∃ g : Nat → Int32, G93[126]? = some (ab_if 720 (g)) := ⟨_, h126⟩
          refine ab_iinc (v := 3) d_MO_compile_220 rfl (by decide) (Nat.le_of_ble_eq_true rfl) (Nat.le_of_ble_eq_true rfl) rfl ?_
          change ab_W _ _ _ G93 223 [some (vR 80), some (vI (xs 1)), some (vI (xs 2)), some (vI 1), some (vI 6), some (vI 3)] [] _
          refine ab_goto (tgt := 182) d_MO_compile_223 (by decide) ?_
          refine ab_iload d_MO_compile_182 rfl ?_
          refine ab_bipush (v := 12) d_MO_compile_184 (by decide) ?_
          refine ab_icmp_ge (tgt := 226) d_MO_compile_186 (by decide) (fun c => absurd c (by decide)) (fun _ => ?_)
          refine ab_aload_n d_MO_compile_189 rfl ?_
          refine ab_getf (fs := (m_fv (vI 0) (vI 0) (vI 0) (vI 0) (vI 0) (vI 0) (vI 0) (vI 0) (vI 2) (vI 0) (vI ((xs 2) &&& 15)) (vI 0) (vI (-1)) (vI 0) (vI 0) (vI 0) (vI 0) (vI 0) (vI 0) (vI (xs 1)) (vI 0) (vI 0) (vI 0) (vI 0) (vI 0) (vI 0) (vI 0) (vI 0) (vI 0) (vI 0) (vI 0) (vI 0) (vI 0) (vI 0) (vI 0))) f_MO_152 d_MO_compile_190 h80 rfl ?_
          refine ab_bipush (v := 120) d_MO_compile_193 (by decide) ?_
          refine ab_iload_n d_MO_compile_195 rfl ?_
          refine ab_imul d_MO_compile_196 ?_
          refine ab_bipush (v := 12) d_MO_compile_197 (by decide) ?_
          refine ab_iload d_MO_compile_199 rfl ?_
          refine ab_imul d_MO_compile_201 ?_
          refine ab_topi (y := 72) (by decide) ?_
          refine ab_iadd d_MO_compile_202 ?_
          refine ab_iload d_MO_compile_203 rfl ?_
          refine ab_iadd d_MO_compile_205 ?_
          refine ab_aload_n d_MO_compile_206 rfl ?_
          refine ab_getf (fs := (m_fv (vI 0) (vI 0) (vI 0) (vI 0) (vI 0) (vI 0) (vI 0) (vI 0) (vI 2) (vI 0) (vI ((xs 2) &&& 15)) (vI 0) (vI (-1)) (vI 0) (vI 0) (vI 0) (vI 0) (vI 0) (vI 0) (vI (xs 1)) (vI 0) (vI 0) (vI 0) (vI 0) (vI 0) (vI 0) (vI 0) (vI 0) (vI 0) (vI 0) (vI 0) (vI 0) (vI 0) (vI 0) (vI 0))) f_MO_103 d_MO_compile_207 h80 rfl ?_
          refine ab_bipush (v := 12) d_MO_compile_210 (by decide) ?_
          refine ab_iload d_MO_compile_212 rfl ?_
          refine ab_imul d_MO_compile_214 ?_
          refine ab_topi (y := 72) (by decide) ?_
          refine ab_iload d_MO_compile_215 rfl ?_
          refine ab_iadd d_MO_compile_217 ?_
          refine ab_topi (y := 75) (by decide) ?_
          refine ab_iald d_MO_compile_218 h110 (by unfold vp_in; decide) ?_
          refine ab_topi (y := 0) rfl ?_
          refine ab_iast d_MO_compile_219 h126 (vp_in_iff.mpr (by have l0 := (show (0 : Int32).toInt = 0 by decide); have l1 := (show (3 : Int32).toInt = 3 by decide); have l2 := (show (5 : Int32).toInt = 5 by decide); have l3 := (show (31 : Int32).toInt = 31 by decide); have l4 := (show (72 : Int32).toInt = 72 by decide); have l5 := (show (120 : Int32).toInt = 120 by decide); simp only [Int32.le_iff_toInt_le, Int32.lt_iff_toInt_lt, ← Int32.toInt_inj] at c0 c1 c2 c3 c4 c5 c6 c7; have e0 : Int32.toInt (120 * (xs 1)) = Int32.toInt 120 * Int32.toInt (xs 1) := i32_mul (by simp only [l0, l1, l2, l3, l4, l5]; omega) (by simp only [l0, l1, l2, l3, l4, l5]; omega); have e1 : Int32.toInt ((120 * (xs 1)) + 72) = Int32.toInt (120 * (xs 1)) + Int32.toInt 72 := i32_add (by simp only [l0, l1, l2, l3, l4, l5, e0]; omega) (by simp only [l0, l1, l2, l3, l4, l5, e0]; omega); have e2 : Int32.toInt (((120 * (xs 1)) + 72) + 3) = Int32.toInt ((120 * (xs 1)) + 72) + Int32.toInt 3 := i32_add (by simp only [l0, l1, l2, l3, l4, l5, e0, e1]; omega) (by simp only [l0, l1, l2, l3, l4, l5, e0, e1]; omega); (try simp only [l0, l1, l2, l3, l4, l5] at e0 e1 e2); constructor <;> omega)) (by decide) ?_
          obtain ⟨G94, eG94⟩ : ∃ z : ab_G, z = List.set G93 126 (ab_if 720 ((upd f126_82 (Int32.toNatClampNeg (((120 * (xs 1)) + 72) + 3)) 0))) := ⟨_, rfl⟩
          have h80 := ab_keep eG94 (by decide) h80
          have h110 := ab_keep eG94 (by decide) h110
          have h127 := ab_keep eG94 (by decide) h127
          have hlen := ab_klen eG94 hlen
          have hsl := ab_ksl 720 eG94 h126 rfl rfl hsl
          have hfr := hfr.wr eG94 (by decide)
          have hpk := hpk.wr eG94 (by decide)
          have h126 := ab_kept eG94 h126
          change ab_W _ _ _ (List.set G93 126 (ab_if 720 ((upd f126_82 (Int32.toNatClampNeg (((120 * (xs 1)) + 72) + 3)) 0)))) 220 [some (vR 80), some (vI (xs 1)), some (vI (xs 2)), some (vI 1), some (vI 6), some (vI 3)] [] _
          rw [← eG94]
          obtain ⟨f126_83, h126⟩ : ∃ g : Nat → Int32, G94[126]? = some (ab_if 720 (g)) := ⟨_, h126⟩
          refine ab_iinc (v := 4) d_MO_compile_220 rfl (by decide) (Nat.le_of_ble_eq_true rfl) (Nat.le_of_ble_eq_true rfl) rfl ?_
          change ab_W _ _ _ G94 223 [some (vR 80), some (vI (xs 1)), some (vI (xs 2)), some (vI 1), some (vI 6), some (vI 4)] [] _
          refine ab_goto (tgt := 182) d_MO_compile_223 (by decide) ?_
          refine ab_iload d_MO_compile_182 rfl ?_
          refine ab_bipush (v := 12) d_MO_compile_184 (by decide) ?_
          refine ab_icmp_ge (tgt := 226) d_MO_compile_186 (by decide) (fun c => absurd c (by decide)) (fun _ => ?_)
          refine ab_aload_n d_MO_compile_189 rfl ?_
          refine ab_getf (fs := (m_fv (vI 0) (vI 0) (vI 0) (vI 0) (vI 0) (vI 0) (vI 0) (vI 0) (vI 2) (vI 0) (vI ((xs 2) &&& 15)) (vI 0) (vI (-1)) (vI 0) (vI 0) (vI 0) (vI 0) (vI 0) (vI 0) (vI (xs 1)) (vI 0) (vI 0) (vI 0) (vI 0) (vI 0) (vI 0) (vI 0) (vI 0) (vI 0) (vI 0) (vI 0) (vI 0) (vI 0) (vI 0) (vI 0))) f_MO_152 d_MO_compile_190 h80 rfl ?_
          refine ab_bipush (v := 120) d_MO_compile_193 (by decide) ?_
          refine ab_iload_n d_MO_compile_195 rfl ?_
          refine ab_imul d_MO_compile_196 ?_
          refine ab_bipush (v := 12) d_MO_compile_197 (by decide) ?_
          refine ab_iload d_MO_compile_199 rfl ?_
          refine ab_imul d_MO_compile_201 ?_
          refine ab_topi (y := 72) (by decide) ?_
          refine ab_iadd d_MO_compile_202 ?_
          refine ab_iload d_MO_compile_203 rfl ?_
          refine ab_iadd d_MO_compile_205 ?_
          refine ab_aload_n d_MO_compile_206 rfl ?_
          refine ab_getf (fs := (m_fv (vI 0) (vI 0) (vI 0) (vI 0) (vI 0) (vI 0) (vI 0) (vI 0) (vI 2) (vI 0) (vI ((xs 2) &&& 15)) (vI 0) (vI (-1)) (vI 0) (vI 0) (vI 0) (vI 0) (vI 0) (vI 0) (vI (xs 1)) (vI 0) (vI 0) (vI 0) (vI 0) (vI 0) (vI 0) (vI 0) (vI 0) (vI 0) (vI 0) (vI 0) (vI 0) (vI 0) (vI 0) (vI 0))) f_MO_103 d_MO_compile_207 h80 rfl ?_
          refine ab_bipush (v := 12) d_MO_compile_210 (by decide) ?_
          refine ab_iload d_MO_compile_212 rfl ?_
          refine ab_imul d_MO_compile_214 ?_
          refine ab_topi (y := 72) (by decide) ?_
          refine ab_iload d_MO_compile_215 rfl ?_
          refine ab_iadd d_MO_compile_217 ?_
          refine ab_topi (y := 76) (by decide) ?_
          refine ab_iald d_MO_compile_218 h110 (by unfold vp_in; decide) ?_
          refine ab_topi (y := 0) rfl ?_
          refine ab_iast d_MO_compile_219 h126 (vp_in_iff.mpr (by have l0 := (show (0 : Int32).toInt = 0 by decide); have l1 := (show (4 : Int32).toInt = 4 by decide); have l2 := (show (5 : Int32).toInt = 5 by decide); have l3 := (show (31 : Int32).toInt = 31 by decide); have l4 := (show (72 : Int32).toInt = 72 by decide); have l5 := (show (120 : Int32).toInt = 120 by decide); simp only [Int32.le_iff_toInt_le, Int32.lt_iff_toInt_lt, ← Int32.toInt_inj] at c0 c1 c2 c3 c4 c5 c6 c7; have e0 : Int32.toInt (120 * (xs 1)) = Int32.toInt 120 * Int32.toInt (xs 1) := i32_mul (by simp only [l0, l1, l2, l3, l4, l5]; omega) (by simp only [l0, l1, l2, l3, l4, l5]; omega); have e1 : Int32.toInt ((120 * (xs 1)) + 72) = Int32.toInt (120 * (xs 1)) + Int32.toInt 72 := i32_add (by simp only [l0, l1, l2, l3, l4, l5, e0]; omega) (by simp only [l0, l1, l2, l3, l4, l5, e0]; omega); have e2 : Int32.toInt (((120 * (xs 1)) + 72) + 4) = Int32.toInt ((120 * (xs 1)) + 72) + Int32.toInt 4 := i32_add (by simp only [l0, l1, l2, l3, l4, l5, e0, e1]; omega) (by simp only [l0, l1, l2, l3, l4, l5, e0, e1]; omega); (try simp only [l0, l1, l2, l3, l4, l5] at e0 e1 e2); constructor <;> omega)) (by decide) ?_
          obtain ⟨G95, eG95⟩ : ∃ z : ab_G, z = List.set G94 126 (ab_if 720 ((upd f126_83 (Int32.toNatClampNeg (((120 * (xs 1)) + 72) + 4)) 0))) := ⟨_, rfl⟩
          have h80 := ab_keep eG95 (by decide) h80
          have h110 := ab_keep eG95 (by decide) h110
          have h127 := ab_keep eG95 (by decide) h127
          have hlen := ab_klen eG95 hlen
          have hsl := ab_ksl 720 eG95 h126 rfl rfl hsl
          have hfr := hfr.wr eG95 (by decide)
          have hpk := hpk.wr eG95 (by decide)
          have h126 := ab_kept eG95 h126
          change ab_W _ _ _ (List.set G94 126 (ab_if 720 ((upd f126_83 (Int32.toNatClampNeg (((120 * (xs 1)) + 72) + 4)) 0)))) 220 [some (vR 80), some (vI (xs 1)), some (vI (xs 2)), some (vI 1), some (vI 6), some (vI 4)] [] _
          rw [← eG95]
          obtain ⟨f126_84, h126⟩ : ∃ g : Nat → Int32, G95[126]? = some (ab_if 720 (g)) := ⟨_, h126⟩
          refine ab_iinc (v := 5) d_MO_compile_220 rfl (by decide) (Nat.le_of_ble_eq_true rfl) (Nat.le_of_ble_eq_true rfl) rfl ?_
          change ab_W _ _ _ G95 223 [some (vR 80), some (vI (xs 1)), some (vI (xs 2)), some (vI 1), some (vI 6), some (vI 5)] [] _
          refine ab_goto (tgt := 182) d_MO_compile_223 (by decide) ?_
          refine ab_iload d_MO_compile_182 rfl ?_
          refine ab_bipush (v := 12) d_MO_compile_184 (by decide) ?_
          refine ab_icmp_ge (tgt := 226) d_MO_compile_186 (by decide) (fun c => absurd c (by decide)) (fun _ => ?_)
          refine ab_aload_n d_MO_compile_189 rfl ?_
          refine ab_getf (fs := (m_fv (vI 0) (vI 0) (vI 0) (vI 0) (vI 0) (vI 0) (vI 0) (vI 0) (vI 2) (vI 0) (vI ((xs 2) &&& 15)) (vI 0) (vI (-1)) (vI 0) (vI 0) (vI 0) (vI 0) (vI 0) (vI 0) (vI (xs 1)) (vI 0) (vI 0) (vI 0) (vI 0) (vI 0) (vI 0) (vI 0) (vI 0) (vI 0) (vI 0) (vI 0) (vI 0) (vI 0) (vI 0) (vI 0))) f_MO_152 d_MO_compile_190 h80 rfl ?_
          refine ab_bipush (v := 120) d_MO_compile_193 (by decide) ?_
          refine ab_iload_n d_MO_compile_195 rfl ?_
          refine ab_imul d_MO_compile_196 ?_
          refine ab_bipush (v := 12) d_MO_compile_197 (by decide) ?_
          refine ab_iload d_MO_compile_199 rfl ?_
          refine ab_imul d_MO_compile_201 ?_
          refine ab_topi (y := 72) (by decide) ?_
          refine ab_iadd d_MO_compile_202 ?_
          refine ab_iload d_MO_compile_203 rfl ?_
          refine ab_iadd d_MO_compile_205 ?_
          refine ab_aload_n d_MO_compile_206 rfl ?_
          refine ab_getf (fs := (m_fv (vI 0) (vI 0) (vI 0) (vI 0) (vI 0) (vI 0) (vI 0) (vI 0) (vI 2) (vI 0) (vI ((xs 2) &&& 15)) (vI 0) (vI (-1)) (vI 0) (vI 0) (vI 0) (vI 0) (vI 0) (vI 0) (vI (xs 1)) (vI 0) (vI 0) (vI 0) (vI 0) (vI 0) (vI 0) (vI 0) (vI 0) (vI 0) (vI 0) (vI 0) (vI 0) (vI 0) (vI 0) (vI 0))) f_MO_103 d_MO_compile_207 h80 rfl ?_
          refine ab_bipush (v := 12) d_MO_compile_210 (by decide) ?_
          refine ab_iload d_MO_compile_212 rfl ?_
          refine ab_imul d_MO_compile_214 ?_
          refine ab_topi (y := 72) (by decide) ?_
          refine ab_iload d_MO_compile_215 rfl ?_
          refine ab_iadd d_MO_compile_217 ?_
          refine ab_topi (y := 77) (by decide) ?_
          refine ab_iald d_MO_compile_218 h110 (by unfold vp_in; decide) ?_
          refine ab_topi (y := 0) rfl ?_
          refine ab_iast d_MO_compile_219 h126 (vp_in_iff.mpr (by have l0 := (show (0 : Int32).toInt = 0 by decide); have l1 := (show (5 : Int32).toInt = 5 by decide); have l2 := (show (31 : Int32).toInt = 31 by decide); have l3 := (show (72 : Int32).toInt = 72 by decide); have l4 := (show (120 : Int32).toInt = 120 by decide); simp only [Int32.le_iff_toInt_le, Int32.lt_iff_toInt_lt, ← Int32.toInt_inj] at c0 c1 c2 c3 c4 c5 c6 c7; have e0 : Int32.toInt (120 * (xs 1)) = Int32.toInt 120 * Int32.toInt (xs 1) := i32_mul (by simp only [l0, l1, l2, l3, l4]; omega) (by simp only [l0, l1, l2, l3, l4]; omega); have e1 : Int32.toInt ((120 * (xs 1)) + 72) = Int32.toInt (120 * (xs 1)) + Int32.toInt 72 := i32_add (by simp only [l0, l1, l2, l3, l4, e0]; omega) (by simp only [l0, l1, l2, l3, l4, e0]; omega); have e2 : Int32.toInt (((120 * (xs 1)) + 72) + 5) = Int32.toInt ((120 * (xs 1)) + 72) + Int32.toInt 5 := i32_add (by simp only [l0, l1, l2, l3, l4, e0, e1]; omega) (by simp only [l0, l1, l2, l3, l4, e0, e1]; omega); (try simp only [l0, l1, l2, l3, l4] at e0 e1 e2); constructor <;> omega)) (by decide) ?_
          obtain ⟨G96, eG96⟩ : ∃ z : ab_G, z = List.set G95 126 (ab_if 720 ((upd f126_84 (Int32.toNatClampNeg (((120 * (xs 1)) + 72) + 5)) 0))) := ⟨_, rfl⟩
          have h80 := ab_keep eG96 (by decide) h80
          have h110 := ab_keep eG96 (by decide) h110
          have h127 := ab_keep eG96 (by decide) h127
          have hlen := ab_klen eG96 hlen
          have hsl := ab_ksl 720 eG96 h126 rfl rfl hsl
          have hfr := hfr.wr eG96 (by decide)
          have hpk := hpk.wr eG96 (by decide)
          have h126 := ab_kept eG96 h126
          change ab_W _ _ _ (List.set G95 126 (ab_if 720 ((upd f126_84 (Int32.toNatClampNeg (((120 * (xs 1)) + 72) + 5)) 0)))) 220 [some (vR 80), some (vI (xs 1)), some (vI (xs 2)), some (vI 1), some (vI 6), some (vI 5)] [] _
          rw [← eG96]
          obtain ⟨f126_85, h126⟩ : ∃ g : Nat → Int32, G96[126]? = some (ab_if 720 (g)) := ⟨_, h126⟩
          refine ab_iinc (v := 6) d_MO_compile_220 rfl (by decide) (Nat.le_of_ble_eq_true rfl) (Nat.le_of_ble_eq_true rfl) rfl ?_
          change ab_W _ _ _ G96 223 [some (vR 80), some (vI (xs 1)), some (vI (xs 2)), some (vI 1), some (vI 6), some (vI 6)] [] _
          refine ab_goto (tgt := 182) d_MO_compile_223 (by decide) ?_
          refine ab_iload d_MO_compile_182 rfl ?_
          refine ab_bipush (v := 12) d_MO_compile_184 (by decide) ?_
          refine ab_icmp_ge (tgt := 226) d_MO_compile_186 (by decide) (fun c => absurd c (by decide)) (fun _ => ?_)
          refine ab_aload_n d_MO_compile_189 rfl ?_
          refine ab_getf (fs := (m_fv (vI 0) (vI 0) (vI 0) (vI 0) (vI 0) (vI 0) (vI 0) (vI 0) (vI 2) (vI 0) (vI ((xs 2) &&& 15)) (vI 0) (vI (-1)) (vI 0) (vI 0) (vI 0) (vI 0) (vI 0) (vI 0) (vI (xs 1)) (vI 0) (vI 0) (vI 0) (vI 0) (vI 0) (vI 0) (vI 0) (vI 0) (vI 0) (vI 0) (vI 0) (vI 0) (vI 0) (vI 0) (vI 0))) f_MO_152 d_MO_compile_190 h80 rfl ?_
          refine ab_bipush (v := 120) d_MO_compile_193 (by decide) ?_
          refine ab_iload_n d_MO_compile_195 rfl ?_
          refine ab_imul d_MO_compile_196 ?_
          refine ab_bipush (v := 12) d_MO_compile_197 (by decide) ?_
          refine ab_iload d_MO_compile_199 rfl ?_
          refine ab_imul d_MO_compile_201 ?_
          refine ab_topi (y := 72) (by decide) ?_
          refine ab_iadd d_MO_compile_202 ?_
          refine ab_iload d_MO_compile_203 rfl ?_
          refine ab_iadd d_MO_compile_205 ?_
          refine ab_aload_n d_MO_compile_206 rfl ?_
          refine ab_getf (fs := (m_fv (vI 0) (vI 0) (vI 0) (vI 0) (vI 0) (vI 0) (vI 0) (vI 0) (vI 2) (vI 0) (vI ((xs 2) &&& 15)) (vI 0) (vI (-1)) (vI 0) (vI 0) (vI 0) (vI 0) (vI 0) (vI 0) (vI (xs 1)) (vI 0) (vI 0) (vI 0) (vI 0) (vI 0) (vI 0) (vI 0) (vI 0) (vI 0) (vI 0) (vI 0) (vI 0) (vI 0) (vI 0) (vI 0))) f_MO_103 d_MO_compile_207 h80 rfl ?_
          refine ab_bipush (v := 12) d_MO_compile_210 (by decide) ?_
          refine ab_iload d_MO_compile_212 rfl ?_
          refine ab_imul d_MO_compile_214 ?_
          refine ab_topi (y := 72) (by decide) ?_
          refine ab_iload d_MO_compile_215 rfl ?_
          refine ab_iadd d_MO_compile_217 ?_
          refine ab_topi (y := 78) (by decide) ?_
          refine ab_iald d_MO_compile_218 h110 (by unfold vp_in; decide) ?_
          refine ab_topi (y := 0) rfl ?_
          refine ab_iast d_MO_compile_219 h126 (vp_in_iff.mpr (by have l0 := (show (0 : Int32).toInt = 0 by decide); have l1 := (show (5 : Int32).toInt = 5 by decide); have l2 := (show (6 : Int32).toInt = 6 by decide); have l3 := (show (31 : Int32).toInt = 31 by decide); have l4 := (show (72 : Int32).toInt = 72 by decide); have l5 := (show (120 : Int32).toInt = 120 by decide); simp only [Int32.le_iff_toInt_le, Int32.lt_iff_toInt_lt, ← Int32.toInt_inj] at c0 c1 c2 c3 c4 c5 c6 c7; have e0 : Int32.toInt (120 * (xs 1)) = Int32.toInt 120 * Int32.toInt (xs 1) := i32_mul (by simp only [l0, l1, l2, l3, l4, l5]; omega) (by simp only [l0, l1, l2, l3, l4, l5]; omega); have e1 : Int32.toInt ((120 * (xs 1)) + 72) = Int32.toInt (120 * (xs 1)) + Int32.toInt 72 := i32_add (by simp only [l0, l1, l2, l3, l4, l5, e0]; omega) (by simp only [l0, l1, l2, l3, l4, l5, e0]; omega); have e2 : Int32.toInt (((120 * (xs 1)) + 72) + 6) = Int32.toInt ((120 * (xs 1)) + 72) + Int32.toInt 6 := i32_add (by simp only [l0, l1, l2, l3, l4, l5, e0, e1]; omega) (by simp only [l0, l1, l2, l3, l4, l5, e0, e1]; omega); (try simp only [l0, l1, l2, l3, l4, l5] at e0 e1 e2); constructor <;> omega)) (by decide) ?_
          obtain ⟨G97, eG97⟩ : ∃ z : ab_G, z = List.set G96 126 (ab_if 720 ((upd f126_85 (Int32.toNatClampNeg (((120 * (xs 1)) + 72) + 6)) 0))) := ⟨_, rfl⟩
          have h80 := ab_keep eG97 (by decide) h80
          have h110 := ab_keep eG97 (by decide) h110
          have h127 := ab_keep eG97 (by decide) h127
          have hlen := ab_klen eG97 hlen
          have hsl := ab_ksl 720 eG97 h126 rfl rfl hsl
          have hfr := hfr.wr eG97 (by decide)
          have hpk := hpk.wr eG97 (by decide)
          have h126 := ab_kept eG97 h126
          change ab_W _ _ _ (List.set G96 126 (ab_if 720 ((upd f126_85 (Int32.toNatClampNeg (((120 * (xs 1)) + 72) + 6)) 0)))) 220 [some (vR 80), some (vI (xs 1)), some (vI (xs 2)), some (vI 1), some (vI 6), some (vI 6)] [] _
          rw [← eG97]
          obtain ⟨f126_86, h126⟩ : ∃ g : Nat → Int32, G97[126]? = some (ab_if 720 (g)) := ⟨_, h126⟩
          refine ab_iinc (v := 7) d_MO_compile_220 rfl (by decide) (Nat.le_of_ble_eq_true rfl) (Nat.le_of_ble_eq_true rfl) rfl ?_
          change ab_W _ _ _ G97 223 [some (vR 80), some (vI (xs 1)), some (vI (xs 2)), some (vI 1), some (vI 6), some (vI 7)] [] _
          refine ab_goto (tgt := 182) d_MO_compile_223 (by decide) ?_
          refine ab_iload d_MO_compile_182 rfl ?_
          refine ab_bipush (v := 12) d_MO_compile_184 (by decide) ?_
          refine ab_icmp_ge (tgt := 226) d_MO_compile_186 (by decide) (fun c => absurd c (by decide)) (fun _ => ?_)
          refine ab_aload_n d_MO_compile_189 rfl ?_
          refine ab_getf (fs := (m_fv (vI 0) (vI 0) (vI 0) (vI 0) (vI 0) (vI 0) (vI 0) (vI 0) (vI 2) (vI 0) (vI ((xs 2) &&& 15)) (vI 0) (vI (-1)) (vI 0) (vI 0) (vI 0) (vI 0) (vI 0) (vI 0) (vI (xs 1)) (vI 0) (vI 0) (vI 0) (vI 0) (vI 0) (vI 0) (vI 0) (vI 0) (vI 0) (vI 0) (vI 0) (vI 0) (vI 0) (vI 0) (vI 0))) f_MO_152 d_MO_compile_190 h80 rfl ?_
          refine ab_bipush (v := 120) d_MO_compile_193 (by decide) ?_
          refine ab_iload_n d_MO_compile_195 rfl ?_
          refine ab_imul d_MO_compile_196 ?_
          refine ab_bipush (v := 12) d_MO_compile_197 (by decide) ?_
          refine ab_iload d_MO_compile_199 rfl ?_
          refine ab_imul d_MO_compile_201 ?_
          refine ab_topi (y := 72) (by decide) ?_
          refine ab_iadd d_MO_compile_202 ?_
          refine ab_iload d_MO_compile_203 rfl ?_
          refine ab_iadd d_MO_compile_205 ?_
          refine ab_aload_n d_MO_compile_206 rfl ?_
          refine ab_getf (fs := (m_fv (vI 0) (vI 0) (vI 0) (vI 0) (vI 0) (vI 0) (vI 0) (vI 0) (vI 2) (vI 0) (vI ((xs 2) &&& 15)) (vI 0) (vI (-1)) (vI 0) (vI 0) (vI 0) (vI 0) (vI 0) (vI 0) (vI (xs 1)) (vI 0) (vI 0) (vI 0) (vI 0) (vI 0) (vI 0) (vI 0) (vI 0) (vI 0) (vI 0) (vI 0) (vI 0) (vI 0) (vI 0) (vI 0))) f_MO_103 d_MO_compile_207 h80 rfl ?_
          refine ab_bipush (v := 12) d_MO_compile_210 (by decide) ?_
          refine ab_iload d_MO_compile_212 rfl ?_
          refine ab_imul d_MO_compile_214 ?_
          refine ab_topi (y := 72) (by decide) ?_
          refine ab_iload d_MO_compile_215 rfl ?_
          refine ab_iadd d_MO_compile_217 ?_
          refine ab_topi (y := 79) (by decide) ?_
          refine ab_iald d_MO_compile_218 h110 (by unfold vp_in; decide) ?_
          refine ab_topi (y := 0) rfl ?_
          refine ab_iast d_MO_compile_219 h126 (vp_in_iff.mpr (by have l0 := (show (0 : Int32).toInt = 0 by decide); have l1 := (show (5 : Int32).toInt = 5 by decide); have l2 := (show (7 : Int32).toInt = 7 by decide); have l3 := (show (31 : Int32).toInt = 31 by decide); have l4 := (show (72 : Int32).toInt = 72 by decide); have l5 := (show (120 : Int32).toInt = 120 by decide); simp only [Int32.le_iff_toInt_le, Int32.lt_iff_toInt_lt, ← Int32.toInt_inj] at c0 c1 c2 c3 c4 c5 c6 c7; have e0 : Int32.toInt (120 * (xs 1)) = Int32.toInt 120 * Int32.toInt (xs 1) := i32_mul (by simp only [l0, l1, l2, l3, l4, l5]; omega) (by simp only [l0, l1, l2, l3, l4, l5]; omega); have e1 : Int32.toInt ((120 * (xs 1)) + 72) = Int32.toInt (120 * (xs 1)) + Int32.toInt 72 := i32_add (by simp only [l0, l1, l2, l3, l4, l5, e0]; omega) (by simp only [l0, l1, l2, l3, l4, l5, e0]; omega); have e2 : Int32.toInt (((120 * (xs 1)) + 72) + 7) = Int32.toInt ((120 * (xs 1)) + 72) + Int32.toInt 7 := i32_add (by simp only [l0, l1, l2, l3, l4, l5, e0, e1]; omega) (by simp only [l0, l1, l2, l3, l4, l5, e0, e1]; omega); (try simp only [l0, l1, l2, l3, l4, l5] at e0 e1 e2); constructor <;> omega)) (by decide) ?_
          obtain ⟨G98, eG98⟩ : ∃ z : ab_G, z = List.set G97 126 (ab_if 720 ((upd f126_86 (Int32.toNatClampNeg (((120 * (xs 1)) + 72) + 7)) 0))) := ⟨_, rfl⟩
          have h80 := ab_keep eG98 (by decide) h80
          have h110 := ab_keep eG98 (by decide) h110
          have h127 := ab_keep eG98 (by decide) h127
          have hlen := ab_klen eG98 hlen
          have hsl := ab_ksl 720 eG98 h126 rfl rfl hsl
          have hfr := hfr.wr eG98 (by decide)
          have hpk := hpk.wr eG98 (by decide)
          have h126 := ab_kept eG98 h126
          change ab_W _ _ _ (List.set G97 126 (ab_if 720 ((upd f126_86 (Int32.toNatClampNeg (((120 * (xs 1)) + 72) + 7)) 0)))) 220 [some (vR 80), some (vI (xs 1)), some (vI (xs 2)), some (vI 1), some (vI 6), some (vI 7)] [] _
          rw [← eG98]
          obtain ⟨f126_87, h126⟩ : ∃ g : Nat → Int32, G98[126]? = some (ab_if 720 (g)) := ⟨_, h126⟩
          refine ab_iinc (v := 8) d_MO_compile_220 rfl (by decide) (Nat.le_of_ble_eq_true rfl) (Nat.le_of_ble_eq_true rfl) rfl ?_
          change ab_W _ _ _ G98 223 [some (vR 80), some (vI (xs 1)), some (vI (xs 2)), some (vI 1), some (vI 6), some (vI 8)] [] _
          refine ab_goto (tgt := 182) d_MO_compile_223 (by decide) ?_
          refine ab_iload d_MO_compile_182 rfl ?_
          refine ab_bipush (v := 12) d_MO_compile_184 (by decide) ?_
          refine ab_icmp_ge (tgt := 226) d_MO_compile_186 (by decide) (fun c => absurd c (by decide)) (fun _ => ?_)
          refine ab_aload_n d_MO_compile_189 rfl ?_
          refine ab_getf (fs := (m_fv (vI 0) (vI 0) (vI 0) (vI 0) (vI 0) (vI 0) (vI 0) (vI 0) (vI 2) (vI 0) (vI ((xs 2) &&& 15)) (vI 0) (vI (-1)) (vI 0) (vI 0) (vI 0) (vI 0) (vI 0) (vI 0) (vI (xs 1)) (vI 0) (vI 0) (vI 0) (vI 0) (vI 0) (vI 0) (vI 0) (vI 0) (vI 0) (vI 0) (vI 0) (vI 0) (vI 0) (vI 0) (vI 0))) f_MO_152 d_MO_compile_190 h80 rfl ?_
          refine ab_bipush (v := 120) d_MO_compile_193 (by decide) ?_
          refine ab_iload_n d_MO_compile_195 rfl ?_
          refine ab_imul d_MO_compile_196 ?_
          refine ab_bipush (v := 12) d_MO_compile_197 (by decide) ?_
          refine ab_iload d_MO_compile_199 rfl ?_
          refine ab_imul d_MO_compile_201 ?_
          refine ab_topi (y := 72) (by decide) ?_
          refine ab_iadd d_MO_compile_202 ?_
          refine ab_iload d_MO_compile_203 rfl ?_
          refine ab_iadd d_MO_compile_205 ?_
          refine ab_aload_n d_MO_compile_206 rfl ?_
          refine ab_getf (fs := (m_fv (vI 0) (vI 0) (vI 0) (vI 0) (vI 0) (vI 0) (vI 0) (vI 0) (vI 2) (vI 0) (vI ((xs 2) &&& 15)) (vI 0) (vI (-1)) (vI 0) (vI 0) (vI 0) (vI 0) (vI 0) (vI 0) (vI (xs 1)) (vI 0) (vI 0) (vI 0) (vI 0) (vI 0) (vI 0) (vI 0) (vI 0) (vI 0) (vI 0) (vI 0) (vI 0) (vI 0) (vI 0) (vI 0))) f_MO_103 d_MO_compile_207 h80 rfl ?_
          refine ab_bipush (v := 12) d_MO_compile_210 (by decide) ?_
          refine ab_iload d_MO_compile_212 rfl ?_
          refine ab_imul d_MO_compile_214 ?_
          refine ab_topi (y := 72) (by decide) ?_
          refine ab_iload d_MO_compile_215 rfl ?_
          refine ab_iadd d_MO_compile_217 ?_
          refine ab_topi (y := 80) (by decide) ?_
          refine ab_iald d_MO_compile_218 h110 (by unfold vp_in; decide) ?_
          refine ab_topi (y := 0) rfl ?_
          refine ab_iast d_MO_compile_219 h126 (vp_in_iff.mpr (by have l0 := (show (0 : Int32).toInt = 0 by decide); have l1 := (show (5 : Int32).toInt = 5 by decide); have l2 := (show (8 : Int32).toInt = 8 by decide); have l3 := (show (31 : Int32).toInt = 31 by decide); have l4 := (show (72 : Int32).toInt = 72 by decide); have l5 := (show (120 : Int32).toInt = 120 by decide); simp only [Int32.le_iff_toInt_le, Int32.lt_iff_toInt_lt, ← Int32.toInt_inj] at c0 c1 c2 c3 c4 c5 c6 c7; have e0 : Int32.toInt (120 * (xs 1)) = Int32.toInt 120 * Int32.toInt (xs 1) := i32_mul (by simp only [l0, l1, l2, l3, l4, l5]; omega) (by simp only [l0, l1, l2, l3, l4, l5]; omega); have e1 : Int32.toInt ((120 * (xs 1)) + 72) = Int32.toInt (120 * (xs 1)) + Int32.toInt 72 := i32_add (by simp only [l0, l1, l2, l3, l4, l5, e0]; omega) (by simp only [l0, l1, l2, l3, l4, l5, e0]; omega); have e2 : Int32.toInt (((120 * (xs 1)) + 72) + 8) = Int32.toInt ((120 * (xs 1)) + 72) + Int32.toInt 8 := i32_add (by simp only [l0, l1, l2, l3, l4, l5, e0, e1]; omega) (by simp only [l0, l1, l2, l3, l4, l5, e0, e1]; omega); (try simp only [l0, l1, l2, l3, l4, l5] at e0 e1 e2); constructor <;> omega)) (by decide) ?_
          obtain ⟨G99, eG99⟩ : ∃ z : ab_G, z = List.set G98 126 (ab_if 720 ((upd f126_87 (Int32.toNatClampNeg (((120 * (xs 1)) + 72) + 8)) 0))) := ⟨_, rfl⟩
          have h80 := ab_keep eG99 (by decide) h80
          have h110 := ab_keep eG99 (by decide) h110
          have h127 := ab_keep eG99 (by decide) h127
          have hlen := ab_klen eG99 hlen
          have hsl := ab_ksl 720 eG99 h126 rfl rfl hsl
          have hfr := hfr.wr eG99 (by decide)
          have hpk := hpk.wr eG99 (by decide)
          have h126 := ab_kept eG99 h126
          change ab_W _ _ _ (List.set G98 126 (ab_if 720 ((upd f126_87 (Int32.toNatClampNeg (((120 * (xs 1)) + 72) + 8)) 0)))) 220 [some (vR 80), some (vI (xs 1)), some (vI (xs 2)), some (vI 1), some (vI 6), some (vI 8)] [] _
          rw [← eG99]
          obtain ⟨f126_88, h126⟩ : ∃ g : Nat → Int32, G99[126]? = some (ab_if 720 (g)) := ⟨_, h126⟩
          refine ab_iinc (v := 9) d_MO_compile_220 rfl (by decide) (Nat.le_of_ble_eq_true rfl) (Nat.le_of_ble_eq_true rfl) rfl ?_
          change ab_W _ _ _ G99 223 [some (vR 80), some (vI (xs 1)), some (vI (xs 2)), some (vI 1), some (vI 6), some (vI 9)] [] _
          refine ab_goto (tgt := 182) d_MO_compile_223 (by decide) ?_
          refine ab_iload d_MO_compile_182 rfl ?_
          refine ab_bipush (v := 12) d_MO_compile_184 (by decide) ?_
          refine ab_icmp_ge (tgt := 226) d_MO_compile_186 (by decide) (fun c => absurd c (by decide)) (fun _ => ?_)
          refine ab_aload_n d_MO_compile_189 rfl ?_
          refine ab_getf (fs := (m_fv (vI 0) (vI 0) (vI 0) (vI 0) (vI 0) (vI 0) (vI 0) (vI 0) (vI 2) (vI 0) (vI ((xs 2) &&& 15)) (vI 0) (vI (-1)) (vI 0) (vI 0) (vI 0) (vI 0) (vI 0) (vI 0) (vI (xs 1)) (vI 0) (vI 0) (vI 0) (vI 0) (vI 0) (vI 0) (vI 0) (vI 0) (vI 0) (vI 0) (vI 0) (vI 0) (vI 0) (vI 0) (vI 0))) f_MO_152 d_MO_compile_190 h80 rfl ?_
          refine ab_bipush (v := 120) d_MO_compile_193 (by decide) ?_
          refine ab_iload_n d_MO_compile_195 rfl ?_
          refine ab_imul d_MO_compile_196 ?_
          refine ab_bipush (v := 12) d_MO_compile_197 (by decide) ?_
          refine ab_iload d_MO_compile_199 rfl ?_
          refine ab_imul d_MO_compile_201 ?_
          refine ab_topi (y := 72) (by decide) ?_
          refine ab_iadd d_MO_compile_202 ?_
          refine ab_iload d_MO_compile_203 rfl ?_
          refine ab_iadd d_MO_compile_205 ?_
          refine ab_aload_n d_MO_compile_206 rfl ?_
          refine ab_getf (fs := (m_fv (vI 0) (vI 0) (vI 0) (vI 0) (vI 0) (vI 0) (vI 0) (vI 0) (vI 2) (vI 0) (vI ((xs 2) &&& 15)) (vI 0) (vI (-1)) (vI 0) (vI 0) (vI 0) (vI 0) (vI 0) (vI 0) (vI (xs 1)) (vI 0) (vI 0) (vI 0) (vI 0) (vI 0) (vI 0) (vI 0) (vI 0) (vI 0) (vI 0) (vI 0) (vI 0) (vI 0) (vI 0) (vI 0))) f_MO_103 d_MO_compile_207 h80 rfl ?_
          refine ab_bipush (v := 12) d_MO_compile_210 (by decide) ?_
          refine ab_iload d_MO_compile_212 rfl ?_
          refine ab_imul d_MO_compile_214 ?_
          refine ab_topi (y := 72) (by decide) ?_
          refine ab_iload d_MO_compile_215 rfl ?_
          refine ab_iadd d_MO_compile_217 ?_
          refine ab_topi (y := 81) (by decide) ?_
          refine ab_iald d_MO_compile_218 h110 (by unfold vp_in; decide) ?_
          refine ab_topi (y := 0) rfl ?_
          refine ab_iast d_MO_compile_219 h126 (vp_in_iff.mpr (by have l0 := (show (0 : Int32).toInt = 0 by decide); have l1 := (show (5 : Int32).toInt = 5 by decide); have l2 := (show (9 : Int32).toInt = 9 by decide); have l3 := (show (31 : Int32).toInt = 31 by decide); have l4 := (show (72 : Int32).toInt = 72 by decide); have l5 := (show (120 : Int32).toInt = 120 by decide); simp only [Int32.le_iff_toInt_le, Int32.lt_iff_toInt_lt, ← Int32.toInt_inj] at c0 c1 c2 c3 c4 c5 c6 c7; have e0 : Int32.toInt (120 * (xs 1)) = Int32.toInt 120 * Int32.toInt (xs 1) := i32_mul (by simp only [l0, l1, l2, l3, l4, l5]; omega) (by simp only [l0, l1, l2, l3, l4, l5]; omega); have e1 : Int32.toInt ((120 * (xs 1)) + 72) = Int32.toInt (120 * (xs 1)) + Int32.toInt 72 := i32_add (by simp only [l0, l1, l2, l3, l4, l5, e0]; omega) (by simp only [l0, l1, l2, l3, l4, l5, e0]; omega); have e2 : Int32.toInt (((120 * (xs 1)) + 72) + 9) = Int32.toInt ((120 * (xs 1)) + 72) + Int32.toInt 9 := i32_add (by simp only [l0, l1, l2, l3, l4, l5, e0, e1]; omega) (by simp only [l0, l1, l2, l3, l4, l5, e0, e1]; omega); (try simp only [l0, l1, l2, l3, l4, l5] at e0 e1 e2); constructor <;> omega)) (by decide) ?_
          obtain ⟨G100, eG100⟩ : ∃ z : ab_G, z = List.set G99 126 (ab_if 720 ((upd f126_88 (Int32.toNatClampNeg (((120 * (xs 1)) + 72) + 9)) 0))) := ⟨_, rfl⟩
          have h80 := ab_keep eG100 (by decide) h80
          have h110 := ab_keep eG100 (by decide) h110
          have h127 := ab_keep eG100 (by decide) h127
          have hlen := ab_klen eG100 hlen
          have hsl := ab_ksl 720 eG100 h126 rfl rfl hsl
          have hfr := hfr.wr eG100 (by decide)
          have hpk := hpk.wr eG100 (by decide)
          have h126 := ab_kept eG100 h126
          change ab_W _ _ _ (List.set G99 126 (ab_if 720 ((upd f126_88 (Int32.toNatClampNeg (((120 * (xs 1)) + 72) + 9)) 0)))) 220 [some (vR 80), some (vI (xs 1)), some (vI (xs 2)), some (vI 1), some (vI 6), some (vI 9)] [] _
          rw [← eG100]
          obtain ⟨f126_89, h126⟩ : ∃ g : Nat → Int32, G100[126]? = some (ab_if 720 (g)) := ⟨_, h126⟩
          refine ab_iinc (v := 10) d_MO_compile_220 rfl (by decide) (Nat.le_of_ble_eq_true rfl) (Nat.le_of_ble_eq_true rfl) rfl ?_
          change ab_W _ _ _ G100 223 [some (vR 80), some (vI (xs 1)), some (vI (xs 2)), some (vI 1), some (vI 6), some (vI 10)] [] _
          refine ab_goto (tgt := 182) d_MO_compile_223 (by decide) ?_
          refine ab_iload d_MO_compile_182 rfl ?_
          refine ab_bipush (v := 12) d_MO_compile_184 (by decide) ?_
          refine ab_icmp_ge (tgt := 226) d_MO_compile_186 (by decide) (fun c => absurd c (by decide)) (fun _ => ?_)
          refine ab_aload_n d_MO_compile_189 rfl ?_
          refine ab_getf (fs := (m_fv (vI 0) (vI 0) (vI 0) (vI 0) (vI 0) (vI 0) (vI 0) (vI 0) (vI 2) (vI 0) (vI ((xs 2) &&& 15)) (vI 0) (vI (-1)) (vI 0) (vI 0) (vI 0) (vI 0) (vI 0) (vI 0) (vI (xs 1)) (vI 0) (vI 0) (vI 0) (vI 0) (vI 0) (vI 0) (vI 0) (vI 0) (vI 0) (vI 0) (vI 0) (vI 0) (vI 0) (vI 0) (vI 0))) f_MO_152 d_MO_compile_190 h80 rfl ?_
          refine ab_bipush (v := 120) d_MO_compile_193 (by decide) ?_
          refine ab_iload_n d_MO_compile_195 rfl ?_
          refine ab_imul d_MO_compile_196 ?_
          refine ab_bipush (v := 12) d_MO_compile_197 (by decide) ?_
          refine ab_iload d_MO_compile_199 rfl ?_
          refine ab_imul d_MO_compile_201 ?_
          refine ab_topi (y := 72) (by decide) ?_
          refine ab_iadd d_MO_compile_202 ?_
          refine ab_iload d_MO_compile_203 rfl ?_
          refine ab_iadd d_MO_compile_205 ?_
          refine ab_aload_n d_MO_compile_206 rfl ?_
          refine ab_getf (fs := (m_fv (vI 0) (vI 0) (vI 0) (vI 0) (vI 0) (vI 0) (vI 0) (vI 0) (vI 2) (vI 0) (vI ((xs 2) &&& 15)) (vI 0) (vI (-1)) (vI 0) (vI 0) (vI 0) (vI 0) (vI 0) (vI 0) (vI (xs 1)) (vI 0) (vI 0) (vI 0) (vI 0) (vI 0) (vI 0) (vI 0) (vI 0) (vI 0) (vI 0) (vI 0) (vI 0) (vI 0) (vI 0) (vI 0))) f_MO_103 d_MO_compile_207 h80 rfl ?_
          refine ab_bipush (v := 12) d_MO_compile_210 (by decide) ?_
          refine ab_iload d_MO_compile_212 rfl ?_
          refine ab_imul d_MO_compile_214 ?_
          refine ab_topi (y := 72) (by decide) ?_
          refine ab_iload d_MO_compile_215 rfl ?_
          refine ab_iadd d_MO_compile_217 ?_
          refine ab_topi (y := 82) (by decide) ?_
          refine ab_iald d_MO_compile_218 h110 (by unfold vp_in; decide) ?_
          refine ab_topi (y := 0) rfl ?_
          refine ab_iast d_MO_compile_219 h126 (vp_in_iff.mpr (by have l0 := (show (0 : Int32).toInt = 0 by decide); have l1 := (show (5 : Int32).toInt = 5 by decide); have l2 := (show (10 : Int32).toInt = 10 by decide); have l3 := (show (31 : Int32).toInt = 31 by decide); have l4 := (show (72 : Int32).toInt = 72 by decide); have l5 := (show (120 : Int32).toInt = 120 by decide); simp only [Int32.le_iff_toInt_le, Int32.lt_iff_toInt_lt, ← Int32.toInt_inj] at c0 c1 c2 c3 c4 c5 c6 c7; have e0 : Int32.toInt (120 * (xs 1)) = Int32.toInt 120 * Int32.toInt (xs 1) := i32_mul (by simp only [l0, l1, l2, l3, l4, l5]; omega) (by simp only [l0, l1, l2, l3, l4, l5]; omega); have e1 : Int32.toInt ((120 * (xs 1)) + 72) = Int32.toInt (120 * (xs 1)) + Int32.toInt 72 := i32_add (by simp only [l0, l1, l2, l3, l4, l5, e0]; omega) (by simp only [l0, l1, l2, l3, l4, l5, e0]; omega); have e2 : Int32.toInt (((120 * (xs 1)) + 72) + 10) = Int32.toInt ((120 * (xs 1)) + 72) + Int32.toInt 10 := i32_add (by simp only [l0, l1, l2, l3, l4, l5, e0, e1]; omega) (by simp only [l0, l1, l2, l3, l4, l5, e0, e1]; omega); (try simp only [l0, l1, l2, l3, l4, l5] at e0 e1 e2); constructor <;> omega)) (by decide) ?_
          obtain ⟨G101, eG101⟩ : ∃ z : ab_G, z = List.set G100 126 (ab_if 720 ((upd f126_89 (Int32.toNatClampNeg (((120 * (xs 1)) + 72) + 10)) 0))) := ⟨_, rfl⟩
          have h80 := ab_keep eG101 (by decide) h80
          have h110 := ab_keep eG101 (by decide) h110
          have h127 := ab_keep eG101 (by decide) h127
          have hlen := ab_klen eG101 hlen
          have hsl := ab_ksl 720 eG101 h126 rfl rfl hsl
          have hfr := hfr.wr eG101 (by decide)
          have hpk := hpk.wr eG101 (by decide)
          have h126 := ab_kept eG101 h126
          change ab_W _ _ _ (List.set G100 126 (ab_if 720 ((upd f126_89 (Int32.toNatClampNeg (((120 * (xs 1)) + 72) + 10)) 0)))) 220 [some (vR 80), some (vI (xs 1)), some (vI (xs 2)), some (vI 1), some (vI 6), some (vI 10)] [] _
          rw [← eG101]
          obtain ⟨f126_90, h126⟩ : ∃ g : Nat → Int32, G101[126]? = some (ab_if 720 (g)) := ⟨_, h126⟩
          refine ab_iinc (v := 11) d_MO_compile_220 rfl (by decide) (Nat.le_of_ble_eq_true rfl) (Nat.le_of_ble_eq_true rfl) rfl ?_
          change ab_W _ _ _ G101 223 [some (vR 80), some (vI (xs 1)), some (vI (xs 2)), some (vI 1), some (vI 6), some (vI 11)] [] _
          refine ab_goto (tgt := 182) d_MO_compile_223 (by decide) ?_
          refine ab_iload d_MO_compile_182 rfl ?_
          refine ab_bipush (v := 12) d_MO_compile_184 (by decide) ?_
          refine ab_icmp_ge (tgt := 226) d_MO_compile_186 (by decide) (fun c => absurd c (by decide)) (fun _ => ?_)
          refine ab_aload_n d_MO_compile_189 rfl ?_
          refine ab_getf (fs := (m_fv (vI 0) (vI 0) (vI 0) (vI 0) (vI 0) (vI 0) (vI 0) (vI 0) (vI 2) (vI 0) (vI ((xs 2) &&& 15)) (vI 0) (vI (-1)) (vI 0) (vI 0) (vI 0) (vI 0) (vI 0) (vI 0) (vI (xs 1)) (vI 0) (vI 0) (vI 0) (vI 0) (vI 0) (vI 0) (vI 0) (vI 0) (vI 0) (vI 0) (vI 0) (vI 0) (vI 0) (vI 0) (vI 0))) f_MO_152 d_MO_compile_190 h80 rfl ?_
          refine ab_bipush (v := 120) d_MO_compile_193 (by decide) ?_
          refine ab_iload_n d_MO_compile_195 rfl ?_
          refine ab_imul d_MO_compile_196 ?_
          refine ab_bipush (v := 12) d_MO_compile_197 (by decide) ?_
          refine ab_iload d_MO_compile_199 rfl ?_
          refine ab_imul d_MO_compile_201 ?_
          refine ab_topi (y := 72) (by decide) ?_
          refine ab_iadd d_MO_compile_202 ?_
          refine ab_iload d_MO_compile_203 rfl ?_
          refine ab_iadd d_MO_compile_205 ?_
          refine ab_aload_n d_MO_compile_206 rfl ?_
          refine ab_getf (fs := (m_fv (vI 0) (vI 0) (vI 0) (vI 0) (vI 0) (vI 0) (vI 0) (vI 0) (vI 2) (vI 0) (vI ((xs 2) &&& 15)) (vI 0) (vI (-1)) (vI 0) (vI 0) (vI 0) (vI 0) (vI 0) (vI 0) (vI (xs 1)) (vI 0) (vI 0) (vI 0) (vI 0) (vI 0) (vI 0) (vI 0) (vI 0) (vI 0) (vI 0) (vI 0) (vI 0) (vI 0) (vI 0) (vI 0))) f_MO_103 d_MO_compile_207 h80 rfl ?_
          refine ab_bipush (v := 12) d_MO_compile_210 (by decide) ?_
          refine ab_iload d_MO_compile_212 rfl ?_
          refine ab_imul d_MO_compile_214 ?_
          refine ab_topi (y := 72) (by decide) ?_
          refine ab_iload d_MO_compile_215 rfl ?_
          refine ab_iadd d_MO_compile_217 ?_
          refine ab_topi (y := 83) (by decide) ?_
          refine ab_iald d_MO_compile_218 h110 (by unfold vp_in; decide) ?_
          refine ab_topi (y := 0) rfl ?_
          refine ab_iast d_MO_compile_219 h126 (vp_in_iff.mpr (by have l0 := (show (0 : Int32).toInt = 0 by decide); have l1 := (show (5 : Int32).toInt = 5 by decide); have l2 := (show (11 : Int32).toInt = 11 by decide); have l3 := (show (31 : Int32).toInt = 31 by decide); have l4 := (show (72 : Int32).toInt = 72 by decide); have l5 := (show (120 : Int32).toInt = 120 by decide); simp only [Int32.le_iff_toInt_le, Int32.lt_iff_toInt_lt, ← Int32.toInt_inj] at c0 c1 c2 c3 c4 c5 c6 c7; have e0 : Int32.toInt (120 * (xs 1)) = Int32.toInt 120 * Int32.toInt (xs 1) := i32_mul (by simp only [l0, l1, l2, l3, l4, l5]; omega) (by simp only [l0, l1, l2, l3, l4, l5]; omega); have e1 : Int32.toInt ((120 * (xs 1)) + 72) = Int32.toInt (120 * (xs 1)) + Int32.toInt 72 := i32_add (by simp only [l0, l1, l2, l3, l4, l5, e0]; omega) (by simp only [l0, l1, l2, l3, l4, l5, e0]; omega); have e2 : Int32.toInt (((120 * (xs 1)) + 72) + 11) = Int32.toInt ((120 * (xs 1)) + 72) + Int32.toInt 11 := i32_add (by simp only [l0, l1, l2, l3, l4, l5, e0, e1]; omega) (by simp only [l0, l1, l2, l3, l4, l5, e0, e1]; omega); (try simp only [l0, l1, l2, l3, l4, l5] at e0 e1 e2); constructor <;> omega)) (by decide) ?_
          obtain ⟨G102, eG102⟩ : ∃ z : ab_G, z = List.set G101 126 (ab_if 720 ((upd f126_90 (Int32.toNatClampNeg (((120 * (xs 1)) + 72) + 11)) 0))) := ⟨_, rfl⟩
          have h80 := ab_keep eG102 (by decide) h80
          have h110 := ab_keep eG102 (by decide) h110
          have h127 := ab_keep eG102 (by decide) h127
          have hlen := ab_klen eG102 hlen
          have hsl := ab_ksl 720 eG102 h126 rfl rfl hsl
          have hfr := hfr.wr eG102 (by decide)
          have hpk := hpk.wr eG102 (by decide)
          have h126 := ab_kept eG102 h126
          change ab_W _ _ _ (List.set G101 126 (ab_if 720 ((upd f126_90 (Int32.toNatClampNeg (((120 * (xs 1)) + 72) + 11)) 0)))) 220 [some (vR 80), some (vI (xs 1)), some (vI (xs 2)), some (vI 1), some (vI 6), some (vI 11)] [] _
          rw [← eG102]
          obtain ⟨f126_91, h126⟩ : ∃ g : Nat → Int32, G102[126]? = some (ab_if 720 (g)) := ⟨_, h126⟩
          refine ab_iinc (v := 12) d_MO_compile_220 rfl (by decide) (Nat.le_of_ble_eq_true rfl) (Nat.le_of_ble_eq_true rfl) rfl ?_
          change ab_W _ _ _ G102 223 [some (vR 80), some (vI (xs 1)), some (vI (xs 2)), some (vI 1), some (vI 6), some (vI 12)] [] _
          refine ab_goto (tgt := 182) d_MO_compile_223 (by decide) ?_
          refine ab_iload d_MO_compile_182 rfl ?_
          refine ab_bipush (v := 12) d_MO_compile_184 (by decide) ?_
          refine ab_icmp_ge (tgt := 226) d_MO_compile_186 (by decide) (fun _ => ?_) (fun c => absurd c (by decide))
          refine ab_iinc (v := 7) d_MO_compile_226 rfl (by decide) (Nat.le_of_ble_eq_true rfl) (Nat.le_of_ble_eq_true rfl) rfl ?_
          change ab_W _ _ _ G102 229 [some (vR 80), some (vI (xs 1)), some (vI (xs 2)), some (vI 1), some (vI 7), some (vI 12)] [] _
          refine ab_goto (tgt := 135) d_MO_compile_229 (by decide) ?_
          refine ab_iload d_MO_compile_135 rfl ?_
          refine ab_bipush (v := 10) d_MO_compile_137 (by decide) ?_
          refine ab_icmp_ge (tgt := 232) d_MO_compile_139 (by decide) (fun c => absurd c (by decide)) (fun _ => ?_)
          refine ab_aload_n d_MO_compile_142 rfl ?_
          refine ab_getf (fs := (m_fv (vI 0) (vI 0) (vI 0) (vI 0) (vI 0) (vI 0) (vI 0) (vI 0) (vI 2) (vI 0) (vI ((xs 2) &&& 15)) (vI 0) (vI (-1)) (vI 0) (vI 0) (vI 0) (vI 0) (vI 0) (vI 0) (vI (xs 1)) (vI 0) (vI 0) (vI 0) (vI 0) (vI 0) (vI 0) (vI 0) (vI 0) (vI 0) (vI 0) (vI 0) (vI 0) (vI 0) (vI 0) (vI 0))) f_MO_155 d_MO_compile_143 h80 rfl ?_
          refine ab_bipush (v := 10) d_MO_compile_146 (by decide) ?_
          refine ab_iload_n d_MO_compile_148 rfl ?_
          refine ab_imul d_MO_compile_149 ?_
          refine ab_iload d_MO_compile_150 rfl ?_
          refine ab_iadd d_MO_compile_152 ?_
          refine ab_iload d_MO_compile_153 rfl ?_
          refine ab_if_le (tgt := 177) d_MO_compile_155 (by decide) (fun c => absurd c (by decide)) (fun _ => ?_)
          refine ab_iload d_MO_compile_158 rfl ?_
          refine ab_aload_n d_MO_compile_160 rfl ?_
          refine ab_getf (fs := (m_fv (vI 0) (vI 0) (vI 0) (vI 0) (vI 0) (vI 0) (vI 0) (vI 0) (vI 2) (vI 0) (vI ((xs 2) &&& 15)) (vI 0) (vI (-1)) (vI 0) (vI 0) (vI 0) (vI 0) (vI 0) (vI 0) (vI (xs 1)) (vI 0) (vI 0) (vI 0) (vI 0) (vI 0) (vI 0) (vI 0) (vI 0) (vI 0) (vI 0) (vI 0) (vI 0) (vI 0) (vI 0) (vI 0))) f_MO_395 d_MO_compile_161 h80 rfl ?_
          refine ab_icmp_gt (tgt := 177) d_MO_compile_164 (by decide) (fun _ => ?_) (fun c => absurd c (by decide))
          refine ab_iconst (v := 0) d_MO_compile_177 (by decide) ?_
          refine ab_iast d_MO_compile_178 h127 (vp_in_iff.mpr (by have l0 := (show (0 : Int32).toInt = 0 by decide); have l1 := (show (5 : Int32).toInt = 5 by decide); have l2 := (show (7 : Int32).toInt = 7 by decide); have l3 := (show (10 : Int32).toInt = 10 by decide); have l4 := (show (31 : Int32).toInt = 31 by decide); simp only [Int32.le_iff_toInt_le, Int32.lt_iff_toInt_lt, ← Int32.toInt_inj] at c0 c1 c2 c3 c4 c5 c6 c7; have e0 : Int32.toInt (10 * (xs 1)) = Int32.toInt 10 * Int32.toInt (xs 1) := i32_mul (by simp only [l0, l1, l2, l3, l4]; omega) (by simp only [l0, l1, l2, l3, l4]; omega); have e1 : Int32.toInt ((10 * (xs 1)) + 7) = Int32.toInt (10 * (xs 1)) + Int32.toInt 7 := i32_add (by simp only [l0, l1, l2, l3, l4, e0]; omega) (by simp only [l0, l1, l2, l3, l4, e0]; omega); (try simp only [l0, l1, l2, l3, l4] at e0 e1); constructor <;> omega)) (by decide) ?_
          obtain ⟨G103, eG103⟩ : ∃ z : ab_G, z = List.set G102 127 (ab_if 60 ((upd f127_79 (Int32.toNatClampNeg ((10 * (xs 1)) + 7)) 0))) := ⟨_, rfl⟩
          have h80 := ab_keep eG103 (by decide) h80
          have h110 := ab_keep eG103 (by decide) h110
          have h126 := ab_keep eG103 (by decide) h126
          have hlen := ab_klen eG103 hlen
          have hsl := ab_ksl 60 eG103 h127 rfl rfl hsl
          have hfr := hfr.wr eG103 (by decide)
          have hpk := hpk.wr eG103 (by decide)
          have h127 := ab_kept eG103 h127
          change ab_W _ _ _ (List.set G102 127 (ab_if 60 ((upd f127_79 (Int32.toNatClampNeg ((10 * (xs 1)) + 7)) 0)))) 179 [some (vR 80), some (vI (xs 1)), some (vI (xs 2)), some (vI 1), some (vI 7), some (vI 12)] [] _
          rw [← eG103]
          obtain ⟨f127_92, h127⟩ : ∃ g : Nat → Int32, G103[127]? = some (ab_if 60 (g)) := ⟨_, h127⟩
          refine ab_iconst (v := 0) d_MO_compile_179 (by decide) ?_
          refine ab_istore d_MO_compile_180 (Nat.le_of_ble_eq_true rfl) (Nat.le_of_ble_eq_true rfl) rfl ?_
          change ab_W _ _ _ G103 182 [some (vR 80), some (vI (xs 1)), some (vI (xs 2)), some (vI 1), some (vI 7), some (vI 0)] [] _
          refine ab_iload d_MO_compile_182 rfl ?_
          refine ab_bipush (v := 12) d_MO_compile_184 (by decide) ?_
          refine ab_icmp_ge (tgt := 226) d_MO_compile_186 (by decide) (fun c => absurd c (by decide)) (fun _ => ?_)
          refine ab_aload_n d_MO_compile_189 rfl ?_
          refine ab_getf (fs := (m_fv (vI 0) (vI 0) (vI 0) (vI 0) (vI 0) (vI 0) (vI 0) (vI 0) (vI 2) (vI 0) (vI ((xs 2) &&& 15)) (vI 0) (vI (-1)) (vI 0) (vI 0) (vI 0) (vI 0) (vI 0) (vI 0) (vI (xs 1)) (vI 0) (vI 0) (vI 0) (vI 0) (vI 0) (vI 0) (vI 0) (vI 0) (vI 0) (vI 0) (vI 0) (vI 0) (vI 0) (vI 0) (vI 0))) f_MO_152 d_MO_compile_190 h80 rfl ?_
          refine ab_bipush (v := 120) d_MO_compile_193 (by decide) ?_
          refine ab_iload_n d_MO_compile_195 rfl ?_
          refine ab_imul d_MO_compile_196 ?_
          refine ab_bipush (v := 12) d_MO_compile_197 (by decide) ?_
          refine ab_iload d_MO_compile_199 rfl ?_
          refine ab_imul d_MO_compile_201 ?_
          refine ab_topi (y := 84) (by decide) ?_
          refine ab_iadd d_MO_compile_202 ?_
          refine ab_iload d_MO_compile_203 rfl ?_
          refine ab_iadd d_MO_compile_205 ?_
          refine ab_topi (y := ((120 * (xs 1)) + 84)) (Int32.add_zero _) ?_
          refine ab_aload_n d_MO_compile_206 rfl ?_
          refine ab_getf (fs := (m_fv (vI 0) (vI 0) (vI 0) (vI 0) (vI 0) (vI 0) (vI 0) (vI 0) (vI 2) (vI 0) (vI ((xs 2) &&& 15)) (vI 0) (vI (-1)) (vI 0) (vI 0) (vI 0) (vI 0) (vI 0) (vI 0) (vI (xs 1)) (vI 0) (vI 0) (vI 0) (vI 0) (vI 0) (vI 0) (vI 0) (vI 0) (vI 0) (vI 0) (vI 0) (vI 0) (vI 0) (vI 0) (vI 0))) f_MO_103 d_MO_compile_207 h80 rfl ?_
          refine ab_bipush (v := 12) d_MO_compile_210 (by decide) ?_
          refine ab_iload d_MO_compile_212 rfl ?_
          refine ab_imul d_MO_compile_214 ?_
          refine ab_topi (y := 84) (by decide) ?_
          refine ab_iload d_MO_compile_215 rfl ?_
          refine ab_iadd d_MO_compile_217 ?_
          refine ab_topi (y := 84) (by decide) ?_
          refine ab_iald d_MO_compile_218 h110 (by unfold vp_in; decide) ?_
          refine ab_topi (y := 0) rfl ?_
          refine ab_iast d_MO_compile_219 h126 (vp_in_iff.mpr (by have l0 := (show (0 : Int32).toInt = 0 by decide); have l1 := (show (5 : Int32).toInt = 5 by decide); have l2 := (show (31 : Int32).toInt = 31 by decide); have l3 := (show (84 : Int32).toInt = 84 by decide); have l4 := (show (120 : Int32).toInt = 120 by decide); simp only [Int32.le_iff_toInt_le, Int32.lt_iff_toInt_lt, ← Int32.toInt_inj] at c0 c1 c2 c3 c4 c5 c6 c7; have e0 : Int32.toInt (120 * (xs 1)) = Int32.toInt 120 * Int32.toInt (xs 1) := i32_mul (by simp only [l0, l1, l2, l3, l4]; omega) (by simp only [l0, l1, l2, l3, l4]; omega); have e1 : Int32.toInt ((120 * (xs 1)) + 84) = Int32.toInt (120 * (xs 1)) + Int32.toInt 84 := i32_add (by simp only [l0, l1, l2, l3, l4, e0]; omega) (by simp only [l0, l1, l2, l3, l4, e0]; omega); (try simp only [l0, l1, l2, l3, l4] at e0 e1); constructor <;> omega)) (by decide) ?_
          obtain ⟨G104, eG104⟩ : ∃ z : ab_G, z = List.set G103 126 (ab_if 720 ((upd f126_91 (Int32.toNatClampNeg ((120 * (xs 1)) + 84)) 0))) := ⟨_, rfl⟩
          have h80 := ab_keep eG104 (by decide) h80
          have h110 := ab_keep eG104 (by decide) h110
          have h127 := ab_keep eG104 (by decide) h127
          have hlen := ab_klen eG104 hlen
          have hsl := ab_ksl 720 eG104 h126 rfl rfl hsl
          have hfr := hfr.wr eG104 (by decide)
          have hpk := hpk.wr eG104 (by decide)
          have h126 := ab_kept eG104 h126
          change ab_W _ _ _ (List.set G103 126 (ab_if 720 ((upd f126_91 (Int32.toNatClampNeg ((120 * (xs 1)) + 84)) 0)))) 220 [some (vR 80), some (vI (xs 1)), some (vI (xs 2)), some (vI 1), some (vI 7), some (vI 0)] [] _
          rw [← eG104]
          obtain ⟨f126_93, h126⟩ : ∃ g : Nat → Int32, G104[126]? = some (ab_if 720 (g)) := ⟨_, h126⟩
          refine ab_iinc (v := 1) d_MO_compile_220 rfl (by decide) (Nat.le_of_ble_eq_true rfl) (Nat.le_of_ble_eq_true rfl) rfl ?_
          change ab_W _ _ _ G104 223 [some (vR 80), some (vI (xs 1)), some (vI (xs 2)), some (vI 1), some (vI 7), some (vI 1)] [] _
          refine ab_goto (tgt := 182) d_MO_compile_223 (by decide) ?_
          refine ab_iload d_MO_compile_182 rfl ?_
          refine ab_bipush (v := 12) d_MO_compile_184 (by decide) ?_
          refine ab_icmp_ge (tgt := 226) d_MO_compile_186 (by decide) (fun c => absurd c (by decide)) (fun _ => ?_)
          refine ab_aload_n d_MO_compile_189 rfl ?_
          refine ab_getf (fs := (m_fv (vI 0) (vI 0) (vI 0) (vI 0) (vI 0) (vI 0) (vI 0) (vI 0) (vI 2) (vI 0) (vI ((xs 2) &&& 15)) (vI 0) (vI (-1)) (vI 0) (vI 0) (vI 0) (vI 0) (vI 0) (vI 0) (vI (xs 1)) (vI 0) (vI 0) (vI 0) (vI 0) (vI 0) (vI 0) (vI 0) (vI 0) (vI 0) (vI 0) (vI 0) (vI 0) (vI 0) (vI 0) (vI 0))) f_MO_152 d_MO_compile_190 h80 rfl ?_
          refine ab_bipush (v := 120) d_MO_compile_193 (by decide) ?_
          refine ab_iload_n d_MO_compile_195 rfl ?_
          refine ab_imul d_MO_compile_196 ?_
          refine ab_bipush (v := 12) d_MO_compile_197 (by decide) ?_
          refine ab_iload d_MO_compile_199 rfl ?_
          refine ab_imul d_MO_compile_201 ?_
          refine ab_topi (y := 84) (by decide) ?_
          refine ab_iadd d_MO_compile_202 ?_
          refine ab_iload d_MO_compile_203 rfl ?_
          refine ab_iadd d_MO_compile_205 ?_
          refine ab_aload_n d_MO_compile_206 rfl ?_
          refine ab_getf (fs := (m_fv (vI 0) (vI 0) (vI 0) (vI 0) (vI 0) (vI 0) (vI 0) (vI 0) (vI 2) (vI 0) (vI ((xs 2) &&& 15)) (vI 0) (vI (-1)) (vI 0) (vI 0) (vI 0) (vI 0) (vI 0) (vI 0) (vI (xs 1)) (vI 0) (vI 0) (vI 0) (vI 0) (vI 0) (vI 0) (vI 0) (vI 0) (vI 0) (vI 0) (vI 0) (vI 0) (vI 0) (vI 0) (vI 0))) f_MO_103 d_MO_compile_207 h80 rfl ?_
          refine ab_bipush (v := 12) d_MO_compile_210 (by decide) ?_
          refine ab_iload d_MO_compile_212 rfl ?_
          refine ab_imul d_MO_compile_214 ?_
          refine ab_topi (y := 84) (by decide) ?_
          refine ab_iload d_MO_compile_215 rfl ?_
          refine ab_iadd d_MO_compile_217 ?_
          refine ab_topi (y := 85) (by decide) ?_
          refine ab_iald d_MO_compile_218 h110 (by unfold vp_in; decide) ?_
          refine ab_topi (y := 0) rfl ?_
          refine ab_iast d_MO_compile_219 h126 (vp_in_iff.mpr (by have l0 := (show (0 : Int32).toInt = 0 by decide); have l1 := (show (1 : Int32).toInt = 1 by decide); have l2 := (show (5 : Int32).toInt = 5 by decide); have l3 := (show (31 : Int32).toInt = 31 by decide); have l4 := (show (84 : Int32).toInt = 84 by decide); have l5 := (show (120 : Int32).toInt = 120 by decide); simp only [Int32.le_iff_toInt_le, Int32.lt_iff_toInt_lt, ← Int32.toInt_inj] at c0 c1 c2 c3 c4 c5 c6 c7; have e0 : Int32.toInt (120 * (xs 1)) = Int32.toInt 120 * Int32.toInt (xs 1) := i32_mul (by simp only [l0, l1, l2, l3, l4, l5]; omega) (by simp only [l0, l1, l2, l3, l4, l5]; omega); have e1 : Int32.toInt ((120 * (xs 1)) + 84) = Int32.toInt (120 * (xs 1)) + Int32.toInt 84 := i32_add (by simp only [l0, l1, l2, l3, l4, l5, e0]; omega) (by simp only [l0, l1, l2, l3, l4, l5, e0]; omega); have e2 : Int32.toInt (((120 * (xs 1)) + 84) + 1) = Int32.toInt ((120 * (xs 1)) + 84) + Int32.toInt 1 := i32_add (by simp only [l0, l1, l2, l3, l4, l5, e0, e1]; omega) (by simp only [l0, l1, l2, l3, l4, l5, e0, e1]; omega); (try simp only [l0, l1, l2, l3, l4, l5] at e0 e1 e2); constructor <;> omega)) (by decide) ?_
          obtain ⟨G105, eG105⟩ : ∃ z : ab_G, z = List.set G104 126 (ab_if 720 ((upd f126_93 (Int32.toNatClampNeg (((120 * (xs 1)) + 84) + 1)) 0))) := ⟨_, rfl⟩
          have h80 := ab_keep eG105 (by decide) h80
          have h110 := ab_keep eG105 (by decide) h110
          have h127 := ab_keep eG105 (by decide) h127
          have hlen := ab_klen eG105 hlen
          have hsl := ab_ksl 720 eG105 h126 rfl rfl hsl
          have hfr := hfr.wr eG105 (by decide)
          have hpk := hpk.wr eG105 (by decide)
          have h126 := ab_kept eG105 h126
          change ab_W _ _ _ (List.set G104 126 (ab_if 720 ((upd f126_93 (Int32.toNatClampNeg (((120 * (xs 1)) + 84) + 1)) 0)))) 220 [some (vR 80), some (vI (xs 1)), some (vI (xs 2)), some (vI 1), some (vI 7), some (vI 1)] [] _
          rw [← eG105]
          obtain ⟨f126_94, h126⟩ : ∃ g : Nat → Int32, G105[126]? = some (ab_if 720 (g)) := ⟨_, h126⟩
          refine ab_iinc (v := 2) d_MO_compile_220 rfl (by decide) (Nat.le_of_ble_eq_true rfl) (Nat.le_of_ble_eq_true rfl) rfl ?_
          change ab_W _ _ _ G105 223 [some (vR 80), some (vI (xs 1)), some (vI (xs 2)), some (vI 1), some (vI 7), some (vI 2)] [] _
          refine ab_goto (tgt := 182) d_MO_compile_223 (by decide) ?_
          refine ab_iload d_MO_compile_182 rfl ?_
          refine ab_bipush (v := 12) d_MO_compile_184 (by decide) ?_
          refine ab_icmp_ge (tgt := 226) d_MO_compile_186 (by decide) (fun c => absurd c (by decide)) (fun _ => ?_)
          refine ab_aload_n d_MO_compile_189 rfl ?_
          refine ab_getf (fs := (m_fv (vI 0) (vI 0) (vI 0) (vI 0) (vI 0) (vI 0) (vI 0) (vI 0) (vI 2) (vI 0) (vI ((xs 2) &&& 15)) (vI 0) (vI (-1)) (vI 0) (vI 0) (vI 0) (vI 0) (vI 0) (vI 0) (vI (xs 1)) (vI 0) (vI 0) (vI 0) (vI 0) (vI 0) (vI 0) (vI 0) (vI 0) (vI 0) (vI 0) (vI 0) (vI 0) (vI 0) (vI 0) (vI 0))) f_MO_152 d_MO_compile_190 h80 rfl ?_
          refine ab_bipush (v := 120) d_MO_compile_193 (by decide) ?_
          refine ab_iload_n d_MO_compile_195 rfl ?_
          refine ab_imul d_MO_compile_196 ?_
          refine ab_bipush (v := 12) d_MO_compile_197 (by decide) ?_
          refine ab_iload d_MO_compile_199 rfl ?_
          refine ab_imul d_MO_compile_201 ?_
          refine ab_topi (y := 84) (by decide) ?_
          refine ab_iadd d_MO_compile_202 ?_
          refine ab_iload d_MO_compile_203 rfl ?_
          refine ab_iadd d_MO_compile_205 ?_
          refine ab_aload_n d_MO_compile_206 rfl ?_
          refine ab_getf (fs := (m_fv (vI 0) (vI 0) (vI 0) (vI 0) (vI 0) (vI 0) (vI 0) (vI 0) (vI 2) (vI 0) (vI ((xs 2) &&& 15)) (vI 0) (vI (-1)) (vI 0) (vI 0) (vI 0) (vI 0) (vI 0) (vI 0) (vI (xs 1)) (vI 0) (vI 0) (vI 0) (vI 0) (vI 0) (vI 0) (vI 0) (vI 0) (vI 0) (vI 0) (vI 0) (vI 0) (vI 0) (vI 0) (vI 0))) f_MO_103 d_MO_compile_207 h80 rfl ?_
          refine ab_bipush (v := 12) d_MO_compile_210 (by decide) ?_
          refine ab_iload d_MO_compile_212 rfl ?_
          refine ab_imul d_MO_compile_214 ?_
          refine ab_topi (y := 84) (by decide) ?_
          refine ab_iload d_MO_compile_215 rfl ?_
          refine ab_iadd d_MO_compile_217 ?_
          refine ab_topi (y := 86) (by decide) ?_
          refine ab_iald d_MO_compile_218 h110 (by unfold vp_in; decide) ?_
          refine ab_topi (y := 0) rfl ?_
          refine ab_iast d_MO_compile_219 h126 (vp_in_iff.mpr (by have l0 := (show (0 : Int32).toInt = 0 by decide); have l1 := (show (2 : Int32).toInt = 2 by decide); have l2 := (show (5 : Int32).toInt = 5 by decide); have l3 := (show (31 : Int32).toInt = 31 by decide); have l4 := (show (84 : Int32).toInt = 84 by decide); have l5 := (show (120 : Int32).toInt = 120 by decide); simp only [Int32.le_iff_toInt_le, Int32.lt_iff_toInt_lt, ← Int32.toInt_inj] at c0 c1 c2 c3 c4 c5 c6 c7; have e0 : Int32.toInt (120 * (xs 1)) = Int32.toInt 120 * Int32.toInt (xs 1) := i32_mul (by simp only [l0, l1, l2, l3, l4, l5]; omega) (by simp only [l0, l1, l2, l3, l4, l5]; omega); have e1 : Int32.toInt ((120 * (xs 1)) + 84) = Int32.toInt (120 * (xs 1)) + Int32.toInt 84 := i32_add (by simp only [l0, l1, l2, l3, l4, l5, e0]; omega) (by simp only [l0, l1, l2, l3, l4, l5, e0]; omega); have e2 : Int32.toInt (((120 * (xs 1)) + 84) + 2) = Int32.toInt ((120 * (xs 1)) + 84) + Int32.toInt 2 := i32_add (by simp only [l0, l1, l2, l3, l4, l5, e0, e1]; omega) (by simp only [l0, l1, l2, l3, l4, l5, e0, e1]; omega); (try simp only [l0, l1, l2, l3, l4, l5] at e0 e1 e2); constructor <;> omega)) (by decide) ?_
          obtain ⟨G106, eG106⟩ : ∃ z : ab_G, z = List.set G105 126 (ab_if 720 ((upd f126_94 (Int32.toNatClampNeg (((120 * (xs 1)) + 84) + 2)) 0))) := ⟨_, rfl⟩
          have h80 := ab_keep eG106 (by decide) h80
          have h110 := ab_keep eG106 (by decide) h110
          have h127 := ab_keep eG106 (by decide) h127
          have hlen := ab_klen eG106 hlen
          have hsl := ab_ksl 720 eG106 h126 rfl rfl hsl
          have hfr := hfr.wr eG106 (by decide)
          have hpk := hpk.wr eG106 (by decide)
          have h126 := ab_kept eG106 h126
          change ab_W _ _ _ (List.set G105 126 (ab_if 720 ((upd f126_94 (Int32.toNatClampNeg (((120 * (xs 1)) + 84) + 2)) 0)))) 220 [some (vR 80), some (vI (xs 1)), some (vI (xs 2)), some (vI 1), some (vI 7), some (vI 2)] [] _
          rw [← eG106]
          obtain ⟨f126_95, h126⟩ : ∃ g : Nat → Int32, G106[126]? = some (ab_if 720 (g)) := ⟨_, h126⟩
          refine ab_iinc (v := 3) d_MO_compile_220 rfl (by decide) (Nat.le_of_ble_eq_true rfl) (Nat.le_of_ble_eq_true rfl) rfl ?_
          change ab_W _ _ _ G106 223 [some (vR 80), some (vI (xs 1)), some (vI (xs 2)), some (vI 1), some (vI 7), some (vI 3)] [] _
          refine ab_goto (tgt := 182) d_MO_compile_223 (by decide) ?_
          refine ab_iload d_MO_compile_182 rfl ?_
          refine ab_bipush (v := 12) d_MO_compile_184 (by decide) ?_
          refine ab_icmp_ge (tgt := 226) d_MO_compile_186 (by decide) (fun c => absurd c (by decide)) (fun _ => ?_)
          refine ab_aload_n d_MO_compile_189 rfl ?_
          refine ab_getf (fs := (m_fv (vI 0) (vI 0) (vI 0) (vI 0) (vI 0) (vI 0) (vI 0) (vI 0) (vI 2) (vI 0) (vI ((xs 2) &&& 15)) (vI 0) (vI (-1)) (vI 0) (vI 0) (vI 0) (vI 0) (vI 0) (vI 0) (vI (xs 1)) (vI 0) (vI 0) (vI 0) (vI 0) (vI 0) (vI 0) (vI 0) (vI 0) (vI 0) (vI 0) (vI 0) (vI 0) (vI 0) (vI 0) (vI 0))) f_MO_152 d_MO_compile_190 h80 rfl ?_
          refine ab_bipush (v := 120) d_MO_compile_193 (by decide) ?_
          refine ab_iload_n d_MO_compile_195 rfl ?_
          refine ab_imul d_MO_compile_196 ?_
          refine ab_bipush (v := 12) d_MO_compile_197 (by decide) ?_
          refine ab_iload d_MO_compile_199 rfl ?_
          refine ab_imul d_MO_compile_201 ?_
          refine ab_topi (y := 84) (by decide) ?_
          refine ab_iadd d_MO_compile_202 ?_
          refine ab_iload d_MO_compile_203 rfl ?_
          refine ab_iadd d_MO_compile_205 ?_
          refine ab_aload_n d_MO_compile_206 rfl ?_
          refine ab_getf (fs := (m_fv (vI 0) (vI 0) (vI 0) (vI 0) (vI 0) (vI 0) (vI 0) (vI 0) (vI 2) (vI 0) (vI ((xs 2) &&& 15)) (vI 0) (vI (-1)) (vI 0) (vI 0) (vI 0) (vI 0) (vI 0) (vI 0) (vI (xs 1)) (vI 0) (vI 0) (vI 0) (vI 0) (vI 0) (vI 0) (vI 0) (vI 0) (vI 0) (vI 0) (vI 0) (vI 0) (vI 0) (vI 0) (vI 0))) f_MO_103 d_MO_compile_207 h80 rfl ?_
          refine ab_bipush (v := 12) d_MO_compile_210 (by decide) ?_
          refine ab_iload d_MO_compile_212 rfl ?_
          refine ab_imul d_MO_compile_214 ?_
          refine ab_topi (y := 84) (by decide) ?_
          refine ab_iload d_MO_compile_215 rfl ?_
          refine ab_iadd d_MO_compile_217 ?_
          refine ab_topi (y := 87) (by decide) ?_
          refine ab_iald d_MO_compile_218 h110 (by unfold vp_in; decide) ?_
          refine ab_topi (y := 0) rfl ?_
          refine ab_iast d_MO_compile_219 h126 (vp_in_iff.mpr (by have l0 := (show (0 : Int32).toInt = 0 by decide); have l1 := (show (3 : Int32).toInt = 3 by decide); have l2 := (show (5 : Int32).toInt = 5 by decide); have l3 := (show (31 : Int32).toInt = 31 by decide); have l4 := (show (84 : Int32).toInt = 84 by decide); have l5 := (show (120 : Int32).toInt = 120 by decide); simp only [Int32.le_iff_toInt_le, Int32.lt_iff_toInt_lt, ← Int32.toInt_inj] at c0 c1 c2 c3 c4 c5 c6 c7; have e0 : Int32.toInt (120 * (xs 1)) = Int32.toInt 120 * Int32.toInt (xs 1) := i32_mul (by simp only [l0, l1, l2, l3, l4, l5]; omega) (by simp only [l0, l1, l2, l3, l4, l5]; omega); have e1 : Int32.toInt ((120 * (xs 1)) + 84) = Int32.toInt (120 * (xs 1)) + Int32.toInt 84 := i32_add (by simp only [l0, l1, l2, l3, l4, l5, e0]; omega) (by simp only [l0, l1, l2, l3, l4, l5, e0]; omega); have e2 : Int32.toInt (((120 * (xs 1)) + 84) + 3) = Int32.toInt ((120 * (xs 1)) + 84) + Int32.toInt 3 := i32_add (by simp only [l0, l1, l2, l3, l4, l5, e0, e1]; omega) (by simp only [l0, l1, l2, l3, l4, l5, e0, e1]; omega); (try simp only [l0, l1, l2, l3, l4, l5] at e0 e1 e2); constructor <;> omega)) (by decide) ?_
          obtain ⟨G107, eG107⟩ : ∃ z : ab_G, z = List.set G106 126 (ab_if 720 ((upd f126_95 (Int32.toNatClampNeg (((120 * (xs 1)) + 84) + 3)) 0))) := ⟨_, rfl⟩
          have h80 := ab_keep eG107 (by decide) h80
          have h110 := ab_keep eG107 (by decide) h110
          have h127 := ab_keep eG107 (by decide) h127
          have hlen := ab_klen eG107 hlen
          have hsl := ab_ksl 720 eG107 h126 rfl rfl hsl
          have hfr := hfr.wr eG107 (by decide)
          have hpk := hpk.wr eG107 (by decide)
          have h126 := ab_kept eG107 h126
          change ab_W _ _ _ (List.set G106 126 (ab_if 720 ((upd f126_95 (Int32.toNatClampNeg (((120 * (xs 1)) + 84) + 3)) 0)))) 220 [some (vR 80), some (vI (xs 1)), some (vI (xs 2)), some (vI 1), some (vI 7), some (vI 3)] [] _
          rw [← eG107]
          obtain ⟨f126_96, h126⟩ : ∃ g : Nat → Int32, G107[126]? = some (ab_if 720 (g)) := ⟨_, h126⟩
          refine ab_iinc (v := 4) d_MO_compile_220 rfl (by decide) (Nat.le_of_ble_eq_true rfl) (Nat.le_of_ble_eq_true rfl) rfl ?_
          change ab_W _ _ _ G107 223 [some (vR 80), some (vI (xs 1)), some (vI (xs 2)), some (vI 1), some (vI 7), some (vI 4)] [] _
          refine ab_goto (tgt := 182) d_MO_compile_223 (by decide) ?_
          refine ab_iload d_MO_compile_182 rfl ?_
          refine ab_bipush (v := 12) d_MO_compile_184 (by decide) ?_
          refine ab_icmp_ge (tgt := 226) d_MO_compile_186 (by decide) (fun c => absurd c (by decide)) (fun _ => ?_)
          refine ab_aload_n d_MO_compile_189 rfl ?_
          refine ab_getf (fs := (m_fv (vI 0) (vI 0) (vI 0) (vI 0) (vI 0) (vI 0) (vI 0) (vI 0) (vI 2) (vI 0) (vI ((xs 2) &&& 15)) (vI 0) (vI (-1)) (vI 0) (vI 0) (vI 0) (vI 0) (vI 0) (vI 0) (vI (xs 1)) (vI 0) (vI 0) (vI 0) (vI 0) (vI 0) (vI 0) (vI 0) (vI 0) (vI 0) (vI 0) (vI 0) (vI 0) (vI 0) (vI 0) (vI 0))) f_MO_152 d_MO_compile_190 h80 rfl ?_
          refine ab_bipush (v := 120) d_MO_compile_193 (by decide) ?_
          refine ab_iload_n d_MO_compile_195 rfl ?_
          refine ab_imul d_MO_compile_196 ?_
          refine ab_bipush (v := 12) d_MO_compile_197 (by decide) ?_
          refine ab_iload d_MO_compile_199 rfl ?_
          refine ab_imul d_MO_compile_201 ?_
          refine ab_topi (y := 84) (by decide) ?_
          refine ab_iadd d_MO_compile_202 ?_
          refine ab_iload d_MO_compile_203 rfl ?_
          refine ab_iadd d_MO_compile_205 ?_
          refine ab_aload_n d_MO_compile_206 rfl ?_
          refine ab_getf (fs := (m_fv (vI 0) (vI 0) (vI 0) (vI 0) (vI 0) (vI 0) (vI 0) (vI 0) (vI 2) (vI 0) (vI ((xs 2) &&& 15)) (vI 0) (vI (-1)) (vI 0) (vI 0) (vI 0) (vI 0) (vI 0) (vI 0) (vI (xs 1)) (vI 0) (vI 0) (vI 0) (vI 0) (vI 0) (vI 0) (vI 0) (vI 0) (vI 0) (vI 0) (vI 0) (vI 0) (vI 0) (vI 0) (vI 0))) f_MO_103 d_MO_compile_207 h80 rfl ?_
          refine ab_bipush (v := 12) d_MO_compile_210 (by decide) ?_
          refine ab_iload d_MO_compile_212 rfl ?_
          refine ab_imul d_MO_compile_214 ?_
          refine ab_topi (y := 84) (by decide) ?_
          refine ab_iload d_MO_compile_215 rfl ?_
          refine ab_iadd d_MO_compile_217 ?_
          refine ab_topi (y := 88) (by decide) ?_
          refine ab_iald d_MO_compile_218 h110 (by unfold vp_in; decide) ?_
          refine ab_topi (y := 0) rfl ?_
          refine ab_iast d_MO_compile_219 h126 (vp_in_iff.mpr (by have l0 := (show (0 : Int32).toInt = 0 by decide); have l1 := (show (4 : Int32).toInt = 4 by decide); have l2 := (show (5 : Int32).toInt = 5 by decide); have l3 := (show (31 : Int32).toInt = 31 by decide); have l4 := (show (84 : Int32).toInt = 84 by decide); have l5 := (show (120 : Int32).toInt = 120 by decide); simp only [Int32.le_iff_toInt_le, Int32.lt_iff_toInt_lt, ← Int32.toInt_inj] at c0 c1 c2 c3 c4 c5 c6 c7; have e0 : Int32.toInt (120 * (xs 1)) = Int32.toInt 120 * Int32.toInt (xs 1) := i32_mul (by simp only [l0, l1, l2, l3, l4, l5]; omega) (by simp only [l0, l1, l2, l3, l4, l5]; omega); have e1 : Int32.toInt ((120 * (xs 1)) + 84) = Int32.toInt (120 * (xs 1)) + Int32.toInt 84 := i32_add (by simp only [l0, l1, l2, l3, l4, l5, e0]; omega) (by simp only [l0, l1, l2, l3, l4, l5, e0]; omega); have e2 : Int32.toInt (((120 * (xs 1)) + 84) + 4) = Int32.toInt ((120 * (xs 1)) + 84) + Int32.toInt 4 := i32_add (by simp only [l0, l1, l2, l3, l4, l5, e0, e1]; omega) (by simp only [l0, l1, l2, l3, l4, l5, e0, e1]; omega); (try simp only [l0, l1, l2, l3, l4, l5] at e0 e1 e2); constructor <;> omega)) (by decide) ?_
          obtain ⟨G108, eG108⟩ : ∃ z : ab_G, z = List.set G107 126 (ab_if 720 ((upd f126_96 (Int32.toNatClampNeg (((120 * (xs 1)) + 84) + 4)) 0))) := ⟨_, rfl⟩
          have h80 := ab_keep eG108 (by decide) h80
          have h110 := ab_keep eG108 (by decide) h110
          have h127 := ab_keep eG108 (by decide) h127
          have hlen := ab_klen eG108 hlen
          have hsl := ab_ksl 720 eG108 h126 rfl rfl hsl
          have hfr := hfr.wr eG108 (by decide)
          have hpk := hpk.wr eG108 (by decide)
          have h126 := ab_kept eG108 h126
          change ab_W _ _ _ (List.set G107 126 (ab_if 720 ((upd f126_96 (Int32.toNatClampNeg (((120 * (xs 1)) + 84) + 4)) 0)))) 220 [some (vR 80), some (vI (xs 1)), some (vI (xs 2)), some (vI 1), some (vI 7), some (vI 4)] [] _
          rw [← eG108]
          obtain ⟨f126_97, h126⟩ : ∃ g : Nat → Int32, G108[126]? = some (ab_if 720 (g)) := ⟨_, h126⟩
          refine ab_iinc (v := 5) d_MO_compile_220 rfl (by decide) (Nat.le_of_ble_eq_true rfl) (Nat.le_of_ble_eq_true rfl) rfl ?_
          change ab_W _ _ _ G108 223 [some (vR 80), some (vI (xs 1)), some (vI (xs 2)), some (vI 1), some (vI 7), some (vI 5)] [] _
          refine ab_goto (tgt := 182) d_MO_compile_223 (by decide) ?_
          refine ab_iload d_MO_compile_182 rfl ?_
          refine ab_bipush (v := 12) d_MO_compile_184 (by decide) ?_
          refine ab_icmp_ge (tgt := 226) d_MO_compile_186 (by decide) (fun c => absurd c (by decide)) (fun _ => ?_)
          refine ab_aload_n d_MO_compile_189 rfl ?_
          refine ab_getf (fs := (m_fv (vI 0) (vI 0) (vI 0) (vI 0) (vI 0) (vI 0) (vI 0) (vI 0) (vI 2) (vI 0) (vI ((xs 2) &&& 15)) (vI 0) (vI (-1)) (vI 0) (vI 0) (vI 0) (vI 0) (vI 0) (vI 0) (vI (xs 1)) (vI 0) (vI 0) (vI 0) (vI 0) (vI 0) (vI 0) (vI 0) (vI 0) (vI 0) (vI 0) (vI 0) (vI 0) (vI 0) (vI 0) (vI 0))) f_MO_152 d_MO_compile_190 h80 rfl ?_
          refine ab_bipush (v := 120) d_MO_compile_193 (by decide) ?_
          refine ab_iload_n d_MO_compile_195 rfl ?_
          refine ab_imul d_MO_compile_196 ?_
          refine ab_bipush (v := 12) d_MO_compile_197 (by decide) ?_
          refine ab_iload d_MO_compile_199 rfl ?_
          refine ab_imul d_MO_compile_201 ?_
          refine ab_topi (y := 84) (by decide) ?_
          refine ab_iadd d_MO_compile_202 ?_
          refine ab_iload d_MO_compile_203 rfl ?_
          refine ab_iadd d_MO_compile_205 ?_
          refine ab_aload_n d_MO_compile_206 rfl ?_
          refine ab_getf (fs := (m_fv (vI 0) (vI 0) (vI 0) (vI 0) (vI 0) (vI 0) (vI 0) (vI 0) (vI 2) (vI 0) (vI ((xs 2) &&& 15)) (vI 0) (vI (-1)) (vI 0) (vI 0) (vI 0) (vI 0) (vI 0) (vI 0) (vI (xs 1)) (vI 0) (vI 0) (vI 0) (vI 0) (vI 0) (vI 0) (vI 0) (vI 0) (vI 0) (vI 0) (vI 0) (vI 0) (vI 0) (vI 0) (vI 0))) f_MO_103 d_MO_compile_207 h80 rfl ?_
          refine ab_bipush (v := 12) d_MO_compile_210 (by decide) ?_
          refine ab_iload d_MO_compile_212 rfl ?_
          refine ab_imul d_MO_compile_214 ?_
          refine ab_topi (y := 84) (by decide) ?_
          refine ab_iload d_MO_compile_215 rfl ?_
          refine ab_iadd d_MO_compile_217 ?_
          refine ab_topi (y := 89) (by decide) ?_
          refine ab_iald d_MO_compile_218 h110 (by unfold vp_in; decide) ?_
          refine ab_topi (y := 0) rfl ?_
          refine ab_iast d_MO_compile_219 h126 (vp_in_iff.mpr (by have l0 := (show (0 : Int32).toInt = 0 by decide); have l1 := (show (5 : Int32).toInt = 5 by decide); have l2 := (show (31 : Int32).toInt = 31 by decide); have l3 := (show (84 : Int32).toInt = 84 by decide); have l4 := (show (120 : Int32).toInt = 120 by decide); simp only [Int32.le_iff_toInt_le, Int32.lt_iff_toInt_lt, ← Int32.toInt_inj] at c0 c1 c2 c3 c4 c5 c6 c7; have e0 : Int32.toInt (120 * (xs 1)) = Int32.toInt 120 * Int32.toInt (xs 1) := i32_mul (by simp only [l0, l1, l2, l3, l4]; omega) (by simp only [l0, l1, l2, l3, l4]; omega); have e1 : Int32.toInt ((120 * (xs 1)) + 84) = Int32.toInt (120 * (xs 1)) + Int32.toInt 84 := i32_add (by simp only [l0, l1, l2, l3, l4, e0]; omega) (by simp only [l0, l1, l2, l3, l4, e0]; omega); have e2 : Int32.toInt (((120 * (xs 1)) + 84) + 5) = Int32.toInt ((120 * (xs 1)) + 84) + Int32.toInt 5 := i32_add (by simp only [l0, l1, l2, l3, l4, e0, e1]; omega) (by simp only [l0, l1, l2, l3, l4, e0, e1]; omega); (try simp only [l0, l1, l2, l3, l4] at e0 e1 e2); constructor <;> omega)) (by decide) ?_
          obtain ⟨G109, eG109⟩ : ∃ z : ab_G, z = List.set G108 126 (ab_if 720 ((upd f126_97 (Int32.toNatClampNeg (((120 * (xs 1)) + 84) + 5)) 0))) := ⟨_, rfl⟩
          have h80 := ab_keep eG109 (by decide) h80
          have h110 := ab_keep eG109 (by decide) h110
          have h127 := ab_keep eG109 (by decide) h127
          have hlen := ab_klen eG109 hlen
          have hsl := ab_ksl 720 eG109 h126 rfl rfl hsl
          have hfr := hfr.wr eG109 (by decide)
          have hpk := hpk.wr eG109 (by decide)
          have h126 := ab_kept eG109 h126
          change ab_W _ _ _ (List.set G108 126 (ab_if 720 ((upd f126_97 (Int32.toNatClampNeg (((120 * (xs 1)) + 84) + 5)) 0)))) 220 [some (vR 80), some (vI (xs 1)), some (vI (xs 2)), some (vI 1), some (vI 7), some (vI 5)] [] _
          rw [← eG109]
          obtain ⟨f126_98, h126⟩ : ∃ g : Nat → Int32, G109[126]? = some (ab_if 720 (g)) := ⟨_, h126⟩
          refine ab_iinc (v := 6) d_MO_compile_220 rfl (by decide) (Nat.le_of_ble_eq_true rfl) (Nat.le_of_ble_eq_true rfl) rfl ?_
          change ab_W _ _ _ G109 223 [some (vR 80), some (vI (xs 1)), some (vI (xs 2)), some (vI 1), some (vI 7), some (vI 6)] [] _
          refine ab_goto (tgt := 182) d_MO_compile_223 (by decide) ?_
          refine ab_iload d_MO_compile_182 rfl ?_
          refine ab_bipush (v := 12) d_MO_compile_184 (by decide) ?_
          refine ab_icmp_ge (tgt := 226) d_MO_compile_186 (by decide) (fun c => absurd c (by decide)) (fun _ => ?_)
          refine ab_aload_n d_MO_compile_189 rfl ?_
          refine ab_getf (fs := (m_fv (vI 0) (vI 0) (vI 0) (vI 0) (vI 0) (vI 0) (vI 0) (vI 0) (vI 2) (vI 0) (vI ((xs 2) &&& 15)) (vI 0) (vI (-1)) (vI 0) (vI 0) (vI 0) (vI 0) (vI 0) (vI 0) (vI (xs 1)) (vI 0) (vI 0) (vI 0) (vI 0) (vI 0) (vI 0) (vI 0) (vI 0) (vI 0) (vI 0) (vI 0) (vI 0) (vI 0) (vI 0) (vI 0))) f_MO_152 d_MO_compile_190 h80 rfl ?_
          refine ab_bipush (v := 120) d_MO_compile_193 (by decide) ?_
          refine ab_iload_n d_MO_compile_195 rfl ?_
          refine ab_imul d_MO_compile_196 ?_
          refine ab_bipush (v := 12) d_MO_compile_197 (by decide) ?_
          refine ab_iload d_MO_compile_199 rfl ?_
          refine ab_imul d_MO_compile_201 ?_
          refine ab_topi (y := 84) (by decide) ?_
          refine ab_iadd d_MO_compile_202 ?_
          refine ab_iload d_MO_compile_203 rfl ?_
          refine ab_iadd d_MO_compile_205 ?_
          refine ab_aload_n d_MO_compile_206 rfl ?_
          refine ab_getf (fs := (m_fv (vI 0) (vI 0) (vI 0) (vI 0) (vI 0) (vI 0) (vI 0) (vI 0) (vI 2) (vI 0) (vI ((xs 2) &&& 15)) (vI 0) (vI (-1)) (vI 0) (vI 0) (vI 0) (vI 0) (vI 0) (vI 0) (vI (xs 1)) (vI 0) (vI 0) (vI 0) (vI 0) (vI 0) (vI 0) (vI 0) (vI 0) (vI 0) (vI 0) (vI 0) (vI 0) (vI 0) (vI 0) (vI 0))) f_MO_103 d_MO_compile_207 h80 rfl ?_
          refine ab_bipush (v := 12) d_MO_compile_210 (by decide) ?_
          refine ab_iload d_MO_compile_212 rfl ?_
          refine ab_imul d_MO_compile_214 ?_
          refine ab_topi (y := 84) (by decide) ?_
          refine ab_iload d_MO_compile_215 rfl ?_
          refine ab_iadd d_MO_compile_217 ?_
          refine ab_topi (y := 90) (by decide) ?_
          refine ab_iald d_MO_compile_218 h110 (by unfold vp_in; decide) ?_
          refine ab_topi (y := 0) rfl ?_
          refine ab_iast d_MO_compile_219 h126 (vp_in_iff.mpr (by have l0 := (show (0 : Int32).toInt = 0 by decide); have l1 := (show (5 : Int32).toInt = 5 by decide); have l2 := (show (6 : Int32).toInt = 6 by decide); have l3 := (show (31 : Int32).toInt = 31 by decide); have l4 := (show (84 : Int32).toInt = 84 by decide); have l5 := (show (120 : Int32).toInt = 120 by decide); simp only [Int32.le_iff_toInt_le, Int32.lt_iff_toInt_lt, ← Int32.toInt_inj] at c0 c1 c2 c3 c4 c5 c6 c7; have e0 : Int32.toInt (120 * (xs 1)) = Int32.toInt 120 * Int32.toInt (xs 1) := i32_mul (by simp only [l0, l1, l2, l3, l4, l5]; omega) (by simp only [l0, l1, l2, l3, l4, l5]; omega); have e1 : Int32.toInt ((120 * (xs 1)) + 84) = Int32.toInt (120 * (xs 1)) + Int32.toInt 84 := i32_add (by simp only [l0, l1, l2, l3, l4, l5, e0]; omega) (by simp only [l0, l1, l2, l3, l4, l5, e0]; omega); have e2 : Int32.toInt (((120 * (xs 1)) + 84) + 6) = Int32.toInt ((120 * (xs 1)) + 84) + Int32.toInt 6 := i32_add (by simp only [l0, l1, l2, l3, l4, l5, e0, e1]; omega) (by simp only [l0, l1, l2, l3, l4, l5, e0, e1]; omega); (try simp only [l0, l1, l2, l3, l4, l5] at e0 e1 e2); constructor <;> omega)) (by decide) ?_
          obtain ⟨G110, eG110⟩ : ∃ z : ab_G, z = List.set G109 126 (ab_if 720 ((upd f126_98 (Int32.toNatClampNeg (((120 * (xs 1)) + 84) + 6)) 0))) := ⟨_, rfl⟩
          have h80 := ab_keep eG110 (by decide) h80
          have h110 := ab_keep eG110 (by decide) h110
          have h127 := ab_keep eG110 (by decide) h127
          have hlen := ab_klen eG110 hlen
          have hsl := ab_ksl 720 eG110 h126 rfl rfl hsl
          have hfr := hfr.wr eG110 (by decide)
          have hpk := hpk.wr eG110 (by decide)
          have h126 := ab_kept eG110 h126
          change ab_W _ _ _ (List.set G109 126 (ab_if 720 ((upd f126_98 (Int32.toNatClampNeg (((120 * (xs 1)) + 84) + 6)) 0)))) 220 [some (vR 80), some (vI (xs 1)), some (vI (xs 2)), some (vI 1), some (vI 7), some (vI 6)] [] _
          rw [← eG110]
          obtain ⟨f126_99, h126⟩ : ∃ g : Nat → Int32, G110[126]? = some (ab_if 720 (g)) := ⟨_, h126⟩
          refine ab_iinc (v := 7) d_MO_compile_220 rfl (by decide) (Nat.le_of_ble_eq_true rfl) (Nat.le_of_ble_eq_true rfl) rfl ?_
          change ab_W _ _ _ G110 223 [some (vR 80), some (vI (xs 1)), some (vI (xs 2)), some (vI 1), some (vI 7), some (vI 7)] [] _
          refine ab_goto (tgt := 182) d_MO_compile_223 (by decide) ?_
          refine ab_iload d_MO_compile_182 rfl ?_
          refine ab_bipush (v := 12) d_MO_compile_184 (by decide) ?_
          refine ab_icmp_ge (tgt := 226) d_MO_compile_186 (by decide) (fun c => absurd c (by decide)) (fun _ => ?_)
          refine ab_aload_n d_MO_compile_189 rfl ?_
          refine ab_getf (fs := (m_fv (vI 0) (vI 0) (vI 0) (vI 0) (vI 0) (vI 0) (vI 0) (vI 0) (vI 2) (vI 0) (vI ((xs 2) &&& 15)) (vI 0) (vI (-1)) (vI 0) (vI 0) (vI 0) (vI 0) (vI 0) (vI 0) (vI (xs 1)) (vI 0) (vI 0) (vI 0) (vI 0) (vI 0) (vI 0) (vI 0) (vI 0) (vI 0) (vI 0) (vI 0) (vI 0) (vI 0) (vI 0) (vI 0))) f_MO_152 d_MO_compile_190 h80 rfl ?_
          refine ab_bipush (v := 120) d_MO_compile_193 (by decide) ?_
          refine ab_iload_n d_MO_compile_195 rfl ?_
          refine ab_imul d_MO_compile_196 ?_
          refine ab_bipush (v := 12) d_MO_compile_197 (by decide) ?_
          refine ab_iload d_MO_compile_199 rfl ?_
          refine ab_imul d_MO_compile_201 ?_
          refine ab_topi (y := 84) (by decide) ?_
          refine ab_iadd d_MO_compile_202 ?_
          refine ab_iload d_MO_compile_203 rfl ?_
          refine ab_iadd d_MO_compile_205 ?_
          refine ab_aload_n d_MO_compile_206 rfl ?_
          refine ab_getf (fs := (m_fv (vI 0) (vI 0) (vI 0) (vI 0) (vI 0) (vI 0) (vI 0) (vI 0) (vI 2) (vI 0) (vI ((xs 2) &&& 15)) (vI 0) (vI (-1)) (vI 0) (vI 0) (vI 0) (vI 0) (vI 0) (vI 0) (vI (xs 1)) (vI 0) (vI 0) (vI 0) (vI 0) (vI 0) (vI 0) (vI 0) (vI 0) (vI 0) (vI 0) (vI 0) (vI 0) (vI 0) (vI 0) (vI 0))) f_MO_103 d_MO_compile_207 h80 rfl ?_
          refine ab_bipush (v := 12) d_MO_compile_210 (by decide) ?_
          refine ab_iload d_MO_compile_212 rfl ?_
          refine ab_imul d_MO_compile_214 ?_
          refine ab_topi (y := 84) (by decide) ?_
          refine ab_iload d_MO_compile_215 rfl ?_
          refine ab_iadd d_MO_compile_217 ?_
          refine ab_topi (y := 91) (by decide) ?_
          refine ab_iald d_MO_compile_218 h110 (by unfold vp_in; decide) ?_
          refine ab_topi (y := 0) rfl ?_
          refine ab_iast d_MO_compile_219 h126 (vp_in_iff.mpr (by have l0 := (show (0 : Int32).toInt = 0 by decide); have l1 := (show (5 : Int32).toInt = 5 by decide); have l2 := (show (7 : Int32).toInt = 7 by decide); have l3 := (show (31 : Int32).toInt = 31 by decide); have l4 := (show (84 : Int32).toInt = 84 by decide); have l5 := (show (120 : Int32).toInt = 120 by decide); simp only [Int32.le_iff_toInt_le, Int32.lt_iff_toInt_lt, ← Int32.toInt_inj] at c0 c1 c2 c3 c4 c5 c6 c7; have e0 : Int32.toInt (120 * (xs 1)) = Int32.toInt 120 * Int32.toInt (xs 1) := i32_mul (by simp only [l0, l1, l2, l3, l4, l5]; omega) (by simp only [l0, l1, l2, l3, l4, l5]; omega); have e1 : Int32.toInt ((120 * (xs 1)) + 84) = Int32.toInt (120 * (xs 1)) + Int32.toInt 84 := i32_add (by simp only [l0, l1, l2, l3, l4, l5, e0]; omega) (by simp only [l0, l1, l2, l3, l4, l5, e0]; omega); have e2 : Int32.toInt (((120 * (xs 1)) + 84) + 7) = Int32.toInt ((120 * (xs 1)) + 84) + Int32.toInt 7 := i32_add (by simp only [l0, l1, l2, l3, l4, l5, e0, e1]; omega) (by simp only [l0, l1, l2, l3, l4, l5, e0, e1]; omega); (try simp only [l0, l1, l2, l3, l4, l5] at e0 e1 e2); constructor <;> omega)) (by decide) ?_
          obtain ⟨G111, eG111⟩ : ∃ z : ab_G, z = List.set G110 126 (ab_if 720 ((upd f126_99 (Int32.toNatClampNeg (((120 * (xs 1)) + 84) + 7)) 0))) := ⟨_, rfl⟩
          have h80 := ab_keep eG111 (by decide) h80
          have h110 := ab_keep eG111 (by decide) h110
          have h127 := ab_keep eG111 (by decide) h127
          have hlen := ab_klen eG111 hlen
          have hsl := ab_ksl 720 eG111 h126 rfl rfl hsl
          have hfr := hfr.wr eG111 (by decide)
          have hpk := hpk.wr eG111 (by decide)
          have h126 := ab_kept eG111 h126
          change ab_W _ _ _ (List.set G110 126 (ab_if 720 ((upd f126_99 (Int32.toNatClampNeg (((120 * (xs 1)) + 84) + 7)) 0)))) 220 [some (vR 80), some (vI (xs 1)), some (vI (xs 2)), some (vI 1), some (vI 7), some (vI 7)] [] _
          rw [← eG111]
          obtain ⟨f126_100, h126⟩ : ∃ g : Nat → Int32, G111[126]? = some (ab_if 720 (g)) := ⟨_, h126⟩
          refine ab_iinc (v := 8) d_MO_compile_220 rfl (by decide) (Nat.le_of_ble_eq_true rfl) (Nat.le_of_ble_eq_true rfl) rfl ?_
          change ab_W _ _ _ G111 223 [some (vR 80), some (vI (xs 1)), some (vI (xs 2)), some (vI 1), some (vI 7), some (vI 8)] [] _
          refine ab_goto (tgt := 182) d_MO_compile_223 (by decide) ?_
          refine ab_iload d_MO_compile_182 rfl ?_
          refine ab_bipush (v := 12) d_MO_compile_184 (by decide) ?_
          refine ab_icmp_ge (tgt := 226) d_MO_compile_186 (by decide) (fun c => absurd c (by decide)) (fun _ => ?_)
          refine ab_aload_n d_MO_compile_189 rfl ?_
          refine ab_getf (fs := (m_fv (vI 0) (vI 0) (vI 0) (vI 0) (vI 0) (vI 0) (vI 0) (vI 0) (vI 2) (vI 0) (vI ((xs 2) &&& 15)) (vI 0) (vI (-1)) (vI 0) (vI 0) (vI 0) (vI 0) (vI 0) (vI 0) (vI (xs 1)) (vI 0) (vI 0) (vI 0) (vI 0) (vI 0) (vI 0) (vI 0) (vI 0) (vI 0) (vI 0) (vI 0) (vI 0) (vI 0) (vI 0) (vI 0))) f_MO_152 d_MO_compile_190 h80 rfl ?_
          refine ab_bipush (v := 120) d_MO_compile_193 (by decide) ?_
          refine ab_iload_n d_MO_compile_195 rfl ?_
          refine ab_imul d_MO_compile_196 ?_
          refine ab_bipush (v := 12) d_MO_compile_197 (by decide) ?_
          refine ab_iload d_MO_compile_199 rfl ?_
          refine ab_imul d_MO_compile_201 ?_
          refine ab_topi (y := 84) (by decide) ?_
          refine ab_iadd d_MO_compile_202 ?_
          refine ab_iload d_MO_compile_203 rfl ?_
          refine ab_iadd d_MO_compile_205 ?_
          refine ab_aload_n d_MO_compile_206 rfl ?_
          refine ab_getf (fs := (m_fv (vI 0) (vI 0) (vI 0) (vI 0) (vI 0) (vI 0) (vI 0) (vI 0) (vI 2) (vI 0) (vI ((xs 2) &&& 15)) (vI 0) (vI (-1)) (vI 0) (vI 0) (vI 0) (vI 0) (vI 0) (vI 0) (vI (xs 1)) (vI 0) (vI 0) (vI 0) (vI 0) (vI 0) (vI 0) (vI 0) (vI 0) (vI 0) (vI 0) (vI 0) (vI 0) (vI 0) (vI 0) (vI 0))) f_MO_103 d_MO_compile_207 h80 rfl ?_
          refine ab_bipush (v := 12) d_MO_compile_210 (by decide) ?_
          refine ab_iload d_MO_compile_212 rfl ?_
          refine ab_imul d_MO_compile_214 ?_
          refine ab_topi (y := 84) (by decide) ?_
          refine ab_iload d_MO_compile_215 rfl ?_
          refine ab_iadd d_MO_compile_217 ?_
          refine ab_topi (y := 92) (by decide) ?_
          refine ab_iald d_MO_compile_218 h110 (by unfold vp_in; decide) ?_
          refine ab_topi (y := 0) rfl ?_
          refine ab_iast d_MO_compile_219 h126 (vp_in_iff.mpr (by have l0 := (show (0 : Int32).toInt = 0 by decide); have l1 := (show (5 : Int32).toInt = 5 by decide); have l2 := (show (8 : Int32).toInt = 8 by decide); have l3 := (show (31 : Int32).toInt = 31 by decide); have l4 := (show (84 : Int32).toInt = 84 by decide); have l5 := (show (120 : Int32).toInt = 120 by decide); simp only [Int32.le_iff_toInt_le, Int32.lt_iff_toInt_lt, ← Int32.toInt_inj] at c0 c1 c2 c3 c4 c5 c6 c7; have e0 : Int32.toInt (120 * (xs 1)) = Int32.toInt 120 * Int32.toInt (xs 1) := i32_mul (by simp only [l0, l1, l2, l3, l4, l5]; omega) (by simp only [l0, l1, l2, l3, l4, l5]; omega); have e1 : Int32.toInt ((120 * (xs 1)) + 84) = Int32.toInt (120 * (xs 1)) + Int32.toInt 84 := i32_add (by simp only [l0, l1, l2, l3, l4, l5, e0]; omega) (by simp only [l0, l1, l2, l3, l4, l5, e0]; omega); have e2 : Int32.toInt (((120 * (xs 1)) + 84) + 8) = Int32.toInt ((120 * (xs 1)) + 84) + Int32.toInt 8 := i32_add (by simp only [l0, l1, l2, l3, l4, l5, e0, e1]; omega) (by simp only [l0, l1, l2, l3, l4, l5, e0, e1]; omega); (try simp only [l0, l1, l2, l3, l4, l5] at e0 e1 e2); constructor <;> omega)) (by decide) ?_
          obtain ⟨G112, eG112⟩ : ∃ z : ab_G, z = List.set G111 126 (ab_if 720 ((upd f126_100 (Int32.toNatClampNeg (((120 * (xs 1)) + 84) + 8)) 0))) := ⟨_, rfl⟩
          have h80 := ab_keep eG112 (by decide) h80
          have h110 := ab_keep eG112 (by decide) h110
          have h127 := ab_keep eG112 (by decide) h127
          have hlen := ab_klen eG112 hlen
          have hsl := ab_ksl 720 eG112 h126 rfl rfl hsl
          have hfr := hfr.wr eG112 (by decide)
          have hpk := hpk.wr eG112 (by decide)
          have h126 := ab_kept eG112 h126
          change ab_W _ _ _ (List.set G111 126 (ab_if 720 ((upd f126_100 (Int32.toNatClampNeg (((120 * (xs 1)) + 84) + 8)) 0)))) 220 [some (vR 80), some (vI (xs 1)), some (vI (xs 2)), some (vI 1), some (vI 7), some (vI 8)] [] _
          rw [← eG112]
          obtain ⟨f126_101, h126⟩ : ∃ g : Nat → Int32, G112[126]? = some (ab_if 720 (g)) := ⟨_, h126⟩
          refine ab_iinc (v := 9) d_MO_compile_220 rfl (by decide) (Nat.le_of_ble_eq_true rfl) (Nat.le_of_ble_eq_true rfl) rfl ?_
          change ab_W _ _ _ G112 223 [some (vR 80), some (vI (xs 1)), some (vI (xs 2)), some (vI 1), some (vI 7), some (vI 9)] [] _
          refine ab_goto (tgt := 182) d_MO_compile_223 (by decide) ?_
          refine ab_iload d_MO_compile_182 rfl ?_
          refine ab_bipush (v := 12) d_MO_compile_184 (by decide) ?_
          refine ab_icmp_ge (tgt := 226) d_MO_compile_186 (by decide) (fun c => absurd c (by decide)) (fun _ => ?_)
          refine ab_aload_n d_MO_compile_189 rfl ?_
          refine ab_getf (fs := (m_fv (vI 0) (vI 0) (vI 0) (vI 0) (vI 0) (vI 0) (vI 0) (vI 0) (vI 2) (vI 0) (vI ((xs 2) &&& 15)) (vI 0) (vI (-1)) (vI 0) (vI 0) (vI 0) (vI 0) (vI 0) (vI 0) (vI (xs 1)) (vI 0) (vI 0) (vI 0) (vI 0) (vI 0) (vI 0) (vI 0) (vI 0) (vI 0) (vI 0) (vI 0) (vI 0) (vI 0) (vI 0) (vI 0))) f_MO_152 d_MO_compile_190 h80 rfl ?_
          refine ab_bipush (v := 120) d_MO_compile_193 (by decide) ?_
          refine ab_iload_n d_MO_compile_195 rfl ?_
          refine ab_imul d_MO_compile_196 ?_
          refine ab_bipush (v := 12) d_MO_compile_197 (by decide) ?_
          refine ab_iload d_MO_compile_199 rfl ?_
          refine ab_imul d_MO_compile_201 ?_
          refine ab_topi (y := 84) (by decide) ?_
          refine ab_iadd d_MO_compile_202 ?_
          refine ab_iload d_MO_compile_203 rfl ?_
          refine ab_iadd d_MO_compile_205 ?_
          refine ab_aload_n d_MO_compile_206 rfl ?_
          refine ab_getf (fs := (m_fv (vI 0) (vI 0) (vI 0) (vI 0) (vI 0) (vI 0) (vI 0) (vI 0) (vI 2) (vI 0) (vI ((xs 2) &&& 15)) (vI 0) (vI (-1)) (vI 0) (vI 0) (vI 0) (vI 0) (vI 0) (vI 0) (vI (xs 1)) (vI 0) (vI 0) (vI 0) (vI 0) (vI 0) (vI 0) (vI 0) (vI 0) (vI 0) (vI 0) (vI 0) (vI 0) (vI 0) (vI 0) (vI 0))) f_MO_103 d_MO_compile_207 h80 rfl ?_
          refine ab_bipush (v := 12) d_MO_compile_210 (by decide) ?_
          refine ab_iload d_MO_compile_212 rfl ?_
          refine ab_imul d_MO_compile_214 ?_
          refine ab_topi (y := 84) (by decide) ?_
          refine ab_iload d_MO_compile_215 rfl ?_
          refine ab_iadd d_MO_compile_217 ?_
          refine ab_topi (y := 93) (by decide) ?_
          refine ab_iald d_MO_compile_218 h110 (by unfold vp_in; decide) ?_
          refine ab_topi (y := 0) rfl ?_
          refine ab_iast d_MO_compile_219 h126 (vp_in_iff.mpr (by have l0 := (show (0 : Int32).toInt = 0 by decide); have l1 := (show (5 : Int32).toInt = 5 by decide); have l2 := (show (9 : Int32).toInt = 9 by decide); have l3 := (show (31 : Int32).toInt = 31 by decide); have l4 := (show (84 : Int32).toInt = 84 by decide); have l5 := (show (120 : Int32).toInt = 120 by decide); simp only [Int32.le_iff_toInt_le, Int32.lt_iff_toInt_lt, ← Int32.toInt_inj] at c0 c1 c2 c3 c4 c5 c6 c7; have e0 : Int32.toInt (120 * (xs 1)) = Int32.toInt 120 * Int32.toInt (xs 1) := i32_mul (by simp only [l0, l1, l2, l3, l4, l5]; omega) (by simp only [l0, l1, l2, l3, l4, l5]; omega); have e1 : Int32.toInt ((120 * (xs 1)) + 84) = Int32.toInt (120 * (xs 1)) + Int32.toInt 84 := i32_add (by simp only [l0, l1, l2, l3, l4, l5, e0]; omega) (by simp only [l0, l1, l2, l3, l4, l5, e0]; omega); have e2 : Int32.toInt (((120 * (xs 1)) + 84) + 9) = Int32.toInt ((120 * (xs 1)) + 84) + Int32.toInt 9 := i32_add (by simp only [l0, l1, l2, l3, l4, l5, e0, e1]; omega) (by simp only [l0, l1, l2, l3, l4, l5, e0, e1]; omega); (try simp only [l0, l1, l2, l3, l4, l5] at e0 e1 e2); constructor <;> omega)) (by decide) ?_
          obtain ⟨G113, eG113⟩ : ∃ z : ab_G, z = List.set G112 126 (ab_if 720 ((upd f126_101 (Int32.toNatClampNeg (((120 * (xs 1)) + 84) + 9)) 0))) := ⟨_, rfl⟩
          have h80 := ab_keep eG113 (by decide) h80
          have h110 := ab_keep eG113 (by decide) h110
          have h127 := ab_keep eG113 (by decide) h127
          have hlen := ab_klen eG113 hlen
          have hsl := ab_ksl 720 eG113 h126 rfl rfl hsl
          have hfr := hfr.wr eG113 (by decide)
          have hpk := hpk.wr eG113 (by decide)
          have h126 := ab_kept eG113 h126
          change ab_W _ _ _ (List.set G112 126 (ab_if 720 ((upd f126_101 (Int32.toNatClampNeg (((120 * (xs 1)) + 84) + 9)) 0)))) 220 [some (vR 80), some (vI (xs 1)), some (vI (xs 2)), some (vI 1), some (vI 7), some (vI 9)] [] _
          rw [← eG113]
          obtain ⟨f126_102, h126⟩ : ∃ g : Nat → Int32, G113[126]? = some (ab_if 720 (g)) := ⟨_, h126⟩
          refine ab_iinc (v := 10) d_MO_compile_220 rfl (by decide) (Nat.le_of_ble_eq_true rfl) (Nat.le_of_ble_eq_true rfl) rfl ?_
          change ab_W _ _ _ G113 223 [some (vR 80), some (vI (xs 1)), some (vI (xs 2)), some (vI 1), some (vI 7), some (vI 10)] [] _
          refine ab_goto (tgt := 182) d_MO_compile_223 (by decide) ?_
          refine ab_iload d_MO_compile_182 rfl ?_
          refine ab_bipush (v := 12) d_MO_compile_184 (by decide) ?_
          refine ab_icmp_ge (tgt := 226) d_MO_compile_186 (by decide) (fun c => absurd c (by decide)) (fun _ => ?_)
          refine ab_aload_n d_MO_compile_189 rfl ?_
          refine ab_getf (fs := (m_fv (vI 0) (vI 0) (vI 0) (vI 0) (vI 0) (vI 0) (vI 0) (vI 0) (vI 2) (vI 0) (vI ((xs 2) &&& 15)) (vI 0) (vI (-1)) (vI 0) (vI 0) (vI 0) (vI 0) (vI 0) (vI 0) (vI (xs 1)) (vI 0) (vI 0) (vI 0) (vI 0) (vI 0) (vI 0) (vI 0) (vI 0) (vI 0) (vI 0) (vI 0) (vI 0) (vI 0) (vI 0) (vI 0))) f_MO_152 d_MO_compile_190 h80 rfl ?_
          refine ab_bipush (v := 120) d_MO_compile_193 (by decide) ?_
          refine ab_iload_n d_MO_compile_195 rfl ?_
          refine ab_imul d_MO_compile_196 ?_
          refine ab_bipush (v := 12) d_MO_compile_197 (by decide) ?_
          refine ab_iload d_MO_compile_199 rfl ?_
          refine ab_imul d_MO_compile_201 ?_
          refine ab_topi (y := 84) (by decide) ?_
          refine ab_iadd d_MO_compile_202 ?_
          refine ab_iload d_MO_compile_203 rfl ?_
          refine ab_iadd d_MO_compile_205 ?_
          refine ab_aload_n d_MO_compile_206 rfl ?_
          refine ab_getf (fs := (m_fv (vI 0) (vI 0) (vI 0) (vI 0) (vI 0) (vI 0) (vI 0) (vI 0) (vI 2) (vI 0) (vI ((xs 2) &&& 15)) (vI 0) (vI (-1)) (vI 0) (vI 0) (vI 0) (vI 0) (vI 0) (vI 0) (vI (xs 1)) (vI 0) (vI 0) (vI 0) (vI 0) (vI 0) (vI 0) (vI 0) (vI 0) (vI 0) (vI 0) (vI 0) (vI 0) (vI 0) (vI 0) (vI 0))) f_MO_103 d_MO_compile_207 h80 rfl ?_
          refine ab_bipush (v := 12) d_MO_compile_210 (by decide) ?_
          refine ab_iload d_MO_compile_212 rfl ?_
          refine ab_imul d_MO_compile_214 ?_
          refine ab_topi (y := 84) (by decide) ?_
          refine ab_iload d_MO_compile_215 rfl ?_
          refine ab_iadd d_MO_compile_217 ?_
          refine ab_topi (y := 94) (by decide) ?_
          refine ab_iald d_MO_compile_218 h110 (by unfold vp_in; decide) ?_
          refine ab_topi (y := 0) rfl ?_
          refine ab_iast d_MO_compile_219 h126 (vp_in_iff.mpr (by have l0 := (show (0 : Int32).toInt = 0 by decide); have l1 := (show (5 : Int32).toInt = 5 by decide); have l2 := (show (10 : Int32).toInt = 10 by decide); have l3 := (show (31 : Int32).toInt = 31 by decide); have l4 := (show (84 : Int32).toInt = 84 by decide); have l5 := (show (120 : Int32).toInt = 120 by decide); simp only [Int32.le_iff_toInt_le, Int32.lt_iff_toInt_lt, ← Int32.toInt_inj] at c0 c1 c2 c3 c4 c5 c6 c7; have e0 : Int32.toInt (120 * (xs 1)) = Int32.toInt 120 * Int32.toInt (xs 1) := i32_mul (by simp only [l0, l1, l2, l3, l4, l5]; omega) (by simp only [l0, l1, l2, l3, l4, l5]; omega); have e1 : Int32.toInt ((120 * (xs 1)) + 84) = Int32.toInt (120 * (xs 1)) + Int32.toInt 84 := i32_add (by simp only [l0, l1, l2, l3, l4, l5, e0]; omega) (by simp only [l0, l1, l2, l3, l4, l5, e0]; omega); have e2 : Int32.toInt (((120 * (xs 1)) + 84) + 10) = Int32.toInt ((120 * (xs 1)) + 84) + Int32.toInt 10 := i32_add (by simp only [l0, l1, l2, l3, l4, l5, e0, e1]; omega) (by simp only [l0, l1, l2, l3, l4, l5, e0, e1]; omega); (try simp only [l0, l1, l2, l3, l4, l5] at e0 e1 e2); constructor <;> omega)) (by decide) ?_
          obtain ⟨G114, eG114⟩ : ∃ z : ab_G, z = List.set G113 126 (ab_if 720 ((upd f126_102 (Int32.toNatClampNeg (((120 * (xs 1)) + 84) + 10)) 0))) := ⟨_, rfl⟩
          have h80 := ab_keep eG114 (by decide) h80
          have h110 := ab_keep eG114 (by decide) h110
          have h127 := ab_keep eG114 (by decide) h127
          have hlen := ab_klen eG114 hlen
          have hsl := ab_ksl 720 eG114 h126 rfl rfl hsl
          have hfr := hfr.wr eG114 (by decide)
          have hpk := hpk.wr eG114 (by decide)
          have h126 := ab_kept eG114 h126
          change ab_W _ _ _ (List.set G113 126 (ab_if 720 ((upd f126_102 (Int32.toNatClampNeg (((120 * (xs 1)) + 84) + 10)) 0)))) 220 [some (vR 80), some (vI (xs 1)), some (vI (xs 2)), some (vI 1), some (vI 7), some (vI 10)] [] _
          rw [← eG114]
          obtain ⟨f126_103, h126⟩ : ∃ g : Nat → Int32, G114[126]? = some (ab_if 720 (g)) := ⟨_, h126⟩
          refine ab_iinc (v := 11) d_MO_compile_220 rfl (by decide) (Nat.le_of_ble_eq_true rfl) (Nat.le_of_ble_eq_true rfl) rfl ?_
          change ab_W _ _ _ G114 223 [some (vR 80), some (vI (xs 1)), some (vI (xs 2)), some (vI 1), some (vI 7), some (vI 11)] [] _
          refine ab_goto (tgt := 182) d_MO_compile_223 (by decide) ?_
          refine ab_iload d_MO_compile_182 rfl ?_
          refine ab_bipush (v := 12) d_MO_compile_184 (by decide) ?_
          refine ab_icmp_ge (tgt := 226) d_MO_compile_186 (by decide) (fun c => absurd c (by decide)) (fun _ => ?_)
          refine ab_aload_n d_MO_compile_189 rfl ?_
          refine ab_getf (fs := (m_fv (vI 0) (vI 0) (vI 0) (vI 0) (vI 0) (vI 0) (vI 0) (vI 0) (vI 2) (vI 0) (vI ((xs 2) &&& 15)) (vI 0) (vI (-1)) (vI 0) (vI 0) (vI 0) (vI 0) (vI 0) (vI 0) (vI (xs 1)) (vI 0) (vI 0) (vI 0) (vI 0) (vI 0) (vI 0) (vI 0) (vI 0) (vI 0) (vI 0) (vI 0) (vI 0) (vI 0) (vI 0) (vI 0))) f_MO_152 d_MO_compile_190 h80 rfl ?_
          refine ab_bipush (v := 120) d_MO_compile_193 (by decide) ?_
          refine ab_iload_n d_MO_compile_195 rfl ?_
          refine ab_imul d_MO_compile_196 ?_
          refine ab_bipush (v := 12) d_MO_compile_197 (by decide) ?_
          refine ab_iload d_MO_compile_199 rfl ?_
          refine ab_imul d_MO_compile_201 ?_
          refine ab_topi (y := 84) (by decide) ?_
          refine ab_iadd d_MO_compile_202 ?_
          refine ab_iload d_MO_compile_203 rfl ?_
          refine ab_iadd d_MO_compile_205 ?_
          refine ab_aload_n d_MO_compile_206 rfl ?_
          refine ab_getf (fs := (m_fv (vI 0) (vI 0) (vI 0) (vI 0) (vI 0) (vI 0) (vI 0) (vI 0) (vI 2) (vI 0) (vI ((xs 2) &&& 15)) (vI 0) (vI (-1)) (vI 0) (vI 0) (vI 0) (vI 0) (vI 0) (vI 0) (vI (xs 1)) (vI 0) (vI 0) (vI 0) (vI 0) (vI 0) (vI 0) (vI 0) (vI 0) (vI 0) (vI 0) (vI 0) (vI 0) (vI 0) (vI 0) (vI 0))) f_MO_103 d_MO_compile_207 h80 rfl ?_
          refine ab_bipush (v := 12) d_MO_compile_210 (by decide) ?_
          refine ab_iload d_MO_compile_212 rfl ?_
          refine ab_imul d_MO_compile_214 ?_
          refine ab_topi (y := 84) (by decide) ?_
          refine ab_iload d_MO_compile_215 rfl ?_
          refine ab_iadd d_MO_compile_217 ?_
          refine ab_topi (y := 95) (by decide) ?_
          refine ab_iald d_MO_compile_218 h110 (by unfold vp_in; decide) ?_
          refine ab_topi (y := 0) rfl ?_
          refine ab_iast d_MO_compile_219 h126 (vp_in_iff.mpr (by have l0 := (show (0 : Int32).toInt = 0 by decide); have l1 := (show (5 : Int32).toInt = 5 by decide); have l2 := (show (11 : Int32).toInt = 11 by decide); have l3 := (show (31 : Int32).toInt = 31 by decide); have l4 := (show (84 : Int32).toInt = 84 by decide); have l5 := (show (120 : Int32).toInt = 120 by decide); simp only [Int32.le_iff_toInt_le, Int32.lt_iff_toInt_lt, ← Int32.toInt_inj] at c0 c1 c2 c3 c4 c5 c6 c7; have e0 : Int32.toInt (120 * (xs 1)) = Int32.toInt 120 * Int32.toInt (xs 1) := i32_mul (by simp only [l0, l1, l2, l3, l4, l5]; omega) (by simp only [l0, l1, l2, l3, l4, l5]; omega); have e1 : Int32.toInt ((120 * (xs 1)) + 84) = Int32.toInt (120 * (xs 1)) + Int32.toInt 84 := i32_add (by simp only [l0, l1, l2, l3, l4, l5, e0]; omega) (by simp only [l0, l1, l2, l3, l4, l5, e0]; omega); have e2 : Int32.toInt (((120 * (xs 1)) + 84) + 11) = Int32.toInt ((120 * (xs 1)) + 84) + Int32.toInt 11 := i32_add (by simp only [l0, l1, l2, l3, l4, l5, e0, e1]; omega) (by simp only [l0, l1, l2, l3, l4, l5, e0, e1]; omega); (try simp only [l0, l1, l2, l3, l4, l5] at e0 e1 e2); constructor <;> omega)) (by decide) ?_
          obtain ⟨G115, eG115⟩ : ∃ z : ab_G, z = List.set G114 126 (ab_if 720 ((upd f126_103 (Int32.toNatClampNeg (((120 * (xs 1)) + 84) + 11)) 0))) := ⟨_, rfl⟩
          have h80 := ab_keep eG115 (by decide) h80
          have h110 := ab_keep eG115 (by decide) h110
          have h127 := ab_keep eG115 (by decide) h127
          have hlen := ab_klen eG115 hlen
          have hsl := ab_ksl 720 eG115 h126 rfl rfl hsl
          have hfr := hfr.wr eG115 (by decide)
          have hpk := hpk.wr eG115 (by decide)
          have h126 := ab_kept eG115 h126
          change ab_W _ _ _ (List.set G114 126 (ab_if 720 ((upd f126_103 (Int32.toNatClampNeg (((120 * (xs 1)) + 84) + 11)) 0)))) 220 [some (vR 80), some (vI (xs 1)), some (vI (xs 2)), some (vI 1), some (vI 7), some (vI 11)] [] _
          rw [← eG115]
          obtain ⟨f126_104, h126⟩ : ∃ g : Nat → Int32, G115[126]? = some (ab_if 720 (g)) := ⟨_, h126⟩
          refine ab_iinc (v := 12) d_MO_compile_220 rfl (by decide) (Nat.le_of_ble_eq_true rfl) (Nat.le_of_ble_eq_true rfl) rfl ?_
          change ab_W _ _ _ G115 223 [some (vR 80), some (vI (xs 1)), some (vI (xs 2)), some (vI 1), some (vI 7), some (vI 12)] [] _
          refine ab_goto (tgt := 182) d_MO_compile_223 (by decide) ?_
          refine ab_iload d_MO_compile_182 rfl ?_
          refine ab_bipush (v := 12) d_MO_compile_184 (by decide) ?_
          refine ab_icmp_ge (tgt := 226) d_MO_compile_186 (by decide) (fun _ => ?_) (fun c => absurd c (by decide))
          refine ab_iinc (v := 8) d_MO_compile_226 rfl (by decide) (Nat.le_of_ble_eq_true rfl) (Nat.le_of_ble_eq_true rfl) rfl ?_
          change ab_W _ _ _ G115 229 [some (vR 80), some (vI (xs 1)), some (vI (xs 2)), some (vI 1), some (vI 8), some (vI 12)] [] _
          refine ab_goto (tgt := 135) d_MO_compile_229 (by decide) ?_
          refine ab_iload d_MO_compile_135 rfl ?_
          refine ab_bipush (v := 10) d_MO_compile_137 (by decide) ?_
          refine ab_icmp_ge (tgt := 232) d_MO_compile_139 (by decide) (fun c => absurd c (by decide)) (fun _ => ?_)
          refine ab_aload_n d_MO_compile_142 rfl ?_
          refine ab_getf (fs := (m_fv (vI 0) (vI 0) (vI 0) (vI 0) (vI 0) (vI 0) (vI 0) (vI 0) (vI 2) (vI 0) (vI ((xs 2) &&& 15)) (vI 0) (vI (-1)) (vI 0) (vI 0) (vI 0) (vI 0) (vI 0) (vI 0) (vI (xs 1)) (vI 0) (vI 0) (vI 0) (vI 0) (vI 0) (vI 0) (vI 0) (vI 0) (vI 0) (vI 0) (vI 0) (vI 0) (vI 0) (vI 0) (vI 0))) f_MO_155 d_MO_compile_143 h80 rfl ?_
          refine ab_bipush (v := 10) d_MO_compile_146 (by decide) ?_
          refine ab_iload_n d_MO_compile_148 rfl ?_
          refine ab_imul d_MO_compile_149 ?_
          refine ab_iload d_MO_compile_150 rfl ?_
          refine ab_iadd d_MO_compile_152 ?_
          refine ab_iload d_MO_compile_153 rfl ?_
          refine ab_if_le (tgt := 177) d_MO_compile_155 (by decide) (fun c => absurd c (by decide)) (fun _ => ?_)
          refine ab_iload d_MO_compile_158 rfl ?_
          refine ab_aload_n d_MO_compile_160 rfl ?_
          refine ab_getf (fs := (m_fv (vI 0) (vI 0) (vI 0) (vI 0) (vI 0) (vI 0) (vI 0) (vI 0) (vI 2) (vI 0) (vI ((xs 2) &&& 15)) (vI 0) (vI (-1)) (vI 0) (vI 0) (vI 0) (vI 0) (vI 0) (vI 0) (vI (xs 1)) (vI 0) (vI 0) (vI 0) (vI 0) (vI 0) (vI 0) (vI 0) (vI 0) (vI 0) (vI 0) (vI 0) (vI 0) (vI 0) (vI 0) (vI 0))) f_MO_395 d_MO_compile_161 h80 rfl ?_
          refine ab_icmp_gt (tgt := 177) d_MO_compile_164 (by decide) (fun _ => ?_) (fun c => absurd c (by decide))
          refine ab_iconst (v := 0) d_MO_compile_177 (by decide) ?_
          refine ab_iast d_MO_compile_178 h127 (vp_in_iff.mpr (by have l0 := (show (0 : Int32).toInt = 0 by decide); have l1 := (show (5 : Int32).toInt = 5 by decide); have l2 := (show (8 : Int32).toInt = 8 by decide); have l3 := (show (10 : Int32).toInt = 10 by decide); have l4 := (show (31 : Int32).toInt = 31 by decide); simp only [Int32.le_iff_toInt_le, Int32.lt_iff_toInt_lt, ← Int32.toInt_inj] at c0 c1 c2 c3 c4 c5 c6 c7; have e0 : Int32.toInt (10 * (xs 1)) = Int32.toInt 10 * Int32.toInt (xs 1) := i32_mul (by simp only [l0, l1, l2, l3, l4]; omega) (by simp only [l0, l1, l2, l3, l4]; omega); have e1 : Int32.toInt ((10 * (xs 1)) + 8) = Int32.toInt (10 * (xs 1)) + Int32.toInt 8 := i32_add (by simp only [l0, l1, l2, l3, l4, e0]; omega) (by simp only [l0, l1, l2, l3, l4, e0]; omega); (try simp only [l0, l1, l2, l3, l4] at e0 e1); constructor <;> omega)) (by decide) ?_
          obtain ⟨G116, eG116⟩ : ∃ z : ab_G, z = List.set G115 127 (ab_if 60 ((upd f127_92 (Int32.toNatClampNeg ((10 * (xs 1)) + 8)) 0))) := ⟨_, rfl⟩
          have h80 := ab_keep eG116 (by decide) h80
          have h110 := ab_keep eG116 (by decide) h110
          have h126 := ab_keep eG116 (by decide) h126
          have hlen := ab_klen eG116 hlen
          have hsl := ab_ksl 60 eG116 h127 rfl rfl hsl
          have hfr := hfr.wr eG116 (by decide)
          have hpk := hpk.wr eG116 (by decide)
          have h127 := ab_kept eG116 h127
          change ab_W _ _ _ (List.set G115 127 (ab_if 60 ((upd f127_92 (Int32.toNatClampNeg ((10 * (xs 1)) + 8)) 0)))) 179 [some (vR 80), some (vI (xs 1)), some (vI (xs 2)), some (vI 1), some (vI 8), some (vI 12)] [] _
          rw [← eG116]
          obtain ⟨f127_105, h127⟩ : ∃ g : Nat → Int32, G116[127]? = some (ab_if 60 (g)) := ⟨_, h127⟩
          refine ab_iconst (v := 0) d_MO_compile_179 (by decide) ?_
          refine ab_istore d_MO_compile_180 (Nat.le_of_ble_eq_true rfl) (Nat.le_of_ble_eq_true rfl) rfl ?_
          change ab_W _ _ _ G116 182 [some (vR 80), some (vI (xs 1)), some (vI (xs 2)), some (vI 1), some (vI 8), some (vI 0)] [] _
          refine ab_iload d_MO_compile_182 rfl ?_
          refine ab_bipush (v := 12) d_MO_compile_184 (by decide) ?_
          refine ab_icmp_ge (tgt := 226) d_MO_compile_186 (by decide) (fun c => absurd c (by decide)) (fun _ => ?_)
          refine ab_aload_n d_MO_compile_189 rfl ?_
          refine ab_getf (fs := (m_fv (vI 0) (vI 0) (vI 0) (vI 0) (vI 0) (vI 0) (vI 0) (vI 0) (vI 2) (vI 0) (vI ((xs 2) &&& 15)) (vI 0) (vI (-1)) (vI 0) (vI 0) (vI 0) (vI 0) (vI 0) (vI 0) (vI (xs 1)) (vI 0) (vI 0) (vI 0) (vI 0) (vI 0) (vI 0) (vI 0) (vI 0) (vI 0) (vI 0) (vI 0) (vI 0) (vI 0) (vI 0) (vI 0))) f_MO_152 d_MO_compile_190 h80 rfl ?_
          refine ab_bipush (v := 120) d_MO_compile_193 (by decide) ?_
          refine ab_iload_n d_MO_compile_195 rfl ?_
          refine ab_imul d_MO_compile_196 ?_
          refine ab_bipush (v := 12) d_MO_compile_197 (by decide) ?_
          refine ab_iload d_MO_compile_199 rfl ?_
          refine ab_imul d_MO_compile_201 ?_
          refine ab_topi (y := 96) (by decide) ?_
          refine ab_iadd d_MO_compile_202 ?_
          refine ab_iload d_MO_compile_203 rfl ?_
          refine ab_iadd d_MO_compile_205 ?_
          refine ab_topi (y := ((120 * (xs 1)) + 96)) (Int32.add_zero _) ?_
          refine ab_aload_n d_MO_compile_206 rfl ?_
          refine ab_getf (fs := (m_fv (vI 0) (vI 0) (vI 0) (vI 0) (vI 0) (vI 0) (vI 0) (vI 0) (vI 2) (vI 0) (vI ((xs 2) &&& 15)) (vI 0) (vI (-1)) (vI 0) (vI 0) (vI 0) (vI 0) (vI 0) (vI 0) (vI (xs 1)) (vI 0) (vI 0) (vI 0) (vI 0) (vI 0) (vI 0) (vI 0) (vI 0) (vI 0) (vI 0) (vI 0) (vI 0) (vI 0) (vI 0) (vI 0))) f_MO_103 d_MO_compile_207 h80 rfl ?_
          refine ab_bipush (v := 12) d_MO_compile_210 (by decide) ?_
          refine ab_iload d_MO_compile_212 rfl ?_
          refine ab_imul d_MO_compile_214 ?_
          refine ab_topi (y := 96) (by decide) ?_
          refine ab_iload d_MO_compile_215 rfl ?_
          refine ab_iadd d_MO_compile_217 ?_
          refine ab_topi (y := 96) (by decide) ?_
          refine ab_iald d_MO_compile_218 h110 (by unfold vp_in; decide) ?_
          refine ab_topi (y := 0) rfl ?_
          refine ab_iast d_MO_compile_219 h126 (vp_in_iff.mpr (by have l0 := (show (0 : Int32).toInt = 0 by decide); have l1 := (show (5 : Int32).toInt = 5 by decide); have l2 := (show (31 : Int32).toInt = 31 by decide); have l3 := (show (96 : Int32).toInt = 96 by decide); have l4 := (show (120 : Int32).toInt = 120 by decide); simp only [Int32.le_iff_toInt_le, Int32.lt_iff_toInt_lt, ← Int32.toInt_inj] at c0 c1 c2 c3 c4 c5 c6 c7; have e0 : Int32.toInt (120 * (xs 1)) = Int32.toInt 120 * Int32.toInt (xs 1) := i32_mul (by simp only [l0, l1, l2, l3, l4]; omega) (by simp only [l0, l1, l2, l3, l4]; omega); have e1 : Int32.toInt ((120 * (xs 1)) + 96) = Int32.toInt (120 * (xs 1)) + Int32.toInt 96 := i32_add (by simp only [l0, l1, l2, l3, l4, e0]; omega) (by simp only [l0, l1, l2, l3, l4, e0]; omega); (try simp only [l0, l1, l2, l3, l4] at e0 e1); constructor <;> omega)) (by decide) ?_
          obtain ⟨G117, eG117⟩ : ∃ z : ab_G, z = List.set G116 126 (ab_if 720 ((upd f126_104 (Int32.toNatClampNeg ((120 * (xs 1)) + 96)) 0))) := ⟨_, rfl⟩
          have h80 := ab_keep eG117 (by decide) h80
          have h110 := ab_keep eG117 (by decide) h110
          have h127 := ab_keep eG117 (by decide) h127
          have hlen := ab_klen eG117 hlen
          have hsl := ab_ksl 720 eG117 h126 rfl rfl hsl
          have hfr := hfr.wr eG117 (by decide)
          have hpk := hpk.wr eG117 (by decide)
          have h126 := ab_kept eG117 h126
          change ab_W _ _ _ (List.set G116 126 (ab_if 720 ((upd f126_104 (Int32.toNatClampNeg ((120 * (xs 1)) + 96)) 0)))) 220 [some (vR 80), some (vI (xs 1)), some (vI (xs 2)), some (vI 1), some (vI 8), some (vI 0)] [] _
          rw [← eG117]
          obtain ⟨f126_106, h126⟩ : ∃ g : Nat → Int32, G117[126]? = some (ab_if 720 (g)) := ⟨_, h126⟩
          refine ab_iinc (v := 1) d_MO_compile_220 rfl (by decide) (Nat.le_of_ble_eq_true rfl) (Nat.le_of_ble_eq_true rfl) rfl ?_
          change ab_W _ _ _ G117 223 [some (vR 80), some (vI (xs 1)), some (vI (xs 2)), some (vI 1), some (vI 8), some (vI 1)] [] _
          refine ab_goto (tgt := 182) d_MO_compile_223 (by decide) ?_
          refine ab_iload d_MO_compile_182 rfl ?_
          refine ab_bipush (v := 12) d_MO_compile_184 (by decide) ?_
          refine ab_icmp_ge (tgt := 226) d_MO_compile_186 (by decide) (fun c => absurd c (by decide)) (fun _ => ?_)
          refine ab_aload_n d_MO_compile_189 rfl ?_
          refine ab_getf (fs := (m_fv (vI 0) (vI 0) (vI 0) (vI 0) (vI 0) (vI 0) (vI 0) (vI 0) (vI 2) (vI 0) (vI ((xs 2) &&& 15)) (vI 0) (vI (-1)) (vI 0) (vI 0) (vI 0) (vI 0) (vI 0) (vI 0) (vI (xs 1)) (vI 0) (vI 0) (vI 0) (vI 0) (vI 0) (vI 0) (vI 0) (vI 0) (vI 0) (vI 0) (vI 0) (vI 0) (vI 0) (vI 0) (vI 0))) f_MO_152 d_MO_compile_190 h80 rfl ?_
          refine ab_bipush (v := 120) d_MO_compile_193 (by decide) ?_
          refine ab_iload_n d_MO_compile_195 rfl ?_
          refine ab_imul d_MO_compile_196 ?_
          refine ab_bipush (v := 12) d_MO_compile_197 (by decide) ?_
          refine ab_iload d_MO_compile_199 rfl ?_
          refine ab_imul d_MO_compile_201 ?_
          refine ab_topi (y := 96) (by decide) ?_
          refine ab_iadd d_MO_compile_202 ?_
          refine ab_iload d_MO_compile_203 rfl ?_
          refine ab_iadd d_MO_compile_205 ?_
          refine ab_aload_n d_MO_compile_206 rfl ?_
          refine ab_getf (fs := (m_fv (vI 0) (vI 0) (vI 0) (vI 0) (vI 0) (vI 0) (vI 0) (vI 0) (vI 2) (vI 0) (vI ((xs 2) &&& 15)) (vI 0) (vI (-1)) (vI 0) (vI 0) (vI 0) (vI 0) (vI 0) (vI 0) (vI (xs 1)) (vI 0) (vI 0) (vI 0) (vI 0) (vI 0) (vI 0) (vI 0) (vI 0) (vI 0) (vI 0) (vI 0) (vI 0) (vI 0) (vI 0) (vI 0))) f_MO_103 d_MO_compile_207 h80 rfl ?_
          refine ab_bipush (v := 12) d_MO_compile_210 (by decide) ?_
          refine ab_iload d_MO_compile_212 rfl ?_
          refine ab_imul d_MO_compile_214 ?_
          refine ab_topi (y := 96) (by decide) ?_
          refine ab_iload d_MO_compile_215 rfl ?_
          refine ab_iadd d_MO_compile_217 ?_
          refine ab_topi (y := 97) (by decide) ?_
          refine ab_iald d_MO_compile_218 h110 (by unfold vp_in; decide) ?_
          refine ab_topi (y := 0) rfl ?_
          refine ab_iast d_MO_compile_219 h126 (vp_in_iff.mpr (by have l0 := (show (0 : Int32).toInt = 0 by decide); have l1 := (show (1 : Int32).toInt = 1 by decide); have l2 := (show (5 : Int32).toInt = 5 by decide); have l3 := (show (31 : Int32).toInt = 31 by decide); have l4 := (show (96 : Int32).toInt = 96 by decide); have l5 := (show (120 : Int32).toInt = 120 by decide); simp only [Int32.le_iff_toInt_le, Int32.lt_iff_toInt_lt, ← Int32.toInt_inj] at c0 c1 c2 c3 c4 c5 c6 c7; have e0 : Int32.toInt (120 * (xs 1)) = Int32.toInt 120 * Int32.toInt (xs 1) := i32_mul (by simp only [l0, l1, l2, l3, l4, l5]; omega) (by simp only [l0, l1, l2, l3, l4, l5]; omega); have e1 : Int32.toInt ((120 * (xs 1)) + 96) = Int32.toInt (120 * (xs 1)) + Int32.toInt 96 := i32_add (by simp only [l0, l1, l2, l3, l4, l5, e0]; omega) (by simp only [l0, l1, l2, l3, l4, l5, e0]; omega); have e2 : Int32.toInt (((120 * (xs 1)) + 96) + 1) = Int32.toInt ((120 * (xs 1)) + 96) + Int32.toInt 1 := i32_add (by simp only [l0, l1, l2, l3, l4, l5, e0, e1]; omega) (by simp only [l0, l1, l2, l3, l4, l5, e0, e1]; omega); (try simp only [l0, l1, l2, l3, l4, l5] at e0 e1 e2); constructor <;> omega)) (by decide) ?_
          obtain ⟨G118, eG118⟩ : ∃ z : ab_G, z = List.set G117 126 (ab_if 720 ((upd f126_106 (Int32.toNatClampNeg (((120 * (xs 1)) + 96) + 1)) 0))) := ⟨_, rfl⟩
          have h80 := ab_keep eG118 (by decide) h80
          have h110 := ab_keep eG118 (by decide) h110
          have h127 := ab_keep eG118 (by decide) h127
          have hlen := ab_klen eG118 hlen
          have hsl := ab_ksl 720 eG118 h126 rfl rfl hsl
          have hfr := hfr.wr eG118 (by decide)
          have hpk := hpk.wr eG118 (by decide)
          have h126 := ab_kept eG118 h126
          change ab_W _ _ _ (List.set G117 126 (ab_if 720 ((upd f126_106 (Int32.toNatClampNeg (((120 * (xs 1)) + 96) + 1)) 0)))) 220 [some (vR 80), some (vI (xs 1)), some (vI (xs 2)), some (vI 1), some (vI 8), some (vI 1)] [] _
          rw [← eG118]
          obtain ⟨f126_107, h126⟩ : ∃ g : Nat → Int32, G118[126]? = some (ab_if 720 (g)) := ⟨_, h126⟩
          refine ab_iinc (v := 2) d_MO_compile_220 rfl (by decide) (Nat.le_of_ble_eq_true rfl) (Nat.le_of_ble_eq_true rfl) rfl ?_
          change ab_W _ _ _ G118 223 [some (vR 80), some (vI (xs 1)), some (vI (xs 2)), some (vI 1), some (vI 8), some (vI 2)] [] _
          refine ab_goto (tgt := 182) d_MO_compile_223 (by decide) ?_
          refine ab_iload d_MO_compile_182 rfl ?_
          refine ab_bipush (v := 12) d_MO_compile_184 (by decide) ?_
          refine ab_icmp_ge (tgt := 226) d_MO_compile_186 (by decide) (fun c => absurd c (by decide)) (fun _ => ?_)
          refine ab_aload_n d_MO_compile_189 rfl ?_
          refine ab_getf (fs := (m_fv (vI 0) (vI 0) (vI 0) (vI 0) (vI 0) (vI 0) (vI 0) (vI 0) (vI 2) (vI 0) (vI ((xs 2) &&& 15)) (vI 0) (vI (-1)) (vI 0) (vI 0) (vI 0) (vI 0) (vI 0) (vI 0) (vI (xs 1)) (vI 0) (vI 0) (vI 0) (vI 0) (vI 0) (vI 0) (vI 0) (vI 0) (vI 0) (vI 0) (vI 0) (vI 0) (vI 0) (vI 0) (vI 0))) f_MO_152 d_MO_compile_190 h80 rfl ?_
          refine ab_bipush (v := 120) d_MO_compile_193 (by decide) ?_
          refine ab_iload_n d_MO_compile_195 rfl ?_
          refine ab_imul d_MO_compile_196 ?_
          refine ab_bipush (v := 12) d_MO_compile_197 (by decide) ?_
          refine ab_iload d_MO_compile_199 rfl ?_
          refine ab_imul d_MO_compile_201 ?_
          refine ab_topi (y := 96) (by decide) ?_
          refine ab_iadd d_MO_compile_202 ?_
          refine ab_iload d_MO_compile_203 rfl ?_
          refine ab_iadd d_MO_compile_205 ?_
          refine ab_aload_n d_MO_compile_206 rfl ?_
          refine ab_getf (fs := (m_fv (vI 0) (vI 0) (vI 0) (vI 0) (vI 0) (vI 0) (vI 0) (vI 0) (vI 2) (vI 0) (vI ((xs 2) &&& 15)) (vI 0) (vI (-1)) (vI 0) (vI 0) (vI 0) (vI 0) (vI 0) (vI 0) (vI (xs 1)) (vI 0) (vI 0) (vI 0) (vI 0) (vI 0) (vI 0) (vI 0) (vI 0) (vI 0) (vI 0) (vI 0) (vI 0) (vI 0) (vI 0) (vI 0))) f_MO_103 d_MO_compile_207 h80 rfl ?_
          refine ab_bipush (v := 12) d_MO_compile_210 (by decide) ?_
          refine ab_iload d_MO_compile_212 rfl ?_
          refine ab_imul d_MO_compile_214 ?_
          refine ab_topi (y := 96) (by decide) ?_
          refine ab_iload d_MO_compile_215 rfl ?_
          refine ab_iadd d_MO_compile_217 ?_
          refine ab_topi (y := 98) (by decide) ?_
          refine ab_iald d_MO_compile_218 h110 (by unfold vp_in; decide) ?_
          refine ab_topi (y := 0) rfl ?_
          refine ab_iast d_MO_compile_219 h126 (vp_in_iff.mpr (by have l0 := (show (0 : Int32).toInt = 0 by decide); have l1 := (show (2 : Int32).toInt = 2 by decide); have l2 := (show (5 : Int32).toInt = 5 by decide); have l3 := (show (31 : Int32).toInt = 31 by decide); have l4 := (show (96 : Int32).toInt = 96 by decide); have l5 := (show (120 : Int32).toInt = 120 by decide); simp only [Int32.le_iff_toInt_le, Int32.lt_iff_toInt_lt, ← Int32.toInt_inj] at c0 c1 c2 c3 c4 c5 c6 c7; have e0 : Int32.toInt (120 * (xs 1)) = Int32.toInt 120 * Int32.toInt (xs 1) := i32_mul (by simp only [l0, l1, l2, l3, l4, l5]; omega) (by simp only [l0, l1, l2, l3, l4, l5]; omega); have e1 : Int32.toInt ((120 * (xs 1)) + 96) = Int32.toInt (120 * (xs 1)) + Int32.toInt 96 := i32_add (by simp only [l0, l1, l2, l3, l4, l5, e0]; omega) (by simp only [l0, l1, l2, l3, l4, l5, e0]; omega); have e2 : Int32.toInt (((120 * (xs 1)) + 96) + 2) = Int32.toInt ((120 * (xs 1)) + 96) + Int32.toInt 2 := i32_add (by simp only [l0, l1, l2, l3, l4, l5, e0, e1]; omega) (by simp only [l0, l1, l2, l3, l4, l5, e0, e1]; omega); (try simp only [l0, l1, l2, l3, l4, l5] at e0 e1 e2); constructor <;> omega)) (by decide) ?_
          obtain ⟨G119, eG119⟩ : ∃ z : ab_G, z = List.set G118 126 (ab_if 720 ((upd f126_107 (Int32.toNatClampNeg (((120 * (xs 1)) + 96) + 2)) 0))) := ⟨_, rfl⟩
          have h80 := ab_keep eG119 (by decide) h80
          have h110 := ab_keep eG119 (by decide) h110
          have h127 := ab_keep eG119 (by decide) h127
          have hlen := ab_klen eG119 hlen
          have hsl := ab_ksl 720 eG119 h126 rfl rfl hsl
          have hfr := hfr.wr eG119 (by decide)
          have hpk := hpk.wr eG119 (by decide)
          have h126 := ab_kept eG119 h126
          change ab_W _ _ _ (List.set G118 126 (ab_if 720 ((upd f126_107 (Int32.toNatClampNeg (((120 * (xs 1)) + 96) + 2)) 0)))) 220 [some (vR 80), some (vI (xs 1)), some (vI (xs 2)), some (vI 1), some (vI 8), some (vI 2)] [] _
          rw [← eG119]
          obtain ⟨f126_108, h126⟩ : ∃ g : Nat → Int32, G119[126]? = some (ab_if 720 (g)) := ⟨_, h126⟩
          refine ab_iinc (v := 3) d_MO_compile_220 rfl (by decide) (Nat.le_of_ble_eq_true rfl) (Nat.le_of_ble_eq_true rfl) rfl ?_
          change ab_W _ _ _ G119 223 [some (vR 80), some (vI (xs 1)), some (vI (xs 2)), some (vI 1), some (vI 8), some (vI 3)] [] _
          refine ab_goto (tgt := 182) d_MO_compile_223 (by decide) ?_
          refine ab_iload d_MO_compile_182 rfl ?_
          refine ab_bipush (v := 12) d_MO_compile_184 (by decide) ?_
          refine ab_icmp_ge (tgt := 226) d_MO_compile_186 (by decide) (fun c => absurd c (by decide)) (fun _ => ?_)
          refine ab_aload_n d_MO_compile_189 rfl ?_
          refine ab_getf (fs := (m_fv (vI 0) (vI 0) (vI 0) (vI 0) (vI 0) (vI 0) (vI 0) (vI 0) (vI 2) (vI 0) (vI ((xs 2) &&& 15)) (vI 0) (vI (-1)) (vI 0) (vI 0) (vI 0) (vI 0) (vI 0) (vI 0) (vI (xs 1)) (vI 0) (vI 0) (vI 0) (vI 0) (vI 0) (vI 0) (vI 0) (vI 0) (vI 0) (vI 0) (vI 0) (vI 0) (vI 0) (vI 0) (vI 0))) f_MO_152 d_MO_compile_190 h80 rfl ?_
          refine ab_bipush (v := 120) d_MO_compile_193 (by decide) ?_
          refine ab_iload_n d_MO_compile_195 rfl ?_
          refine ab_imul d_MO_compile_196 ?_
          refine ab_bipush (v := 12) d_MO_compile_197 (by decide) ?_
          refine ab_iload d_MO_compile_199 rfl ?_
          refine ab_imul d_MO_compile_201 ?_
          refine ab_topi (y := 96) (by decide) ?_
          refine ab_iadd d_MO_compile_202 ?_
          refine ab_iload d_MO_compile_203 rfl ?_
          refine ab_iadd d_MO_compile_205 ?_
          refine ab_aload_n d_MO_compile_206 rfl ?_
          refine ab_getf (fs := (m_fv (vI 0) (vI 0) (vI 0) (vI 0) (vI 0) (vI 0) (vI 0) (vI 0) (vI 2) (vI 0) (vI ((xs 2) &&& 15)) (vI 0) (vI (-1)) (vI 0) (vI 0) (vI 0) (vI 0) (vI 0) (vI 0) (vI (xs 1)) (vI 0) (vI 0) (vI 0) (vI 0) (vI 0) (vI 0) (vI 0) (vI 0) (vI 0) (vI 0) (vI 0) (vI 0) (vI 0) (vI 0) (vI 0))) f_MO_103 d_MO_compile_207 h80 rfl ?_
          refine ab_bipush (v := 12) d_MO_compile_210 (by decide) ?_
          refine ab_iload d_MO_compile_212 rfl ?_
          refine ab_imul d_MO_compile_214 ?_
          refine ab_topi (y := 96) (by decide) ?_
          refine ab_iload d_MO_compile_215 rfl ?_
          refine ab_iadd d_MO_compile_217 ?_
          refine ab_topi (y := 99) (by decide) ?_
          refine ab_iald d_MO_compile_218 h110 (by unfold vp_in; decide) ?_
          refine ab_topi (y := 0) rfl ?_
          refine ab_iast d_MO_compile_219 h126 (vp_in_iff.mpr (by have l0 := (show (0 : Int32).toInt = 0 by decide); have l1 := (show (3 : Int32).toInt = 3 by decide); have l2 := (show (5 : Int32).toInt = 5 by decide); have l3 := (show (31 : Int32).toInt = 31 by decide); have l4 := (show (96 : Int32).toInt = 96 by decide); have l5 := (show (120 : Int32).toInt = 120 by decide); simp only [Int32.le_iff_toInt_le, Int32.lt_iff_toInt_lt, ← Int32.toInt_inj] at c0 c1 c2 c3 c4 c5 c6 c7; have e0 : Int32.toInt (120 * (xs 1)) = Int32.toInt 120 * Int32.toInt (xs 1) := i32_mul (by simp only [l0, l1, l2, l3, l4, l5]; omega) (by simp only [l0, l1, l2, l3, l4, l5]; omega); have e1 : Int32.toInt ((120 * (xs 1)) + 96) = Int32.toInt (120 * (xs 1)) + Int32.toInt 96 := i32_add (by simp only [l0, l1, l2, l3, l4, l5, e0]; omega) (by simp only [l0, l1, l2, l3, l4, l5, e0]; omega); have e2 : Int32.toInt (((120 * (xs 1)) + 96) + 3) = Int32.toInt ((120 * (xs 1)) + 96) + Int32.toInt 3 := i32_add (by simp only [l0, l1, l2, l3, l4, l5, e0, e1]; omega) (by simp only [l0, l1, l2, l3, l4, l5, e0, e1]; omega); (try simp only [l0, l1, l2, l3, l4, l5] at e0 e1 e2); constructor <;> omega)) (by decide) ?_
          obtain ⟨G120, eG120⟩ : ∃ z : ab_G, z = List.set G119 126 (ab_if 720 ((upd f126_108 (Int32.toNatClampNeg (((120 * (xs 1)) + 96) + 3)) 0))) := ⟨_, rfl⟩
          have h80 := ab_keep eG120 (by decide) h80
          have h110 := ab_keep eG120 (by decide) h110
          have h127 := ab_keep eG120 (by decide) h127
          have hlen := ab_klen eG120 hlen
          have hsl := ab_ksl 720 eG120 h126 rfl rfl hsl
          have hfr := hfr.wr eG120 (by decide)
          have hpk := hpk.wr eG120 (by decide)
          have h126 := ab_kept eG120 h126
          change ab_W _ _ _ (List.set G119 126 (ab_if 720 ((upd f126_108 (Int32.toNatClampNeg (((120 * (xs 1)) + 96) + 3)) 0)))) 220 [some (vR 80), some (vI (xs 1)), some (vI (xs 2)), some (vI 1), some (vI 8), some (vI 3)] [] _
          rw [← eG120]
          obtain ⟨f126_109, h126⟩ : ∃ g : Nat → Int32, G120[126]? = some (ab_if 720 (g)) := ⟨_, h126⟩
          refine ab_iinc (v := 4) d_MO_compile_220 rfl (by decide) (Nat.le_of_ble_eq_true rfl) (Nat.le_of_ble_eq_true rfl) rfl ?_
          change ab_W _ _ _ G120 223 [some (vR 80), some (vI (xs 1)), some (vI (xs 2)), some (vI 1), some (vI 8), some (vI 4)] [] _
          refine ab_goto (tgt := 182) d_MO_compile_223 (by decide) ?_
          refine ab_iload d_MO_compile_182 rfl ?_
          refine ab_bipush (v := 12) d_MO_compile_184 (by decide) ?_
          refine ab_icmp_ge (tgt := 226) d_MO_compile_186 (by decide) (fun c => absurd c (by decide)) (fun _ => ?_)
          refine ab_aload_n d_MO_compile_189 rfl ?_
          refine ab_getf (fs := (m_fv (vI 0) (vI 0) (vI 0) (vI 0) (vI 0) (vI 0) (vI 0) (vI 0) (vI 2) (vI 0) (vI ((xs 2) &&& 15)) (vI 0) (vI (-1)) (vI 0) (vI 0) (vI 0) (vI 0) (vI 0) (vI 0) (vI (xs 1)) (vI 0) (vI 0) (vI 0) (vI 0) (vI 0) (vI 0) (vI 0) (vI 0) (vI 0) (vI 0) (vI 0) (vI 0) (vI 0) (vI 0) (vI 0))) f_MO_152 d_MO_compile_190 h80 rfl ?_
          refine ab_bipush (v := 120) d_MO_compile_193 (by decide) ?_
          refine ab_iload_n d_MO_compile_195 rfl ?_
          refine ab_imul d_MO_compile_196 ?_
          refine ab_bipush (v := 12) d_MO_compile_197 (by decide) ?_
          refine ab_iload d_MO_compile_199 rfl ?_
          refine ab_imul d_MO_compile_201 ?_
          refine ab_topi (y := 96) (by decide) ?_
          refine ab_iadd d_MO_compile_202 ?_
          refine ab_iload d_MO_compile_203 rfl ?_
          refine ab_iadd d_MO_compile_205 ?_
          refine ab_aload_n d_MO_compile_206 rfl ?_
          refine ab_getf (fs := (m_fv (vI 0) (vI 0) (vI 0) (vI 0) (vI 0) (vI 0) (vI 0) (vI 0) (vI 2) (vI 0) (vI ((xs 2) &&& 15)) (vI 0) (vI (-1)) (vI 0) (vI 0) (vI 0) (vI 0) (vI 0) (vI 0) (vI (xs 1)) (vI 0) (vI 0) (vI 0) (vI 0) (vI 0) (vI 0) (vI 0) (vI 0) (vI 0) (vI 0) (vI 0) (vI 0) (vI 0) (vI 0) (vI 0))) f_MO_103 d_MO_compile_207 h80 rfl ?_
          refine ab_bipush (v := 12) d_MO_compile_210 (by decide) ?_
          refine ab_iload d_MO_compile_212 rfl ?_
          refine ab_imul d_MO_compile_214 ?_
          refine ab_topi (y := 96) (by decide) ?_
          refine ab_iload d_MO_compile_215 rfl ?_
          refine ab_iadd d_MO_compile_217 ?_
          refine ab_topi (y := 100) (by decide) ?_
          refine ab_iald d_MO_compile_218 h110 (by unfold vp_in; decide) ?_
          refine ab_topi (y := 0) rfl ?_
          refine ab_iast d_MO_compile_219 h126 (vp_in_iff.mpr (by have l0 := (show (0 : Int32).toInt = 0 by decide); have l1 := (show (4 : Int32).toInt = 4 by decide); have l2 := (show (5 : Int32).toInt = 5 by decide); have l3 := (show (31 : Int32).toInt = 31 by decide); have l4 := (show (96 : Int32).toInt = 96 by decide); have l5 := (show (120 : Int32).toInt = 120 by decide); simp only [Int32.le_iff_toInt_le, Int32.lt_iff_toInt_lt, ← Int32.toInt_inj] at c0 c1 c2 c3 c4 c5 c6 c7; have e0 : Int32.toInt (120 * (xs 1)) = Int32.toInt 120 * Int32.toInt (xs 1) := i32_mul (by simp only [l0, l1, l2, l3, l4, l5]; omega) (by simp only [l0, l1, l2, l3, l4, l5]; omega); have e1 : Int32.toInt ((120 * (xs 1)) + 96) = Int32.toInt (120 * (xs 1)) + Int32.toInt 96 := i32_add (by simp only [l0, l1, l2, l3, l4, l5, e0]; omega) (by simp only [l0, l1, l2, l3, l4, l5, e0]; omega); have e2 : Int32.toInt (((120 * (xs 1)) + 96) + 4) = Int32.toInt ((120 * (xs 1)) + 96) + Int32.toInt 4 := i32_add (by simp only [l0, l1, l2, l3, l4, l5, e0, e1]; omega) (by simp only [l0, l1, l2, l3, l4, l5, e0, e1]; omega); (try simp only [l0, l1, l2, l3, l4, l5] at e0 e1 e2); constructor <;> omega)) (by decide) ?_
          obtain ⟨G121, eG121⟩ : ∃ z : ab_G, z = List.set G120 126 (ab_if 720 ((upd f126_109 (Int32.toNatClampNeg (((120 * (xs 1)) + 96) + 4)) 0))) := ⟨_, rfl⟩
          have h80 := ab_keep eG121 (by decide) h80
          have h110 := ab_keep eG121 (by decide) h110
          have h127 := ab_keep eG121 (by decide) h127
          have hlen := ab_klen eG121 hlen
          have hsl := ab_ksl 720 eG121 h126 rfl rfl hsl
          have hfr := hfr.wr eG121 (by decide)
          have hpk := hpk.wr eG121 (by decide)
          have h126 := ab_kept eG121 h126
          change ab_W _ _ _ (List.set G120 126 (ab_if 720 ((upd f126_109 (Int32.toNatClampNeg (((120 * (xs 1)) + 96) + 4)) 0)))) 220 [some (vR 80), some (vI (xs 1)), some (vI (xs 2)), some (vI 1), some (vI 8), some (vI 4)] [] _
          rw [← eG121]
          obtain ⟨f126_110, h126⟩ : ∃ g : Nat → Int32, G121[126]? = some (ab_if 720 (g)) := ⟨_, h126⟩
          refine ab_iinc (v := 5) d_MO_compile_220 rfl (by decide) (Nat.le_of_ble_eq_true rfl) (Nat.le_of_ble_eq_true rfl) rfl ?_
          change ab_W _ _ _ G121 223 [some (vR 80), some (vI (xs 1)), some (vI (xs 2)), some (vI 1), some (vI 8), some (vI 5)] [] _
          refine ab_goto (tgt := 182) d_MO_compile_223 (by decide) ?_
          refine ab_iload d_MO_compile_182 rfl ?_
          refine ab_bipush (v := 12) d_MO_compile_184 (by decide) ?_
          refine ab_icmp_ge (tgt := 226) d_MO_compile_186 (by decide) (fun c => absurd c (by decide)) (fun _ => ?_)
          refine ab_aload_n d_MO_compile_189 rfl ?_
          refine ab_getf (fs := (m_fv (vI 0) (vI 0) (vI 0) (vI 0) (vI 0) (vI 0) (vI 0) (vI 0) (vI 2) (vI 0) (vI ((xs 2) &&& 15)) (vI 0) (vI (-1)) (vI 0) (vI 0) (vI 0) (vI 0) (vI 0) (vI 0) (vI (xs 1)) (vI 0) (vI 0) (vI 0) (vI 0) (vI 0) (vI 0) (vI 0) (vI 0) (vI 0) (vI 0) (vI 0) (vI 0) (vI 0) (vI 0) (vI 0))) f_MO_152 d_MO_compile_190 h80 rfl ?_
          refine ab_bipush (v := 120) d_MO_compile_193 (by decide) ?_
          refine ab_iload_n d_MO_compile_195 rfl ?_
          refine ab_imul d_MO_compile_196 ?_
          refine ab_bipush (v := 12) d_MO_compile_197 (by decide) ?_
          refine ab_iload d_MO_compile_199 rfl ?_
          refine ab_imul d_MO_compile_201 ?_
          refine ab_topi (y := 96) (by decide) ?_
          refine ab_iadd d_MO_compile_202 ?_
          refine ab_iload d_MO_compile_203 rfl ?_
          refine ab_iadd d_MO_compile_205 ?_
          refine ab_aload_n d_MO_compile_206 rfl ?_
          refine ab_getf (fs := (m_fv (vI 0) (vI 0) (vI 0) (vI 0) (vI 0) (vI 0) (vI 0) (vI 0) (vI 2) (vI 0) (vI ((xs 2) &&& 15)) (vI 0) (vI (-1)) (vI 0) (vI 0) (vI 0) (vI 0) (vI 0) (vI 0) (vI (xs 1)) (vI 0) (vI 0) (vI 0) (vI 0) (vI 0) (vI 0) (vI 0) (vI 0) (vI 0) (vI 0) (vI 0) (vI 0) (vI 0) (vI 0) (vI 0))) f_MO_103 d_MO_compile_207 h80 rfl ?_
          refine ab_bipush (v := 12) d_MO_compile_210 (by decide) ?_
          refine ab_iload d_MO_compile_212 rfl ?_
          refine ab_imul d_MO_compile_214 ?_
          refine ab_topi (y := 96) (by decide) ?_
          refine ab_iload d_MO_compile_215 rfl ?_
          refine ab_iadd d_MO_compile_217 ?_
          refine ab_topi (y := 101) (by decide) ?_
          refine ab_iald d_MO_compile_218 h110 (by unfold vp_in; decide) ?_
          refine ab_topi (y := 0) rfl ?_
          refine ab_iast d_MO_compile_219 h126 (vp_in_iff.mpr (by have l0 := (show (0 : Int32).toInt = 0 by decide); have l1 := (show (5 : Int32).toInt = 5 by decide); have l2 := (show (31 : Int32).toInt = 31 by decide); have l3 := (show (96 : Int32).toInt = 96 by decide); have l4 := (show (120 : Int32).toInt = 120 by decide); simp only [Int32.le_iff_toInt_le, Int32.lt_iff_toInt_lt, ← Int32.toInt_inj] at c0 c1 c2 c3 c4 c5 c6 c7; have e0 : Int32.toInt (120 * (xs 1)) = Int32.toInt 120 * Int32.toInt (xs 1) := i32_mul (by simp only [l0, l1, l2, l3, l4]; omega) (by simp only [l0, l1, l2, l3, l4]; omega); have e1 : Int32.toInt ((120 * (xs 1)) + 96) = Int32.toInt (120 * (xs 1)) + Int32.toInt 96 := i32_add (by simp only [l0, l1, l2, l3, l4, e0]; omega) (by simp only [l0, l1, l2, l3, l4, e0]; omega); have e2 : Int32.toInt (((120 * (xs 1)) + 96) + 5) = Int32.toInt ((120 * (xs 1)) + 96) + Int32.toInt 5 := i32_add (by simp only [l0, l1, l2, l3, l4, e0, e1]; omega) (by simp only [l0, l1, l2, l3, l4, e0, e1]; omega); (try simp only [l0, l1, l2, l3, l4] at e0 e1 e2); constructor <;> omega)) (by decide) ?_
          obtain ⟨G122, eG122⟩ : ∃ z : ab_G, z = List.set G121 126 (ab_if 720 ((upd f126_110 (Int32.toNatClampNeg (((120 * (xs 1)) + 96) + 5)) 0))) := ⟨_, rfl⟩
          have h80 := ab_keep eG122 (by decide) h80
          have h110 := ab_keep eG122 (by decide) h110
          have h127 := ab_keep eG122 (by decide) h127
          have hlen := ab_klen eG122 hlen
          have hsl := ab_ksl 720 eG122 h126 rfl rfl hsl
          have hfr := hfr.wr eG122 (by decide)
          have hpk := hpk.wr eG122 (by decide)
          have h126 := ab_kept eG122 h126
          change ab_W _ _ _ (List.set G121 126 (ab_if 720 ((upd f126_110 (Int32.toNatClampNeg (((120 * (xs 1)) + 96) + 5)) 0)))) 220 [some (vR 80), some (vI (xs 1)), some (vI (xs 2)), some (vI 1), some (vI 8), some (vI 5)] [] _
          rw [← eG122]
          obtain ⟨f126_111, h126⟩ : ∃ g : Nat → Int32, G122[126]? = some (ab_if 720 (g)) := ⟨_, h126⟩
          refine ab_iinc (v := 6) d_MO_compile_220 rfl (by decide) (Nat.le_of_ble_eq_true rfl) (Nat.le_of_ble_eq_true rfl) rfl ?_
          change ab_W _ _ _ G122 223 [some (vR 80), some (vI (xs 1)), some (vI (xs 2)), some (vI 1), some (vI 8), some (vI 6)] [] _
          refine ab_goto (tgt := 182) d_MO_compile_223 (by decide) ?_
          refine ab_iload d_MO_compile_182 rfl ?_
          refine ab_bipush (v := 12) d_MO_compile_184 (by decide) ?_
          refine ab_icmp_ge (tgt := 226) d_MO_compile_186 (by decide) (fun c => absurd c (by decide)) (fun _ => ?_)
          refine ab_aload_n d_MO_compile_189 rfl ?_
          refine ab_getf (fs := (m_fv (vI 0) (vI 0) (vI 0) (vI 0) (vI 0) (vI 0) (vI 0) (vI 0) (vI 2) (vI 0) (vI ((xs 2) &&& 15)) (vI 0) (vI (-1)) (vI 0) (vI 0) (vI 0) (vI 0) (vI 0) (vI 0) (vI (xs 1)) (vI 0) (vI 0) (vI 0) (vI 0) (vI 0) (vI 0) (vI 0) (vI 0) (vI 0) (vI 0) (vI 0) (vI 0) (vI 0) (vI 0) (vI 0))) f_MO_152 d_MO_compile_190 h80 rfl ?_
          refine ab_bipush (v := 120) d_MO_compile_193 (by decide) ?_
          refine ab_iload_n d_MO_compile_195 rfl ?_
          refine ab_imul d_MO_compile_196 ?_
          refine ab_bipush (v := 12) d_MO_compile_197 (by decide) ?_
          refine ab_iload d_MO_compile_199 rfl ?_
          refine ab_imul d_MO_compile_201 ?_
          refine ab_topi (y := 96) (by decide) ?_
          refine ab_iadd d_MO_compile_202 ?_
          refine ab_iload d_MO_compile_203 rfl ?_
          refine ab_iadd d_MO_compile_205 ?_
          refine ab_aload_n d_MO_compile_206 rfl ?_
          refine ab_getf (fs := (m_fv (vI 0) (vI 0) (vI 0) (vI 0) (vI 0) (vI 0) (vI 0) (vI 0) (vI 2) (vI 0) (vI ((xs 2) &&& 15)) (vI 0) (vI (-1)) (vI 0) (vI 0) (vI 0) (vI 0) (vI 0) (vI 0) (vI (xs 1)) (vI 0) (vI 0) (vI 0) (vI 0) (vI 0) (vI 0) (vI 0) (vI 0) (vI 0) (vI 0) (vI 0) (vI 0) (vI 0) (vI 0) (vI 0))) f_MO_103 d_MO_compile_207 h80 rfl ?_
          refine ab_bipush (v := 12) d_MO_compile_210 (by decide) ?_
          refine ab_iload d_MO_compile_212 rfl ?_
          refine ab_imul d_MO_compile_214 ?_
          refine ab_topi (y := 96) (by decide) ?_
          refine ab_iload d_MO_compile_215 rfl ?_
          refine ab_iadd d_MO_compile_217 ?_
          refine ab_topi (y := 102) (by decide) ?_
          refine ab_iald d_MO_compile_218 h110 (by unfold vp_in; decide) ?_
          refine ab_topi (y := 0) rfl ?_
          refine ab_iast d_MO_compile_219 h126 (vp_in_iff.mpr (by have l0 := (show (0 : Int32).toInt = 0 by decide); have l1 := (show (5 : Int32).toInt = 5 by decide); have l2 := (show (6 : Int32).toInt = 6 by decide); have l3 := (show (31 : Int32).toInt = 31 by decide); have l4 := (show (96 : Int32).toInt = 96 by decide); have l5 := (show (120 : Int32).toInt = 120 by decide); simp only [Int32.le_iff_toInt_le, Int32.lt_iff_toInt_lt, ← Int32.toInt_inj] at c0 c1 c2 c3 c4 c5 c6 c7; have e0 : Int32.toInt (120 * (xs 1)) = Int32.toInt 120 * Int32.toInt (xs 1) := i32_mul (by simp only [l0, l1, l2, l3, l4, l5]; omega) (by simp only [l0, l1, l2, l3, l4, l5]; omega); have e1 : Int32.toInt ((120 * (xs 1)) + 96) = Int32.toInt (120 * (xs 1)) + Int32.toInt 96 := i32_add (by simp only [l0, l1, l2, l3, l4, l5, e0]; omega) (by simp only [l0, l1, l2, l3, l4, l5, e0]; omega); have e2 : Int32.toInt (((120 * (xs 1)) + 96) + 6) = Int32.toInt ((120 * (xs 1)) + 96) + Int32.toInt 6 := i32_add (by simp only [l0, l1, l2, l3, l4, l5, e0, e1]; omega) (by simp only [l0, l1, l2, l3, l4, l5, e0, e1]; omega); (try simp only [l0, l1, l2, l3, l4, l5] at e0 e1 e2); constructor <;> omega)) (by decide) ?_
          obtain ⟨G123, eG123⟩ : ∃ z : ab_G, z = List.set G122 126 (ab_if 720 ((upd f126_111 (Int32.toNatClampNeg (((120 * (xs 1)) + 96) + 6)) 0))) := ⟨_, rfl⟩
          have h80 := ab_keep eG123 (by decide) h80
          have h110 := ab_keep eG123 (by decide) h110
          have h127 := ab_keep eG123 (by decide) h127
          have hlen := ab_klen eG123 hlen
          have hsl := ab_ksl 720 eG123 h126 rfl rfl hsl
          have hfr := hfr.wr eG123 (by decide)
          have hpk := hpk.wr eG123 (by decide)
          have h126 := ab_kept eG123 h126
          change ab_W _ _ _ (List.set G122 126 (ab_if 720 ((upd f126_111 (Int32.toNatClampNeg (((120 * (xs 1)) + 96) + 6)) 0)))) 220 [some (vR 80), some (vI (xs 1)), some (vI (xs 2)), some (vI 1), some (vI 8), some (vI 6)] [] _
          rw [← eG123]
          obtain ⟨f126_112, h126⟩ : ∃ g : Nat → Int32, G123[126]? = some (ab_if 720 (g)) := ⟨_, h126⟩
          refine ab_iinc (v := 7) d_MO_compile_220 rfl (by decide) (Nat.le_of_ble_eq_true rfl) (Nat.le_of_ble_eq_true rfl) rfl ?_
          change ab_W _ _ _ G123 223 [some (vR 80), some (vI (xs 1)), some (vI (xs 2)), some (vI 1), some (vI 8), some (vI 7)] [] _
          refine ab_goto (tgt := 182) d_MO_compile_223 (by decide) ?_
          refine ab_iload d_MO_compile_182 rfl ?_
          refine ab_bipush (v := 12) d_MO_compile_184 (by decide) ?_
          refine ab_icmp_ge (tgt := 226) d_MO_compile_186 (by decide) (fun c => absurd c (by decide)) (fun _ => ?_)
          refine ab_aload_n d_MO_compile_189 rfl ?_
          refine ab_getf (fs := (m_fv (vI 0) (vI 0) (vI 0) (vI 0) (vI 0) (vI 0) (vI 0) (vI 0) (vI 2) (vI 0) (vI ((xs 2) &&& 15)) (vI 0) (vI (-1)) (vI 0) (vI 0) (vI 0) (vI 0) (vI 0) (vI 0) (vI (xs 1)) (vI 0) (vI 0) (vI 0) (vI 0) (vI 0) (vI 0) (vI 0) (vI 0) (vI 0) (vI 0) (vI 0) (vI 0) (vI 0) (vI 0) (vI 0))) f_MO_152 d_MO_compile_190 h80 rfl ?_
          refine ab_bipush (v := 120) d_MO_compile_193 (by decide) ?_
          refine ab_iload_n d_MO_compile_195 rfl ?_
          refine ab_imul d_MO_compile_196 ?_
          refine ab_bipush (v := 12) d_MO_compile_197 (by decide) ?_
          refine ab_iload d_MO_compile_199 rfl ?_
          refine ab_imul d_MO_compile_201 ?_
          refine ab_topi (y := 96) (by decide) ?_
          refine ab_iadd d_MO_compile_202 ?_
          refine ab_iload d_MO_compile_203 rfl ?_
          refine ab_iadd d_MO_compile_205 ?_
          refine ab_aload_n d_MO_compile_206 rfl ?_
          refine ab_getf (fs := (m_fv (vI 0) (vI 0) (vI 0) (vI 0) (vI 0) (vI 0) (vI 0) (vI 0) (vI 2) (vI 0) (vI ((xs 2) &&& 15)) (vI 0) (vI (-1)) (vI 0) (vI 0) (vI 0) (vI 0) (vI 0) (vI 0) (vI (xs 1)) (vI 0) (vI 0) (vI 0) (vI 0) (vI 0) (vI 0) (vI 0) (vI 0) (vI 0) (vI 0) (vI 0) (vI 0) (vI 0) (vI 0) (vI 0))) f_MO_103 d_MO_compile_207 h80 rfl ?_
          refine ab_bipush (v := 12) d_MO_compile_210 (by decide) ?_
          refine ab_iload d_MO_compile_212 rfl ?_
          refine ab_imul d_MO_compile_214 ?_
          refine ab_topi (y := 96) (by decide) ?_
          refine ab_iload d_MO_compile_215 rfl ?_
          refine ab_iadd d_MO_compile_217 ?_
          refine ab_topi (y := 103) (by decide) ?_
          refine ab_iald d_MO_compile_218 h110 (by unfold vp_in; decide) ?_
          refine ab_topi (y := 0) rfl ?_
          refine ab_iast d_MO_compile_219 h126 (vp_in_iff.mpr (by have l0 := (show (0 : Int32).toInt = 0 by decide); have l1 := (show (5 : Int32).toInt = 5 by decide); have l2 := (show (7 : Int32).toInt = 7 by decide); have l3 := (show (31 : Int32).toInt = 31 by decide); have l4 := (show (96 : Int32).toInt = 96 by decide); have l5 := (show (120 : Int32).toInt = 120 by decide); simp only [Int32.le_iff_toInt_le, Int32.lt_iff_toInt_lt, ← Int32.toInt_inj] at c0 c1 c2 c3 c4 c5 c6 c7; have e0 : Int32.toInt (120 * (xs 1)) = Int32.toInt 120 * Int32.toInt (xs 1) := i32_mul (by simp only [l0, l1, l2, l3, l4, l5]; omega) (by simp only [l0, l1, l2, l3, l4, l5]; omega); have e1 : Int32.toInt ((120 * (xs 1)) + 96) = Int32.toInt (120 * (xs 1)) + Int32.toInt 96 := i32_add (by simp only [l0, l1, l2, l3, l4, l5, e0]; omega) (by simp only [l0, l1, l2, l3, l4, l5, e0]; omega); have e2 : Int32.toInt (((120 * (xs 1)) + 96) + 7) = Int32.toInt ((120 * (xs 1)) + 96) + Int32.toInt 7 := i32_add (by simp only [l0, l1, l2, l3, l4, l5, e0, e1]; omega) (by simp only [l0, l1, l2, l3, l4, l5, e0, e1]; omega); (try simp only [l0, l1, l2, l3, l4, l5] at e0 e1 e2); constructor <;> omega)) (by decide) ?_
          obtain ⟨G124, eG124⟩ : ∃ z : ab_G, z = List.set G123 126 (ab_if 720 ((upd f126_112 (Int32.toNatClampNeg (((120 * (xs 1)) + 96) + 7)) 0))) := ⟨_, rfl⟩
          have h80 := ab_keep eG124 (by decide) h80
          have h110 := ab_keep eG124 (by decide) h110
          have h127 := ab_keep eG124 (by decide) h127
          have hlen := ab_klen eG124 hlen
          have hsl := ab_ksl 720 eG124 h126 rfl rfl hsl
          have hfr := hfr.wr eG124 (by decide)
          have hpk := hpk.wr eG124 (by decide)
          have h126 := ab_kept eG124 h126
          change ab_W _ _ _ (List.set G123 126 (ab_if 720 ((upd f126_112 (Int32.toNatClampNeg (((120 * (xs 1)) + 96) + 7)) 0)))) 220 [some (vR 80), some (vI (xs 1)), some (vI (xs 2)), some (vI 1), some (vI 8), some (vI 7)] [] _
          rw [← eG124]
          obtain ⟨f126_113, h126⟩ : ∃ g : Nat → Int32, G124[126]? = some (ab_if 720 (g)) := ⟨_, h126⟩
          refine ab_iinc (v := 8) d_MO_compile_220 rfl (by decide) (Nat.le_of_ble_eq_true rfl) (Nat.le_of_ble_eq_true rfl) rfl ?_
          change ab_W _ _ _ G124 223 [some (vR 80), some (vI (xs 1)), some (vI (xs 2)), some (vI 1), some (vI 8), some (vI 8)] [] _
          refine ab_goto (tgt := 182) d_MO_compile_223 (by decide) ?_
          refine ab_iload d_MO_compile_182 rfl ?_
          refine ab_bipush (v := 12) d_MO_compile_184 (by decide) ?_
          refine ab_icmp_ge (tgt := 226) d_MO_compile_186 (by decide) (fun c => absurd c (by decide)) (fun _ => ?_)
          refine ab_aload_n d_MO_compile_189 rfl ?_
          refine ab_getf (fs := (m_fv (vI 0) (vI 0) (vI 0) (vI 0) (vI 0) (vI 0) (vI 0) (vI 0) (vI 2) (vI 0) (vI ((xs 2) &&& 15)) (vI 0) (vI (-1)) (vI 0) (vI 0) (vI 0) (vI 0) (vI 0) (vI 0) (vI (xs 1)) (vI 0) (vI 0) (vI 0) (vI 0) (vI 0) (vI 0) (vI 0) (vI 0) (vI 0) (vI 0) (vI 0) (vI 0) (vI 0) (vI 0) (vI 0))) f_MO_152 d_MO_compile_190 h80 rfl ?_
          refine ab_bipush (v := 120) d_MO_compile_193 (by decide) ?_
          refine ab_iload_n d_MO_compile_195 rfl ?_
          refine ab_imul d_MO_compile_196 ?_
          refine ab_bipush (v := 12) d_MO_compile_197 (by decide) ?_
          refine ab_iload d_MO_compile_199 rfl ?_
          refine ab_imul d_MO_compile_201 ?_
          refine ab_topi (y := 96) (by decide) ?_
          refine ab_iadd d_MO_compile_202 ?_
          refine ab_iload d_MO_compile_203 rfl ?_
          refine ab_iadd d_MO_compile_205 ?_
          refine ab_aload_n d_MO_compile_206 rfl ?_
          refine ab_getf (fs := (m_fv (vI 0) (vI 0) (vI 0) (vI 0) (vI 0) (vI 0) (vI 0) (vI 0) (vI 2) (vI 0) (vI ((xs 2) &&& 15)) (vI 0) (vI (-1)) (vI 0) (vI 0) (vI 0) (vI 0) (vI 0) (vI 0) (vI (xs 1)) (vI 0) (vI 0) (vI 0) (vI 0) (vI 0) (vI 0) (vI 0) (vI 0) (vI 0) (vI 0) (vI 0) (vI 0) (vI 0) (vI 0) (vI 0))) f_MO_103 d_MO_compile_207 h80 rfl ?_
          refine ab_bipush (v := 12) d_MO_compile_210 (by decide) ?_
          refine ab_iload d_MO_compile_212 rfl ?_
          refine ab_imul d_MO_compile_214 ?_
          refine ab_topi (y := 96) (by decide) ?_
          refine ab_iload d_MO_compile_215 rfl ?_
          refine ab_iadd d_MO_compile_217 ?_
          refine ab_topi (y := 104) (by decide) ?_
          refine ab_iald d_MO_compile_218 h110 (by unfold vp_in; decide) ?_
          refine ab_topi (y := 0) rfl ?_
          refine ab_iast d_MO_compile_219 h126 (vp_in_iff.mpr (by have l0 := (show (0 : Int32).toInt = 0 by decide); have l1 := (show (5 : Int32).toInt = 5 by decide); have l2 := (show (8 : Int32).toInt = 8 by decide); have l3 := (show (31 : Int32).toInt = 31 by decide); have l4 := (show (96 : Int32).toInt = 96 by decide); have l5 := (show (120 : Int32).toInt = 120 by decide); simp only [Int32.le_iff_toInt_le, Int32.lt_iff_toInt_lt, ← Int32.toInt_inj] at c0 c1 c2 c3 c4 c5 c6 c7; have e0 : Int32.toInt (120 * (xs 1)) = Int32.toInt 120 * Int32.toInt (xs 1) := i32_mul (by simp only [l0, l1, l2, l3, l4, l5]; omega) (by simp only [l0, l1, l2, l3, l4, l5]; omega); have e1 : Int32.toInt ((120 * (xs 1)) + 96) = Int32.toInt (120 * (xs 1)) + Int32.toInt 96 := i32_add (by simp only [l0, l1, l2, l3, l4, l5, e0]; omega) (by simp only [l0, l1, l2, l3, l4, l5, e0]; omega); have e2 : Int32.toInt (((120 * (xs 1)) + 96) + 8) = Int32.toInt ((120 * (xs 1)) + 96) + Int32.toInt 8 := i32_add (by simp only [l0, l1, l2, l3, l4, l5, e0, e1]; omega) (by simp only [l0, l1, l2, l3, l4, l5, e0, e1]; omega); (try simp only [l0, l1, l2, l3, l4, l5] at e0 e1 e2); constructor <;> omega)) (by decide) ?_
          obtain ⟨G125, eG125⟩ : ∃ z : ab_G, z = List.set G124 126 (ab_if 720 ((upd f126_113 (Int32.toNatClampNeg (((120 * (xs 1)) + 96) + 8)) 0))) := ⟨_, rfl⟩
          have h80 := ab_keep eG125 (by decide) h80
          have h110 := ab_keep eG125 (by decide) h110
          have h127 := ab_keep eG125 (by decide) h127
          have hlen := ab_klen eG125 hlen
          have hsl := ab_ksl 720 eG125 h126 rfl rfl hsl
          have hfr := hfr.wr eG125 (by decide)
          have hpk := hpk.wr eG125 (by decide)
          have h126 := ab_kept eG125 h126
          change ab_W _ _ _ (List.set G124 126 (ab_if 720 ((upd f126_113 (Int32.toNatClampNeg (((120 * (xs 1)) + 96) + 8)) 0)))) 220 [some (vR 80), some (vI (xs 1)), some (vI (xs 2)), some (vI 1), some (vI 8), some (vI 8)] [] _
          rw [← eG125]
          obtain ⟨f126_114, h126⟩ : ∃ g : Nat → Int32, G125[126]? = some (ab_if 720 (g)) := ⟨_, h126⟩
          refine ab_iinc (v := 9) d_MO_compile_220 rfl (by decide) (Nat.le_of_ble_eq_true rfl) (Nat.le_of_ble_eq_true rfl) rfl ?_
          change ab_W _ _ _ G125 223 [some (vR 80), some (vI (xs 1)), some (vI (xs 2)), some (vI 1), some (vI 8), some (vI 9)] [] _
          refine ab_goto (tgt := 182) d_MO_compile_223 (by decide) ?_
          refine ab_iload d_MO_compile_182 rfl ?_
          refine ab_bipush (v := 12) d_MO_compile_184 (by decide) ?_
          refine ab_icmp_ge (tgt := 226) d_MO_compile_186 (by decide) (fun c => absurd c (by decide)) (fun _ => ?_)
          refine ab_aload_n d_MO_compile_189 rfl ?_
          refine ab_getf (fs := (m_fv (vI 0) (vI 0) (vI 0) (vI 0) (vI 0) (vI 0) (vI 0) (vI 0) (vI 2) (vI 0) (vI ((xs 2) &&& 15)) (vI 0) (vI (-1)) (vI 0) (vI 0) (vI 0) (vI 0) (vI 0) (vI 0) (vI (xs 1)) (vI 0) (vI 0) (vI 0) (vI 0) (vI 0) (vI 0) (vI 0) (vI 0) (vI 0) (vI 0) (vI 0) (vI 0) (vI 0) (vI 0) (vI 0))) f_MO_152 d_MO_compile_190 h80 rfl ?_
          refine ab_bipush (v := 120) d_MO_compile_193 (by decide) ?_
          refine ab_iload_n d_MO_compile_195 rfl ?_
          refine ab_imul d_MO_compile_196 ?_
          refine ab_bipush (v := 12) d_MO_compile_197 (by decide) ?_
          refine ab_iload d_MO_compile_199 rfl ?_
          refine ab_imul d_MO_compile_201 ?_
          refine ab_topi (y := 96) (by decide) ?_
          refine ab_iadd d_MO_compile_202 ?_
          refine ab_iload d_MO_compile_203 rfl ?_
          refine ab_iadd d_MO_compile_205 ?_
          refine ab_aload_n d_MO_compile_206 rfl ?_
          refine ab_getf (fs := (m_fv (vI 0) (vI 0) (vI 0) (vI 0) (vI 0) (vI 0) (vI 0) (vI 0) (vI 2) (vI 0) (vI ((xs 2) &&& 15)) (vI 0) (vI (-1)) (vI 0) (vI 0) (vI 0) (vI 0) (vI 0) (vI 0) (vI (xs 1)) (vI 0) (vI 0) (vI 0) (vI 0) (vI 0) (vI 0) (vI 0) (vI 0) (vI 0) (vI 0) (vI 0) (vI 0) (vI 0) (vI 0) (vI 0))) f_MO_103 d_MO_compile_207 h80 rfl ?_
          refine ab_bipush (v := 12) d_MO_compile_210 (by decide) ?_
          refine ab_iload d_MO_compile_212 rfl ?_
          refine ab_imul d_MO_compile_214 ?_
          refine ab_topi (y := 96) (by decide) ?_
          refine ab_iload d_MO_compile_215 rfl ?_
          refine ab_iadd d_MO_compile_217 ?_
          refine ab_topi (y := 105) (by decide) ?_
          refine ab_iald d_MO_compile_218 h110 (by unfold vp_in; decide) ?_
          refine ab_topi (y := 0) rfl ?_
          refine ab_iast d_MO_compile_219 h126 (vp_in_iff.mpr (by have l0 := (show (0 : Int32).toInt = 0 by decide); have l1 := (show (5 : Int32).toInt = 5 by decide); have l2 := (show (9 : Int32).toInt = 9 by decide); have l3 := (show (31 : Int32).toInt = 31 by decide); have l4 := (show (96 : Int32).toInt = 96 by decide); have l5 := (show (120 : Int32).toInt = 120 by decide); simp only [Int32.le_iff_toInt_le, Int32.lt_iff_toInt_lt, ← Int32.toInt_inj] at c0 c1 c2 c3 c4 c5 c6 c7; have e0 : Int32.toInt (120 * (xs 1)) = Int32.toInt 120 * Int32.toInt (xs 1) := i32_mul (by simp only [l0, l1, l2, l3, l4, l5]; omega) (by simp only [l0, l1, l2, l3, l4, l5]; omega); have e1 : Int32.toInt ((120 * (xs 1)) + 96) = Int32.toInt (120 * (xs 1)) + Int32.toInt 96 := i32_add (by simp only [l0, l1, l2, l3, l4, l5, e0]; omega) (by simp only [l0, l1, l2, l3, l4, l5, e0]; omega); have e2 : Int32.toInt (((120 * (xs 1)) + 96) + 9) = Int32.toInt ((120 * (xs 1)) + 96) + Int32.toInt 9 := i32_add (by simp only [l0, l1, l2, l3, l4, l5, e0, e1]; omega) (by simp only [l0, l1, l2, l3, l4, l5, e0, e1]; omega); (try simp only [l0, l1, l2, l3, l4, l5] at e0 e1 e2); constructor <;> omega)) (by decide) ?_
          obtain ⟨G126, eG126⟩ : ∃ z : ab_G, z = List.set G125 126 (ab_if 720 ((upd f126_114 (Int32.toNatClampNeg (((120 * (xs 1)) + 96) + 9)) 0))) := ⟨_, rfl⟩
          have h80 := ab_keep eG126 (by decide) h80
          have h110 := ab_keep eG126 (by decide) h110
          have h127 := ab_keep eG126 (by decide) h127
          have hlen := ab_klen eG126 hlen
          have hsl := ab_ksl 720 eG126 h126 rfl rfl hsl
          have hfr := hfr.wr eG126 (by decide)
          have hpk := hpk.wr eG126 (by decide)
          have h126 := ab_kept eG126 h126
          change ab_W _ _ _ (List.set G125 126 (ab_if 720 ((upd f126_114 (Int32.toNatClampNeg (((120 * (xs 1)) + 96) + 9)) 0)))) 220 [some (vR 80), some (vI (xs 1)), some (vI (xs 2)), some (vI 1), some (vI 8), some (vI 9)] [] _
          rw [← eG126]
          obtain ⟨f126_115, h126⟩ : ∃ g : Nat → Int32, G126[126]? = some (ab_if 720 (g)) := ⟨_, h126⟩
          refine ab_iinc (v := 10) d_MO_compile_220 rfl (by decide) (Nat.le_of_ble_eq_true rfl) (Nat.le_of_ble_eq_true rfl) rfl ?_
          change ab_W _ _ _ G126 223 [some (vR 80), some (vI (xs 1)), some (vI (xs 2)), some (vI 1), some (vI 8), some (vI 10)] [] _
          refine ab_goto (tgt := 182) d_MO_compile_223 (by decide) ?_
          refine ab_iload d_MO_compile_182 rfl ?_
          refine ab_bipush (v := 12) d_MO_compile_184 (by decide) ?_
          refine ab_icmp_ge (tgt := 226) d_MO_compile_186 (by decide) (fun c => absurd c (by decide)) (fun _ => ?_)
          refine ab_aload_n d_MO_compile_189 rfl ?_
          refine ab_getf (fs := (m_fv (vI 0) (vI 0) (vI 0) (vI 0) (vI 0) (vI 0) (vI 0) (vI 0) (vI 2) (vI 0) (vI ((xs 2) &&& 15)) (vI 0) (vI (-1)) (vI 0) (vI 0) (vI 0) (vI 0) (vI 0) (vI 0) (vI (xs 1)) (vI 0) (vI 0) (vI 0) (vI 0) (vI 0) (vI 0) (vI 0) (vI 0) (vI 0) (vI 0) (vI 0) (vI 0) (vI 0) (vI 0) (vI 0))) f_MO_152 d_MO_compile_190 h80 rfl ?_
          refine ab_bipush (v := 120) d_MO_compile_193 (by decide) ?_
          refine ab_iload_n d_MO_compile_195 rfl ?_
          refine ab_imul d_MO_compile_196 ?_
          refine ab_bipush (v := 12) d_MO_compile_197 (by decide) ?_
          refine ab_iload d_MO_compile_199 rfl ?_
          refine ab_imul d_MO_compile_201 ?_
          refine ab_topi (y := 96) (by decide) ?_
          refine ab_iadd d_MO_compile_202 ?_
          refine ab_iload d_MO_compile_203 rfl ?_
          refine ab_iadd d_MO_compile_205 ?_
          refine ab_aload_n d_MO_compile_206 rfl ?_
          refine ab_getf (fs := (m_fv (vI 0) (vI 0) (vI 0) (vI 0) (vI 0) (vI 0) (vI 0) (vI 0) (vI 2) (vI 0) (vI ((xs 2) &&& 15)) (vI 0) (vI (-1)) (vI 0) (vI 0) (vI 0) (vI 0) (vI 0) (vI 0) (vI (xs 1)) (vI 0) (vI 0) (vI 0) (vI 0) (vI 0) (vI 0) (vI 0) (vI 0) (vI 0) (vI 0) (vI 0) (vI 0) (vI 0) (vI 0) (vI 0))) f_MO_103 d_MO_compile_207 h80 rfl ?_
          refine ab_bipush (v := 12) d_MO_compile_210 (by decide) ?_
          refine ab_iload d_MO_compile_212 rfl ?_
          refine ab_imul d_MO_compile_214 ?_
          refine ab_topi (y := 96) (by decide) ?_
          refine ab_iload d_MO_compile_215 rfl ?_
          refine ab_iadd d_MO_compile_217 ?_
          refine ab_topi (y := 106) (by decide) ?_
          refine ab_iald d_MO_compile_218 h110 (by unfold vp_in; decide) ?_
          refine ab_topi (y := 0) rfl ?_
          refine ab_iast d_MO_compile_219 h126 (vp_in_iff.mpr (by have l0 := (show (0 : Int32).toInt = 0 by decide); have l1 := (show (5 : Int32).toInt = 5 by decide); have l2 := (show (10 : Int32).toInt = 10 by decide); have l3 := (show (31 : Int32).toInt = 31 by decide); have l4 := (show (96 : Int32).toInt = 96 by decide); have l5 := (show (120 : Int32).toInt = 120 by decide); simp only [Int32.le_iff_toInt_le, Int32.lt_iff_toInt_lt, ← Int32.toInt_inj] at c0 c1 c2 c3 c4 c5 c6 c7; have e0 : Int32.toInt (120 * (xs 1)) = Int32.toInt 120 * Int32.toInt (xs 1) := i32_mul (by simp only [l0, l1, l2, l3, l4, l5]; omega) (by simp only [l0, l1, l2, l3, l4, l5]; omega); have e1 : Int32.toInt ((120 * (xs 1)) + 96) = Int32.toInt (120 * (xs 1)) + Int32.toInt 96 := i32_add (by simp only [l0, l1, l2, l3, l4, l5, e0]; omega) (by simp only [l0, l1, l2, l3, l4, l5, e0]; omega); have e2 : Int32.toInt (((120 * (xs 1)) + 96) + 10) = Int32.toInt ((120 * (xs 1)) + 96) + Int32.toInt 10 := i32_add (by simp only [l0, l1, l2, l3, l4, l5, e0, e1]; omega) (by simp only [l0, l1, l2, l3, l4, l5, e0, e1]; omega); (try simp only [l0, l1, l2, l3, l4, l5] at e0 e1 e2); constructor <;> omega)) (by decide) ?_
          obtain ⟨G127, eG127⟩ : ∃ z : ab_G, z = List.set G126 126 (ab_if 720 ((upd f126_115 (Int32.toNatClampNeg (((120 * (xs 1)) + 96) + 10)) 0))) := ⟨_, rfl⟩
          have h80 := ab_keep eG127 (by decide) h80
          have h110 := ab_keep eG127 (by decide) h110
          have h127 := ab_keep eG127 (by decide) h127
          have hlen := ab_klen eG127 hlen
          have hsl := ab_ksl 720 eG127 h126 rfl rfl hsl
          have hfr := hfr.wr eG127 (by decide)
          have hpk := hpk.wr eG127 (by decide)
          have h126 := ab_kept eG127 h126
          change ab_W _ _ _ (List.set G126 126 (ab_if 720 ((upd f126_115 (Int32.toNatClampNeg (((120 * (xs 1)) + 96) + 10)) 0)))) 220 [some (vR 80), some (vI (xs 1)), some (vI (xs 2)), some (vI 1), some (vI 8), some (vI 10)] [] _
          rw [← eG127]
          obtain ⟨f126_116, h126⟩ : ∃ g : Nat → Int32, G127[126]? = some (ab_if 720 (g)) := ⟨_, h126⟩
          refine ab_iinc (v := 11) d_MO_compile_220 rfl (by decide) (Nat.le_of_ble_eq_true rfl) (Nat.le_of_ble_eq_true rfl) rfl ?_
          change ab_W _ _ _ G127 223 [some (vR 80), some (vI (xs 1)), some (vI (xs 2)), some (vI 1), some (vI 8), some (vI 11)] [] _
          refine ab_goto (tgt := 182) d_MO_compile_223 (by decide) ?_
          refine ab_iload d_MO_compile_182 rfl ?_
          refine ab_bipush (v := 12) d_MO_compile_184 (by decide) ?_
          refine ab_icmp_ge (tgt := 226) d_MO_compile_186 (by decide) (fun c => absurd c (by decide)) (fun _ => ?_)
          refine ab_aload_n d_MO_compile_189 rfl ?_
          refine ab_getf (fs := (m_fv (vI 0) (vI 0) (vI 0) (vI 0) (vI 0) (vI 0) (vI 0) (vI 0) (vI 2) (vI 0) (vI ((xs 2) &&& 15)) (vI 0) (vI (-1)) (vI 0) (vI 0) (vI 0) (vI 0) (vI 0) (vI 0) (vI (xs 1)) (vI 0) (vI 0) (vI 0) (vI 0) (vI 0) (vI 0) (vI 0) (vI 0) (vI 0) (vI 0) (vI 0) (vI 0) (vI 0) (vI 0) (vI 0))) f_MO_152 d_MO_compile_190 h80 rfl ?_
          refine ab_bipush (v := 120) d_MO_compile_193 (by decide) ?_
          refine ab_iload_n d_MO_compile_195 rfl ?_
          refine ab_imul d_MO_compile_196 ?_
          refine ab_bipush (v := 12) d_MO_compile_197 (by decide) ?_
          refine ab_iload d_MO_compile_199 rfl ?_
          refine ab_imul d_MO_compile_201 ?_
          refine ab_topi (y := 96) (by decide) ?_
          refine ab_iadd d_MO_compile_202 ?_
          refine ab_iload d_MO_compile_203 rfl ?_
          refine ab_iadd d_MO_compile_205 ?_
          refine ab_aload_n d_MO_compile_206 rfl ?_
          refine ab_getf (fs := (m_fv (vI 0) (vI 0) (vI 0) (vI 0) (vI 0) (vI 0) (vI 0) (vI 0) (vI 2) (vI 0) (vI ((xs 2) &&& 15)) (vI 0) (vI (-1)) (vI 0) (vI 0) (vI 0) (vI 0) (vI 0) (vI 0) (vI (xs 1)) (vI 0) (vI 0) (vI 0) (vI 0) (vI 0) (vI 0) (vI 0) (vI 0) (vI 0) (vI 0) (vI 0) (vI 0) (vI 0) (vI 0) (vI 0))) f_MO_103 d_MO_compile_207 h80 rfl ?_
          refine ab_bipush (v := 12) d_MO_compile_210 (by decide) ?_
          refine ab_iload d_MO_compile_212 rfl ?_
          refine ab_imul d_MO_compile_214 ?_
          refine ab_topi (y := 96) (by decide) ?_
          refine ab_iload d_MO_compile_215 rfl ?_
          refine ab_iadd d_MO_compile_217 ?_
          refine ab_topi (y := 107) (by decide) ?_
          refine ab_iald d_MO_compile_218 h110 (by unfold vp_in; decide) ?_
          refine ab_topi (y := 0) rfl ?_
          refine ab_iast d_MO_compile_219 h126 (vp_in_iff.mpr (by have l0 := (show (0 : Int32).toInt = 0 by decide); have l1 := (show (5 : Int32).toInt = 5 by decide); have l2 := (show (11 : Int32).toInt = 11 by decide); have l3 := (show (31 : Int32).toInt = 31 by decide); have l4 := (show (96 : Int32).toInt = 96 by decide); have l5 := (show (120 : Int32).toInt = 120 by decide); simp only [Int32.le_iff_toInt_le, Int32.lt_iff_toInt_lt, ← Int32.toInt_inj] at c0 c1 c2 c3 c4 c5 c6 c7; have e0 : Int32.toInt (120 * (xs 1)) = Int32.toInt 120 * Int32.toInt (xs 1) := i32_mul (by simp only [l0, l1, l2, l3, l4, l5]; omega) (by simp only [l0, l1, l2, l3, l4, l5]; omega); have e1 : Int32.toInt ((120 * (xs 1)) + 96) = Int32.toInt (120 * (xs 1)) + Int32.toInt 96 := i32_add (by simp only [l0, l1, l2, l3, l4, l5, e0]; omega) (by simp only [l0, l1, l2, l3, l4, l5, e0]; omega); have e2 : Int32.toInt (((120 * (xs 1)) + 96) + 11) = Int32.toInt ((120 * (xs 1)) + 96) + Int32.toInt 11 := i32_add (by simp only [l0, l1, l2, l3, l4, l5, e0, e1]; omega) (by simp only [l0, l1, l2, l3, l4, l5, e0, e1]; omega); (try simp only [l0, l1, l2, l3, l4, l5] at e0 e1 e2); constructor <;> omega)) (by decide) ?_
          obtain ⟨G128, eG128⟩ : ∃ z : ab_G, z = List.set G127 126 (ab_if 720 ((upd f126_116 (Int32.toNatClampNeg (((120 * (xs 1)) + 96) + 11)) 0))) := ⟨_, rfl⟩
          have h80 := ab_keep eG128 (by decide) h80
          have h110 := ab_keep eG128 (by decide) h110
          have h127 := ab_keep eG128 (by decide) h127
          have hlen := ab_klen eG128 hlen
          have hsl := ab_ksl 720 eG128 h126 rfl rfl hsl
          have hfr := hfr.wr eG128 (by decide)
          have hpk := hpk.wr eG128 (by decide)
          have h126 := ab_kept eG128 h126
          change ab_W _ _ _ (List.set G127 126 (ab_if 720 ((upd f126_116 (Int32.toNatClampNeg (((120 * (xs 1)) + 96) + 11)) 0)))) 220 [some (vR 80), some (vI (xs 1)), some (vI (xs 2)), some (vI 1), some (vI 8), some (vI 11)] [] _
          rw [← eG128]
          obtain ⟨f126_117, h126⟩ : ∃ g : Nat → Int32, G128[126]? = some (ab_if 720 (g)) := ⟨_, h126⟩
          refine ab_iinc (v := 12) d_MO_compile_220 rfl (by decide) (Nat.le_of_ble_eq_true rfl) (Nat.le_of_ble_eq_true rfl) rfl ?_
          change ab_W _ _ _ G128 223 [some (vR 80), some (vI (xs 1)), some (vI (xs 2)), some (vI 1), some (vI 8), some (vI 12)] [] _
          refine ab_goto (tgt := 182) d_MO_compile_223 (by decide) ?_
          refine ab_iload d_MO_compile_182 rfl ?_
          refine ab_bipush (v := 12) d_MO_compile_184 (by decide) ?_
          refine ab_icmp_ge (tgt := 226) d_MO_compile_186 (by decide) (fun _ => ?_) (fun c => absurd c (by decide))
          refine ab_iinc (v := 9) d_MO_compile_226 rfl (by decide) (Nat.le_of_ble_eq_true rfl) (Nat.le_of_ble_eq_true rfl) rfl ?_
          change ab_W _ _ _ G128 229 [some (vR 80), some (vI (xs 1)), some (vI (xs 2)), some (vI 1), some (vI 9), some (vI 12)] [] _
          refine ab_goto (tgt := 135) d_MO_compile_229 (by decide) ?_
          refine ab_iload d_MO_compile_135 rfl ?_
          refine ab_bipush (v := 10) d_MO_compile_137 (by decide) ?_
          refine ab_icmp_ge (tgt := 232) d_MO_compile_139 (by decide) (fun c => absurd c (by decide)) (fun _ => ?_)
          refine ab_aload_n d_MO_compile_142 rfl ?_
          refine ab_getf (fs := (m_fv (vI 0) (vI 0) (vI 0) (vI 0) (vI 0) (vI 0) (vI 0) (vI 0) (vI 2) (vI 0) (vI ((xs 2) &&& 15)) (vI 0) (vI (-1)) (vI 0) (vI 0) (vI 0) (vI 0) (vI 0) (vI 0) (vI (xs 1)) (vI 0) (vI 0) (vI 0) (vI 0) (vI 0) (vI 0) (vI 0) (vI 0) (vI 0) (vI 0) (vI 0) (vI 0) (vI 0) (vI 0) (vI 0))) f_MO_155 d_MO_compile_143 h80 rfl ?_
          refine ab_bipush (v := 10) d_MO_compile_146 (by decide) ?_
          refine ab_iload_n d_MO_compile_148 rfl ?_
          refine ab_imul d_MO_compile_149 ?_
          refine ab_iload d_MO_compile_150 rfl ?_
          refine ab_iadd d_MO_compile_152 ?_
          refine ab_iload d_MO_compile_153 rfl ?_
          refine ab_if_le (tgt := 177) d_MO_compile_155 (by decide) (fun c => absurd c (by decide)) (fun _ => ?_)
          refine ab_iload d_MO_compile_158 rfl ?_
          refine ab_aload_n d_MO_compile_160 rfl ?_
          refine ab_getf (fs := (m_fv (vI 0) (vI 0) (vI 0) (vI 0) (vI 0) (vI 0) (vI 0) (vI 0) (vI 2) (vI 0) (vI ((xs 2) &&& 15)) (vI 0) (vI (-1)) (vI 0) (vI 0) (vI 0) (vI 0) (vI 0) (vI 0) (vI (xs 1)) (vI 0) (vI 0) (vI 0) (vI 0) (vI 0) (vI 0) (vI 0) (vI 0) (vI 0) (vI 0) (vI 0) (vI 0) (vI 0) (vI 0) (vI 0))) f_MO_395 d_MO_compile_161 h80 rfl ?_
          refine ab_icmp_gt (tgt := 177) d_MO_compile_164 (by decide) (fun _ => ?_) (fun c => absurd c (by decide))
          refine ab_iconst (v := 0) d_MO_compile_177 (by decide) ?_
          refine ab_iast d_MO_compile_178 h127 (vp_in_iff.mpr (by have l0 := (show (0 : Int32).toInt = 0 by decide); have l1 := (show (5 : Int32).toInt = 5 by decide); have l2 := (show (9 : Int32).toInt = 9 by decide); have l3 := (show (10 : Int32).toInt = 10 by decide); have l4 := (show (31 : Int32).toInt = 31 by decide); simp only [Int32.le_iff_toInt_le, Int32.lt_iff_toInt_lt, ← Int32.toInt_inj] at c0 c1 c2 c3 c4 c5 c6 c7; have e0 : Int32.toInt (10 * (xs 1)) = Int32.toInt 10 * Int32.toInt (xs 1) := i32_mul (by simp only [l0, l1, l2, l3, l4]; omega) (by simp only [l0, l1, l2, l3, l4]; omega); have e1 : Int32.toInt ((10 * (xs 1)) + 9) = Int32.toInt (10 * (xs 1)) + Int32.toInt 9 := i32_add (by simp only [l0, l1, l2, l3, l4, e0]; omega) (by simp only [l0, l1, l2, l3, l4, e0]; omega); (try simp only [l0, l1, l2, l3, l4] at e0 e1); constructor <;> omega)) (by decide) ?_
          obtain ⟨G129, eG129⟩ : ∃ z : ab_G, z = List.set G128 127 (ab_if 60 ((upd f127_105 (Int32.toNatClampNeg ((10 * (xs 1)) + 9)) 0))) := ⟨_, rfl⟩
          have h80 := ab_keep eG129 (by decide) h80
          have h110 := ab_keep eG129 (by decide) h110
          have h126 := ab_keep eG129 (by decide) h126
          have hlen := ab_klen eG129 hlen
          have hsl := ab_ksl 60 eG129 h127 rfl rfl hsl
          have hfr := hfr.wr eG129 (by decide)
          have hpk := hpk.wr eG129 (by decide)
          have h127 := ab_kept eG129 h127
          change ab_W _ _ _ (List.set G128 127 (ab_if 60 ((upd f127_105 (Int32.toNatClampNeg ((10 * (xs 1)) + 9)) 0)))) 179 [some (vR 80), some (vI (xs 1)), some (vI (xs 2)), some (vI 1), some (vI 9), some (vI 12)] [] _
          rw [← eG129]
          obtain ⟨f127_118, h127⟩ : ∃ g : Nat → Int32, G129[127]? = some (ab_if 60 (g)) := ⟨_, h127⟩
          refine ab_iconst (v := 0) d_MO_compile_179 (by decide) ?_
          refine ab_istore d_MO_compile_180 (Nat.le_of_ble_eq_true rfl) (Nat.le_of_ble_eq_true rfl) rfl ?_
          change ab_W _ _ _ G129 182 [some (vR 80), some (vI (xs 1)), some (vI (xs 2)), some (vI 1), some (vI 9), some (vI 0)] [] _
          refine ab_iload d_MO_compile_182 rfl ?_
          refine ab_bipush (v := 12) d_MO_compile_184 (by decide) ?_
          refine ab_icmp_ge (tgt := 226) d_MO_compile_186 (by decide) (fun c => absurd c (by decide)) (fun _ => ?_)
          refine ab_aload_n d_MO_compile_189 rfl ?_
          refine ab_getf (fs := (m_fv (vI 0) (vI 0) (vI 0) (vI 0) (vI 0) (vI 0) (vI 0) (vI 0) (vI 2) (vI 0) (vI ((xs 2) &&& 15)) (vI 0) (vI (-1)) (vI 0) (vI 0) (vI 0) (vI 0) (vI 0) (vI 0) (vI (xs 1)) (vI 0) (vI 0) (vI 0) (vI 0) (vI 0) (vI 0) (vI 0) (vI 0) (vI 0) (vI 0) (vI 0) (vI 0) (vI 0) (vI 0) (vI 0))) f_MO_152 d_MO_compile_190 h80 rfl ?_
          refine ab_bipush (v := 120) d_MO_compile_193 (by decide) ?_
          refine ab_iload_n d_MO_compile_195 rfl ?_
          refine ab_imul d_MO_compile_196 ?_
          refine ab_bipush (v := 12) d_MO_compile_197 (by decide) ?_
          refine ab_iload d_MO_compile_199 rfl ?_
          refine ab_imul d_MO_compile_201 ?_
          refine ab_topi (y := 108) (by decide) ?_
          refine ab_iadd d_MO_compile_202 ?_
          refine ab_iload d_MO_compile_203 rfl ?_
          refine ab_iadd d_MO_compile_205 ?_
          refine ab_topi (y := ((120 * (xs 1)) + 108)) (Int32.add_zero _) ?_
          refine ab_aload_n d_MO_compile_206 rfl ?_
          refine ab_getf (fs := (m_fv (vI 0) (vI 0) (vI 0) (vI 0) (vI 0) (vI 0) (vI 0) (vI 0) (vI 2) (vI 0) (vI ((xs 2) &&& 15)) (vI 0) (vI (-1)) (vI 0) (vI 0) (vI 0) (vI 0) (vI 0) (vI 0) (vI (xs 1)) (vI 0) (vI 0) (vI 0) (vI 0) (vI 0) (vI 0) (vI 0) (vI 0) (vI 0) (vI 0) (vI 0) (vI 0) (vI 0) (vI 0) (vI 0))) f_MO_103 d_MO_compile_207 h80 rfl ?_
          refine ab_bipush (v := 12) d_MO_compile_210 (by decide) ?_
          refine ab_iload d_MO_compile_212 rfl ?_
          refine ab_imul d_MO_compile_214 ?_
          refine ab_topi (y := 108) (by decide) ?_
          refine ab_iload d_MO_compile_215 rfl ?_
          refine ab_iadd d_MO_compile_217 ?_
          refine ab_topi (y := 108) (by decide) ?_
          refine ab_iald d_MO_compile_218 h110 (by unfold vp_in; decide) ?_
          refine ab_topi (y := 0) rfl ?_
          refine ab_iast d_MO_compile_219 h126 (vp_in_iff.mpr (by have l0 := (show (0 : Int32).toInt = 0 by decide); have l1 := (show (5 : Int32).toInt = 5 by decide); have l2 := (show (31 : Int32).toInt = 31 by decide); have l3 := (show (108 : Int32).toInt = 108 by decide); have l4 := (show (120 : Int32).toInt = 120 by decide); simp only [Int32.le_iff_toInt_le, Int32.lt_iff_toInt_lt, ← Int32.toInt_inj] at c0 c1 c2 c3 c4 c5 c6 c7; have e0 : Int32.toInt (120 * (xs 1)) = Int32.toInt 120 * Int32.toInt (xs 1) := i32_mul (by simp only [l0, l1, l2, l3, l4]; omega) (by simp only [l0, l1, l2, l3, l4]; omega); have e1 : Int32.toInt ((120 * (xs 1)) + 108) = Int32.toInt (120 * (xs 1)) + Int32.toInt 108 := i32_add (by simp only [l0, l1, l2, l3, l4, e0]; omega) (by simp only [l0, l1, l2, l3, l4, e0]; omega); (try simp only [l0, l1, l2, l3, l4] at e0 e1); constructor <;> omega)) (by decide) ?_
          obtain ⟨G130, eG130⟩ : ∃ z : ab_G, z = List.set G129 126 (ab_if 720 ((upd f126_117 (Int32.toNatClampNeg ((120 * (xs 1)) + 108)) 0))) := ⟨_, rfl⟩
          have h80 := ab_keep eG130 (by decide) h80
          have h110 := ab_keep eG130 (by decide) h110
          have h127 := ab_keep eG130 (by decide) h127
          have hlen := ab_klen eG130 hlen
          have hsl := ab_ksl 720 eG130 h126 rfl rfl hsl
          have hfr := hfr.wr eG130 (by decide)
          have hpk := hpk.wr eG130 (by decide)
          have h126 := ab_kept eG130 h126
          change ab_W _ _ _ (List.set G129 126 (ab_if 720 ((upd f126_117 (Int32.toNatClampNeg ((120 * (xs 1)) + 108)) 0)))) 220 [some (vR 80), some (vI (xs 1)), some (vI (xs 2)), some (vI 1), some (vI 9), some (vI 0)] [] _
          rw [← eG130]
          obtain ⟨f126_119, h126⟩ : ∃ g : Nat → Int32, G130[126]? = some (ab_if 720 (g)) := ⟨_, h126⟩
          refine ab_iinc (v := 1) d_MO_compile_220 rfl (by decide) (Nat.le_of_ble_eq_true rfl) (Nat.le_of_ble_eq_true rfl) rfl ?_
          change ab_W _ _ _ G130 223 [some (vR 80), some (vI (xs 1)), some (vI (xs 2)), some (vI 1), some (vI 9), some (vI 1)] [] _
          refine ab_goto (tgt := 182) d_MO_compile_223 (by decide) ?_
          refine ab_iload d_MO_compile_182 rfl ?_
          refine ab_bipush (v := 12) d_MO_compile_184 (by decide) ?_
          refine ab_icmp_ge (tgt := 226) d_MO_compile_186 (by decide) (fun c => absurd c (by decide)) (fun _ => ?_)
          refine ab_aload_n d_MO_compile_189 rfl ?_
          refine ab_getf (fs := (m_fv (vI 0) (vI 0) (vI 0) (vI 0) (vI 0) (vI 0) (vI 0) (vI 0) (vI 2) (vI 0) (vI ((xs 2) &&& 15)) (vI 0) (vI (-1)) (vI 0) (vI 0) (vI 0) (vI 0) (vI 0) (vI 0) (vI (xs 1)) (vI 0) (vI 0) (vI 0) (vI 0) (vI 0) (vI 0) (vI 0) (vI 0) (vI 0) (vI 0) (vI 0) (vI 0) (vI 0) (vI 0) (vI 0))) f_MO_152 d_MO_compile_190 h80 rfl ?_
          refine ab_bipush (v := 120) d_MO_compile_193 (by decide) ?_
          refine ab_iload_n d_MO_compile_195 rfl ?_
          refine ab_imul d_MO_compile_196 ?_
          refine ab_bipush (v := 12) d_MO_compile_197 (by decide) ?_
          refine ab_iload d_MO_compile_199 rfl ?_
          refine ab_imul d_MO_compile_201 ?_
          refine ab_topi (y := 108) (by decide) ?_
          refine ab_iadd d_MO_compile_202 ?_
          refine ab_iload d_MO_compile_203 rfl ?_
          refine ab_iadd d_MO_compile_205 ?_
          refine ab_aload_n d_MO_compile_206 rfl ?_
          refine ab_getf (fs := (m_fv (vI 0) (vI 0) (vI 0) (vI 0) (vI 0) (vI 0) (vI 0) (vI 0) (vI 2) (vI 0) (vI ((xs 2) &&& 15)) (vI 0) (vI (-1)) (vI 0) (vI 0) (vI 0) (vI 0) (vI 0) (vI 0) (vI (xs 1)) (vI 0) (vI 0) (vI 0) (vI 0) (vI 0) (vI 0) (vI 0) (vI 0) (vI 0) (vI 0) (vI 0) (vI 0) (vI 0) (vI 0) (vI 0))) f_MO_103 d_MO_compile_207 h80 rfl ?_
          refine ab_bipush (v := 12) d_MO_compile_210 (by decide) ?_
          refine ab_iload d_MO_compile_212 rfl ?_
          refine ab_imul d_MO_compile_214 ?_
          refine ab_topi (y := 108) (by decide) ?_
          refine ab_iload d_MO_compile_215 rfl ?_
          refine ab_iadd d_MO_compile_217 ?_
          refine ab_topi (y := 109) (by decide) ?_
          refine ab_iald d_MO_compile_218 h110 (by unfold vp_in; decide) ?_
          refine ab_topi (y := 0) rfl ?_
          refine ab_iast d_MO_compile_219 h126 (vp_in_iff.mpr (by have l0 := (show (0 : Int32).toInt = 0 by decide); have l1 := (show (1 : Int32).toInt = 1 by decide); have l2 := (show (5 : Int32).toInt = 5 by decide); have l3 := (show (31 : Int32).toInt = 31 by decide); have l4 := (show (108 : Int32).toInt = 108 by decide); have l5 := (show (120 : Int32).toInt = 120 by decide); simp only [Int32.le_iff_toInt_le, Int32.lt_iff_toInt_lt, ← Int32.toInt_inj] at c0 c1 c2 c3 c4 c5 c6 c7; have e0 : Int32.toInt (120 * (xs 1)) = Int32.toInt 120 * Int32.toInt (xs 1) := i32_mul (by simp only [l0, l1, l2, l3, l4, l5]; omega) (by simp only [l0, l1, l2, l3, l4, l5]; omega); have e1 : Int32.toInt ((120 * (xs 1)) + 108) = Int32.toInt (120 * (xs 1)) + Int32.toInt 108 := i32_add (by simp only [l0, l1, l2, l3, l4, l5, e0]; omega) (by simp only [l0, l1, l2, l3, l4, l5, e0]; omega); have e2 : Int32.toInt (((120 * (xs 1)) + 108) + 1) = Int32.toInt ((120 * (xs 1)) + 108) + Int32.toInt 1 := i32_add (by simp only [l0, l1, l2, l3, l4, l5, e0, e1]; omega) (by simp only [l0, l1, l2, l3, l4, l5, e0, e1]; omega); (try simp only [l0, l1, l2, l3, l4, l5] at e0 e1 e2); constructor <;> omega)) (by decide) ?_
          obtain ⟨G131, eG131⟩ : ∃ z : ab_G, z = List.set G130 126 (ab_if 720 ((upd f126_119 (Int32.toNatClampNeg (((120 * (xs 1)) + 108) + 1)) 0))) := ⟨_, rfl⟩
          have h80 := ab_keep eG131 (by decide) h80
          have h110 := ab_keep eG131 (by decide) h110
          have h127 := ab_keep eG131 (by decide) h127
          have hlen := ab_klen eG131 hlen
          have hsl := ab_ksl 720 eG131 h126 rfl rfl hsl
          have hfr := hfr.wr eG131 (by decide)
          have hpk := hpk.wr eG131 (by decide)
          have h126 := ab_kept eG131 h126
          change ab_W _ _ _ (List.set G130 126 (ab_if 720 ((upd f126_119 (Int32.toNatClampNeg (((120 * (xs 1)) + 108) + 1)) 0)))) 220 [some (vR 80), some (vI (xs 1)), some (vI (xs 2)), some (vI 1), some (vI 9), some (vI 1)] [] _
          rw [← eG131]
          obtain ⟨f126_120, h126⟩ : ∃ g : Nat → Int32, G131[126]? = some (ab_if 720 (g)) := ⟨_, h126⟩
          refine ab_iinc (v := 2) d_MO_compile_220 rfl (by decide) (Nat.le_of_ble_eq_true rfl) (Nat.le_of_ble_eq_true rfl) rfl ?_
          change ab_W _ _ _ G131 223 [some (vR 80), some (vI (xs 1)), some (vI (xs 2)), some (vI 1), some (vI 9), some (vI 2)] [] _
          refine ab_goto (tgt := 182) d_MO_compile_223 (by decide) ?_
          refine ab_iload d_MO_compile_182 rfl ?_
          refine ab_bipush (v := 12) d_MO_compile_184 (by decide) ?_
          refine ab_icmp_ge (tgt := 226) d_MO_compile_186 (by decide) (fun c => absurd c (by decide)) (fun _ => ?_)
          refine ab_aload_n d_MO_compile_189 rfl ?_
          refine ab_getf (fs := (m_fv (vI 0) (vI 0) (vI 0) (vI 0) (vI 0) (vI 0) (vI 0) (vI 0) (vI 2) (vI 0) (vI ((xs 2) &&& 15)) (vI 0) (vI (-1)) (vI 0) (vI 0) (vI 0) (vI 0) (vI 0) (vI 0) (vI (xs 1)) (vI 0) (vI 0) (vI 0) (vI 0) (vI 0) (vI 0) (vI 0) (vI 0) (vI 0) (vI 0) (vI 0) (vI 0) (vI 0) (vI 0) (vI 0))) f_MO_152 d_MO_compile_190 h80 rfl ?_
          refine ab_bipush (v := 120) d_MO_compile_193 (by decide) ?_
          refine ab_iload_n d_MO_compile_195 rfl ?_
          refine ab_imul d_MO_compile_196 ?_
          refine ab_bipush (v := 12) d_MO_compile_197 (by decide) ?_
          refine ab_iload d_MO_compile_199 rfl ?_
          refine ab_imul d_MO_compile_201 ?_
          refine ab_topi (y := 108) (by decide) ?_
          refine ab_iadd d_MO_compile_202 ?_
          refine ab_iload d_MO_compile_203 rfl ?_
          refine ab_iadd d_MO_compile_205 ?_
          refine ab_aload_n d_MO_compile_206 rfl ?_
          refine ab_getf (fs := (m_fv (vI 0) (vI 0) (vI 0) (vI 0) (vI 0) (vI 0) (vI 0) (vI 0) (vI 2) (vI 0) (vI ((xs 2) &&& 15)) (vI 0) (vI (-1)) (vI 0) (vI 0) (vI 0) (vI 0) (vI 0) (vI 0) (vI (xs 1)) (vI 0) (vI 0) (vI 0) (vI 0) (vI 0) (vI 0) (vI 0) (vI 0) (vI 0) (vI 0) (vI 0) (vI 0) (vI 0) (vI 0) (vI 0))) f_MO_103 d_MO_compile_207 h80 rfl ?_
          refine ab_bipush (v := 12) d_MO_compile_210 (by decide) ?_
          refine ab_iload d_MO_compile_212 rfl ?_
          refine ab_imul d_MO_compile_214 ?_
          refine ab_topi (y := 108) (by decide) ?_
          refine ab_iload d_MO_compile_215 rfl ?_
          refine ab_iadd d_MO_compile_217 ?_
          refine ab_topi (y := 110) (by decide) ?_
          refine ab_iald d_MO_compile_218 h110 (by unfold vp_in; decide) ?_
          refine ab_topi (y := 0) rfl ?_
          refine ab_iast d_MO_compile_219 h126 (vp_in_iff.mpr (by have l0 := (show (0 : Int32).toInt = 0 by decide); have l1 := (show (2 : Int32).toInt = 2 by decide); have l2 := (show (5 : Int32).toInt = 5 by decide); have l3 := (show (31 : Int32).toInt = 31 by decide); have l4 := (show (108 : Int32).toInt = 108 by decide); have l5 := (show (120 : Int32).toInt = 120 by decide); simp only [Int32.le_iff_toInt_le, Int32.lt_iff_toInt_lt, ← Int32.toInt_inj] at c0 c1 c2 c3 c4 c5 c6 c7; have e0 : Int32.toInt (120 * (xs 1)) = Int32.toInt 120 * Int32.toInt (xs 1) := i32_mul (by simp only [l0, l1, l2, l3, l4, l5]; omega) (by simp only [l0, l1, l2, l3, l4, l5]; omega); have e1 : Int32.toInt ((120 * (xs 1)) + 108) = Int32.toInt (120 * (xs 1)) + Int32.toInt 108 := i32_add (by simp only [l0, l1, l2, l3, l4, l5, e0]; omega) (by simp only [l0, l1, l2, l3, l4, l5, e0]; omega); have e2 : Int32.toInt (((120 * (xs 1)) + 108) + 2) = Int32.toInt ((120 * (xs 1)) + 108) + Int32.toInt 2 := i32_add (by simp only [l0, l1, l2, l3, l4, l5, e0, e1]; omega) (by simp only [l0, l1, l2, l3, l4, l5, e0, e1]; omega); (try simp only [l0, l1, l2, l3, l4, l5] at e0 e1 e2); constructor <;> omega)) (by decide) ?_
          obtain ⟨G132, eG132⟩ : ∃ z : ab_G, z = List.set G131 126 (ab_if 720 ((upd f126_120 (Int32.toNatClampNeg (((120 * (xs 1)) + 108) + 2)) 0))) := ⟨_, rfl⟩
          have h80 := ab_keep eG132 (by decide) h80
          have h110 := ab_keep eG132 (by decide) h110
          have h127 := ab_keep eG132 (by decide) h127
          have hlen := ab_klen eG132 hlen
          have hsl := ab_ksl 720 eG132 h126 rfl rfl hsl
          have hfr := hfr.wr eG132 (by decide)
          have hpk := hpk.wr eG132 (by decide)
          have h126 := ab_kept eG132 h126
          change ab_W _ _ _ (List.set G131 126 (ab_if 720 ((upd f126_120 (Int32.toNatClampNeg (((120 * (xs 1)) + 108) + 2)) 0)))) 220 [some (vR 80), some (vI (xs 1)), some (vI (xs 2)), some (vI 1), some (vI 9), some (vI 2)] [] _
          rw [← eG132]
          obtain ⟨f126_121, h126⟩ : ∃ g : Nat → Int32, G132[126]? = some (ab_if 720 (g)) := ⟨_, h126⟩
          refine ab_iinc (v := 3) d_MO_compile_220 rfl (by decide) (Nat.le_of_ble_eq_true rfl) (Nat.le_of_ble_eq_true rfl) rfl ?_
          change ab_W _ _ _ G132 223 [some (vR 80), some (vI (xs 1)), some (vI (xs 2)), some (vI 1), some (vI 9), some (vI 3)] [] _
          refine ab_goto (tgt := 182) d_MO_compile_223 (by decide) ?_
          refine ab_iload d_MO_compile_182 rfl ?_
          refine ab_bipush (v := 12) d_MO_compile_184 (by decide) ?_
          refine ab_icmp_ge (tgt := 226) d_MO_compile_186 (by decide) (fun c => absurd c (by decide)) (fun _ => ?_)
          refine ab_aload_n d_MO_compile_189 rfl ?_
          refine ab_getf (fs := (m_fv (vI 0) (vI 0) (vI 0) (vI 0) (vI 0) (vI 0) (vI 0) (vI 0) (vI 2) (vI 0) (vI ((xs 2) &&& 15)) (vI 0) (vI (-1)) (vI 0) (vI 0) (vI 0) (vI 0) (vI 0) (vI 0) (vI (xs 1)) (vI 0) (vI 0) (vI 0) (vI 0) (vI 0) (vI 0) (vI 0) (vI 0) (vI 0) (vI 0) (vI 0) (vI 0) (vI 0) (vI 0) (vI 0))) f_MO_152 d_MO_compile_190 h80 rfl ?_
          refine ab_bipush (v := 120) d_MO_compile_193 (by decide) ?_
          refine ab_iload_n d_MO_compile_195 rfl ?_
          refine ab_imul d_MO_compile_196 ?_
          refine ab_bipush (v := 12) d_MO_compile_197 (by decide) ?_
          refine ab_iload d_MO_compile_199 rfl ?_
          refine ab_imul d_MO_compile_201 ?_
          refine ab_topi (y := 108) (by decide) ?_
          refine ab_iadd d_MO_compile_202 ?_
          refine ab_iload d_MO_compile_203 rfl ?_
          refine ab_iadd d_MO_compile_205 ?_
          refine ab_aload_n d_MO_compile_206 rfl ?_
          refine ab_getf (fs := (m_fv (vI 0) (vI 0) (vI 0) (vI 0) (vI 0) (vI 0) (vI 0) (vI 0) (vI 2) (vI 0) (vI ((xs 2) &&& 15)) (vI 0) (vI (-1)) (vI 0) (vI 0) (vI 0) (vI 0) (vI 0) (vI 0) (vI (xs 1)) (vI 0) (vI 0) (vI 0) (vI 0) (vI 0) (vI 0) (vI 0) (vI 0) (vI 0) (vI 0) (vI 0) (vI 0) (vI 0) (vI 0) (vI 0))) f_MO_103 d_MO_compile_207 h80 rfl ?_
          refine ab_bipush (v := 12) d_MO_compile_210 (by decide) ?_
          refine ab_iload d_MO_compile_212 rfl ?_
          refine ab_imul d_MO_compile_214 ?_
          refine ab_topi (y := 108) (by decide) ?_
          refine ab_iload d_MO_compile_215 rfl ?_
          refine ab_iadd d_MO_compile_217 ?_
          refine ab_topi (y := 111) (by decide) ?_
          refine ab_iald d_MO_compile_218 h110 (by unfold vp_in; decide) ?_
          refine ab_topi (y := 0) rfl ?_
          refine ab_iast d_MO_compile_219 h126 (vp_in_iff.mpr (by have l0 := (show (0 : Int32).toInt = 0 by decide); have l1 := (show (3 : Int32).toInt = 3 by decide); have l2 := (show (5 : Int32).toInt = 5 by decide); have l3 := (show (31 : Int32).toInt = 31 by decide); have l4 := (show (108 : Int32).toInt = 108 by decide); have l5 := (show (120 : Int32).toInt = 120 by decide); simp only [Int32.le_iff_toInt_le, Int32.lt_iff_toInt_lt, ← Int32.toInt_inj] at c0 c1 c2 c3 c4 c5 c6 c7; have e0 : Int32.toInt (120 * (xs 1)) = Int32.toInt 120 * Int32.toInt (xs 1) := i32_mul (by simp only [l0, l1, l2, l3, l4, l5]; omega) (by simp only [l0, l1, l2, l3, l4, l5]; omega); have e1 : Int32.toInt ((120 * (xs 1)) + 108) = Int32.toInt (120 * (xs 1)) + Int32.toInt 108 := i32_add (by simp only [l0, l1, l2, l3, l4, l5, e0]; omega) (by simp only [l0, l1, l2, l3, l4, l5, e0]; omega); have e2 : Int32.toInt (((120 * (xs 1)) + 108) + 3) = Int32.toInt ((120 * (xs 1)) + 108) + Int32.toInt 3 := i32_add (by simp only [l0, l1, l2, l3, l4, l5, e0, e1]; omega) (by simp only [l0, l1, l2, l3, l4, l5, e0, e1]; omega); (try simp only [l0, l1, l2, l3, l4, l5] at e0 e1 e2); constructor <;> omega)) (by decide) ?_
          obtain ⟨G133, eG133⟩ : ∃ z : ab_G, z = List.set G132 126 (ab_if 720 ((upd f126_121 (Int32.toNatClampNeg (((120 * (xs 1)) + 108) + 3)) 0))) := ⟨_, rfl⟩
          have h80 := ab_keep eG133 (by decide) h80
          have h110 := ab_keep eG133 (by decide) h110
          have h127 := ab_keep eG133 (by decide) h127
          have hlen := ab_klen eG133 hlen
          have hsl := ab_ksl 720 eG133 h126 rfl rfl hsl
          have hfr := hfr.wr eG133 (by decide)
          have hpk := hpk.wr eG133 (by decide)
          have h126 := ab_kept eG133 h126
          change ab_W _ _ _ (List.set G132 126 (ab_if 720 ((upd f126_121 (Int32.toNatClampNeg (((120 * (xs 1)) + 108) + 3)) 0)))) 220 [some (vR 80), some (vI (xs 1)), some (vI (xs 2)), some (vI 1), some (vI 9), some (vI 3)] [] _
          rw [← eG133]
          obtain ⟨f126_122, h126⟩ : ∃ g : Nat → Int32, G133[126]? = some (ab_if 720 (g)) := ⟨_, h126⟩
          refine ab_iinc (v := 4) d_MO_compile_220 rfl (by decide) (Nat.le_of_ble_eq_true rfl) (Nat.le_of_ble_eq_true rfl) rfl ?_
          change ab_W _ _ _ G133 223 [some (vR 80), some (vI (xs 1)), some (vI (xs 2)), some (vI 1), some (vI 9), some (vI 4)] [] _
          refine ab_goto (tgt := 182) d_MO_compile_223 (by decide) ?_
          refine ab_iload d_MO_compile_182 rfl ?_
          refine ab_bipush (v := 12) d_MO_compile_184 (by decide) ?_
          refine ab_icmp_ge (tgt := 226) d_MO_compile_186 (by decide) (fun c => absurd c (by decide)) (fun _ => ?_)
          refine ab_aload_n d_MO_compile_189 rfl ?_
          refine ab_getf (fs := (m_fv (vI 0) (vI 0) (vI 0) (vI 0) (vI 0) (vI 0) (vI 0) (vI 0) (vI 2) (vI 0) (vI ((xs 2) &&& 15)) (vI 0) (vI (-1)) (vI 0) (vI 0) (vI 0) (vI 0) (vI 0) (vI 0) (vI (xs 1)) (vI 0) (vI 0) (vI 0) (vI 0) (vI 0) (vI 0) (vI 0) (vI 0) (vI 0) (vI 0) (vI 0) (vI 0) (vI 0) (vI 0) (vI 0))) f_MO_152 d_MO_compile_190 h80 rfl ?_
          refine ab_bipush (v := 120) d_MO_compile_193 (by decide) ?_
          refine ab_iload_n d_MO_compile_195 rfl ?_
          refine ab_imul d_MO_compile_196 ?_
          refine ab_bipush (v := 12) d_MO_compile_197 (by decide) ?_
          refine ab_iload d_MO_compile_199 rfl ?_
          refine ab_imul d_MO_compile_201 ?_
          refine ab_topi (y := 108) (by decide) ?_
          refine ab_iadd d_MO_compile_202 ?_
          refine ab_iload d_MO_compile_203 rfl ?_
          refine ab_iadd d_MO_compile_205 ?_
          refine ab_aload_n d_MO_compile_206 rfl ?_
          refine ab_getf (fs := (m_fv (vI 0) (vI 0) (vI 0) (vI 0) (vI 0) (vI 0) (vI 0) (vI 0) (vI 2) (vI 0) (vI ((xs 2) &&& 15)) (vI 0) (vI (-1)) (vI 0) (vI 0) (vI 0) (vI 0) (vI 0) (vI 0) (vI (xs 1)) (vI 0) (vI 0) (vI 0) (vI 0) (vI 0) (vI 0) (vI 0) (vI 0) (vI 0) (vI 0) (vI 0) (vI 0) (vI 0) (vI 0) (vI 0))) f_MO_103 d_MO_compile_207 h80 rfl ?_
          refine ab_bipush (v := 12) d_MO_compile_210 (by decide) ?_
          refine ab_iload d_MO_compile_212 rfl ?_
          refine ab_imul d_MO_compile_214 ?_
          refine ab_topi (y := 108) (by decide) ?_
          refine ab_iload d_MO_compile_215 rfl ?_
          refine ab_iadd d_MO_compile_217 ?_
          refine ab_topi (y := 112) (by decide) ?_
          refine ab_iald d_MO_compile_218 h110 (by unfold vp_in; decide) ?_
          refine ab_topi (y := 0) rfl ?_
          refine ab_iast d_MO_compile_219 h126 (vp_in_iff.mpr (by have l0 := (show (0 : Int32).toInt = 0 by decide); have l1 := (show (4 : Int32).toInt = 4 by decide); have l2 := (show (5 : Int32).toInt = 5 by decide); have l3 := (show (31 : Int32).toInt = 31 by decide); have l4 := (show (108 : Int32).toInt = 108 by decide); have l5 := (show (120 : Int32).toInt = 120 by decide); simp only [Int32.le_iff_toInt_le, Int32.lt_iff_toInt_lt, ← Int32.toInt_inj] at c0 c1 c2 c3 c4 c5 c6 c7; have e0 : Int32.toInt (120 * (xs 1)) = Int32.toInt 120 * Int32.toInt (xs 1) := i32_mul (by simp only [l0, l1, l2, l3, l4, l5]; omega) (by simp only [l0, l1, l2, l3, l4, l5]; omega); have e1 : Int32.toInt ((120 * (xs 1)) + 108) = Int32.toInt (120 * (xs 1)) + Int32.toInt 108 := i32_add (by simp only [l0, l1, l2, l3, l4, l5, e0]; omega) (by simp only [l0, l1, l2, l3, l4, l5, e0]; omega); have e2 : Int32.toInt (((120 * (xs 1)) + 108) + 4) = Int32.toInt ((120 * (xs 1)) + 108) + Int32.toInt 4 := i32_add (by simp only [l0, l1, l2, l3, l4, l5, e0, e1]; omega) (by simp only [l0, l1, l2, l3, l4, l5, e0, e1]; omega); (try simp only [l0, l1, l2, l3, l4, l5] at e0 e1 e2); constructor <;> omega)) (by decide) ?_
          obtain ⟨G134, eG134⟩ : ∃ z : ab_G, z = List.set G133 126 (ab_if 720 ((upd f126_122 (Int32.toNatClampNeg (((120 * (xs 1)) + 108) + 4)) 0))) := ⟨_, rfl⟩
          have h80 := ab_keep eG134 (by decide) h80
          have h110 := ab_keep eG134 (by decide) h110
          have h127 := ab_keep eG134 (by decide) h127
          have hlen := ab_klen eG134 hlen
          have hsl := ab_ksl 720 eG134 h126 rfl rfl hsl
          have hfr := hfr.wr eG134 (by decide)
          have hpk := hpk.wr eG134 (by decide)
          have h126 := ab_kept eG134 h126
          change ab_W _ _ _ (List.set G133 126 (ab_if 720 ((upd f126_122 (Int32.toNatClampNeg (((120 * (xs 1)) + 108) + 4)) 0)))) 220 [some (vR 80), some (vI (xs 1)), some (vI (xs 2)), some (vI 1), some (vI 9), some (vI 4)] [] _
          rw [← eG134]
          obtain ⟨f126_123, h126⟩ : ∃ g : Nat → Int32, G134[126]? = some (ab_if 720 (g)) := ⟨_, h126⟩
          refine ab_iinc (v := 5) d_MO_compile_220 rfl (by decide) (Nat.le_of_ble_eq_true rfl) (Nat.le_of_ble_eq_true rfl) rfl ?_
          change ab_W _ _ _ G134 223 [some (vR 80), some (vI (xs 1)), some (vI (xs 2)), some (vI 1), some (vI 9), some (vI 5)] [] _
          refine ab_goto (tgt := 182) d_MO_compile_223 (by decide) ?_
          refine ab_iload d_MO_compile_182 rfl ?_
          refine ab_bipush (v := 12) d_MO_compile_184 (by decide) ?_
          refine ab_icmp_ge (tgt := 226) d_MO_compile_186 (by decide) (fun c => absurd c (by decide)) (fun _ => ?_)
          refine ab_aload_n d_MO_compile_189 rfl ?_
          refine ab_getf (fs := (m_fv (vI 0) (vI 0) (vI 0) (vI 0) (vI 0) (vI 0) (vI 0) (vI 0) (vI 2) (vI 0) (vI ((xs 2) &&& 15)) (vI 0) (vI (-1)) (vI 0) (vI 0) (vI 0) (vI 0) (vI 0) (vI 0) (vI (xs 1)) (vI 0) (vI 0) (vI 0) (vI 0) (vI 0) (vI 0) (vI 0) (vI 0) (vI 0) (vI 0) (vI 0) (vI 0) (vI 0) (vI 0) (vI 0))) f_MO_152 d_MO_compile_190 h80 rfl ?_
          refine ab_bipush (v := 120) d_MO_compile_193 (by decide) ?_
          refine ab_iload_n d_MO_compile_195 rfl ?_
          refine ab_imul d_MO_compile_196 ?_
          refine ab_bipush (v := 12) d_MO_compile_197 (by decide) ?_
          refine ab_iload d_MO_compile_199 rfl ?_
          refine ab_imul d_MO_compile_201 ?_
          refine ab_topi (y := 108) (by decide) ?_
          refine ab_iadd d_MO_compile_202 ?_
          refine ab_iload d_MO_compile_203 rfl ?_
          refine ab_iadd d_MO_compile_205 ?_
          refine ab_aload_n d_MO_compile_206 rfl ?_
          refine ab_getf (fs := (m_fv (vI 0) (vI 0) (vI 0) (vI 0) (vI 0) (vI 0) (vI 0) (vI 0) (vI 2) (vI 0) (vI ((xs 2) &&& 15)) (vI 0) (vI (-1)) (vI 0) (vI 0) (vI 0) (vI 0) (vI 0) (vI 0) (vI (xs 1)) (vI 0) (vI 0) (vI 0) (vI 0) (vI 0) (vI 0) (vI 0) (vI 0) (vI 0) (vI 0) (vI 0) (vI 0) (vI 0) (vI 0) (vI 0))) f_MO_103 d_MO_compile_207 h80 rfl ?_
          refine ab_bipush (v := 12) d_MO_compile_210 (by decide) ?_
          refine ab_iload d_MO_compile_212 rfl ?_
          refine ab_imul d_MO_compile_214 ?_
          refine ab_topi (y := 108) (by decide) ?_
          refine ab_iload d_MO_compile_215 rfl ?_
          refine ab_iadd d_MO_compile_217 ?_
          refine ab_topi (y := 113) (by decide) ?_
          refine ab_iald d_MO_compile_218 h110 (by unfold vp_in; decide) ?_
          refine ab_topi (y := 0) rfl ?_
          refine ab_iast d_MO_compile_219 h126 (vp_in_iff.mpr (by have l0 := (show (0 : Int32).toInt = 0 by decide); have l1 := (show (5 : Int32).toInt = 5 by decide); have l2 := (show (31 : Int32).toInt = 31 by decide); have l3 := (show (108 : Int32).toInt = 108 by decide); have l4 := (show (120 : Int32).toInt = 120 by decide); simp only [Int32.le_iff_toInt_le, Int32.lt_iff_toInt_lt, ← Int32.toInt_inj] at c0 c1 c2 c3 c4 c5 c6 c7; have e0 : Int32.toInt (120 * (xs 1)) = Int32.toInt 120 * Int32.toInt (xs 1) := i32_mul (by simp only [l0, l1, l2, l3, l4]; omega) (by simp only [l0, l1, l2, l3, l4]; omega); have e1 : Int32.toInt ((120 * (xs 1)) + 108) = Int32.toInt (120 * (xs 1)) + Int32.toInt 108 := i32_add (by simp only [l0, l1, l2, l3, l4, e0]; omega) (by simp only [l0, l1, l2, l3, l4, e0]; omega); have e2 : Int32.toInt (((120 * (xs 1)) + 108) + 5) = Int32.toInt ((120 * (xs 1)) + 108) + Int32.toInt 5 := i32_add (by simp only [l0, l1, l2, l3, l4, e0, e1]; omega) (by simp only [l0, l1, l2, l3, l4, e0, e1]; omega); (try simp only [l0, l1, l2, l3, l4] at e0 e1 e2); constructor <;> omega)) (by decide) ?_
          obtain ⟨G135, eG135⟩ : ∃ z : ab_G, z = List.set G134 126 (ab_if 720 ((upd f126_123 (Int32.toNatClampNeg (((120 * (xs 1)) + 108) + 5)) 0))) := ⟨_, rfl⟩
          have h80 := ab_keep eG135 (by decide) h80
          have h110 := ab_keep eG135 (by decide) h110
          have h127 := ab_keep eG135 (by decide) h127
          have hlen := ab_klen eG135 hlen
          have hsl := ab_ksl 720 eG135 h126 rfl rfl hsl
          have hfr := hfr.wr eG135 (by decide)
          have hpk := hpk.wr eG135 (by decide)
          have h126 := ab_kept eG135 h126
          change ab_W _ _ _ (List.set G134 126 (ab_if 720 ((upd f126_123 (Int32.toNatClampNeg (((120 * (xs 1)) + 108) + 5)) 0)))) 220 [some (vR 80), some (vI (xs 1)), some (vI (xs 2)), some (vI 1), some (vI 9), some (vI 5)] [] _
          rw [← eG135]
          obtain ⟨f126_124, h126⟩ : ∃ g : Nat → Int32, G135[126]? = some (ab_if 720 (g)) := ⟨_, h126⟩
          refine ab_iinc (v := 6) d_MO_compile_220 rfl (by decide) (Nat.le_of_ble_eq_true rfl) (Nat.le_of_ble_eq_true rfl) rfl ?_
          change ab_W _ _ _ G135 223 [some (vR 80), some (vI (xs 1)), some (vI (xs 2)), some (vI 1), some (vI 9), some (vI 6)] [] _
          refine ab_goto (tgt := 182) d_MO_compile_223 (by decide) ?_
          refine ab_iload d_MO_compile_182 rfl ?_
          refine ab_bipush (v := 12) d_MO_compile_184 (by decide) ?_
          refine ab_icmp_ge (tgt := 226) d_MO_compile_186 (by decide) (fun c => absurd c (by decide)) (fun _ => ?_)
          refine ab_aload_n d_MO_compile_189 rfl ?_
          refine ab_getf (fs := (m_fv (vI 0) (vI 0) (vI 0) (vI 0) (vI 0) (vI 0) (vI 0) (vI 0) (vI 2) (vI 0) (vI ((xs 2) &&& 15)) (vI 0) (vI (-1)) (vI 0) (vI 0) (vI 0) (vI 0) (vI 0) (vI 0) (vI (xs 1)) (vI 0) (vI 0) (vI 0) (vI 0) (vI 0) (vI 0) (vI 0) (vI 0) (vI 0) (vI 0) (vI 0) (vI 0) (vI 0) (vI 0) (vI 0))) f_MO_152 d_MO_compile_190 h80 rfl ?_
          refine ab_bipush (v := 120) d_MO_compile_193 (by decide) ?_
          refine ab_iload_n d_MO_compile_195 rfl ?_
          refine ab_imul d_MO_compile_196 ?_
          refine ab_bipush (v := 12) d_MO_compile_197 (by decide) ?_
          refine ab_iload d_MO_compile_199 rfl ?_
          refine ab_imul d_MO_compile_201 ?_
          refine ab_topi (y := 108) (by decide) ?_
          refine ab_iadd d_MO_compile_202 ?_
          refine ab_iload d_MO_compile_203 rfl ?_
          refine ab_iadd d_MO_compile_205 ?_
          refine ab_aload_n d_MO_compile_206 rfl ?_
          refine ab_getf (fs := (m_fv (vI 0) (vI 0) (vI 0) (vI 0) (vI 0) (vI 0) (vI 0) (vI 0) (vI 2) (vI 0) (vI ((xs 2) &&& 15)) (vI 0) (vI (-1)) (vI 0) (vI 0) (vI 0) (vI 0) (vI 0) (vI 0) (vI (xs 1)) (vI 0) (vI 0) (vI 0) (vI 0) (vI 0) (vI 0) (vI 0) (vI 0) (vI 0) (vI 0) (vI 0) (vI 0) (vI 0) (vI 0) (vI 0))) f_MO_103 d_MO_compile_207 h80 rfl ?_
          refine ab_bipush (v := 12) d_MO_compile_210 (by decide) ?_
          refine ab_iload d_MO_compile_212 rfl ?_
          refine ab_imul d_MO_compile_214 ?_
          refine ab_topi (y := 108) (by decide) ?_
          refine ab_iload d_MO_compile_215 rfl ?_
          refine ab_iadd d_MO_compile_217 ?_
          refine ab_topi (y := 114) (by decide) ?_
          refine ab_iald d_MO_compile_218 h110 (by unfold vp_in; decide) ?_
          refine ab_topi (y := 0) rfl ?_
          refine ab_iast d_MO_compile_219 h126 (vp_in_iff.mpr (by have l0 := (show (0 : Int32).toInt = 0 by decide); have l1 := (show (5 : Int32).toInt = 5 by decide); have l2 := (show (6 : Int32).toInt = 6 by decide); have l3 := (show (31 : Int32).toInt = 31 by decide); have l4 := (show (108 : Int32).toInt = 108 by decide); have l5 := (show (120 : Int32).toInt = 120 by decide); simp only [Int32.le_iff_toInt_le, Int32.lt_iff_toInt_lt, ← Int32.toInt_inj] at c0 c1 c2 c3 c4 c5 c6 c7; have e0 : Int32.toInt (120 * (xs 1)) = Int32.toInt 120 * Int32.toInt (xs 1) := i32_mul (by simp only [l0, l1, l2, l3, l4, l5]; omega) (by simp only [l0, l1, l2, l3, l4, l5]; omega); have e1 : Int32.toInt ((120 * (xs 1)) + 108) = Int32.toInt (120 * (xs 1)) + Int32.toInt 108 := i32_add (by simp only [l0, l1, l2, l3, l4, l5, e0]; omega) (by simp only [l0, l1, l2, l3, l4, l5, e0]; omega); have e2 : Int32.toInt (((120 * (xs 1)) + 108) + 6) = Int32.toInt ((120 * (xs 1)) + 108) + Int32.toInt 6 := i32_add (by simp only [l0, l1, l2, l3, l4, l5, e0, e1]; omega) (by simp only [l0, l1, l2, l3, l4, l5, e0, e1]; omega); (try simp only [l0, l1, l2, l3, l4, l5] at e0 e1 e2); constructor <;> omega)) (by decide) ?_
          obtain ⟨G136, eG136⟩ : ∃ z : ab_G, z = List.set G135 126 (ab_if 720 ((upd f126_124 (Int32.toNatClampNeg (((120 * (xs 1)) + 108) + 6)) 0))) := ⟨_, rfl⟩
          have h80 := ab_keep eG136 (by decide) h80
          have h110 := ab_keep eG136 (by decide) h110
          have h127 := ab_keep eG136 (by decide) h127
          have hlen := ab_klen eG136 hlen
          have hsl := ab_ksl 720 eG136 h126 rfl rfl hsl
          have hfr := hfr.wr eG136 (by decide)
          have hpk := hpk.wr eG136 (by decide)
          have h126 := ab_kept eG136 h126
          change ab_W _ _ _ (List.set G135 126 (ab_if 720 ((upd f126_124 (Int32.toNatClampNeg (((120 * (xs 1)) + 108) + 6)) 0)))) 220 [some (vR 80), some (vI (xs 1)), some (vI (xs 2)), some (vI 1), some (vI 9), some (vI 6)] [] _
          rw [← eG136]
          obtain ⟨f126_125, h126⟩ : ∃ g : Nat → Int32, G136[126]? = some (ab_if 720 (g)) := ⟨_, h126⟩
          refine ab_iinc (v := 7) d_MO_compile_220 rfl (by decide) (Nat.le_of_ble_eq_true rfl) (Nat.le_of_ble_eq_true rfl) rfl ?_
          change ab_W _ _ _ G136 223 [some (vR 80), some (vI (xs 1)), some (vI (xs 2)), some (vI 1), some (vI 9), some (vI 7)] [] _
          refine ab_goto (tgt := 182) d_MO_compile_223 (by decide) ?_
          refine ab_iload d_MO_compile_182 rfl ?_
          refine ab_bipush (v := 12) d_MO_compile_184 (by decide) ?_
          refine ab_icmp_ge (tgt := 226) d_MO_compile_186 (by decide) (fun c => absurd c (by decide)) (fun _ => ?_)
          refine ab_aload_n d_MO_compile_189 rfl ?_
          refine ab_getf (fs := (m_fv (vI 0) (vI 0) (vI 0) (vI 0) (vI 0) (vI 0) (vI 0) (vI 0) (vI 2) (vI 0) (vI ((xs 2) &&& 15)) (vI 0) (vI (-1)) (vI 0) (vI 0) (vI 0) (vI 0) (vI 0) (vI 0) (vI (xs 1)) (vI 0) (vI 0) (vI 0) (vI 0) (vI 0) (vI 0) (vI 0) (vI 0) (vI 0) (vI 0) (vI 0) (vI 0) (vI 0) (vI 0) (vI 0))) f_MO_152 d_MO_compile_190 h80 rfl ?_
          refine ab_bipush (v := 120) d_MO_compile_193 (by decide) ?_
          refine ab_iload_n d_MO_compile_195 rfl ?_
          refine ab_imul d_MO_compile_196 ?_
          refine ab_bipush (v := 12) d_MO_compile_197 (by decide) ?_
          refine ab_iload d_MO_compile_199 rfl ?_
          refine ab_imul d_MO_compile_201 ?_
          refine ab_topi (y := 108) (by decide) ?_
          refine ab_iadd d_MO_compile_202 ?_
          refine ab_iload d_MO_compile_203 rfl ?_
          refine ab_iadd d_MO_compile_205 ?_
          refine ab_aload_n d_MO_compile_206 rfl ?_
          refine ab_getf (fs := (m_fv (vI 0) (vI 0) (vI 0) (vI 0) (vI 0) (vI 0) (vI 0) (vI 0) (vI 2) (vI 0) (vI ((xs 2) &&& 15)) (vI 0) (vI (-1)) (vI 0) (vI 0) (vI 0) (vI 0) (vI 0) (vI 0) (vI (xs 1)) (vI 0) (vI 0) (vI 0) (vI 0) (vI 0) (vI 0) (vI 0) (vI 0) (vI 0) (vI 0) (vI 0) (vI 0) (vI 0) (vI 0) (vI 0))) f_MO_103 d_MO_compile_207 h80 rfl ?_
          refine ab_bipush (v := 12) d_MO_compile_210 (by decide) ?_
          refine ab_iload d_MO_compile_212 rfl ?_
          refine ab_imul d_MO_compile_214 ?_
          refine ab_topi (y := 108) (by decide) ?_
          refine ab_iload d_MO_compile_215 rfl ?_
          refine ab_iadd d_MO_compile_217 ?_
          refine ab_topi (y := 115) (by decide) ?_
          refine ab_iald d_MO_compile_218 h110 (by unfold vp_in; decide) ?_
          refine ab_topi (y := 0) rfl ?_
          refine ab_iast d_MO_compile_219 h126 (vp_in_iff.mpr (by have l0 := (show (0 : Int32).toInt = 0 by decide); have l1 := (show (5 : Int32).toInt = 5 by decide); have l2 := (show (7 : Int32).toInt = 7 by decide); have l3 := (show (31 : Int32).toInt = 31 by decide); have l4 := (show (108 : Int32).toInt = 108 by decide); have l5 := (show (120 : Int32).toInt = 120 by decide); simp only [Int32.le_iff_toInt_le, Int32.lt_iff_toInt_lt, ← Int32.toInt_inj] at c0 c1 c2 c3 c4 c5 c6 c7; have e0 : Int32.toInt (120 * (xs 1)) = Int32.toInt 120 * Int32.toInt (xs 1) := i32_mul (by simp only [l0, l1, l2, l3, l4, l5]; omega) (by simp only [l0, l1, l2, l3, l4, l5]; omega); have e1 : Int32.toInt ((120 * (xs 1)) + 108) = Int32.toInt (120 * (xs 1)) + Int32.toInt 108 := i32_add (by simp only [l0, l1, l2, l3, l4, l5, e0]; omega) (by simp only [l0, l1, l2, l3, l4, l5, e0]; omega); have e2 : Int32.toInt (((120 * (xs 1)) + 108) + 7) = Int32.toInt ((120 * (xs 1)) + 108) + Int32.toInt 7 := i32_add (by simp only [l0, l1, l2, l3, l4, l5, e0, e1]; omega) (by simp only [l0, l1, l2, l3, l4, l5, e0, e1]; omega); (try simp only [l0, l1, l2, l3, l4, l5] at e0 e1 e2); constructor <;> omega)) (by decide) ?_
          obtain ⟨G137, eG137⟩ : ∃ z : ab_G, z = List.set G136 126 (ab_if 720 ((upd f126_125 (Int32.toNatClampNeg (((120 * (xs 1)) + 108) + 7)) 0))) := ⟨_, rfl⟩
          have h80 := ab_keep eG137 (by decide) h80
          have h110 := ab_keep eG137 (by decide) h110
          have h127 := ab_keep eG137 (by decide) h127
          have hlen := ab_klen eG137 hlen
          have hsl := ab_ksl 720 eG137 h126 rfl rfl hsl
          have hfr := hfr.wr eG137 (by decide)
          have hpk := hpk.wr eG137 (by decide)
          have h126 := ab_kept eG137 h126
          change ab_W _ _ _ (List.set G136 126 (ab_if 720 ((upd f126_125 (Int32.toNatClampNeg (((120 * (xs 1)) + 108) + 7)) 0)))) 220 [some (vR 80), some (vI (xs 1)), some (vI (xs 2)), some (vI 1), some (vI 9), some (vI 7)] [] _
          rw [← eG137]
          obtain ⟨f126_126, h126⟩ : ∃ g : Nat → Int32, G137[126]? = some (ab_if 720 (g)) := ⟨_, h126⟩
          refine ab_iinc (v := 8) d_MO_compile_220 rfl (by decide) (Nat.le_of_ble_eq_true rfl) (Nat.le_of_ble_eq_true rfl) rfl ?_
          change ab_W _ _ _ G137 223 [some (vR 80), some (vI (xs 1)), some (vI (xs 2)), some (vI 1), some (vI 9), some (vI 8)] [] _
          refine ab_goto (tgt := 182) d_MO_compile_223 (by decide) ?_
          refine ab_iload d_MO_compile_182 rfl ?_
          refine ab_bipush (v := 12) d_MO_compile_184 (by decide) ?_
          refine ab_icmp_ge (tgt := 226) d_MO_compile_186 (by decide) (fun c => absurd c (by decide)) (fun _ => ?_)
          refine ab_aload_n d_MO_compile_189 rfl ?_
          refine ab_getf (fs := (m_fv (vI 0) (vI 0) (vI 0) (vI 0) (vI 0) (vI 0) (vI 0) (vI 0) (vI 2) (vI 0) (vI ((xs 2) &&& 15)) (vI 0) (vI (-1)) (vI 0) (vI 0) (vI 0) (vI 0) (vI 0) (vI 0) (vI (xs 1)) (vI 0) (vI 0) (vI 0) (vI 0) (vI 0) (vI 0) (vI 0) (vI 0) (vI 0) (vI 0) (vI 0) (vI 0) (vI 0) (vI 0) (vI 0))) f_MO_152 d_MO_compile_190 h80 rfl ?_
          refine ab_bipush (v := 120) d_MO_compile_193 (by decide) ?_
          refine ab_iload_n d_MO_compile_195 rfl ?_
          refine ab_imul d_MO_compile_196 ?_
          refine ab_bipush (v := 12) d_MO_compile_197 (by decide) ?_
          refine ab_iload d_MO_compile_199 rfl ?_
          refine ab_imul d_MO_compile_201 ?_
          refine ab_topi (y := 108) (by decide) ?_
          refine ab_iadd d_MO_compile_202 ?_
          refine ab_iload d_MO_compile_203 rfl ?_
          refine ab_iadd d_MO_compile_205 ?_
          refine ab_aload_n d_MO_compile_206 rfl ?_
          refine ab_getf (fs := (m_fv (vI 0) (vI 0) (vI 0) (vI 0) (vI 0) (vI 0) (vI 0) (vI 0) (vI 2) (vI 0) (vI ((xs 2) &&& 15)) (vI 0) (vI (-1)) (vI 0) (vI 0) (vI 0) (vI 0) (vI 0) (vI 0) (vI (xs 1)) (vI 0) (vI 0) (vI 0) (vI 0) (vI 0) (vI 0) (vI 0) (vI 0) (vI 0) (vI 0) (vI 0) (vI 0) (vI 0) (vI 0) (vI 0))) f_MO_103 d_MO_compile_207 h80 rfl ?_
          refine ab_bipush (v := 12) d_MO_compile_210 (by decide) ?_
          refine ab_iload d_MO_compile_212 rfl ?_
          refine ab_imul d_MO_compile_214 ?_
          refine ab_topi (y := 108) (by decide) ?_
          refine ab_iload d_MO_compile_215 rfl ?_
          refine ab_iadd d_MO_compile_217 ?_
          refine ab_topi (y := 116) (by decide) ?_
          refine ab_iald d_MO_compile_218 h110 (by unfold vp_in; decide) ?_
          refine ab_topi (y := 0) rfl ?_
          refine ab_iast d_MO_compile_219 h126 (vp_in_iff.mpr (by have l0 := (show (0 : Int32).toInt = 0 by decide); have l1 := (show (5 : Int32).toInt = 5 by decide); have l2 := (show (8 : Int32).toInt = 8 by decide); have l3 := (show (31 : Int32).toInt = 31 by decide); have l4 := (show (108 : Int32).toInt = 108 by decide); have l5 := (show (120 : Int32).toInt = 120 by decide); simp only [Int32.le_iff_toInt_le, Int32.lt_iff_toInt_lt, ← Int32.toInt_inj] at c0 c1 c2 c3 c4 c5 c6 c7; have e0 : Int32.toInt (120 * (xs 1)) = Int32.toInt 120 * Int32.toInt (xs 1) := i32_mul (by simp only [l0, l1, l2, l3, l4, l5]; omega) (by simp only [l0, l1, l2, l3, l4, l5]; omega); have e1 : Int32.toInt ((120 * (xs 1)) + 108) = Int32.toInt (120 * (xs 1)) + Int32.toInt 108 := i32_add (by simp only [l0, l1, l2, l3, l4, l5, e0]; omega) (by simp only [l0, l1, l2, l3, l4, l5, e0]; omega); have e2 : Int32.toInt (((120 * (xs 1)) + 108) + 8) = Int32.toInt ((120 * (xs 1)) + 108) + Int32.toInt 8 := i32_add (by simp only [l0, l1, l2, l3, l4, l5, e0, e1]; omega) (by simp only [l0, l1, l2, l3, l4, l5, e0, e1]; omega); (try simp only [l0, l1, l2, l3, l4, l5] at e0 e1 e2); constructor <;> omega)) (by decide) ?_
          obtain ⟨G138, eG138⟩ : ∃ z : ab_G, z = List.set G137 126 (ab_if 720 ((upd f126_126 (Int32.toNatClampNeg (((120 * (xs 1)) + 108) + 8)) 0))) := ⟨_, rfl⟩
          have h80 := ab_keep eG138 (by decide) h80
          have h110 := ab_keep eG138 (by decide) h110
          have h127 := ab_keep eG138 (by decide) h127
          have hlen := ab_klen eG138 hlen
          have hsl := ab_ksl 720 eG138 h126 rfl rfl hsl
          have hfr := hfr.wr eG138 (by decide)
          have hpk := hpk.wr eG138 (by decide)
          have h126 := ab_kept eG138 h126
          change ab_W _ _ _ (List.set G137 126 (ab_if 720 ((upd f126_126 (Int32.toNatClampNeg (((120 * (xs 1)) + 108) + 8)) 0)))) 220 [some (vR 80), some (vI (xs 1)), some (vI (xs 2)), some (vI 1), some (vI 9), some (vI 8)] [] _
          rw [← eG138]
          obtain ⟨f126_127, h126⟩ : ∃ g : Nat → Int32, G138[126]? = some (ab_if 720 (g)) := ⟨_, h126⟩
          refine ab_iinc (v := 9) d_MO_compile_220 rfl (by decide) (Nat.le_of_ble_eq_true rfl) (Nat.le_of_ble_eq_true rfl) rfl ?_
          change ab_W _ _ _ G138 223 [some (vR 80), some (vI (xs 1)), some (vI (xs 2)), some (vI 1), some (vI 9), some (vI 9)] [] _
          refine ab_goto (tgt := 182) d_MO_compile_223 (by decide) ?_
          refine ab_iload d_MO_compile_182 rfl ?_
          refine ab_bipush (v := 12) d_MO_compile_184 (by decide) ?_
          refine ab_icmp_ge (tgt := 226) d_MO_compile_186 (by decide) (fun c => absurd c (by decide)) (fun _ => ?_)
          refine ab_aload_n d_MO_compile_189 rfl ?_
          refine ab_getf (fs := (m_fv (vI 0) (vI 0) (vI 0) (vI 0) (vI 0) (vI 0) (vI 0) (vI 0) (vI 2) (vI 0) (vI ((xs 2) &&& 15)) (vI 0) (vI (-1)) (vI 0) (vI 0) (vI 0) (vI 0) (vI 0) (vI 0) (vI (xs 1)) (vI 0) (vI 0) (vI 0) (vI 0) (vI 0) (vI 0) (vI 0) (vI 0) (vI 0) (vI 0) (vI 0) (vI 0) (vI 0) (vI 0) (vI 0))) f_MO_152 d_MO_compile_190 h80 rfl ?_
          refine ab_bipush (v := 120) d_MO_compile_193 (by decide) ?_
          refine ab_iload_n d_MO_compile_195 rfl ?_
          refine ab_imul d_MO_compile_196 ?_
          refine ab_bipush (v := 12) d_MO_compile_197 (by decide) ?_
          refine ab_iload d_MO_compile_199 rfl ?_
          refine ab_imul d_MO_compile_201 ?_
          refine ab_topi (y := 108) (by decide) ?_
          refine ab_iadd d_MO_compile_202 ?_
          refine ab_iload d_MO_compile_203 rfl ?_
          refine ab_iadd d_MO_compile_205 ?_
          refine ab_aload_n d_MO_compile_206 rfl ?_
          refine ab_getf (fs := (m_fv (vI 0) (vI 0) (vI 0) (vI 0) (vI 0) (vI 0) (vI 0) (vI 0) (vI 2) (vI 0) (vI ((xs 2) &&& 15)) (vI 0) (vI (-1)) (vI 0) (vI 0) (vI 0) (vI 0) (vI 0) (vI 0) (vI (xs 1)) (vI 0) (vI 0) (vI 0) (vI 0) (vI 0) (vI 0) (vI 0) (vI 0) (vI 0) (vI 0) (vI 0) (vI 0) (vI 0) (vI 0) (vI 0))) f_MO_103 d_MO_compile_207 h80 rfl ?_
          refine ab_bipush (v := 12) d_MO_compile_210 (by decide) ?_
          refine ab_iload d_MO_compile_212 rfl ?_
          refine ab_imul d_MO_compile_214 ?_
          refine ab_topi (y := 108) (by decide) ?_
          refine ab_iload d_MO_compile_215 rfl ?_
          refine ab_iadd d_MO_compile_217 ?_
          refine ab_topi (y := 117) (by decide) ?_
          refine ab_iald d_MO_compile_218 h110 (by unfold vp_in; decide) ?_
          refine ab_topi (y := 0) rfl ?_
          refine ab_iast d_MO_compile_219 h126 (vp_in_iff.mpr (by have l0 := (show (0 : Int32).toInt = 0 by decide); have l1 := (show (5 : Int32).toInt = 5 by decide); have l2 := (show (9 : Int32).toInt = 9 by decide); have l3 := (show (31 : Int32).toInt = 31 by decide); have l4 := (show (108 : Int32).toInt = 108 by decide); have l5 := (show (120 : Int32).toInt = 120 by decide); simp only [Int32.le_iff_toInt_le, Int32.lt_iff_toInt_lt, ← Int32.toInt_inj] at c0 c1 c2 c3 c4 c5 c6 c7; have e0 : Int32.toInt (120 * (xs 1)) = Int32.toInt 120 * Int32.toInt (xs 1) := i32_mul (by simp only [l0, l1, l2, l3, l4, l5]; omega) (by simp only [l0, l1, l2, l3, l4, l5]; omega); have e1 : Int32.toInt ((120 * (xs 1)) + 108) = Int32.toInt (120 * (xs 1)) + Int32.toInt 108 := i32_add (by simp only [l0, l1, l2, l3, l4, l5, e0]; omega) (by simp only [l0, l1, l2, l3, l4, l5, e0]; omega); have e2 : Int32.toInt (((120 * (xs 1)) + 108) + 9) = Int32.toInt ((120 * (xs 1)) + 108) + Int32.toInt 9 := i32_add (by simp only [l0, l1, l2, l3, l4, l5, e0, e1]; omega) (by simp only [l0, l1, l2, l3, l4, l5, e0, e1]; omega); (try simp only [l0, l1, l2, l3, l4, l5] at e0 e1 e2); constructor <;> omega)) (by decide) ?_
          obtain ⟨G139, eG139⟩ : ∃ z : ab_G, z = List.set G138 126 (ab_if 720 ((upd f126_127 (Int32.toNatClampNeg (((120 * (xs 1)) + 108) + 9)) 0))) := ⟨_, rfl⟩
          have h80 := ab_keep eG139 (by decide) h80
          have h110 := ab_keep eG139 (by decide) h110
          have h127 := ab_keep eG139 (by decide) h127
          have hlen := ab_klen eG139 hlen
          have hsl := ab_ksl 720 eG139 h126 rfl rfl hsl
          have hfr := hfr.wr eG139 (by decide)
          have hpk := hpk.wr eG139 (by decide)
          have h126 := ab_kept eG139 h126
          change ab_W _ _ _ (List.set G138 126 (ab_if 720 ((upd f126_127 (Int32.toNatClampNeg (((120 * (xs 1)) + 108) + 9)) 0)))) 220 [some (vR 80), some (vI (xs 1)), some (vI (xs 2)), some (vI 1), some (vI 9), some (vI 9)] [] _
          rw [← eG139]
          obtain ⟨f126_128, h126⟩ : ∃ g : Nat → Int32, G139[126]? = some (ab_if 720 (g)) := ⟨_, h126⟩
          refine ab_iinc (v := 10) d_MO_compile_220 rfl (by decide) (Nat.le_of_ble_eq_true rfl) (Nat.le_of_ble_eq_true rfl) rfl ?_
          change ab_W _ _ _ G139 223 [some (vR 80), some (vI (xs 1)), some (vI (xs 2)), some (vI 1), some (vI 9), some (vI 10)] [] _
          refine ab_goto (tgt := 182) d_MO_compile_223 (by decide) ?_
          refine ab_iload d_MO_compile_182 rfl ?_
          refine ab_bipush (v := 12) d_MO_compile_184 (by decide) ?_
          refine ab_icmp_ge (tgt := 226) d_MO_compile_186 (by decide) (fun c => absurd c (by decide)) (fun _ => ?_)
          refine ab_aload_n d_MO_compile_189 rfl ?_
          refine ab_getf (fs := (m_fv (vI 0) (vI 0) (vI 0) (vI 0) (vI 0) (vI 0) (vI 0) (vI 0) (vI 2) (vI 0) (vI ((xs 2) &&& 15)) (vI 0) (vI (-1)) (vI 0) (vI 0) (vI 0) (vI 0) (vI 0) (vI 0) (vI (xs 1)) (vI 0) (vI 0) (vI 0) (vI 0) (vI 0) (vI 0) (vI 0) (vI 0) (vI 0) (vI 0) (vI 0) (vI 0) (vI 0) (vI 0) (vI 0))) f_MO_152 d_MO_compile_190 h80 rfl ?_
          refine ab_bipush (v := 120) d_MO_compile_193 (by decide) ?_
          refine ab_iload_n d_MO_compile_195 rfl ?_
          refine ab_imul d_MO_compile_196 ?_
          refine ab_bipush (v := 12) d_MO_compile_197 (by decide) ?_
          refine ab_iload d_MO_compile_199 rfl ?_
          refine ab_imul d_MO_compile_201 ?_
          refine ab_topi (y := 108) (by decide) ?_
          refine ab_iadd d_MO_compile_202 ?_
          refine ab_iload d_MO_compile_203 rfl ?_
          refine ab_iadd d_MO_compile_205 ?_
          refine ab_aload_n d_MO_compile_206 rfl ?_
          refine ab_getf (fs := (m_fv (vI 0) (vI 0) (vI 0) (vI 0) (vI 0) (vI 0) (vI 0) (vI 0) (vI 2) (vI 0) (vI ((xs 2) &&& 15)) (vI 0) (vI (-1)) (vI 0) (vI 0) (vI 0) (vI 0) (vI 0) (vI 0) (vI (xs 1)) (vI 0) (vI 0) (vI 0) (vI 0) (vI 0) (vI 0) (vI 0) (vI 0) (vI 0) (vI 0) (vI 0) (vI 0) (vI 0) (vI 0) (vI 0))) f_MO_103 d_MO_compile_207 h80 rfl ?_
          refine ab_bipush (v := 12) d_MO_compile_210 (by decide) ?_
          refine ab_iload d_MO_compile_212 rfl ?_
          refine ab_imul d_MO_compile_214 ?_
          refine ab_topi (y := 108) (by decide) ?_
          refine ab_iload d_MO_compile_215 rfl ?_
          refine ab_iadd d_MO_compile_217 ?_
          refine ab_topi (y := 118) (by decide) ?_
          refine ab_iald d_MO_compile_218 h110 (by unfold vp_in; decide) ?_
          refine ab_topi (y := 0) rfl ?_
          refine ab_iast d_MO_compile_219 h126 (vp_in_iff.mpr (by have l0 := (show (0 : Int32).toInt = 0 by decide); have l1 := (show (5 : Int32).toInt = 5 by decide); have l2 := (show (10 : Int32).toInt = 10 by decide); have l3 := (show (31 : Int32).toInt = 31 by decide); have l4 := (show (108 : Int32).toInt = 108 by decide); have l5 := (show (120 : Int32).toInt = 120 by decide); simp only [Int32.le_iff_toInt_le, Int32.lt_iff_toInt_lt, ← Int32.toInt_inj] at c0 c1 c2 c3 c4 c5 c6 c7; have e0 : Int32.toInt (120 * (xs 1)) = Int32.toInt 120 * Int32.toInt (xs 1) := i32_mul (by simp only [l0, l1, l2, l3, l4, l5]; omega) (by simp only [l0, l1, l2, l3, l4, l5]; omega); have e1 : Int32.toInt ((120 * (xs 1)) + 108) = Int32.toInt (120 * (xs 1)) + Int32.toInt 108 := i32_add (by simp only [l0, l1, l2, l3, l4, l5, e0]; omega) (by simp only [l0, l1, l2, l3, l4, l5, e0]; omega); have e2 : Int32.toInt (((120 * (xs 1)) + 108) + 10) = Int32.toInt ((120 * (xs 1)) + 108) + Int32.toInt 10 := i32_add (by simp only [l0, l1, l2, l3, l4, l5, e0, e1]; omega) (by simp only [l0, l1, l2, l3, l4, l5, e0, e1]; omega); (try simp only [l0, l1, l2, l3, l4, l5] at e0 e1 e2); constructor <;> omega)) (by decide) ?_
          obtain ⟨G140, eG140⟩ : ∃ z : ab_G, z = List.set G139 126 (ab_if 720 ((upd f126_128 (Int32.toNatClampNeg (((120 * (xs 1)) + 108) + 10)) 0))) := ⟨_, rfl⟩
          have h80 := ab_keep eG140 (by decide) h80
          have h110 := ab_keep eG140 (by decide) h110
          have h127 := ab_keep eG140 (by decide) h127
          have hlen := ab_klen eG140 hlen
          have hsl := ab_ksl 720 eG140 h126 rfl rfl hsl
          have hfr := hfr.wr eG140 (by decide)
          have hpk := hpk.wr eG140 (by decide)
          have h126 := ab_kept eG140 h126
          change ab_W _ _ _ (List.set G139 126 (ab_if 720 ((upd f126_128 (Int32.toNatClampNeg (((120 * (xs 1)) + 108) + 10)) 0)))) 220 [some (vR 80), some (vI (xs 1)), some (vI (xs 2)), some (vI 1), some (vI 9), some (vI 10)] [] _
          rw [← eG140]
          obtain ⟨f126_129, h126⟩ : ∃ g : Nat → Int32, G140[126]? = some (ab_if 720 (g)) := ⟨_, h126⟩
          refine ab_iinc (v := 11) d_MO_compile_220 rfl (by decide) (Nat.le_of_ble_eq_true rfl) (Nat.le_of_ble_eq_true rfl) rfl ?_
          change ab_W _ _ _ G140 223 [some (vR 80), some (vI (xs 1)), some (vI (xs 2)), some (vI 1), some (vI 9), some (vI 11)] [] _
          refine ab_goto (tgt := 182) d_MO_compile_223 (by decide) ?_
          refine ab_iload d_MO_compile_182 rfl ?_
          refine ab_bipush (v := 12) d_MO_compile_184 (by decide) ?_
          refine ab_icmp_ge (tgt := 226) d_MO_compile_186 (by decide) (fun c => absurd c (by decide)) (fun _ => ?_)
          refine ab_aload_n d_MO_compile_189 rfl ?_
          refine ab_getf (fs := (m_fv (vI 0) (vI 0) (vI 0) (vI 0) (vI 0) (vI 0) (vI 0) (vI 0) (vI 2) (vI 0) (vI ((xs 2) &&& 15)) (vI 0) (vI (-1)) (vI 0) (vI 0) (vI 0) (vI 0) (vI 0) (vI 0) (vI (xs 1)) (vI 0) (vI 0) (vI 0) (vI 0) (vI 0) (vI 0) (vI 0) (vI 0) (vI 0) (vI 0) (vI 0) (vI 0) (vI 0) (vI 0) (vI 0))) f_MO_152 d_MO_compile_190 h80 rfl ?_
          refine ab_bipush (v := 120) d_MO_compile_193 (by decide) ?_
          refine ab_iload_n d_MO_compile_195 rfl ?_
          refine ab_imul d_MO_compile_196 ?_
          refine ab_bipush (v := 12) d_MO_compile_197 (by decide) ?_
          refine ab_iload d_MO_compile_199 rfl ?_
          refine ab_imul d_MO_compile_201 ?_
          refine ab_topi (y := 108) (by decide) ?_
          refine ab_iadd d_MO_compile_202 ?_
          refine ab_iload d_MO_compile_203 rfl ?_
          refine ab_iadd d_MO_compile_205 ?_
          refine ab_aload_n d_MO_compile_206 rfl ?_
          refine ab_getf (fs := (m_fv (vI 0) (vI 0) (vI 0) (vI 0) (vI 0) (vI 0) (vI 0) (vI 0) (vI 2) (vI 0) (vI ((xs 2) &&& 15)) (vI 0) (vI (-1)) (vI 0) (vI 0) (vI 0) (vI 0) (vI 0) (vI 0) (vI (xs 1)) (vI 0) (vI 0) (vI 0) (vI 0) (vI 0) (vI 0) (vI 0) (vI 0) (vI 0) (vI 0) (vI 0) (vI 0) (vI 0) (vI 0) (vI 0))) f_MO_103 d_MO_compile_207 h80 rfl ?_
          refine ab_bipush (v := 12) d_MO_compile_210 (by decide) ?_
          refine ab_iload d_MO_compile_212 rfl ?_
          refine ab_imul d_MO_compile_214 ?_
          refine ab_topi (y := 108) (by decide) ?_
          refine ab_iload d_MO_compile_215 rfl ?_
          refine ab_iadd d_MO_compile_217 ?_
          refine ab_topi (y := 119) (by decide) ?_
          refine ab_iald d_MO_compile_218 h110 (by unfold vp_in; decide) ?_
          refine ab_topi (y := 0) rfl ?_
          refine ab_iast d_MO_compile_219 h126 (vp_in_iff.mpr (by have l0 := (show (0 : Int32).toInt = 0 by decide); have l1 := (show (5 : Int32).toInt = 5 by decide); have l2 := (show (11 : Int32).toInt = 11 by decide); have l3 := (show (31 : Int32).toInt = 31 by decide); have l4 := (show (108 : Int32).toInt = 108 by decide); have l5 := (show (120 : Int32).toInt = 120 by decide); simp only [Int32.le_iff_toInt_le, Int32.lt_iff_toInt_lt, ← Int32.toInt_inj] at c0 c1 c2 c3 c4 c5 c6 c7; have e0 : Int32.toInt (120 * (xs 1)) = Int32.toInt 120 * Int32.toInt (xs 1) := i32_mul (by simp only [l0, l1, l2, l3, l4, l5]; omega) (by simp only [l0, l1, l2, l3, l4, l5]; omega); have e1 : Int32.toInt ((120 * (xs 1)) + 108) = Int32.toInt (120 * (xs 1)) + Int32.toInt 108 := i32_add (by simp only [l0, l1, l2, l3, l4, l5, e0]; omega) (by simp only [l0, l1, l2, l3, l4, l5, e0]; omega); have e2 : Int32.toInt (((120 * (xs 1)) + 108) + 11) = Int32.toInt ((120 * (xs 1)) + 108) + Int32.toInt 11 := i32_add (by simp only [l0, l1, l2, l3, l4, l5, e0, e1]; omega) (by simp only [l0, l1, l2, l3, l4, l5, e0, e1]; omega); (try simp only [l0, l1, l2, l3, l4, l5] at e0 e1 e2); constructor <;> omega)) (by decide) ?_
          obtain ⟨G141, eG141⟩ : ∃ z : ab_G, z = List.set G140 126 (ab_if 720 ((upd f126_129 (Int32.toNatClampNeg (((120 * (xs 1)) + 108) + 11)) 0))) := ⟨_, rfl⟩
          have h80 := ab_keep eG141 (by decide) h80
          have h110 := ab_keep eG141 (by decide) h110
          have h127 := ab_keep eG141 (by decide) h127
          have hlen := ab_klen eG141 hlen
          have hsl := ab_ksl 720 eG141 h126 rfl rfl hsl
          have hfr := hfr.wr eG141 (by decide)
          have hpk := hpk.wr eG141 (by decide)
          have h126 := ab_kept eG141 h126
          change ab_W _ _ _ (List.set G140 126 (ab_if 720 ((upd f126_129 (Int32.toNatClampNeg (((120 * (xs 1)) + 108) + 11)) 0)))) 220 [some (vR 80), some (vI (xs 1)), some (vI (xs 2)), some (vI 1), some (vI 9), some (vI 11)] [] _
          rw [← eG141]
          obtain ⟨f126_130, h126⟩ : ∃ g : Nat → Int32, G141[126]? = some (ab_if 720 (g)) := ⟨_, h126⟩
          refine ab_iinc (v := 12) d_MO_compile_220 rfl (by decide) (Nat.le_of_ble_eq_true rfl) (Nat.le_of_ble_eq_true rfl) rfl ?_
          change ab_W _ _ _ G141 223 [some (vR 80), some (vI (xs 1)), some (vI (xs 2)), some (vI 1), some (vI 9), some (vI 12)] [] _
          refine ab_goto (tgt := 182) d_MO_compile_223 (by decide) ?_
          refine ab_iload d_MO_compile_182 rfl ?_
          refine ab_bipush (v := 12) d_MO_compile_184 (by decide) ?_
          refine ab_icmp_ge (tgt := 226) d_MO_compile_186 (by decide) (fun _ => ?_) (fun c => absurd c (by decide))
          refine ab_iinc (v := 10) d_MO_compile_226 rfl (by decide) (Nat.le_of_ble_eq_true rfl) (Nat.le_of_ble_eq_true rfl) rfl ?_
          change ab_W _ _ _ G141 229 [some (vR 80), some (vI (xs 1)), some (vI (xs 2)), some (vI 1), some (vI 10), some (vI 12)] [] _
          refine ab_goto (tgt := 135) d_MO_compile_229 (by decide) ?_
          refine ab_iload d_MO_compile_135 rfl ?_
          refine ab_bipush (v := 10) d_MO_compile_137 (by decide) ?_
          refine ab_icmp_ge (tgt := 232) d_MO_compile_139 (by decide) (fun _ => ?_) (fun c => absurd c (by decide))
          have h94 := hpk.get (by decide) h94
          have h95 := hpk.get (by decide) h95
          have h96 := hpk.get (by decide) h96
          have h97 := hpk.get (by decide) h97
          have h100 := hpk.get (by decide) h100
          have h102 := hpk.get (by decide) h102
          have h103 := hpk.get (by decide) h103
          have h104 := hpk.get (by decide) h104
          have h105 := hpk.get (by decide) h105
          have h107 := hpk.get (by decide) h107
          have h108 := hpk.get (by decide) h108
          have h109 := hpk.get (by decide) h109
          have h112 := hpk.get (by decide) h112
          have h113 := hpk.get (by decide) h113
          have h114 := hpk.get (by decide) h114
          have h115 := hpk.get (by decide) h115
          have h116 := hpk.get (by decide) h116
          have h117 := hpk.get (by decide) h117
          have h118 := hpk.get (by decide) h118
          have h119 := hpk.get (by decide) h119
          have h120 := hpk.get (by decide) h120
          have h125 := hpk.get (by decide) h125
          have h128 := hpk.get (by decide) h128
          have h129 := hpk.get (by decide) h129
          have h130 := hpk.get (by decide) h130
          have h131 := hpk.get (by decide) h131
          have h132 := hpk.get (by decide) h132
          have h133 := hpk.get (by decide) h133
          refine ab_aload_n d_MO_compile_232 rfl ?_
          refine ab_iconst (v := 0) d_MO_compile_233 (by decide) ?_
          refine ab_putf (fs := (m_fv (vI 0) (vI 0) (vI 0) (vI 0) (vI 0) (vI 0) (vI 0) (vI 0) (vI 2) (vI 0) (vI ((xs 2) &&& 15)) (vI 0) (vI (-1)) (vI 0) (vI 0) (vI 0) (vI 0) (vI 0) (vI 0) (vI (xs 1)) (vI 0) (vI 0) (vI 0) (vI 0) (vI 0) (vI 0) (vI 0) (vI 0) (vI 0) (vI 0) (vI 0) (vI 0) (vI 0) (vI 0) (vI 0))) f_MO_445 (Or.inl rfl) d_MO_compile_234 h80 (Nat.le_of_ble_eq_true rfl) (fun _ => ⟨rfl, rfl⟩) (by decide) ?_
          obtain ⟨G142, eG142⟩ : ∃ z : ab_G, z = List.set G141 80 (ab_ob 12 (m_fv (vI 0) (vI 0) (vI 0) (vI 0) (vI 0) (vI 0) (vI 0) (vI 0) (vI 2) (vI 0) (vI ((xs 2) &&& 15)) (vI 0) (vI (-1)) (vI 0) (vI 0) (vI 0) (vI 0) (vI 0) (vI 0) (vI (xs 1)) (vI 0) (vI 0) (vI 0) (vI 0) (vI 0) (vI 0) (vI 0) (vI 0) (vI 0) (vI 0) (vI 0) (vI 0) (vI 0) (vI 0) (vI 0))) := ⟨_, rfl⟩
          have h94 := ab_keep eG142 (by decide) h94
          have h95 := ab_keep eG142 (by decide) h95
          have h96 := ab_keep eG142 (by decide) h96
          have h97 := ab_keep eG142 (by decide) h97
          have h100 := ab_keep eG142 (by decide) h100
          have h102 := ab_keep eG142 (by decide) h102
          have h103 := ab_keep eG142 (by decide) h103
          have h104 := ab_keep eG142 (by decide) h104
          have h105 := ab_keep eG142 (by decide) h105
          have h107 := ab_keep eG142 (by decide) h107
          have h108 := ab_keep eG142 (by decide) h108
          have h109 := ab_keep eG142 (by decide) h109
          have h110 := ab_keep eG142 (by decide) h110
          have h112 := ab_keep eG142 (by decide) h112
          have h113 := ab_keep eG142 (by decide) h113
          have h114 := ab_keep eG142 (by decide) h114
          have h115 := ab_keep eG142 (by decide) h115
          have h116 := ab_keep eG142 (by decide) h116
          have h117 := ab_keep eG142 (by decide) h117
          have h118 := ab_keep eG142 (by decide) h118
          have h119 := ab_keep eG142 (by decide) h119
          have h120 := ab_keep eG142 (by decide) h120
          have h125 := ab_keep eG142 (by decide) h125
          have h126 := ab_keep eG142 (by decide) h126
          have h127 := ab_keep eG142 (by decide) h127
          have h128 := ab_keep eG142 (by decide) h128
          have h129 := ab_keep eG142 (by decide) h129
          have h130 := ab_keep eG142 (by decide) h130
          have h131 := ab_keep eG142 (by decide) h131
          have h132 := ab_keep eG142 (by decide) h132
          have h133 := ab_keep eG142 (by decide) h133
          have hlen := ab_klen eG142 hlen
          have hsl := ab_ksl 102 eG142 h80 rfl rfl hsl
          have hfr := hfr.wr eG142 (by decide)
          have h80 := ab_kept eG142 h80
          change ab_W _ _ _ (List.set G141 80 (ab_ob 12 (m_fv (vI 0) (vI 0) (vI 0) (vI 0) (vI 0) (vI 0) (vI 0) (vI 0) (vI 2) (vI 0) (vI ((xs 2) &&& 15)) (vI 0) (vI (-1)) (vI 0) (vI 0) (vI 0) (vI 0) (vI 0) (vI 0) (vI (xs 1)) (vI 0) (vI 0) (vI 0) (vI 0) (vI 0) (vI 0) (vI 0) (vI 0) (vI 0) (vI 0) (vI 0) (vI 0) (vI 0) (vI 0) (vI 0)))) 237 [some (vR 80), some (vI (xs 1)), some (vI (xs 2)), some (vI 1), some (vI 10), some (vI 12)] [] _
          rw [← eG142]
          refine ab_aload_n d_MO_compile_237 rfl ?_
          refine ab_iconst (v := 0) d_MO_compile_238 (by decide) ?_
          refine ab_putf (fs := (m_fv (vI 0) (vI 0) (vI 0) (vI 0) (vI 0) (vI 0) (vI 0) (vI 0) (vI 2) (vI 0) (vI ((xs 2) &&& 15)) (vI 0) (vI (-1)) (vI 0) (vI 0) (vI 0) (vI 0) (vI 0) (vI 0) (vI (xs 1)) (vI 0) (vI 0) (vI 0) (vI 0) (vI 0) (vI 0) (vI 0) (vI 0) (vI 0) (vI 0) (vI 0) (vI 0) (vI 0) (vI 0) (vI 0))) f_MO_451 (Or.inl rfl) d_MO_compile_239 h80 (Nat.le_of_ble_eq_true rfl) (fun _ => ⟨rfl, rfl⟩) (by decide) ?_
          obtain ⟨G143, eG143⟩ : ∃ z : ab_G, z = List.set G142 80 (ab_ob 12 (m_fv (vI 0) (vI 0) (vI 0) (vI 0) (vI 0) (vI 0) (vI 0) (vI 0) (vI 2) (vI 0) (vI ((xs 2) &&& 15)) (vI 0) (vI (-1)) (vI 0) (vI 0) (vI 0) (vI 0) (vI 0) (vI 0) (vI (xs 1)) (vI 0) (vI 0) (vI 0) (vI 0) (vI 0) (vI 0) (vI 0) (vI 0) (vI 0) (vI 0) (vI 0) (vI 0) (vI 0) (vI 0) (vI 0))) := ⟨_, rfl⟩
          have h94 := ab_keep eG143 (by decide) h94
          have h95 := ab_keep eG143 (by decide) h95
          have h96 := ab_keep eG143 (by decide) h96
          have h97 := ab_keep eG143 (by decide) h97
          have h100 := ab_keep eG143 (by decide) h100
          have h102 := ab_keep eG143 (by decide) h102
          have h103 := ab_keep eG143 (by decide) h103
          have h104 := ab_keep eG143 (by decide) h104
          have h105 := ab_keep eG143 (by decide) h105
          have h107 := ab_keep eG143 (by decide) h107
          have h108 := ab_keep eG143 (by decide) h108
          have h109 := ab_keep eG143 (by decide) h109
          have h110 := ab_keep eG143 (by decide) h110
          have h112 := ab_keep eG143 (by decide) h112
          have h113 := ab_keep eG143 (by decide) h113
          have h114 := ab_keep eG143 (by decide) h114
          have h115 := ab_keep eG143 (by decide) h115
          have h116 := ab_keep eG143 (by decide) h116
          have h117 := ab_keep eG143 (by decide) h117
          have h118 := ab_keep eG143 (by decide) h118
          have h119 := ab_keep eG143 (by decide) h119
          have h120 := ab_keep eG143 (by decide) h120
          have h125 := ab_keep eG143 (by decide) h125
          have h126 := ab_keep eG143 (by decide) h126
          have h127 := ab_keep eG143 (by decide) h127
          have h128 := ab_keep eG143 (by decide) h128
          have h129 := ab_keep eG143 (by decide) h129
          have h130 := ab_keep eG143 (by decide) h130
          have h131 := ab_keep eG143 (by decide) h131
          have h132 := ab_keep eG143 (by decide) h132
          have h133 := ab_keep eG143 (by decide) h133
          have hlen := ab_klen eG143 hlen
          have hsl := ab_ksl 102 eG143 h80 rfl rfl hsl
          have hfr := hfr.wr eG143 (by decide)
          have h80 := ab_kept eG143 h80
          change ab_W _ _ _ (List.set G142 80 (ab_ob 12 (m_fv (vI 0) (vI 0) (vI 0) (vI 0) (vI 0) (vI 0) (vI 0) (vI 0) (vI 2) (vI 0) (vI ((xs 2) &&& 15)) (vI 0) (vI (-1)) (vI 0) (vI 0) (vI 0) (vI 0) (vI 0) (vI 0) (vI (xs 1)) (vI 0) (vI 0) (vI 0) (vI 0) (vI 0) (vI 0) (vI 0) (vI 0) (vI 0) (vI 0) (vI 0) (vI 0) (vI 0) (vI 0) (vI 0)))) 242 [some (vR 80), some (vI (xs 1)), some (vI (xs 2)), some (vI 1), some (vI 10), some (vI 12)] [] _
          rw [← eG143]
          refine ab_aload_n d_MO_compile_242 rfl ?_
          refine ab_callV (d' := d - 1) (as := []) (st := []) (r := _) (q_MO_row_1 (xs := xs) hlen hsl h80) (fun o G2 h => ⟨_, h.1⟩) (by omega) m_MO_row ml_MO_454 im_MO_row se_MO_row c_MO h80 (Nat.le_of_ble_eq_true rfl) d_MO_compile_243 rfl ?_
          intro v G144 hq
          obtain ⟨hv, hfk, hlen, hsl, h80⟩ := hq
          cases hv
          have h94 := hfk.get (by decide) h94
          have h95 := hfk.get (by decide) h95
          have h96 := hfk.get (by decide) h96
          have h97 := hfk.get (by decide) h97
          have h100 := hfk.get (by decide) h100
          have h102 := hfk.get (by decide) h102
          have h103 := hfk.get (by decide) h103
          have h104 := hfk.get (by decide) h104
          have h105 := hfk.get (by decide) h105
          have h107 := hfk.get (by decide) h107
          have h108 := hfk.get (by decide) h108
          have h109 := hfk.get (by decide) h109
          have h110 := hfk.get (by decide) h110
          have h112 := hfk.get (by decide) h112
          have h113 := hfk.get (by decide) h113
          have h114 := hfk.get (by decide) h114
          have h115 := hfk.get (by decide) h115
          have h116 := hfk.get (by decide) h116
          have h117 := hfk.get (by decide) h117
          have h118 := hfk.get (by decide) h118
          have h119 := hfk.get (by decide) h119
          have h120 := hfk.get (by decide) h120
          have h125 := hfk.get (by decide) h125
          have h126 := hfk.get (by decide) h126
          have h127 := hfk.get (by decide) h127
          have h128 := hfk.get (by decide) h128
          have h129 := hfk.get (by decide) h129
          have h130 := hfk.get (by decide) h130
          have h131 := hfk.get (by decide) h131
          have h132 := hfk.get (by decide) h132
          have h133 := hfk.get (by decide) h133
          have hfr := hfr.cl hfk (by decide)
          change ab_W _ _ _ G144 246 [some (vR 80), some (vI (xs 1)), some (vI (xs 2)), some (vI 1), some (vI 10), some (vI 12)] [vI 0] _
          refine ab_istore d_MO_compile_246 (Nat.le_of_ble_eq_true rfl) (Nat.le_of_ble_eq_true rfl) rfl ?_
          change ab_W _ _ _ G144 248 [some (vR 80), some (vI (xs 1)), some (vI (xs 2)), some (vI 1), some (vI 0), some (vI 12)] [] _
          refine ab_aload_n d_MO_compile_248 rfl ?_
          refine ab_getf (fs := (m_fv (vI 0) (vI 0) (vI 0) (vI 0) (vI 0) (vI 0) (vI 0) (vI 0) (vI 2) (vI 0) (vI ((xs 2) &&& 15)) (vI 0) (vI (-1)) (vI 0) (vI 0) (vI 0) (vI 0) (vI 0) (vI 0) (vI (xs 1)) (vI 0) (vI 0) (vI 1) (vI 0) (vI 0) (vI 0) (vI 0) (vI 0) (vI 0) (vI 0) (vI 0) (vI 0) (vI 0) (vI 0) (vI 0))) f_MO_174 d_MO_compile_249 h80 rfl ?_
          refine ab_iload d_MO_compile_252 rfl ?_
          refine ab_aload_n d_MO_compile_254 rfl ?_
          refine ab_iconst (v := 0) d_MO_compile_255 (by decide) ?_
          refine ab_iconst (v := (-1)) d_MO_compile_256 (by decide) ?_
          refine ab_iconst (v := 0) d_MO_compile_257 (by decide) ?_
          refine ab_callV (d' := d - 1) (as := [vI 0, vI (-1), vI 0]) (st := [vI 0, vR 133]) (r := _) (q_MO_addStep_4 (xs := xs) hlen hsl h80 h117 h118 h119 h120 c0 c1 c2 c3 c4 c5 c6 c7) (fun o G2 h => ⟨_, h.1⟩) (by omega) m_MO_addStep ml_MO_441 im_MO_addStep se_MO_addStep c_MO h80 (Nat.le_of_ble_eq_true rfl) d_MO_compile_258 rfl ?_
          intro v G145 hq
          obtain ⟨hv, hfk, hlen, hsl, h117, h118, h119, h120⟩ := hq
          cases hv
          have h80 := hfk.get (by decide) h80
          have h94 := hfk.get (by decide) h94
          have h95 := hfk.get (by decide) h95
          have h96 := hfk.get (by decide) h96
          have h97 := hfk.get (by decide) h97
          have h100 := hfk.get (by decide) h100
          have h102 := hfk.get (by decide) h102
          have h103 := hfk.get (by decide) h103
          have h104 := hfk.get (by decide) h104
          have h105 := hfk.get (by decide) h105
          have h107 := hfk.get (by decide) h107
          have h108 := hfk.get (by decide) h108
          have h109 := hfk.get (by decide) h109
          have h110 := hfk.get (by decide) h110
          have h112 := hfk.get (by decide) h112
          have h113 := hfk.get (by decide) h113
          have h114 := hfk.get (by decide) h114
          have h115 := hfk.get (by decide) h115
          have h116 := hfk.get (by decide) h116
          have h125 := hfk.get (by decide) h125
          have h126 := hfk.get (by decide) h126
          have h127 := hfk.get (by decide) h127
          have h128 := hfk.get (by decide) h128
          have h129 := hfk.get (by decide) h129
          have h130 := hfk.get (by decide) h130
          have h131 := hfk.get (by decide) h131
          have h132 := hfk.get (by decide) h132
          have h133 := hfk.get (by decide) h133
          have hfr := hfr.cl hfk (by decide)
          change ab_W _ _ _ G145 261 [some (vR 80), some (vI (xs 1)), some (vI (xs 2)), some (vI 1), some (vI 0), some (vI 12)] [vI 0, vI 0, vR 133] _
          refine ab_iast d_MO_compile_261 h133 (by unfold vp_in; decide) (by decide) ?_
          obtain ⟨G146, eG146⟩ : ∃ z : ab_G, z = List.set G145 133 (ab_if 40000 ((upd (fun _ => 0) 0 0))) := ⟨_, rfl⟩
          have h80 := ab_keep eG146 (by decide) h80
          have h94 := ab_keep eG146 (by decide) h94
          have h95 := ab_keep eG146 (by decide) h95
          have h96 := ab_keep eG146 (by decide) h96
          have h97 := ab_keep eG146 (by decide) h97
          have h100 := ab_keep eG146 (by decide) h100
          have h102 := ab_keep eG146 (by decide) h102
          have h103 := ab_keep eG146 (by decide) h103
          have h104 := ab_keep eG146 (by decide) h104
          have h105 := ab_keep eG146 (by decide) h105
          have h107 := ab_keep eG146 (by decide) h107
          have h108 := ab_keep eG146 (by decide) h108
          have h109 := ab_keep eG146 (by decide) h109
          have h110 := ab_keep eG146 (by decide) h110
          have h112 := ab_keep eG146 (by decide) h112
          have h113 := ab_keep eG146 (by decide) h113
          have h114 := ab_keep eG146 (by decide) h114
          have h115 := ab_keep eG146 (by decide) h115
          have h116 := ab_keep eG146 (by decide) h116
          have h117 := ab_keep eG146 (by decide) h117
          have h118 := ab_keep eG146 (by decide) h118
          have h119 := ab_keep eG146 (by decide) h119
          have h120 := ab_keep eG146 (by decide) h120
          have h125 := ab_keep eG146 (by decide) h125
          have h126 := ab_keep eG146 (by decide) h126
          have h127 := ab_keep eG146 (by decide) h127
          have h128 := ab_keep eG146 (by decide) h128
          have h129 := ab_keep eG146 (by decide) h129
          have h130 := ab_keep eG146 (by decide) h130
          have h131 := ab_keep eG146 (by decide) h131
          have h132 := ab_keep eG146 (by decide) h132
          have hlen := ab_klen eG146 hlen
          have hsl := ab_ksl 40000 eG146 h133 rfl rfl hsl
          have hfr := hfr.wr eG146 (by decide)
          have h133 := ab_kept eG146 h133
          change ab_W _ _ _ (List.set G145 133 (ab_if 40000 ((upd (fun _ => 0) 0 0)))) 262 [some (vR 80), some (vI (xs 1)), some (vI (xs 2)), some (vI 1), some (vI 0), some (vI 12)] [] _
          rw [← eG146]
          refine ab_aload_n d_MO_compile_262 rfl ?_
          refine ab_bipush (v := 6) d_MO_compile_263 (by decide) ?_
          refine ab_iconst (v := (-1)) d_MO_compile_265 (by decide) ?_
          refine ab_iconst (v := 0) d_MO_compile_266 (by decide) ?_
          refine ab_callV (d' := d - 1) (as := [vI 6, vI (-1), vI 0]) (st := []) (r := _) (q_MO_addStep_5 (xs := xs) hlen hsl h80 h117 h118 h119 h120 c0 c1 c2 c3 c4 c5 c6 c7) (fun o G2 h => ⟨_, h.1⟩) (by omega) m_MO_addStep ml_MO_441 im_MO_addStep se_MO_addStep c_MO h80 (Nat.le_of_ble_eq_true rfl) d_MO_compile_267 rfl ?_
          intro v G147 hq
          obtain ⟨hv, hfk, hlen, hsl, h117, h118, h119, h120⟩ := hq
          cases hv
          have h80 := hfk.get (by decide) h80
          have h94 := hfk.get (by decide) h94
          have h95 := hfk.get (by decide) h95
          have h96 := hfk.get (by decide) h96
          have h97 := hfk.get (by decide) h97
          have h100 := hfk.get (by decide) h100
          have h102 := hfk.get (by decide) h102
          have h103 := hfk.get (by decide) h103
          have h104 := hfk.get (by decide) h104
          have h105 := hfk.get (by decide) h105
          have h107 := hfk.get (by decide) h107
          have h108 := hfk.get (by decide) h108
          have h109 := hfk.get (by decide) h109
          have h110 := hfk.get (by decide) h110
          have h112 := hfk.get (by decide) h112
          have h113 := hfk.get (by decide) h113
          have h114 := hfk.get (by decide) h114
          have h115 := hfk.get (by decide) h115
          have h116 := hfk.get (by decide) h116
          have h125 := hfk.get (by decide) h125
          have h126 := hfk.get (by decide) h126
          have h127 := hfk.get (by decide) h127
          have h128 := hfk.get (by decide) h128
          have h129 := hfk.get (by decide) h129
          have h130 := hfk.get (by decide) h130
          have h131 := hfk.get (by decide) h131
          have h132 := hfk.get (by decide) h132
          have h133 := hfk.get (by decide) h133
          have hfr := hfr.cl hfk (by decide)
          change ab_W _ _ _ G147 270 [some (vR 80), some (vI (xs 1)), some (vI (xs 2)), some (vI 1), some (vI 0), some (vI 12)] [vI 1] _
          refine ab_istore d_MO_compile_270 (Nat.le_of_ble_eq_true rfl) (Nat.le_of_ble_eq_true rfl) rfl ?_
          change ab_W _ _ _ G147 272 [some (vR 80), some (vI (xs 1)), some (vI (xs 2)), some (vI 1), some (vI 0), some (vI 1)] [] _
          refine ab_aload_n d_MO_compile_272 rfl ?_
          refine ab_iload_n d_MO_compile_273 rfl ?_
          refine ab_iconst (v := 0) d_MO_compile_274 (by decide) ?_
          refine ab_iload d_MO_compile_275 rfl ?_
          refine ab_callV (d' := d - 1) (as := [vI 1, vI 0, vI 0]) (st := []) (r := _) (q_MO_open_1 (xs := xs) hlen hsl h80 h128 h129 h130 h131 h132) (fun o G2 h => ⟨_, h.1⟩) (by omega) m_MO_open ml_MO_464 im_MO_open se_MO_open c_MO h80 (Nat.le_of_ble_eq_true rfl) d_MO_compile_277 rfl ?_
          intro v G148 hq
          obtain ⟨hv, hfk, hlen, hsl, h80, h128, h129, h130, h131, h132⟩ := hq
          cases hv
          have h94 := hfk.get (by decide) h94
          have h95 := hfk.get (by decide) h95
          have h96 := hfk.get (by decide) h96
          have h97 := hfk.get (by decide) h97
          have h100 := hfk.get (by decide) h100
          have h102 := hfk.get (by decide) h102
          have h103 := hfk.get (by decide) h103
          have h104 := hfk.get (by decide) h104
          have h105 := hfk.get (by decide) h105
          have h107 := hfk.get (by decide) h107
          have h108 := hfk.get (by decide) h108
          have h109 := hfk.get (by decide) h109
          have h110 := hfk.get (by decide) h110
          have h112 := hfk.get (by decide) h112
          have h113 := hfk.get (by decide) h113
          have h114 := hfk.get (by decide) h114
          have h115 := hfk.get (by decide) h115
          have h116 := hfk.get (by decide) h116
          have h117 := hfk.get (by decide) h117
          have h118 := hfk.get (by decide) h118
          have h119 := hfk.get (by decide) h119
          have h120 := hfk.get (by decide) h120
          have h125 := hfk.get (by decide) h125
          have h126 := hfk.get (by decide) h126
          have h127 := hfk.get (by decide) h127
          have h133 := hfk.get (by decide) h133
          have hfr := hfr.cl hfk (by decide)
          change ab_W _ _ _ G148 280 [some (vR 80), some (vI (xs 1)), some (vI (xs 2)), some (vI 1), some (vI 0), some (vI 1)] [] _
          refine ab_aload_n d_MO_compile_280 rfl ?_
          refine ab_getf (fs := (m_fv (vI 0) (vI 0) (vI 0) (vI 0) (vI 0) (vI 0) (vI 0) (vI 0) (vI 2) (vI 0) (vI ((xs 2) &&& 15)) (vI 0) (vI (-1)) (vI 0) (vI 0) (vI 0) (vI 0) (vI 0) (vI 0) (vI (xs 1)) (vI 1) (vI 0) (vI 1) (vI 0) (vI 0) (vI 0) (vI 0) (vI 0) (vI 0) (vI 0) (vI 0) (vI 0) (vI 0) (vI 0) (vI 0))) f_MO_445 d_MO_compile_281 h80 rfl ?_
          refine ab_if_le (tgt := 300) d_MO_compile_284 (by decide) (fun c => absurd c (by decide)) (fun _ => ?_)
          refine ab_aload_n d_MO_compile_287 rfl ?_
          refine ab_aload_n d_MO_compile_288 rfl ?_
          refine ab_getf (fs := (m_fv (vI 0) (vI 0) (vI 0) (vI 0) (vI 0) (vI 0) (vI 0) (vI 0) (vI 2) (vI 0) (vI ((xs 2) &&& 15)) (vI 0) (vI (-1)) (vI 0) (vI 0) (vI 0) (vI 0) (vI 0) (vI 0) (vI (xs 1)) (vI 1) (vI 0) (vI 1) (vI 0) (vI 0) (vI 0) (vI 0) (vI 0) (vI 0) (vI 0) (vI 0) (vI 0) (vI 0) (vI 0) (vI 0))) f_MO_445 d_MO_compile_289 h80 rfl ?_
          refine ab_iconst (v := 1) d_MO_compile_292 (by decide) ?_
          refine ab_isub d_MO_compile_293 ?_
          refine ab_topi (y := 0) (by decide) ?_
          refine ab_callV (d' := d - 1) (as := [vI 0]) (st := []) (r := _) (q_MO_go_1 (xs := xs) hlen hsl h80 h100 h128 h129 h130 (by omega)) (fun o G2 h => ⟨_, h.1⟩) (by omega) m_MO_go ml_MO_504 im_MO_go se_MO_go c_MO h80 (Nat.le_of_ble_eq_true rfl) d_MO_compile_294 rfl ?_
          intro v G149 hq
          obtain ⟨hv, hfk, hlen, hsl, h80⟩ := hq
          cases hv
          have h94 := hfk.get (by decide) h94
          have h95 := hfk.get (by decide) h95
          have h96 := hfk.get (by decide) h96
          have h97 := hfk.get (by decide) h97
          have h100 := hfk.get (by decide) h100
          have h102 := hfk.get (by decide) h102
          have h103 := hfk.get (by decide) h103
          have h104 := hfk.get (by decide) h104
          have h105 := hfk.get (by decide) h105
          have h107 := hfk.get (by decide) h107
          have h108 := hfk.get (by decide) h108
          have h109 := hfk.get (by decide) h109
          have h110 := hfk.get (by decide) h110
          have h112 := hfk.get (by decide) h112
          have h113 := hfk.get (by decide) h113
          have h114 := hfk.get (by decide) h114
          have h115 := hfk.get (by decide) h115
          have h116 := hfk.get (by decide) h116
          have h117 := hfk.get (by decide) h117
          have h118 := hfk.get (by decide) h118
          have h119 := hfk.get (by decide) h119
          have h120 := hfk.get (by decide) h120
          have h125 := hfk.get (by decide) h125
          have h126 := hfk.get (by decide) h126
          have h127 := hfk.get (by decide) h127
          have h128 := hfk.get (by decide) h128
          have h129 := hfk.get (by decide) h129
          have h130 := hfk.get (by decide) h130
          have h131 := hfk.get (by decide) h131
          have h132 := hfk.get (by decide) h132
          have h133 := hfk.get (by decide) h133
          have hfr := hfr.cl hfk (by decide)
          change ab_W _ _ _ G149 297 [some (vR 80), some (vI (xs 1)), some (vI (xs 2)), some (vI 1), some (vI 0), some (vI 1)] [] _
          refine ab_goto (tgt := 280) d_MO_compile_297 (by decide) ?_
          refine ab_aload_n d_MO_compile_280 rfl ?_
          refine ab_getf (fs := (m_fv (vI 0) (vI 0) (vI 0) (vI 0) (vI 0) (vI 0) (vI 0) (vI 0) (vI 2) (vI 0) (vI ((xs 2) &&& 15)) (vI 0) (vI (-1)) (vI 0) (vI 0) (vI 0) (vI 0) (vI 0) (vI 0) (vI (xs 1)) (vI 0) (vI 0) (vI 1) (vI 0) (vI 0) (vI 0) (vI 0) (vI 0) (vI 0) (vI 0) (vI 0) (vI 0) (vI 0) (vI 0) (vI 0))) f_MO_445 d_MO_compile_281 h80 rfl ?_
          refine ab_if_le (tgt := 300) d_MO_compile_284 (by decide) (fun _ => ?_) (fun c => absurd c (by decide))
          refine ab_aload_n d_MO_compile_300 rfl ?_
          refine ab_getf (fs := (m_fv (vI 0) (vI 0) (vI 0) (vI 0) (vI 0) (vI 0) (vI 0) (vI 0) (vI 2) (vI 0) (vI ((xs 2) &&& 15)) (vI 0) (vI (-1)) (vI 0) (vI 0) (vI 0) (vI 0) (vI 0) (vI 0) (vI (xs 1)) (vI 0) (vI 0) (vI 1) (vI 0) (vI 0) (vI 0) (vI 0) (vI 0) (vI 0) (vI 0) (vI 0) (vI 0) (vI 0) (vI 0) (vI 0))) f_MO_112 d_MO_compile_301 h80 rfl ?_
          refine ab_iload_n d_MO_compile_304 rfl ?_
          refine ab_aload_n d_MO_compile_305 rfl ?_
          refine ab_getf (fs := (m_fv (vI 0) (vI 0) (vI 0) (vI 0) (vI 0) (vI 0) (vI 0) (vI 0) (vI 2) (vI 0) (vI ((xs 2) &&& 15)) (vI 0) (vI (-1)) (vI 0) (vI 0) (vI 0) (vI 0) (vI 0) (vI 0) (vI (xs 1)) (vI 0) (vI 0) (vI 1) (vI 0) (vI 0) (vI 0) (vI 0) (vI 0) (vI 0) (vI 0) (vI 0) (vI 0) (vI 0) (vI 0) (vI 0))) f_MO_174 d_MO_compile_306 h80 rfl ?_
          refine ab_aload_n d_MO_compile_309 rfl ?_
          refine ab_getf (fs := (m_fv (vI 0) (vI 0) (vI 0) (vI 0) (vI 0) (vI 0) (vI 0) (vI 0) (vI 2) (vI 0) (vI ((xs 2) &&& 15)) (vI 0) (vI (-1)) (vI 0) (vI 0) (vI 0) (vI 0) (vI 0) (vI 0) (vI (xs 1)) (vI 0) (vI 0) (vI 1) (vI 0) (vI 0) (vI 0) (vI 0) (vI 0) (vI 0) (vI 0) (vI 0) (vI 0) (vI 0) (vI 0) (vI 0))) f_MO_448 d_MO_compile_310 h80 rfl ?_
          refine ab_iald d_MO_compile_313 h133 (by unfold vp_in; decide) ?_
          refine ab_topi (y := 0) rfl ?_
          refine ab_iast d_MO_compile_314 h113 (vp_in_iff.mpr (by have l0 := (show (0 : Int32).toInt = 0 by decide); have l1 := (show (5 : Int32).toInt = 5 by decide); have l2 := (show (31 : Int32).toInt = 31 by decide); simp only [Int32.le_iff_toInt_le, Int32.lt_iff_toInt_lt, ← Int32.toInt_inj] at c0 c1 c2 c3 c4 c5 c6 c7; constructor <;> omega)) (by decide) ?_
          obtain ⟨G150, eG150⟩ : ∃ z : ab_G, z = List.set G149 113 (ab_if 6 ((upd (fun _ => 0) (Int32.toNatClampNeg (xs 1)) 0))) := ⟨_, rfl⟩
          have h80 := ab_keep eG150 (by decide) h80
          have h94 := ab_keep eG150 (by decide) h94
          have h95 := ab_keep eG150 (by decide) h95
          have h96 := ab_keep eG150 (by decide) h96
          have h97 := ab_keep eG150 (by decide) h97
          have h100 := ab_keep eG150 (by decide) h100
          have h102 := ab_keep eG150 (by decide) h102
          have h103 := ab_keep eG150 (by decide) h103
          have h104 := ab_keep eG150 (by decide) h104
          have h105 := ab_keep eG150 (by decide) h105
          have h107 := ab_keep eG150 (by decide) h107
          have h108 := ab_keep eG150 (by decide) h108
          have h109 := ab_keep eG150 (by decide) h109
          have h110 := ab_keep eG150 (by decide) h110
          have h112 := ab_keep eG150 (by decide) h112
          have h114 := ab_keep eG150 (by decide) h114
          have h115 := ab_keep eG150 (by decide) h115
          have h116 := ab_keep eG150 (by decide) h116
          have h117 := ab_keep eG150 (by decide) h117
          have h118 := ab_keep eG150 (by decide) h118
          have h119 := ab_keep eG150 (by decide) h119
          have h120 := ab_keep eG150 (by decide) h120
          have h125 := ab_keep eG150 (by decide) h125
          have h126 := ab_keep eG150 (by decide) h126
          have h127 := ab_keep eG150 (by decide) h127
          have h128 := ab_keep eG150 (by decide) h128
          have h129 := ab_keep eG150 (by decide) h129
          have h130 := ab_keep eG150 (by decide) h130
          have h131 := ab_keep eG150 (by decide) h131
          have h132 := ab_keep eG150 (by decide) h132
          have h133 := ab_keep eG150 (by decide) h133
          have hlen := ab_klen eG150 hlen
          have hsl := ab_ksl 6 eG150 h113 rfl rfl hsl
          have hfr := hfr.wr eG150 (by decide)
          have h113 := ab_kept eG150 h113
          change ab_W _ _ _ (List.set G149 113 (ab_if 6 ((upd (fun _ => 0) (Int32.toNatClampNeg (xs 1)) 0)))) 315 [some (vR 80), some (vI (xs 1)), some (vI (xs 2)), some (vI 1), some (vI 0), some (vI 1)] [] _
          rw [← eG150]
          refine ab_aload_n d_MO_compile_315 rfl ?_
          refine ab_getf (fs := (m_fv (vI 0) (vI 0) (vI 0) (vI 0) (vI 0) (vI 0) (vI 0) (vI 0) (vI 2) (vI 0) (vI ((xs 2) &&& 15)) (vI 0) (vI (-1)) (vI 0) (vI 0) (vI 0) (vI 0) (vI 0) (vI 0) (vI (xs 1)) (vI 0) (vI 0) (vI 1) (vI 0) (vI 0) (vI 0) (vI 0) (vI 0) (vI 0) (vI 0) (vI 0) (vI 0) (vI 0) (vI 0) (vI 0))) f_MO_395 d_MO_compile_316 h80 rfl ?_
          exact ab_iret (rt := .int) rfl rfl d_MO_compile_319 (by rw [hQ]; exact ⟨rfl, hfr, hlen, hsl, h80, h94, h95, h96, h97, h100, h102, h103, h104, h105, h107, h108, h109, h112, h113, h114, h115, h116, h117, h118, h119, h120, h125, ⟨_, h126⟩, ⟨_, h127⟩, h128, h129, h130, h131, h132, h133⟩)
        · exfalso; have l0 := (show (0 : Int32).toInt = 0 by decide); have l1 := (show (5 : Int32).toInt = 5 by decide); have l2 := (show (31 : Int32).toInt = 31 by decide); simp only [Int32.le_iff_toInt_le, Int32.lt_iff_toInt_lt, ← Int32.toInt_inj] at c0 c1 c2 c3 c4 c5 c6 c7; omega
