set_option maxRecDepth 100000 in
set_option maxHeartbeats 4000000 in
theorem q_MO_thrown_1 {X : ab_X} {d : Nat} {G : ab_G} {xs : Nat → Int32} (hlen : G.length = 158) (hsl : ab_slots G = 1834765) (h80 : G[80]? = some (ab_ob 12 (m_fv (vI 0) (vI 0) (vI 0) (vI 0) (vI 0) (vI 0) (vI 0) (vI 0) (vI 2) (vI 0) (vI ((xs 2) &&& 15)) (vI 0) (vI (-1)) (vI 0) (vI 0) (vI 0) (vI 0) (vI 0) (vI 0) (vI (xs 1)) (vI 0) (vI 0) (vI 1) (vI 0) (vI 0) (vI 0) (vI 0) (vI 0) (vI 0) (vI 0) (vI 0) (vI 0) (vI 0) (vI 0) (vI 0)))) : ab_F X d y_MO_thrown (.code y_MO_thrown b_MO_thrown 1 (some (.int))) [vR 80] G (fun o G2 => o = .returned (some (vI 0)) ∧ ab_fr [] G G2 ∧ G2.length = 158 ∧ ab_slots G2 = 1834765) := by
  refine ab_F_of (by decide +kernel) (Nat.le_of_ble_eq_true rfl) ?_
  obtain ⟨Q, hQ⟩ : ∃ z : Outcome → ab_G → Prop, z = (fun o G2 => o = .returned (some (vI 0)) ∧ ab_fr [] G G2 ∧ G2.length = 158 ∧ ab_slots G2 = 1834765) := ⟨_, rfl⟩
  rw [← hQ]
  change ab_W X (ab_pl y_MO_thrown b_MO_thrown 1 (some (.int))) d G 0 [some (vR 80)] [] Q
  have hfr : ab_fr [] G G := ab_fr.rf
  refine ab_aload_n d_MO_thrown_0 rfl ?_
  refine ab_getf (fs := (m_fv (vI 0) (vI 0) (vI 0) (vI 0) (vI 0) (vI 0) (vI 0) (vI 0) (vI 2) (vI 0) (vI ((xs 2) &&& 15)) (vI 0) (vI (-1)) (vI 0) (vI 0) (vI 0) (vI 0) (vI 0) (vI 0) (vI (xs 1)) (vI 0) (vI 0) (vI 1) (vI 0) (vI 0) (vI 0) (vI 0) (vI 0) (vI 0) (vI 0) (vI 0) (vI 0) (vI 0) (vI 0) (vI 0))) f_MO_220 d_MO_thrown_1 h80 rfl ?_
  exact ab_iret (rt := .int) rfl rfl d_MO_thrown_4 (by rw [hQ]; exact ⟨rfl, hfr, hlen, hsl⟩)
set_option maxRecDepth 100000 in
set_option maxHeartbeats 4000000 in
theorem lc_2e {X : ab_X} {d : Nat} {G : ab_G} {xs : Nat → Int32} (hlen : G.length = 149) (hsl : ab_slots G = 1832133) (h0 : G[0]? = some (ab_if 6 (xs))) (h18 : G[18]? = some (ab_ob 0 [vR 19, vR 20, vR 22, vR 30, vR 31, vR 36, vR 37, vR 46, vR 51, vR 60, vR 69, vR 70, vR 72, vR 74, vR 76, vR 78, vI 0, vI 0])) (h20 : G[20]? = some (ab_ob 7 [vI 2000, vR 21, vI 0])) (h22 : G[22]? = some (ab_ob 6 [vR 23, vR 27, vI 0, vI 0, vI 0, vR 28, vR 29, vI 0, vI 0, vI 0])) (h23 : G[23]? = some (ab_ob 10 [vR 24, vR 26, vI 0, vI 0, vI 0, vI (-1), vR 1, vI 0])) (h30 : G[30]? = some (.inl (3, 6, .inr (.inr (.inr (.inr (fun _ => none))))))) (h80 : G[80]? = some (ab_ob 12 (m_fv (vI 0) (vI 0) (vI 0) (vI 0) (vI 0) (vI 0) (vI 0) (vI 0) (vI 0) (vI 0) (vI 0) (vI 0) (vI (-1)) (vI 0) (vI 0) (vI 0) (vI 0) (vI 0) (vI 0) (vI 0) (vI 0) (vI 0) (vI 0) (vI 0) (vI 0) (vI 0) (vI 0) (vI 0) (vI 0) (vI 0) (vI 0) (vI 0) (vI 0) (vI 0) (vI 0)))) (h94 : G[94]? = some (ab_if 4200 ((fun _ => 0)))) (h95 : G[95]? = some (ab_if 4200 ((fun _ => 0)))) (h96 : G[96]? = some (ab_if 4200 ((fun _ => 0)))) (h97 : G[97]? = some (ab_if 4200 ((fun _ => 0)))) (h100 : G[100]? = some (.inl (2, 4200, .inr (.inl (fun _ => 0))))) (h102 : G[102]? = some (ab_if 32 ((fun _ => 0)))) (h103 : G[103]? = some (ab_if 32 ((fun _ => 0)))) (h104 : G[104]? = some (ab_if 32 ((fun _ => 0)))) (h105 : G[105]? = some (ab_if 32 ((fun _ => 0)))) (h107 : G[107]? = some (ab_if 32 ((fun _ => 0)))) (h108 : G[108]? = some (ab_if 32 ((fun _ => 0)))) (h109 : G[109]? = some (ab_if 32 ((fun _ => 0)))) (h110 : G[110]? = some (ab_if 120 ((fun _ => 0)))) (h112 : G[112]? = some (ab_zf 6 ((fun _ => 0)))) (h113 : G[113]? = some (ab_if 6 ((fun _ => 0)))) (h114 : G[114]? = some (ab_if 6 ((fun _ => 0)))) (h115 : G[115]? = some (ab_if 6 ((fun _ => 0)))) (h116 : G[116]? = some (ab_if 6 ((fun _ => 0)))) (h117 : G[117]? = some (ab_if 6 ((fun _ => 0)))) (h118 : G[118]? = some (ab_if 75000 ((fun _ => 0)))) (h119 : G[119]? = some (ab_if 75000 ((fun _ => 0)))) (h120 : G[120]? = some (ab_if 75000 ((fun _ => 0)))) (h125 : G[125]? = some (ab_if 6 ((fun _ => 0)))) (h126 : G[126]? = some (ab_if 720 ((fun _ => 0)))) (h127 : G[127]? = some (ab_if 60 ((fun _ => 0)))) (h128 : G[128]? = some (ab_if 300 ((fun _ => 0)))) (h129 : G[129]? = some (ab_if 300 ((fun _ => 0)))) (h130 : G[130]? = some (ab_if 300 ((fun _ => 0)))) (h131 : G[131]? = some (ab_if 300 ((fun _ => 0)))) (h132 : G[132]? = some (ab_if 300 ((fun _ => 0)))) (h133 : G[133]? = some (ab_if 40000 ((fun _ => 0)))) (h148 : G[148]? = some (.inl (2, 1, .inr (.inl (fun _ => 0))))) (c0 : 0 ≤ (xs 1)) (c1 : (xs 1) ≤ 5) (c2 : 0 ≤ (xs 2)) (c3 : (xs 2) ≤ 31) (hd : 5 ≤ d) : ab_W X ab_LW d G 228 [some (vR 0), some (vR 18), some (vR 80), some (vR 148), some (vI 0), none, none] [] (fun o _ => o = .returned (some (vI 1))) := by
  obtain ⟨Q, hQ⟩ : ∃ z : Outcome → ab_G → Prop, z = (fun o _ => o = .returned (some (vI 1))) := ⟨_, rfl⟩
  rw [← hQ]
  have hfr : ab_fr [18, 20, 22, 23, 30, 80, 94, 95, 96, 97, 100, 102, 103, 104, 105, 107, 108, 109, 112, 113, 114, 115, 116, 117, 118, 119, 120, 125, 126, 127, 128, 129, 130, 131, 132, 133, 148, 149, 150, 151, 152, 153, 154, 155, 156, 157] G G := ab_fr.rf
  refine ab_aload_n d_LA_law_228 rfl ?_
  refine ab_aload_n d_LA_law_229 rfl ?_
  refine ab_iload d_LA_law_230 rfl ?_
  refine ab_iconst (v := 1) d_LA_law_232 (by decide) ?_
  refine ab_iadd d_LA_law_233 ?_
  refine ab_topi (y := 1) (by decide) ?_
  refine ab_iald d_LA_law_234 h0 (by unfold vp_in; decide) ?_
  refine ab_topi (y := (xs 1)) rfl ?_
  refine ab_aload_n d_LA_law_235 rfl ?_
  refine ab_iload d_LA_law_236 rfl ?_
  refine ab_iconst (v := 2) d_LA_law_238 (by decide) ?_
  refine ab_iadd d_LA_law_239 ?_
  refine ab_topi (y := 2) (by decide) ?_
  refine ab_iald d_LA_law_240 h0 (by unfold vp_in; decide) ?_
  refine ab_topi (y := (xs 2)) rfl ?_
  refine ab_aload_n d_LA_law_241 rfl ?_
  refine ab_callSW (d' := d - 1) (as := [vR 18, vI (xs 1), vI (xs 2), vR 148]) (st := []) (q_LA_compile_4 (xs := xs) hlen hsl h18 h20 h22 h23 h30 h148 c0 c1 c2 c3 (by omega)) (fun o G2 h => ⟨_, h.1⟩) (by omega) m_LA_compile mw_LA_46 st_LA_compile (Nat.le_of_ble_eq_true rfl) d_LA_law_242 rfl ?_
  intro v G1 hq
  obtain ⟨hv, hfk, hlen, hsl, h18, h20, h22, h23, h30, h148, h149, h150, h151, h152, h153, h154, h155, h156, h157⟩ := hq
  cases hv
  have h0 := hfk.get (by decide) h0
  have h80 := hfk.get (by decide) h80
  have h94 := hfk.get (by decide) h94
  have h95 := hfk.get (by decide) h95
  have h96 := hfk.get (by decide) h96
  have h97 := hfk.get (by decide) h97
  have h100 := hfk.get (by decide) h100
  have h102 := hfk.get (by decide) h102
  have h103 := hfk.get (by decide) h103
  have h104 := hfk.get (by decide) h104
  have h105 := hfk.get (by decide) h105
  have h107 := hfk.get (by decide) h107
  have h108 := hfk.get (by decide) h108
  have h109 := hfk.get (by decide) h109
  have h110 := hfk.get (by decide) h110
  have h112 := hfk.get (by decide) h112
  have h113 := hfk.get (by decide) h113
  have h114 := hfk.get (by decide) h114
  have h115 := hfk.get (by decide) h115
  have h116 := hfk.get (by decide) h116
  have h117 := hfk.get (by decide) h117
  have h118 := hfk.get (by decide) h118
  have h119 := hfk.get (by decide) h119
  have h120 := hfk.get (by decide) h120
  have h125 := hfk.get (by decide) h125
  have h126 := hfk.get (by decide) h126
  have h127 := hfk.get (by decide) h127
  have h128 := hfk.get (by decide) h128
  have h129 := hfk.get (by decide) h129
  have h130 := hfk.get (by decide) h130
  have h131 := hfk.get (by decide) h131
  have h132 := hfk.get (by decide) h132
  have h133 := hfk.get (by decide) h133
  have hfr := hfr.cl hfk (by decide)
  change ab_W _ _ _ G1 245 [some (vR 0), some (vR 18), some (vR 80), some (vR 148), some (vI 0), none, none] [vI 0] _
  refine ab_istore d_LA_law_245 (Nat.le_of_ble_eq_true rfl) (Nat.le_of_ble_eq_true rfl) rfl ?_
  change ab_W _ _ _ G1 247 [some (vR 0), some (vR 18), some (vR 80), some (vR 148), some (vI 0), some (vI 0), none] [] _
  refine ab_aload_n d_LA_law_247 rfl ?_
  refine ab_aload_n d_LA_law_248 rfl ?_
  refine ab_iload d_LA_law_249 rfl ?_
  refine ab_iconst (v := 1) d_LA_law_251 (by decide) ?_
  refine ab_iadd d_LA_law_252 ?_
  refine ab_topi (y := 1) (by decide) ?_
  refine ab_iald d_LA_law_253 h0 (by unfold vp_in; decide) ?_
  refine ab_topi (y := (xs 1)) rfl ?_
  refine ab_aload_n d_LA_law_254 rfl ?_
  refine ab_iload d_LA_law_255 rfl ?_
  refine ab_iconst (v := 2) d_LA_law_257 (by decide) ?_
  refine ab_iadd d_LA_law_258 ?_
  refine ab_topi (y := 2) (by decide) ?_
  refine ab_iald d_LA_law_259 h0 (by unfold vp_in; decide) ?_
  refine ab_topi (y := (xs 2)) rfl ?_
  refine ab_callV (d' := d - 1) (as := [vI (xs 1), vI (xs 2)]) (st := []) (r := _) (q_MO_compile_4 (xs := xs) hlen hsl h80 h94 h95 h96 h97 h100 h102 h103 h104 h105 h107 h108 h109 h110 h112 h113 h114 h115 h116 h117 h118 h119 h120 h125 h126 h127 h128 h129 h130 h131 h132 h133 c0 c1 c2 c3 (by omega)) (fun o G2 h => ⟨_, h.1⟩) (by omega) m_MO_compile ml_LA_51 im_MO_compile se_MO_compile c_MO h80 (Nat.le_of_ble_eq_true rfl) d_LA_law_260 rfl ?_
  intro v G2 hq
  obtain ⟨hv, hfk, hlen, hsl, h80, h94, h95, h96, h97, h100, h102, h103, h104, h105, h107, h108, h109, h112, h113, h114, h115, h116, h117, h118, h119, h120, h125, ⟨f126_1, h126⟩, ⟨f127_2, h127⟩, h128, h129, h130, h131, h132, h133⟩ := hq
  cases hv
  have h0 := hfk.get (by decide) h0
  have h18 := hfk.get (by decide) h18
  have h20 := hfk.get (by decide) h20
  have h22 := hfk.get (by decide) h22
  have h23 := hfk.get (by decide) h23
  have h30 := hfk.get (by decide) h30
  have h110 := hfk.get (by decide) h110
  have h148 := hfk.get (by decide) h148
  have h149 := hfk.get (by decide) h149
  have h150 := hfk.get (by decide) h150
  have h151 := hfk.get (by decide) h151
  have h152 := hfk.get (by decide) h152
  have h153 := hfk.get (by decide) h153
  have h154 := hfk.get (by decide) h154
  have h155 := hfk.get (by decide) h155
  have h156 := hfk.get (by decide) h156
  have h157 := hfk.get (by decide) h157
  have hfr := hfr.cl hfk (by decide)
  change ab_W _ _ _ G2 263 [some (vR 0), some (vR 18), some (vR 80), some (vR 148), some (vI 0), some (vI 0), none] [vI 0] _
  refine ab_istore d_LA_law_263 (Nat.le_of_ble_eq_true rfl) (Nat.le_of_ble_eq_true rfl) rfl ?_
  change ab_W _ _ _ G2 265 [some (vR 0), some (vR 18), some (vR 80), some (vR 148), some (vI 0), some (vI 0), some (vI 0)] [] _
  refine ab_aload_n d_LA_law_265 rfl ?_
  refine ab_callV (d' := d - 1) (as := []) (st := []) (r := _) (q_MO_thrown_1 (xs := xs) hlen hsl h80) (fun o G2 h => ⟨_, h.1⟩) (by omega) m_MO_thrown ml_LA_52 im_MO_thrown se_MO_thrown c_MO h80 (Nat.le_of_ble_eq_true rfl) d_LA_law_266 rfl ?_
  intro v G3 hq
  obtain ⟨hv, hfk, hlen, hsl⟩ := hq
  cases hv
  have h0 := hfk.get (by decide) h0
  have h18 := hfk.get (by decide) h18
  have h20 := hfk.get (by decide) h20
  have h22 := hfk.get (by decide) h22
  have h23 := hfk.get (by decide) h23
  have h30 := hfk.get (by decide) h30
  have h80 := hfk.get (by decide) h80
  have h94 := hfk.get (by decide) h94
  have h95 := hfk.get (by decide) h95
  have h96 := hfk.get (by decide) h96
  have h97 := hfk.get (by decide) h97
  have h100 := hfk.get (by decide) h100
  have h102 := hfk.get (by decide) h102
  have h103 := hfk.get (by decide) h103
  have h104 := hfk.get (by decide) h104
  have h105 := hfk.get (by decide) h105
  have h107 := hfk.get (by decide) h107
  have h108 := hfk.get (by decide) h108
  have h109 := hfk.get (by decide) h109
  have h110 := hfk.get (by decide) h110
  have h112 := hfk.get (by decide) h112
  have h113 := hfk.get (by decide) h113
  have h114 := hfk.get (by decide) h114
  have h115 := hfk.get (by decide) h115
  have h116 := hfk.get (by decide) h116
  have h117 := hfk.get (by decide) h117
  have h118 := hfk.get (by decide) h118
  have h119 := hfk.get (by decide) h119
  have h120 := hfk.get (by decide) h120
  have h125 := hfk.get (by decide) h125
  have h126 := hfk.get (by decide) h126
  have h127 := hfk.get (by decide) h127
  have h128 := hfk.get (by decide) h128
  have h129 := hfk.get (by decide) h129
  have h130 := hfk.get (by decide) h130
  have h131 := hfk.get (by decide) h131
  have h132 := hfk.get (by decide) h132
  have h133 := hfk.get (by decide) h133
  have h148 := hfk.get (by decide) h148
  have h149 := hfk.get (by decide) h149
  have h150 := hfk.get (by decide) h150
  have h151 := hfk.get (by decide) h151
  have h152 := hfk.get (by decide) h152
  have h153 := hfk.get (by decide) h153
  have h154 := hfk.get (by decide) h154
  have h155 := hfk.get (by decide) h155
  have h156 := hfk.get (by decide) h156
  have h157 := hfk.get (by decide) h157
  have hfr := hfr.cl hfk (by decide)
  change ab_W _ _ _ G3 269 [some (vR 0), some (vR 18), some (vR 80), some (vR 148), some (vI 0), some (vI 0), some (vI 0)] [vI 0] _
  refine ab_iload d_LA_law_269 rfl ?_
  refine ab_icmp_eq (tgt := 276) d_LA_law_271 (by decide) (fun _ => ?_) (fun c => absurd c (by decide))
  refine ab_iload d_LA_law_276 rfl ?_
  refine ab_if_ne (tgt := 293) d_LA_law_278 (by decide) (fun c => absurd c (by decide)) (fun _ => ?_)
  refine ab_aload_n d_LA_law_281 rfl ?_
  refine ab_iconst (v := 0) d_LA_law_282 (by decide) ?_
  refine ab_lald d_LA_law_283 h148 (by unfold vp_in; decide) ?_
  refine ab_topl (y := 0) rfl ?_
  refine ab_iload d_LA_law_284 rfl ?_
  refine ab_i2l d_LA_law_286 ?_
  refine ab_topl (y := 0) (by decide) ?_
  refine ab_lcmp d_LA_law_287 ?_
  refine ab_topi (y := 0) (by decide +kernel) ?_
  refine ab_if_eq (tgt := 293) d_LA_law_288 (by decide) (fun _ => ?_) (fun c => absurd c (by decide))
  refine ab_goto (tgt := 931) d_LA_law_293 (by decide) ?_
  refine ab_iinc (v := 6) d_LA_law_931 rfl (by decide) (Nat.le_of_ble_eq_true rfl) (Nat.le_of_ble_eq_true rfl) rfl ?_
  change ab_W _ _ _ G3 934 [some (vR 0), some (vR 18), some (vR 80), some (vR 148), some (vI 6), some (vI 0), some (vI 0)] [] _
  refine ab_goto (tgt := 23) d_LA_law_934 (by decide) ?_
  refine ab_iload d_LA_law_23 rfl ?_
  refine ab_aload_n d_LA_law_25 rfl ?_
  refine ab_alen (v := 6) d_LA_law_26 h0 (by first | decide | rfl) ?_
  refine ab_bipush (v := 6) d_LA_law_27 (by decide) ?_
  refine ab_isub d_LA_law_29 ?_
  refine ab_topi (y := 0) (by decide) ?_
  refine ab_icmp_gt (tgt := 937) d_LA_law_30 (by decide) (fun _ => ?_) (fun c => absurd c (by decide))
  refine ab_iconst (v := 1) d_LA_law_937 (by decide) ?_
  exact ab_iret (rt := .boolean) rfl (by decide) d_LA_law_938 (by rw [hQ])
set_option maxRecDepth 100000 in
set_option maxHeartbeats 4000000 in
theorem q_PW_fault_0 {X : ab_X} {d : Nat} {G : ab_G} {xs : Nat → Int32} (hlen : G.length = 149) (hsl : ab_slots G = 1832133) (h18 : G[18]? = some (ab_ob 0 [vR 19, vR 20, vR 22, vR 30, vR 31, vR 36, vR 37, vR 46, vR 51, vR 60, vR 69, vR 70, vR 72, vR 74, vR 76, vR 78, vI 0, vI 0])) (h22 : G[22]? = some (ab_ob 6 [vR 23, vR 27, vI 0, vI 0, vI 0, vR 28, vR 29, vI 0, vI 0, vI 0])) (h23 : G[23]? = some (ab_ob 10 [vR 24, vR 26, vI 0, vI 0, vI 0, vI (-1), vR 1, vI 0])) (c0 : (xs 1) = 0) : ab_F X d y_PW_fault (.code y_PW_fault b_PW_fault 2 (some (.int))) [vR 18, vI (xs 1)] G (fun o G2 => o = .returned (some (vI 0)) ∧ ab_fr [] G G2 ∧ G2.length = 149 ∧ ab_slots G2 = 1832133) := by
  refine ab_F_of (by decide +kernel) (Nat.le_of_ble_eq_true rfl) ?_
  obtain ⟨Q, hQ⟩ : ∃ z : Outcome → ab_G → Prop, z = (fun o G2 => o = .returned (some (vI 0)) ∧ ab_fr [] G G2 ∧ G2.length = 149 ∧ ab_slots G2 = 1832133) := ⟨_, rfl⟩
  rw [← hQ]
  change ab_W X (ab_pl y_PW_fault b_PW_fault 2 (some (.int))) d G 0 [some (vR 18), some (vI (xs 1))] [] Q
  have hfr : ab_fr [] G G := ab_fr.rf
  refine ab_iload_n d_PW_fault_0 rfl ?_
  refine ab_if_ne (tgt := 15) d_PW_fault_1 (by decide) (fun c1 => ?_) (fun c1 => ?_)
  · exfalso; have l0 := (show (0 : Int32).toInt = 0 by decide); simp only [Int32.le_iff_toInt_le, Int32.lt_iff_toInt_lt, ← Int32.toInt_inj] at c0 c1; omega
  · refine ab_aload_n d_PW_fault_4 rfl ?_
    refine ab_getf (fs := [vR 19, vR 20, vR 22, vR 30, vR 31, vR 36, vR 37, vR 46, vR 51, vR 60, vR 69, vR 70, vR 72, vR 74, vR 76, vR 78, vI 0, vI 0]) f_PW_25 d_PW_fault_5 h18 rfl ?_
    refine ab_getf (fs := [vR 23, vR 27, vI 0, vI 0, vI 0, vR 28, vR 29, vI 0, vI 0, vI 0]) f_PW_136 d_PW_fault_8 h22 rfl ?_
    refine ab_getf (fs := [vR 24, vR 26, vI 0, vI 0, vI 0, vI (-1), vR 1, vI 0]) f_PW_140 d_PW_fault_11 h23 rfl ?_
    exact ab_iret (rt := .int) rfl rfl d_PW_fault_14 (by rw [hQ]; exact ⟨rfl, hfr, hlen, hsl⟩)
set_option maxRecDepth 100000 in
set_option maxHeartbeats 4000000 in
theorem q_MO_fault_0 {X : ab_X} {d : Nat} {G : ab_G} {xs : Nat → Int32} (hlen : G.length = 149) (hsl : ab_slots G = 1832133) (h80 : G[80]? = some (ab_ob 12 (m_fv (vI 0) (vI 0) (vI 0) (vI 0) (vI 0) (vI 0) (vI 0) (vI 0) (vI 0) (vI 0) (vI 0) (vI 0) (vI (-1)) (vI 0) (vI 0) (vI 0) (vI 0) (vI 0) (vI 0) (vI 0) (vI 0) (vI 0) (vI 0) (vI 0) (vI 0) (vI 0) (vI 0) (vI 0) (vI 0) (vI 0) (vI 0) (vI 0) (vI 0) (vI 0) (vI 0)))) (c0 : (xs 1) = 0) : ab_F X d y_MO_fault (.code y_MO_fault b_MO_fault 2 (some (.int))) [vR 80, vI (xs 1)] G (fun o G2 => o = .returned (some (vI 0)) ∧ ab_fr [80] G G2 ∧ G2.length = 149 ∧ ab_slots G2 = 1832133 ∧ G2[80]? = some (ab_ob 12 (m_fv (vI 0) (vI 0) (vI 0) (vI 0) (vI 0) (vI 0) (vI 0) (vI 0) (vI 0) (vI 0) (vI 0) (vI 0) (vI (-1)) (vI 0) (vI 0) (vI 0) (vI 0) (vI 0) (vI 0) (vI 0) (vI 0) (vI 0) (vI 0) (vI 0) (vI 0) (vI 0) (vI 0) (vI 0) (vI 0) (vI 0) (vI 0) (vI 0) (vI 0) (vI 0) (vI 0)))) := by
  refine ab_F_of (by decide +kernel) (Nat.le_of_ble_eq_true rfl) ?_
  obtain ⟨Q, hQ⟩ : ∃ z : Outcome → ab_G → Prop, z = (fun o G2 => o = .returned (some (vI 0)) ∧ ab_fr [80] G G2 ∧ G2.length = 149 ∧ ab_slots G2 = 1832133 ∧ G2[80]? = some (ab_ob 12 (m_fv (vI 0) (vI 0) (vI 0) (vI 0) (vI 0) (vI 0) (vI 0) (vI 0) (vI 0) (vI 0) (vI 0) (vI 0) (vI (-1)) (vI 0) (vI 0) (vI 0) (vI 0) (vI 0) (vI 0) (vI 0) (vI 0) (vI 0) (vI 0) (vI 0) (vI 0) (vI 0) (vI 0) (vI 0) (vI 0) (vI 0) (vI 0) (vI 0) (vI 0) (vI 0) (vI 0)))) := ⟨_, rfl⟩
  rw [← hQ]
  change ab_W X (ab_pl y_MO_fault b_MO_fault 2 (some (.int))) d G 0 [some (vR 80), some (vI (xs 1))] [] Q
  have hfr : ab_fr [80] G G := ab_fr.rf
  refine ab_aload_n d_MO_fault_0 rfl ?_
  refine ab_iconst (v := 0) d_MO_fault_1 (by decide) ?_
  refine ab_putf (fs := (m_fv (vI 0) (vI 0) (vI 0) (vI 0) (vI 0) (vI 0) (vI 0) (vI 0) (vI 0) (vI 0) (vI 0) (vI 0) (vI (-1)) (vI 0) (vI 0) (vI 0) (vI 0) (vI 0) (vI 0) (vI 0) (vI 0) (vI 0) (vI 0) (vI 0) (vI 0) (vI 0) (vI 0) (vI 0) (vI 0) (vI 0) (vI 0) (vI 0) (vI 0) (vI 0) (vI 0))) f_MO_220 (Or.inl rfl) d_MO_fault_2 h80 (Nat.le_of_ble_eq_true rfl) (fun _ => ⟨rfl, rfl⟩) (by decide) ?_
  obtain ⟨G1, eG1⟩ : ∃ z : ab_G, z = List.set G 80 (ab_ob 12 (m_fv (vI 0) (vI 0) (vI 0) (vI 0) (vI 0) (vI 0) (vI 0) (vI 0) (vI 0) (vI 0) (vI 0) (vI 0) (vI (-1)) (vI 0) (vI 0) (vI 0) (vI 0) (vI 0) (vI 0) (vI 0) (vI 0) (vI 0) (vI 0) (vI 0) (vI 0) (vI 0) (vI 0) (vI 0) (vI 0) (vI 0) (vI 0) (vI 0) (vI 0) (vI 0) (vI 0))) := ⟨_, rfl⟩
  have hlen := ab_klen eG1 hlen
  have hsl := ab_ksl 102 eG1 h80 rfl rfl hsl
  have hfr := hfr.wr eG1 (by decide)
  have h80 := ab_kept eG1 h80
  change ab_W _ _ _ (List.set G 80 (ab_ob 12 (m_fv (vI 0) (vI 0) (vI 0) (vI 0) (vI 0) (vI 0) (vI 0) (vI 0) (vI 0) (vI 0) (vI 0) (vI 0) (vI (-1)) (vI 0) (vI 0) (vI 0) (vI 0) (vI 0) (vI 0) (vI 0) (vI 0) (vI 0) (vI 0) (vI 0) (vI 0) (vI 0) (vI 0) (vI 0) (vI 0) (vI 0) (vI 0) (vI 0) (vI 0) (vI 0) (vI 0)))) 5 [some (vR 80), some (vI (xs 1))] [] _
  rw [← eG1]
  refine ab_iload_n d_MO_fault_5 rfl ?_
  refine ab_if_ne (tgt := 16) d_MO_fault_6 (by decide) (fun c1 => ?_) (fun c1 => ?_)
  · exfalso; have l0 := (show (0 : Int32).toInt = 0 by decide); simp only [Int32.le_iff_toInt_le, Int32.lt_iff_toInt_lt, ← Int32.toInt_inj] at c0 c1; omega
  · refine ab_aload_n d_MO_fault_9 rfl ?_
    refine ab_getf (fs := (m_fv (vI 0) (vI 0) (vI 0) (vI 0) (vI 0) (vI 0) (vI 0) (vI 0) (vI 0) (vI 0) (vI 0) (vI 0) (vI (-1)) (vI 0) (vI 0) (vI 0) (vI 0) (vI 0) (vI 0) (vI 0) (vI 0) (vI 0) (vI 0) (vI 0) (vI 0) (vI 0) (vI 0) (vI 0) (vI 0) (vI 0) (vI 0) (vI 0) (vI 0) (vI 0) (vI 0))) f_MO_273 d_MO_fault_10 h80 rfl ?_
    refine ab_goto (tgt := 29) d_MO_fault_13 (by decide) ?_
    exact ab_iret (rt := .int) rfl rfl d_MO_fault_29 (by rw [hQ]; exact ⟨rfl, hfr, hlen, hsl, h80⟩)
set_option maxRecDepth 100000 in
set_option maxHeartbeats 4000000 in
theorem lc_3a {X : ab_X} {d : Nat} {G : ab_G} {xs : Nat → Int32} (hlen : G.length = 149) (hsl : ab_slots G = 1832133) (h0 : G[0]? = some (ab_if 6 (xs))) (h18 : G[18]? = some (ab_ob 0 [vR 19, vR 20, vR 22, vR 30, vR 31, vR 36, vR 37, vR 46, vR 51, vR 60, vR 69, vR 70, vR 72, vR 74, vR 76, vR 78, vI 0, vI 0])) (h22 : G[22]? = some (ab_ob 6 [vR 23, vR 27, vI 0, vI 0, vI 0, vR 28, vR 29, vI 0, vI 0, vI 0])) (h23 : G[23]? = some (ab_ob 10 [vR 24, vR 26, vI 0, vI 0, vI 0, vI (-1), vR 1, vI 0])) (h80 : G[80]? = some (ab_ob 12 (m_fv (vI 0) (vI 0) (vI 0) (vI 0) (vI 0) (vI 0) (vI 0) (vI 0) (vI 0) (vI 0) (vI 0) (vI 0) (vI (-1)) (vI 0) (vI 0) (vI 0) (vI 0) (vI 0) (vI 0) (vI 0) (vI 0) (vI 0) (vI 0) (vI 0) (vI 0) (vI 0) (vI 0) (vI 0) (vI 0) (vI 0) (vI 0) (vI 0) (vI 0) (vI 0) (vI 0)))) (c0 : (xs 1) = 0) (hd : 1 ≤ d) : ab_W X ab_LW d G 296 [some (vR 0), some (vR 18), some (vR 80), some (vR 148), some (vI 0), none, none] [] (fun o _ => o = .returned (some (vI 1))) := by
  obtain ⟨Q, hQ⟩ : ∃ z : Outcome → ab_G → Prop, z = (fun o _ => o = .returned (some (vI 1))) := ⟨_, rfl⟩
  rw [← hQ]
  have hfr : ab_fr [80] G G := ab_fr.rf
  refine ab_aload_n d_LA_law_296 rfl ?_
  refine ab_aload_n d_LA_law_297 rfl ?_
  refine ab_iload d_LA_law_298 rfl ?_
  refine ab_iconst (v := 1) d_LA_law_300 (by decide) ?_
  refine ab_iadd d_LA_law_301 ?_
  refine ab_topi (y := 1) (by decide) ?_
  refine ab_iald d_LA_law_302 h0 (by unfold vp_in; decide) ?_
  refine ab_topi (y := (xs 1)) rfl ?_
  refine ab_callV (d' := d - 1) (as := [vI (xs 1)]) (st := []) (r := _) (q_PW_fault_0 (xs := xs) hlen hsl h18 h22 h23 c0) (fun o G2 h => ⟨_, h.1⟩) (by omega) m_PW_fault ml_LA_56 im_PW_fault se_PW_fault c_PW h18 (Nat.le_of_ble_eq_true rfl) d_LA_law_303 rfl ?_
  intro v G1 hq
  obtain ⟨hv, hfk, hlen, hsl⟩ := hq
  cases hv
  have h0 := hfk.get (by decide) h0
  have h18 := hfk.get (by decide) h18
  have h22 := hfk.get (by decide) h22
  have h23 := hfk.get (by decide) h23
  have h80 := hfk.get (by decide) h80
  have hfr := hfr.cl hfk (by decide)
  change ab_W _ _ _ G1 306 [some (vR 0), some (vR 18), some (vR 80), some (vR 148), some (vI 0), none, none] [vI 0] _
  refine ab_aload_n d_LA_law_306 rfl ?_
  refine ab_aload_n d_LA_law_307 rfl ?_
  refine ab_iload d_LA_law_308 rfl ?_
  refine ab_iconst (v := 1) d_LA_law_310 (by decide) ?_
  refine ab_iadd d_LA_law_311 ?_
  refine ab_topi (y := 1) (by decide) ?_
  refine ab_iald d_LA_law_312 h0 (by unfold vp_in; decide) ?_
  refine ab_topi (y := (xs 1)) rfl ?_
  refine ab_callV (d' := d - 1) (as := [vI (xs 1)]) (st := [vI 0]) (r := _) (q_MO_fault_0 (xs := xs) hlen hsl h80 c0) (fun o G2 h => ⟨_, h.1⟩) (by omega) m_MO_fault ml_LA_59 im_MO_fault se_MO_fault c_MO h80 (Nat.le_of_ble_eq_true rfl) d_LA_law_313 rfl ?_
  intro v G2 hq
  obtain ⟨hv, hfk, hlen, hsl, h80⟩ := hq
  cases hv
  have h0 := hfk.get (by decide) h0
  have h18 := hfk.get (by decide) h18
  have h22 := hfk.get (by decide) h22
  have h23 := hfk.get (by decide) h23
  have hfr := hfr.cl hfk (by decide)
  change ab_W _ _ _ G2 316 [some (vR 0), some (vR 18), some (vR 80), some (vR 148), some (vI 0), none, none] [vI 0, vI 0] _
  refine ab_icmp_eq (tgt := 931) d_LA_law_316 (by decide) (fun _ => ?_) (fun c => absurd c (by decide))
  refine ab_iinc (v := 6) d_LA_law_931 rfl (by decide) (Nat.le_of_ble_eq_true rfl) (Nat.le_of_ble_eq_true rfl) rfl ?_
  change ab_W _ _ _ G2 934 [some (vR 0), some (vR 18), some (vR 80), some (vR 148), some (vI 6), none, none] [] _
  refine ab_goto (tgt := 23) d_LA_law_934 (by decide) ?_
  refine ab_iload d_LA_law_23 rfl ?_
  refine ab_aload_n d_LA_law_25 rfl ?_
  refine ab_alen (v := 6) d_LA_law_26 h0 (by first | decide | rfl) ?_
  refine ab_bipush (v := 6) d_LA_law_27 (by decide) ?_
  refine ab_isub d_LA_law_29 ?_
  refine ab_topi (y := 0) (by decide) ?_
  refine ab_icmp_gt (tgt := 937) d_LA_law_30 (by decide) (fun _ => ?_) (fun c => absurd c (by decide))
  refine ab_iconst (v := 1) d_LA_law_937 (by decide) ?_
  exact ab_iret (rt := .boolean) rfl (by decide) d_LA_law_938 (by rw [hQ])
set_option maxRecDepth 100000 in
set_option maxHeartbeats 4000000 in
theorem q_PW_fault_1 {X : ab_X} {d : Nat} {G : ab_G} {xs : Nat → Int32} (hlen : G.length = 149) (hsl : ab_slots G = 1832133) (h18 : G[18]? = some (ab_ob 0 [vR 19, vR 20, vR 22, vR 30, vR 31, vR 36, vR 37, vR 46, vR 51, vR 60, vR 69, vR 70, vR 72, vR 74, vR 76, vR 78, vI 0, vI 0])) (h22 : G[22]? = some (ab_ob 6 [vR 23, vR 27, vI 0, vI 0, vI 0, vR 28, vR 29, vI 0, vI 0, vI 0])) (h23 : G[23]? = some (ab_ob 10 [vR 24, vR 26, vI 0, vI 0, vI 0, vI (-1), vR 1, vI 0])) (c0 : ¬ (xs 1) = 0) : ab_F X d y_PW_fault (.code y_PW_fault b_PW_fault 2 (some (.int))) [vR 18, vI (xs 1)] G (fun o G2 => o = .returned (some (vI (-1))) ∧ ab_fr [] G G2 ∧ G2.length = 149 ∧ ab_slots G2 = 1832133) := by
  refine ab_F_of (by decide +kernel) (Nat.le_of_ble_eq_true rfl) ?_
  obtain ⟨Q, hQ⟩ : ∃ z : Outcome → ab_G → Prop, z = (fun o G2 => o = .returned (some (vI (-1))) ∧ ab_fr [] G G2 ∧ G2.length = 149 ∧ ab_slots G2 = 1832133) := ⟨_, rfl⟩
  rw [← hQ]
  change ab_W X (ab_pl y_PW_fault b_PW_fault 2 (some (.int))) d G 0 [some (vR 18), some (vI (xs 1))] [] Q
  have hfr : ab_fr [] G G := ab_fr.rf
  refine ab_iload_n d_PW_fault_0 rfl ?_
  refine ab_if_ne (tgt := 15) d_PW_fault_1 (by decide) (fun c1 => ?_) (fun c1 => ?_)
  · refine ab_iload_n d_PW_fault_15 rfl ?_
    refine ab_iconst (v := 1) d_PW_fault_16 (by decide) ?_
    refine ab_icmp_ne (tgt := 33) d_PW_fault_17 (by decide) (fun c2 => ?_) (fun c2 => ?_)
    · refine ab_iconst (v := (-1)) d_PW_fault_33 (by decide) ?_
      exact ab_iret (rt := .int) rfl rfl d_PW_fault_34 (by rw [hQ]; exact ⟨rfl, hfr, hlen, hsl⟩)
    · refine ab_aload_n d_PW_fault_20 rfl ?_
      refine ab_getf (fs := [vR 19, vR 20, vR 22, vR 30, vR 31, vR 36, vR 37, vR 46, vR 51, vR 60, vR 69, vR 70, vR 72, vR 74, vR 76, vR 78, vI 0, vI 0]) f_PW_25 d_PW_fault_21 h18 rfl ?_
      refine ab_getf (fs := [vR 23, vR 27, vI 0, vI 0, vI 0, vR 28, vR 29, vI 0, vI 0, vI 0]) f_PW_136 d_PW_fault_24 h22 rfl ?_
      refine ab_getf (fs := [vR 24, vR 26, vI 0, vI 0, vI 0, vI (-1), vR 1, vI 0]) f_PW_145 d_PW_fault_27 h23 rfl ?_
      refine ab_goto (tgt := 34) d_PW_fault_30 (by decide) ?_
      exact ab_iret (rt := .int) rfl rfl d_PW_fault_34 (by rw [hQ]; exact ⟨rfl, hfr, hlen, hsl⟩)
  · exfalso; have l0 := (show (0 : Int32).toInt = 0 by decide); simp only [Int32.le_iff_toInt_le, Int32.lt_iff_toInt_lt, ← Int32.toInt_inj] at c0 c1; omega
set_option maxRecDepth 100000 in
set_option maxHeartbeats 4000000 in
theorem q_MO_fault_1 {X : ab_X} {d : Nat} {G : ab_G} {xs : Nat → Int32} (hlen : G.length = 149) (hsl : ab_slots G = 1832133) (h80 : G[80]? = some (ab_ob 12 (m_fv (vI 0) (vI 0) (vI 0) (vI 0) (vI 0) (vI 0) (vI 0) (vI 0) (vI 0) (vI 0) (vI 0) (vI 0) (vI (-1)) (vI 0) (vI 0) (vI 0) (vI 0) (vI 0) (vI 0) (vI 0) (vI 0) (vI 0) (vI 0) (vI 0) (vI 0) (vI 0) (vI 0) (vI 0) (vI 0) (vI 0) (vI 0) (vI 0) (vI 0) (vI 0) (vI 0)))) (c0 : ¬ (xs 1) = 0) : ab_F X d y_MO_fault (.code y_MO_fault b_MO_fault 2 (some (.int))) [vR 80, vI (xs 1)] G (fun o G2 => o = .returned (some (vI (-1))) ∧ ab_fr [80] G G2 ∧ G2.length = 149 ∧ ab_slots G2 = 1832133 ∧ G2[80]? = some (ab_ob 12 (m_fv (vI 0) (vI 0) (vI 0) (vI 0) (vI 0) (vI 0) (vI 0) (vI 0) (vI 0) (vI 0) (vI 0) (vI 0) (vI (-1)) (vI 0) (vI 0) (vI 0) (vI 0) (vI 0) (vI 0) (vI 0) (vI 0) (vI 0) (vI 0) (vI 0) (vI 0) (vI 0) (vI 0) (vI 0) (vI 0) (vI 0) (vI 0) (vI 0) (vI 0) (vI 0) (vI 0)))) := by
  refine ab_F_of (by decide +kernel) (Nat.le_of_ble_eq_true rfl) ?_
  obtain ⟨Q, hQ⟩ : ∃ z : Outcome → ab_G → Prop, z = (fun o G2 => o = .returned (some (vI (-1))) ∧ ab_fr [80] G G2 ∧ G2.length = 149 ∧ ab_slots G2 = 1832133 ∧ G2[80]? = some (ab_ob 12 (m_fv (vI 0) (vI 0) (vI 0) (vI 0) (vI 0) (vI 0) (vI 0) (vI 0) (vI 0) (vI 0) (vI 0) (vI 0) (vI (-1)) (vI 0) (vI 0) (vI 0) (vI 0) (vI 0) (vI 0) (vI 0) (vI 0) (vI 0) (vI 0) (vI 0) (vI 0) (vI 0) (vI 0) (vI 0) (vI 0) (vI 0) (vI 0) (vI 0) (vI 0) (vI 0) (vI 0)))) := ⟨_, rfl⟩
  rw [← hQ]
  change ab_W X (ab_pl y_MO_fault b_MO_fault 2 (some (.int))) d G 0 [some (vR 80), some (vI (xs 1))] [] Q
  have hfr : ab_fr [80] G G := ab_fr.rf
  refine ab_aload_n d_MO_fault_0 rfl ?_
  refine ab_iconst (v := 0) d_MO_fault_1 (by decide) ?_
  refine ab_putf (fs := (m_fv (vI 0) (vI 0) (vI 0) (vI 0) (vI 0) (vI 0) (vI 0) (vI 0) (vI 0) (vI 0) (vI 0) (vI 0) (vI (-1)) (vI 0) (vI 0) (vI 0) (vI 0) (vI 0) (vI 0) (vI 0) (vI 0) (vI 0) (vI 0) (vI 0) (vI 0) (vI 0) (vI 0) (vI 0) (vI 0) (vI 0) (vI 0) (vI 0) (vI 0) (vI 0) (vI 0))) f_MO_220 (Or.inl rfl) d_MO_fault_2 h80 (Nat.le_of_ble_eq_true rfl) (fun _ => ⟨rfl, rfl⟩) (by decide) ?_
  obtain ⟨G1, eG1⟩ : ∃ z : ab_G, z = List.set G 80 (ab_ob 12 (m_fv (vI 0) (vI 0) (vI 0) (vI 0) (vI 0) (vI 0) (vI 0) (vI 0) (vI 0) (vI 0) (vI 0) (vI 0) (vI (-1)) (vI 0) (vI 0) (vI 0) (vI 0) (vI 0) (vI 0) (vI 0) (vI 0) (vI 0) (vI 0) (vI 0) (vI 0) (vI 0) (vI 0) (vI 0) (vI 0) (vI 0) (vI 0) (vI 0) (vI 0) (vI 0) (vI 0))) := ⟨_, rfl⟩
  have hlen := ab_klen eG1 hlen
  have hsl := ab_ksl 102 eG1 h80 rfl rfl hsl
  have hfr := hfr.wr eG1 (by decide)
  have h80 := ab_kept eG1 h80
  change ab_W _ _ _ (List.set G 80 (ab_ob 12 (m_fv (vI 0) (vI 0) (vI 0) (vI 0) (vI 0) (vI 0) (vI 0) (vI 0) (vI 0) (vI 0) (vI 0) (vI 0) (vI (-1)) (vI 0) (vI 0) (vI 0) (vI 0) (vI 0) (vI 0) (vI 0) (vI 0) (vI 0) (vI 0) (vI 0) (vI 0) (vI 0) (vI 0) (vI 0) (vI 0) (vI 0) (vI 0) (vI 0) (vI 0) (vI 0) (vI 0)))) 5 [some (vR 80), some (vI (xs 1))] [] _
  rw [← eG1]
  refine ab_iload_n d_MO_fault_5 rfl ?_
  refine ab_if_ne (tgt := 16) d_MO_fault_6 (by decide) (fun c1 => ?_) (fun c1 => ?_)
  · refine ab_iload_n d_MO_fault_16 rfl ?_
    refine ab_iconst (v := 1) d_MO_fault_17 (by decide) ?_
    refine ab_icmp_ne (tgt := 28) d_MO_fault_18 (by decide) (fun c2 => ?_) (fun c2 => ?_)
    · refine ab_iconst (v := (-1)) d_MO_fault_28 (by decide) ?_
      exact ab_iret (rt := .int) rfl rfl d_MO_fault_29 (by rw [hQ]; exact ⟨rfl, hfr, hlen, hsl, h80⟩)
    · refine ab_aload_n d_MO_fault_21 rfl ?_
      refine ab_getf (fs := (m_fv (vI 0) (vI 0) (vI 0) (vI 0) (vI 0) (vI 0) (vI 0) (vI 0) (vI 0) (vI 0) (vI 0) (vI 0) (vI (-1)) (vI 0) (vI 0) (vI 0) (vI 0) (vI 0) (vI 0) (vI 0) (vI 0) (vI 0) (vI 0) (vI 0) (vI 0) (vI 0) (vI 0) (vI 0) (vI 0) (vI 0) (vI 0) (vI 0) (vI 0) (vI 0) (vI 0))) f_MO_75 d_MO_fault_22 h80 rfl ?_
      refine ab_goto (tgt := 29) d_MO_fault_25 (by decide) ?_
      exact ab_iret (rt := .int) rfl rfl d_MO_fault_29 (by rw [hQ]; exact ⟨rfl, hfr, hlen, hsl, h80⟩)
  · exfalso; have l0 := (show (0 : Int32).toInt = 0 by decide); simp only [Int32.le_iff_toInt_le, Int32.lt_iff_toInt_lt, ← Int32.toInt_inj] at c0 c1; omega
set_option maxRecDepth 100000 in
set_option maxHeartbeats 4000000 in
theorem lc_3b {X : ab_X} {d : Nat} {G : ab_G} {xs : Nat → Int32} (hlen : G.length = 149) (hsl : ab_slots G = 1832133) (h0 : G[0]? = some (ab_if 6 (xs))) (h18 : G[18]? = some (ab_ob 0 [vR 19, vR 20, vR 22, vR 30, vR 31, vR 36, vR 37, vR 46, vR 51, vR 60, vR 69, vR 70, vR 72, vR 74, vR 76, vR 78, vI 0, vI 0])) (h22 : G[22]? = some (ab_ob 6 [vR 23, vR 27, vI 0, vI 0, vI 0, vR 28, vR 29, vI 0, vI 0, vI 0])) (h23 : G[23]? = some (ab_ob 10 [vR 24, vR 26, vI 0, vI 0, vI 0, vI (-1), vR 1, vI 0])) (h80 : G[80]? = some (ab_ob 12 (m_fv (vI 0) (vI 0) (vI 0) (vI 0) (vI 0) (vI 0) (vI 0) (vI 0) (vI 0) (vI 0) (vI 0) (vI 0) (vI (-1)) (vI 0) (vI 0) (vI 0) (vI 0) (vI 0) (vI 0) (vI 0) (vI 0) (vI 0) (vI 0) (vI 0) (vI 0) (vI 0) (vI 0) (vI 0) (vI 0) (vI 0) (vI 0) (vI 0) (vI 0) (vI 0) (vI 0)))) (c0 : ¬ (xs 1) = 0) (hd : 1 ≤ d) : ab_W X ab_LW d G 296 [some (vR 0), some (vR 18), some (vR 80), some (vR 148), some (vI 0), none, none] [] (fun o _ => o = .returned (some (vI 1))) := by
  obtain ⟨Q, hQ⟩ : ∃ z : Outcome → ab_G → Prop, z = (fun o _ => o = .returned (some (vI 1))) := ⟨_, rfl⟩
  rw [← hQ]
  have hfr : ab_fr [80] G G := ab_fr.rf
  refine ab_aload_n d_LA_law_296 rfl ?_
  refine ab_aload_n d_LA_law_297 rfl ?_
  refine ab_iload d_LA_law_298 rfl ?_
  refine ab_iconst (v := 1) d_LA_law_300 (by decide) ?_
  refine ab_iadd d_LA_law_301 ?_
  refine ab_topi (y := 1) (by decide) ?_
  refine ab_iald d_LA_law_302 h0 (by unfold vp_in; decide) ?_
  refine ab_topi (y := (xs 1)) rfl ?_
  refine ab_callV (d' := d - 1) (as := [vI (xs 1)]) (st := []) (r := _) (q_PW_fault_1 (xs := xs) hlen hsl h18 h22 h23 c0) (fun o G2 h => ⟨_, h.1⟩) (by omega) m_PW_fault ml_LA_56 im_PW_fault se_PW_fault c_PW h18 (Nat.le_of_ble_eq_true rfl) d_LA_law_303 rfl ?_
  intro v G1 hq
  obtain ⟨hv, hfk, hlen, hsl⟩ := hq
  cases hv
  have h0 := hfk.get (by decide) h0
  have h18 := hfk.get (by decide) h18
  have h22 := hfk.get (by decide) h22
  have h23 := hfk.get (by decide) h23
  have h80 := hfk.get (by decide) h80
  have hfr := hfr.cl hfk (by decide)
  change ab_W _ _ _ G1 306 [some (vR 0), some (vR 18), some (vR 80), some (vR 148), some (vI 0), none, none] [vI (-1)] _
  refine ab_aload_n d_LA_law_306 rfl ?_
  refine ab_aload_n d_LA_law_307 rfl ?_
  refine ab_iload d_LA_law_308 rfl ?_
  refine ab_iconst (v := 1) d_LA_law_310 (by decide) ?_
  refine ab_iadd d_LA_law_311 ?_
  refine ab_topi (y := 1) (by decide) ?_
  refine ab_iald d_LA_law_312 h0 (by unfold vp_in; decide) ?_
  refine ab_topi (y := (xs 1)) rfl ?_
  refine ab_callV (d' := d - 1) (as := [vI (xs 1)]) (st := [vI (-1)]) (r := _) (q_MO_fault_1 (xs := xs) hlen hsl h80 c0) (fun o G2 h => ⟨_, h.1⟩) (by omega) m_MO_fault ml_LA_59 im_MO_fault se_MO_fault c_MO h80 (Nat.le_of_ble_eq_true rfl) d_LA_law_313 rfl ?_
  intro v G2 hq
  obtain ⟨hv, hfk, hlen, hsl, h80⟩ := hq
  cases hv
  have h0 := hfk.get (by decide) h0
  have h18 := hfk.get (by decide) h18
  have h22 := hfk.get (by decide) h22
  have h23 := hfk.get (by decide) h23
  have hfr := hfr.cl hfk (by decide)
  change ab_W _ _ _ G2 316 [some (vR 0), some (vR 18), some (vR 80), some (vR 148), some (vI 0), none, none] [vI (-1), vI (-1)] _
  refine ab_icmp_eq (tgt := 931) d_LA_law_316 (by decide) (fun _ => ?_) (fun c => absurd c (by decide))
  refine ab_iinc (v := 6) d_LA_law_931 rfl (by decide) (Nat.le_of_ble_eq_true rfl) (Nat.le_of_ble_eq_true rfl) rfl ?_
  change ab_W _ _ _ G2 934 [some (vR 0), some (vR 18), some (vR 80), some (vR 148), some (vI 6), none, none] [] _
  refine ab_goto (tgt := 23) d_LA_law_934 (by decide) ?_
  refine ab_iload d_LA_law_23 rfl ?_
  refine ab_aload_n d_LA_law_25 rfl ?_
  refine ab_alen (v := 6) d_LA_law_26 h0 (by first | decide | rfl) ?_
  refine ab_bipush (v := 6) d_LA_law_27 (by decide) ?_
  refine ab_isub d_LA_law_29 ?_
  refine ab_topi (y := 0) (by decide) ?_
  refine ab_icmp_gt (tgt := 937) d_LA_law_30 (by decide) (fun _ => ?_) (fun c => absurd c (by decide))
  refine ab_iconst (v := 1) d_LA_law_937 (by decide) ?_
  exact ab_iret (rt := .boolean) rfl (by decide) d_LA_law_938 (by rw [hQ])
set_option maxRecDepth 100000 in
set_option maxHeartbeats 4000000 in
theorem q_PW_programAt_0 {X : ab_X} {d : Nat} {G : ab_G} {xs : Nat → Int32} (hlen : G.length = 149) (hsl : ab_slots G = 1832133) (h18 : G[18]? = some (ab_ob 0 [vR 19, vR 20, vR 22, vR 30, vR 31, vR 36, vR 37, vR 46, vR 51, vR 60, vR 69, vR 70, vR 72, vR 74, vR 76, vR 78, vI 0, vI 0])) (h30 : G[30]? = some (.inl (3, 6, .inr (.inr (.inr (.inr (fun _ => none))))))) : ab_F X d y_PW_programAt (.code y_PW_programAt b_PW_programAt 2 (some (.object "PatternWorks$Program"))) [vR 18, vI (xs 1)] G (fun o G2 => o = .returned (some (vN)) ∧ ab_fr [] G G2 ∧ G2.length = 149 ∧ ab_slots G2 = 1832133) := by
  refine ab_F_of (by decide +kernel) (Nat.le_of_ble_eq_true rfl) ?_
  obtain ⟨Q, hQ⟩ : ∃ z : Outcome → ab_G → Prop, z = (fun o G2 => o = .returned (some (vN)) ∧ ab_fr [] G G2 ∧ G2.length = 149 ∧ ab_slots G2 = 1832133) := ⟨_, rfl⟩
  rw [← hQ]
  change ab_W X (ab_pl y_PW_programAt b_PW_programAt 2 (some (.object "PatternWorks$Program"))) d G 0 [some (vR 18), some (vI (xs 1))] [] Q
  have hfr : ab_fr [] G G := ab_fr.rf
  refine ab_iload_n d_PW_programAt_0 rfl ?_
  refine ab_if_lt (tgt := 19) d_PW_programAt_1 (by decide) (fun c0 => ?_) (fun c0 => ?_)
  · refine ab_null d_PW_programAt_19 ?_
    exact ab_aret (rt := _) rfl (Or.inl ⟨_, rfl⟩) (Or.inl rfl) d_PW_programAt_20 (by rw [hQ]; exact ⟨rfl, hfr, hlen, hsl⟩)
  · refine ab_iload_n d_PW_programAt_4 rfl ?_
    refine ab_bipush (v := 6) d_PW_programAt_5 (by decide) ?_
    refine ab_icmp_ge (tgt := 19) d_PW_programAt_7 (by decide) (fun c1 => ?_) (fun c1 => ?_)
    · refine ab_null d_PW_programAt_19 ?_
      exact ab_aret (rt := _) rfl (Or.inl ⟨_, rfl⟩) (Or.inl rfl) d_PW_programAt_20 (by rw [hQ]; exact ⟨rfl, hfr, hlen, hsl⟩)
    · refine ab_aload_n d_PW_programAt_10 rfl ?_
      refine ab_getf (fs := [vR 19, vR 20, vR 22, vR 30, vR 31, vR 36, vR 37, vR 46, vR 51, vR 60, vR 69, vR 70, vR 72, vR 74, vR 76, vR 78, vI 0, vI 0]) f_PW_31 d_PW_programAt_11 h18 rfl ?_
      refine ab_iload_n d_PW_programAt_14 rfl ?_
      refine ab_aald d_PW_programAt_15 h30 (vp_in_iff.mpr (by have l0 := (show (0 : Int32).toInt = 0 by decide); have l1 := (show (6 : Int32).toInt = 6 by decide); simp only [Int32.le_iff_toInt_le, Int32.lt_iff_toInt_lt, ← Int32.toInt_inj] at c0 c1; constructor <;> omega)) ?_
      refine ab_topv (y := vN) rfl ?_
      refine ab_goto (tgt := 20) d_PW_programAt_16 (by decide) ?_
      exact ab_aret (rt := _) rfl (Or.inl ⟨_, rfl⟩) (Or.inl rfl) d_PW_programAt_20 (by rw [hQ]; exact ⟨rfl, hfr, hlen, hsl⟩)
set_option maxRecDepth 100000 in
set_option maxHeartbeats 4000000 in
theorem q_PW_about_0 {X : ab_X} {d : Nat} {G : ab_G} {xs : Nat → Int32} (hlen : G.length = 149) (hsl : ab_slots G = 1832133) (h18 : G[18]? = some (ab_ob 0 [vR 19, vR 20, vR 22, vR 30, vR 31, vR 36, vR 37, vR 46, vR 51, vR 60, vR 69, vR 70, vR 72, vR 74, vR 76, vR 78, vI 0, vI 0])) (h30 : G[30]? = some (.inl (3, 6, .inr (.inr (.inr (.inr (fun _ => none))))))) (hd : 1 ≤ d) : ab_F X d y_PW_about (.code y_PW_about b_PW_about 4 (some (.int))) [vR 18, vI (xs 1), vI (xs 2)] G (fun o G2 => o = .returned (some (vI (-1))) ∧ ab_fr [] G G2 ∧ G2.length = 149 ∧ ab_slots G2 = 1832133) := by
  refine ab_F_of (by decide +kernel) (Nat.le_of_ble_eq_true rfl) ?_
  obtain ⟨Q, hQ⟩ : ∃ z : Outcome → ab_G → Prop, z = (fun o G2 => o = .returned (some (vI (-1))) ∧ ab_fr [] G G2 ∧ G2.length = 149 ∧ ab_slots G2 = 1832133) := ⟨_, rfl⟩
  rw [← hQ]
  change ab_W X (ab_pl y_PW_about b_PW_about 4 (some (.int))) d G 0 [some (vR 18), some (vI (xs 1)), some (vI (xs 2)), none] [] Q
  have hfr : ab_fr [] G G := ab_fr.rf
  refine ab_aload_n d_PW_about_0 rfl ?_
  refine ab_iload_n d_PW_about_1 rfl ?_
  refine ab_callV (d' := d - 1) (as := [vI (xs 1)]) (st := []) (r := _) (q_PW_programAt_0 (xs := xs) hlen hsl h18 h30) (fun o G2 h => ⟨_, h.1⟩) (by omega) m_PW_programAt ml_PW_148 im_PW_programAt se_PW_programAt c_PW h18 (Nat.le_of_ble_eq_true rfl) d_PW_about_2 rfl ?_
  intro v G1 hq
  obtain ⟨hv, hfk, hlen, hsl⟩ := hq
  cases hv
  have h18 := hfk.get (by decide) h18
  have h30 := hfk.get (by decide) h30
  have hfr := hfr.cl hfk (by decide)
  change ab_W _ _ _ G1 5 [some (vR 18), some (vI (xs 1)), some (vI (xs 2)), none] [vN] _
  refine ab_astore_nN d_PW_about_5 (Nat.le_of_ble_eq_true rfl) (Nat.le_of_ble_eq_true rfl) rfl ?_
  change ab_W _ _ _ G1 6 [some (vR 18), some (vI (xs 1)), some (vI (xs 2)), some (vN)] [] _
  refine ab_aload_nN d_PW_about_6 rfl ?_
  refine ab_ifnullN (tgt := 19) d_PW_about_7 (by decide) ?_
  refine ab_iconst (v := (-1)) d_PW_about_19 (by decide) ?_
  exact ab_iret (rt := .int) rfl rfl d_PW_about_20 (by rw [hQ]; exact ⟨rfl, hfr, hlen, hsl⟩)
set_option maxRecDepth 100000 in
set_option maxHeartbeats 4000000 in
theorem q_MO_isThere_0 {X : ab_X} {d : Nat} {G : ab_G} {xs : Nat → Int32} (hlen : G.length = 149) (hsl : ab_slots G = 1832133) (h80 : G[80]? = some (ab_ob 12 (m_fv (vI 0) (vI 0) (vI 0) (vI 0) (vI 0) (vI 0) (vI 0) (vI 0) (vI 0) (vI 0) (vI 0) (vI 0) (vI (-1)) (vI 0) (vI 0) (vI 0) (vI 0) (vI 0) (vI 0) (vI 0) (vI 0) (vI 0) (vI 0) (vI 0) (vI 0) (vI 0) (vI 0) (vI 0) (vI 0) (vI 0) (vI 0) (vI 0) (vI 0) (vI 0) (vI 0)))) (h112 : G[112]? = some (ab_zf 6 ((fun _ => 0)))) : ab_F X d y_MO_isThere (.code y_MO_isThere b_MO_isThere 2 (some (.boolean))) [vR 80, vI (xs 1)] G (fun o G2 => o = .returned (some (vI 0)) ∧ ab_fr [] G G2 ∧ G2.length = 149 ∧ ab_slots G2 = 1832133) := by
  refine ab_F_of (by decide +kernel) (Nat.le_of_ble_eq_true rfl) ?_
  obtain ⟨Q, hQ⟩ : ∃ z : Outcome → ab_G → Prop, z = (fun o G2 => o = .returned (some (vI 0)) ∧ ab_fr [] G G2 ∧ G2.length = 149 ∧ ab_slots G2 = 1832133) := ⟨_, rfl⟩
  rw [← hQ]
  change ab_W X (ab_pl y_MO_isThere b_MO_isThere 2 (some (.boolean))) d G 0 [some (vR 80), some (vI (xs 1))] [] Q
  have hfr : ab_fr [] G G := ab_fr.rf
  refine ab_iload_n d_MO_isThere_0 rfl ?_
  refine ab_if_lt (tgt := 23) d_MO_isThere_1 (by decide) (fun c0 => ?_) (fun c0 => ?_)
  · refine ab_iconst (v := 0) d_MO_isThere_23 (by decide) ?_
    exact ab_iret (rt := .boolean) rfl (by decide) d_MO_isThere_24 (by rw [hQ]; exact ⟨rfl, hfr, hlen, hsl⟩)
  · refine ab_iload_n d_MO_isThere_4 rfl ?_
    refine ab_bipush (v := 6) d_MO_isThere_5 (by decide) ?_
    refine ab_icmp_ge (tgt := 23) d_MO_isThere_7 (by decide) (fun c1 => ?_) (fun c1 => ?_)
    · refine ab_iconst (v := 0) d_MO_isThere_23 (by decide) ?_
      exact ab_iret (rt := .boolean) rfl (by decide) d_MO_isThere_24 (by rw [hQ]; exact ⟨rfl, hfr, hlen, hsl⟩)
    · refine ab_aload_n d_MO_isThere_10 rfl ?_
      refine ab_getf (fs := (m_fv (vI 0) (vI 0) (vI 0) (vI 0) (vI 0) (vI 0) (vI 0) (vI 0) (vI 0) (vI 0) (vI 0) (vI 0) (vI (-1)) (vI 0) (vI 0) (vI 0) (vI 0) (vI 0) (vI 0) (vI 0) (vI 0) (vI 0) (vI 0) (vI 0) (vI 0) (vI 0) (vI 0) (vI 0) (vI 0) (vI 0) (vI 0) (vI 0) (vI 0) (vI 0) (vI 0))) f_MO_109 d_MO_isThere_11 h80 rfl ?_
      refine ab_iload_n d_MO_isThere_14 rfl ?_
      refine ab_zald d_MO_isThere_15 h112 (vp_in_iff.mpr (by have l0 := (show (0 : Int32).toInt = 0 by decide); have l1 := (show (6 : Int32).toInt = 6 by decide); simp only [Int32.le_iff_toInt_le, Int32.lt_iff_toInt_lt, ← Int32.toInt_inj] at c0 c1; constructor <;> omega)) ?_
      refine ab_topi (y := 0) rfl ?_
      refine ab_if_eq (tgt := 23) d_MO_isThere_16 (by decide) (fun _ => ?_) (fun c => absurd c (by decide))
      refine ab_iconst (v := 0) d_MO_isThere_23 (by decide) ?_
      exact ab_iret (rt := .boolean) rfl (by decide) d_MO_isThere_24 (by rw [hQ]; exact ⟨rfl, hfr, hlen, hsl⟩)
set_option maxRecDepth 100000 in
set_option maxHeartbeats 4000000 in
theorem q_MO_about_0 {X : ab_X} {d : Nat} {G : ab_G} {xs : Nat → Int32} (hlen : G.length = 149) (hsl : ab_slots G = 1832133) (h80 : G[80]? = some (ab_ob 12 (m_fv (vI 0) (vI 0) (vI 0) (vI 0) (vI 0) (vI 0) (vI 0) (vI 0) (vI 0) (vI 0) (vI 0) (vI 0) (vI (-1)) (vI 0) (vI 0) (vI 0) (vI 0) (vI 0) (vI 0) (vI 0) (vI 0) (vI 0) (vI 0) (vI 0) (vI 0) (vI 0) (vI 0) (vI 0) (vI 0) (vI 0) (vI 0) (vI 0) (vI 0) (vI 0) (vI 0)))) (h112 : G[112]? = some (ab_zf 6 ((fun _ => 0)))) (hd : 1 ≤ d) : ab_F X d y_MO_about (.code y_MO_about b_MO_about 3 (some (.int))) [vR 80, vI (xs 1), vI (xs 2)] G (fun o G2 => o = .returned (some (vI (-1))) ∧ ab_fr [80] G G2 ∧ G2.length = 149 ∧ ab_slots G2 = 1832133 ∧ G2[80]? = some (ab_ob 12 (m_fv (vI 0) (vI 0) (vI 0) (vI 0) (vI 0) (vI 0) (vI 0) (vI 0) (vI 0) (vI 0) (vI 0) (vI 0) (vI (-1)) (vI 0) (vI 0) (vI 0) (vI 0) (vI 0) (vI 0) (vI 0) (vI 0) (vI 0) (vI 0) (vI 0) (vI 0) (vI 0) (vI 0) (vI 0) (vI 0) (vI 0) (vI 0) (vI 0) (vI 0) (vI 0) (vI 0)))) := by
  refine ab_F_of (by decide +kernel) (Nat.le_of_ble_eq_true rfl) ?_
  obtain ⟨Q, hQ⟩ : ∃ z : Outcome → ab_G → Prop, z = (fun o G2 => o = .returned (some (vI (-1))) ∧ ab_fr [80] G G2 ∧ G2.length = 149 ∧ ab_slots G2 = 1832133 ∧ G2[80]? = some (ab_ob 12 (m_fv (vI 0) (vI 0) (vI 0) (vI 0) (vI 0) (vI 0) (vI 0) (vI 0) (vI 0) (vI 0) (vI 0) (vI 0) (vI (-1)) (vI 0) (vI 0) (vI 0) (vI 0) (vI 0) (vI 0) (vI 0) (vI 0) (vI 0) (vI 0) (vI 0) (vI 0) (vI 0) (vI 0) (vI 0) (vI 0) (vI 0) (vI 0) (vI 0) (vI 0) (vI 0) (vI 0)))) := ⟨_, rfl⟩
  rw [← hQ]
  change ab_W X (ab_pl y_MO_about b_MO_about 3 (some (.int))) d G 0 [some (vR 80), some (vI (xs 1)), some (vI (xs 2))] [] Q
  have hfr : ab_fr [80] G G := ab_fr.rf
  refine ab_aload_n d_MO_about_0 rfl ?_
  refine ab_iconst (v := 0) d_MO_about_1 (by decide) ?_
  refine ab_putf (fs := (m_fv (vI 0) (vI 0) (vI 0) (vI 0) (vI 0) (vI 0) (vI 0) (vI 0) (vI 0) (vI 0) (vI 0) (vI 0) (vI (-1)) (vI 0) (vI 0) (vI 0) (vI 0) (vI 0) (vI 0) (vI 0) (vI 0) (vI 0) (vI 0) (vI 0) (vI 0) (vI 0) (vI 0) (vI 0) (vI 0) (vI 0) (vI 0) (vI 0) (vI 0) (vI 0) (vI 0))) f_MO_220 (Or.inl rfl) d_MO_about_2 h80 (Nat.le_of_ble_eq_true rfl) (fun _ => ⟨rfl, rfl⟩) (by decide) ?_
  obtain ⟨G1, eG1⟩ : ∃ z : ab_G, z = List.set G 80 (ab_ob 12 (m_fv (vI 0) (vI 0) (vI 0) (vI 0) (vI 0) (vI 0) (vI 0) (vI 0) (vI 0) (vI 0) (vI 0) (vI 0) (vI (-1)) (vI 0) (vI 0) (vI 0) (vI 0) (vI 0) (vI 0) (vI 0) (vI 0) (vI 0) (vI 0) (vI 0) (vI 0) (vI 0) (vI 0) (vI 0) (vI 0) (vI 0) (vI 0) (vI 0) (vI 0) (vI 0) (vI 0))) := ⟨_, rfl⟩
  have h112 := ab_keep eG1 (by decide) h112
  have hlen := ab_klen eG1 hlen
  have hsl := ab_ksl 102 eG1 h80 rfl rfl hsl
  have hfr := hfr.wr eG1 (by decide)
  have h80 := ab_kept eG1 h80
  change ab_W _ _ _ (List.set G 80 (ab_ob 12 (m_fv (vI 0) (vI 0) (vI 0) (vI 0) (vI 0) (vI 0) (vI 0) (vI 0) (vI 0) (vI 0) (vI 0) (vI 0) (vI (-1)) (vI 0) (vI 0) (vI 0) (vI 0) (vI 0) (vI 0) (vI 0) (vI 0) (vI 0) (vI 0) (vI 0) (vI 0) (vI 0) (vI 0) (vI 0) (vI 0) (vI 0) (vI 0) (vI 0) (vI 0) (vI 0) (vI 0)))) 5 [some (vR 80), some (vI (xs 1)), some (vI (xs 2))] [] _
  rw [← eG1]
  refine ab_aload_n d_MO_about_5 rfl ?_
  refine ab_iload_n d_MO_about_6 rfl ?_
  refine ab_callV (d' := d - 1) (as := [vI (xs 1)]) (st := []) (r := _) (q_MO_isThere_0 (xs := xs) hlen hsl h80 h112) (fun o G2 h => ⟨_, h.1⟩) (by omega) m_MO_isThere ml_MO_507 im_MO_isThere se_MO_isThere c_MO h80 (Nat.le_of_ble_eq_true rfl) d_MO_about_7 rfl ?_
  intro v G2 hq
  obtain ⟨hv, hfk, hlen, hsl⟩ := hq
  cases hv
  have h80 := hfk.get (by decide) h80
  have h112 := hfk.get (by decide) h112
  have hfr := hfr.cl hfk (by decide)
  change ab_W _ _ _ G2 10 [some (vR 80), some (vI (xs 1)), some (vI (xs 2))] [vI 0] _
  refine ab_if_ne (tgt := 17) d_MO_about_10 (by decide) (fun c => absurd c (by decide)) (fun _ => ?_)
  refine ab_iconst (v := (-1)) d_MO_about_13 (by decide) ?_
  refine ab_goto (tgt := 59) d_MO_about_14 (by decide) ?_
  exact ab_iret (rt := .int) rfl rfl d_MO_about_59 (by rw [hQ]; exact ⟨rfl, hfr, hlen, hsl, h80⟩)
set_option maxRecDepth 100000 in
set_option maxHeartbeats 4000000 in
theorem lc_4 {X : ab_X} {d : Nat} {G : ab_G} {xs : Nat → Int32} (hlen : G.length = 149) (hsl : ab_slots G = 1832133) (h0 : G[0]? = some (ab_if 6 (xs))) (h18 : G[18]? = some (ab_ob 0 [vR 19, vR 20, vR 22, vR 30, vR 31, vR 36, vR 37, vR 46, vR 51, vR 60, vR 69, vR 70, vR 72, vR 74, vR 76, vR 78, vI 0, vI 0])) (h30 : G[30]? = some (.inl (3, 6, .inr (.inr (.inr (.inr (fun _ => none))))))) (h80 : G[80]? = some (ab_ob 12 (m_fv (vI 0) (vI 0) (vI 0) (vI 0) (vI 0) (vI 0) (vI 0) (vI 0) (vI 0) (vI 0) (vI 0) (vI 0) (vI (-1)) (vI 0) (vI 0) (vI 0) (vI 0) (vI 0) (vI 0) (vI 0) (vI 0) (vI 0) (vI 0) (vI 0) (vI 0) (vI 0) (vI 0) (vI 0) (vI 0) (vI 0) (vI 0) (vI 0) (vI 0) (vI 0) (vI 0)))) (h112 : G[112]? = some (ab_zf 6 ((fun _ => 0)))) (hd : 2 ≤ d) : ab_W X ab_LW d G 321 [some (vR 0), some (vR 18), some (vR 80), some (vR 148), some (vI 0), none, none] [] (fun o _ => o = .returned (some (vI 1))) := by
  obtain ⟨Q, hQ⟩ : ∃ z : Outcome → ab_G → Prop, z = (fun o _ => o = .returned (some (vI 1))) := ⟨_, rfl⟩
  rw [← hQ]
  have hfr : ab_fr [80] G G := ab_fr.rf
  refine ab_aload_n d_LA_law_321 rfl ?_
  refine ab_aload_n d_LA_law_322 rfl ?_
  refine ab_iload d_LA_law_323 rfl ?_
  refine ab_iconst (v := 1) d_LA_law_325 (by decide) ?_
  refine ab_iadd d_LA_law_326 ?_
  refine ab_topi (y := 1) (by decide) ?_
  refine ab_iald d_LA_law_327 h0 (by unfold vp_in; decide) ?_
  refine ab_topi (y := (xs 1)) rfl ?_
  refine ab_aload_n d_LA_law_328 rfl ?_
  refine ab_iload d_LA_law_329 rfl ?_
  refine ab_iconst (v := 2) d_LA_law_331 (by decide) ?_
  refine ab_iadd d_LA_law_332 ?_
  refine ab_topi (y := 2) (by decide) ?_
  refine ab_iald d_LA_law_333 h0 (by unfold vp_in; decide) ?_
  refine ab_topi (y := (xs 2)) rfl ?_
  refine ab_callV (d' := d - 1) (as := [vI (xs 1), vI (xs 2)]) (st := []) (r := _) (q_PW_about_0 (xs := xs) hlen hsl h18 h30 (by omega)) (fun o G2 h => ⟨_, h.1⟩) (by omega) m_PW_about ml_LA_60 im_PW_about se_PW_about c_PW h18 (Nat.le_of_ble_eq_true rfl) d_LA_law_334 rfl ?_
  intro v G1 hq
  obtain ⟨hv, hfk, hlen, hsl⟩ := hq
  cases hv
  have h0 := hfk.get (by decide) h0
  have h18 := hfk.get (by decide) h18
  have h30 := hfk.get (by decide) h30
  have h80 := hfk.get (by decide) h80
  have h112 := hfk.get (by decide) h112
  have hfr := hfr.cl hfk (by decide)
  change ab_W _ _ _ G1 337 [some (vR 0), some (vR 18), some (vR 80), some (vR 148), some (vI 0), none, none] [vI (-1)] _
  refine ab_aload_n d_LA_law_337 rfl ?_
  refine ab_aload_n d_LA_law_338 rfl ?_
  refine ab_iload d_LA_law_339 rfl ?_
  refine ab_iconst (v := 1) d_LA_law_341 (by decide) ?_
  refine ab_iadd d_LA_law_342 ?_
  refine ab_topi (y := 1) (by decide) ?_
  refine ab_iald d_LA_law_343 h0 (by unfold vp_in; decide) ?_
  refine ab_topi (y := (xs 1)) rfl ?_
  refine ab_aload_n d_LA_law_344 rfl ?_
  refine ab_iload d_LA_law_345 rfl ?_
  refine ab_iconst (v := 2) d_LA_law_347 (by decide) ?_
  refine ab_iadd d_LA_law_348 ?_
  refine ab_topi (y := 2) (by decide) ?_
  refine ab_iald d_LA_law_349 h0 (by unfold vp_in; decide) ?_
  refine ab_topi (y := (xs 2)) rfl ?_
  refine ab_callV (d' := d - 1) (as := [vI (xs 1), vI (xs 2)]) (st := [vI (-1)]) (r := _) (q_MO_about_0 (xs := xs) hlen hsl h80 h112 (by omega)) (fun o G2 h => ⟨_, h.1⟩) (by omega) m_MO_about ml_LA_63 im_MO_about se_MO_about c_MO h80 (Nat.le_of_ble_eq_true rfl) d_LA_law_350 rfl ?_
  intro v G2 hq
  obtain ⟨hv, hfk, hlen, hsl, h80⟩ := hq
  cases hv
  have h0 := hfk.get (by decide) h0
  have h18 := hfk.get (by decide) h18
  have h30 := hfk.get (by decide) h30
  have h112 := hfk.get (by decide) h112
  have hfr := hfr.cl hfk (by decide)
  change ab_W _ _ _ G2 353 [some (vR 0), some (vR 18), some (vR 80), some (vR 148), some (vI 0), none, none] [vI (-1), vI (-1)] _
  refine ab_icmp_eq (tgt := 931) d_LA_law_353 (by decide) (fun _ => ?_) (fun c => absurd c (by decide))
  refine ab_iinc (v := 6) d_LA_law_931 rfl (by decide) (Nat.le_of_ble_eq_true rfl) (Nat.le_of_ble_eq_true rfl) rfl ?_
  change ab_W _ _ _ G2 934 [some (vR 0), some (vR 18), some (vR 80), some (vR 148), some (vI 6), none, none] [] _
  refine ab_goto (tgt := 23) d_LA_law_934 (by decide) ?_
  refine ab_iload d_LA_law_23 rfl ?_
  refine ab_aload_n d_LA_law_25 rfl ?_
  refine ab_alen (v := 6) d_LA_law_26 h0 (by first | decide | rfl) ?_
  refine ab_bipush (v := 6) d_LA_law_27 (by decide) ?_
  refine ab_isub d_LA_law_29 ?_
  refine ab_topi (y := 0) (by decide) ?_
  refine ab_icmp_gt (tgt := 937) d_LA_law_30 (by decide) (fun _ => ?_) (fun c => absurd c (by decide))
  refine ab_iconst (v := 1) d_LA_law_937 (by decide) ?_
  exact ab_iret (rt := .boolean) rfl (by decide) d_LA_law_938 (by rw [hQ])
set_option maxRecDepth 100000 in
set_option maxHeartbeats 4000000 in
theorem q_PW_name_0 {X : ab_X} {d : Nat} {G : ab_G} {xs : Nat → Int32} (hlen : G.length = 149) (hsl : ab_slots G = 1832133) (h18 : G[18]? = some (ab_ob 0 [vR 19, vR 20, vR 22, vR 30, vR 31, vR 36, vR 37, vR 46, vR 51, vR 60, vR 69, vR 70, vR 72, vR 74, vR 76, vR 78, vI 0, vI 0])) (h30 : G[30]? = some (.inl (3, 6, .inr (.inr (.inr (.inr (fun _ => none))))))) (hd : 1 ≤ d) : ab_F X d y_PW_name (.code y_PW_name b_PW_name 5 (some (.int))) [vR 18, vI (xs 1), vI (xs 2), vI (xs 3)] G (fun o G2 => o = .returned (some (vI (-1))) ∧ ab_fr [] G G2 ∧ G2.length = 149 ∧ ab_slots G2 = 1832133) := by
  refine ab_F_of (by decide +kernel) (Nat.le_of_ble_eq_true rfl) ?_
  obtain ⟨Q, hQ⟩ : ∃ z : Outcome → ab_G → Prop, z = (fun o G2 => o = .returned (some (vI (-1))) ∧ ab_fr [] G G2 ∧ G2.length = 149 ∧ ab_slots G2 = 1832133) := ⟨_, rfl⟩
  rw [← hQ]
  change ab_W X (ab_pl y_PW_name b_PW_name 5 (some (.int))) d G 0 [some (vR 18), some (vI (xs 1)), some (vI (xs 2)), some (vI (xs 3)), none] [] Q
  have hfr : ab_fr [] G G := ab_fr.rf
  refine ab_aload_n d_PW_name_0 rfl ?_
  refine ab_iload_n d_PW_name_1 rfl ?_
  refine ab_callV (d' := d - 1) (as := [vI (xs 1)]) (st := []) (r := _) (q_PW_programAt_0 (xs := xs) hlen hsl h18 h30) (fun o G2 h => ⟨_, h.1⟩) (by omega) m_PW_programAt ml_PW_148 im_PW_programAt se_PW_programAt c_PW h18 (Nat.le_of_ble_eq_true rfl) d_PW_name_2 rfl ?_
  intro v G1 hq
  obtain ⟨hv, hfk, hlen, hsl⟩ := hq
  cases hv
  have h18 := hfk.get (by decide) h18
  have h30 := hfk.get (by decide) h30
  have hfr := hfr.cl hfk (by decide)
  change ab_W _ _ _ G1 5 [some (vR 18), some (vI (xs 1)), some (vI (xs 2)), some (vI (xs 3)), none] [vN] _
  refine ab_astoreN d_PW_name_5 (Nat.le_of_ble_eq_true rfl) (Nat.le_of_ble_eq_true rfl) rfl ?_
  change ab_W _ _ _ G1 7 [some (vR 18), some (vI (xs 1)), some (vI (xs 2)), some (vI (xs 3)), some (vN)] [] _
  refine ab_aloadN d_PW_name_7 rfl ?_
  refine ab_ifnonnullN d_PW_name_9 ?_
  refine ab_iconst (v := (-1)) d_PW_name_12 (by decide) ?_
  refine ab_goto (tgt := 23) d_PW_name_13 (by decide) ?_
  exact ab_iret (rt := .int) rfl rfl d_PW_name_23 (by rw [hQ]; exact ⟨rfl, hfr, hlen, hsl⟩)
set_option maxRecDepth 100000 in
set_option maxHeartbeats 4000000 in
theorem q_MO_name_0 {X : ab_X} {d : Nat} {G : ab_G} {xs : Nat → Int32} (hlen : G.length = 149) (hsl : ab_slots G = 1832133) (h80 : G[80]? = some (ab_ob 12 (m_fv (vI 0) (vI 0) (vI 0) (vI 0) (vI 0) (vI 0) (vI 0) (vI 0) (vI 0) (vI 0) (vI 0) (vI 0) (vI (-1)) (vI 0) (vI 0) (vI 0) (vI 0) (vI 0) (vI 0) (vI 0) (vI 0) (vI 0) (vI 0) (vI 0) (vI 0) (vI 0) (vI 0) (vI 0) (vI 0) (vI 0) (vI 0) (vI 0) (vI 0) (vI 0) (vI 0)))) (h112 : G[112]? = some (ab_zf 6 ((fun _ => 0)))) (hd : 1 ≤ d) : ab_F X d y_MO_name (.code y_MO_name b_MO_name 4 (some (.int))) [vR 80, vI (xs 1), vI (xs 2), vI (xs 3)] G (fun o G2 => o = .returned (some (vI (-1))) ∧ ab_fr [80] G G2 ∧ G2.length = 149 ∧ ab_slots G2 = 1832133 ∧ G2[80]? = some (ab_ob 12 (m_fv (vI 0) (vI 0) (vI 0) (vI 0) (vI 0) (vI 0) (vI 0) (vI 0) (vI 0) (vI 0) (vI 0) (vI 0) (vI (-1)) (vI 0) (vI 0) (vI 0) (vI 0) (vI 0) (vI 0) (vI 0) (vI 0) (vI 0) (vI 0) (vI 0) (vI 0) (vI 0) (vI 0) (vI 0) (vI 0) (vI 0) (vI 0) (vI 0) (vI 0) (vI 0) (vI 0)))) := by
  refine ab_F_of (by decide +kernel) (Nat.le_of_ble_eq_true rfl) ?_
  obtain ⟨Q, hQ⟩ : ∃ z : Outcome → ab_G → Prop, z = (fun o G2 => o = .returned (some (vI (-1))) ∧ ab_fr [80] G G2 ∧ G2.length = 149 ∧ ab_slots G2 = 1832133 ∧ G2[80]? = some (ab_ob 12 (m_fv (vI 0) (vI 0) (vI 0) (vI 0) (vI 0) (vI 0) (vI 0) (vI 0) (vI 0) (vI 0) (vI 0) (vI 0) (vI (-1)) (vI 0) (vI 0) (vI 0) (vI 0) (vI 0) (vI 0) (vI 0) (vI 0) (vI 0) (vI 0) (vI 0) (vI 0) (vI 0) (vI 0) (vI 0) (vI 0) (vI 0) (vI 0) (vI 0) (vI 0) (vI 0) (vI 0)))) := ⟨_, rfl⟩
  rw [← hQ]
  change ab_W X (ab_pl y_MO_name b_MO_name 4 (some (.int))) d G 0 [some (vR 80), some (vI (xs 1)), some (vI (xs 2)), some (vI (xs 3))] [] Q
  have hfr : ab_fr [80] G G := ab_fr.rf
  refine ab_aload_n d_MO_name_0 rfl ?_
  refine ab_iconst (v := 0) d_MO_name_1 (by decide) ?_
  refine ab_putf (fs := (m_fv (vI 0) (vI 0) (vI 0) (vI 0) (vI 0) (vI 0) (vI 0) (vI 0) (vI 0) (vI 0) (vI 0) (vI 0) (vI (-1)) (vI 0) (vI 0) (vI 0) (vI 0) (vI 0) (vI 0) (vI 0) (vI 0) (vI 0) (vI 0) (vI 0) (vI 0) (vI 0) (vI 0) (vI 0) (vI 0) (vI 0) (vI 0) (vI 0) (vI 0) (vI 0) (vI 0))) f_MO_220 (Or.inl rfl) d_MO_name_2 h80 (Nat.le_of_ble_eq_true rfl) (fun _ => ⟨rfl, rfl⟩) (by decide) ?_
  obtain ⟨G1, eG1⟩ : ∃ z : ab_G, z = List.set G 80 (ab_ob 12 (m_fv (vI 0) (vI 0) (vI 0) (vI 0) (vI 0) (vI 0) (vI 0) (vI 0) (vI 0) (vI 0) (vI 0) (vI 0) (vI (-1)) (vI 0) (vI 0) (vI 0) (vI 0) (vI 0) (vI 0) (vI 0) (vI 0) (vI 0) (vI 0) (vI 0) (vI 0) (vI 0) (vI 0) (vI 0) (vI 0) (vI 0) (vI 0) (vI 0) (vI 0) (vI 0) (vI 0))) := ⟨_, rfl⟩
  have h112 := ab_keep eG1 (by decide) h112
  have hlen := ab_klen eG1 hlen
  have hsl := ab_ksl 102 eG1 h80 rfl rfl hsl
  have hfr := hfr.wr eG1 (by decide)
  have h80 := ab_kept eG1 h80
  change ab_W _ _ _ (List.set G 80 (ab_ob 12 (m_fv (vI 0) (vI 0) (vI 0) (vI 0) (vI 0) (vI 0) (vI 0) (vI 0) (vI 0) (vI 0) (vI 0) (vI 0) (vI (-1)) (vI 0) (vI 0) (vI 0) (vI 0) (vI 0) (vI 0) (vI 0) (vI 0) (vI 0) (vI 0) (vI 0) (vI 0) (vI 0) (vI 0) (vI 0) (vI 0) (vI 0) (vI 0) (vI 0) (vI 0) (vI 0) (vI 0)))) 5 [some (vR 80), some (vI (xs 1)), some (vI (xs 2)), some (vI (xs 3))] [] _
  rw [← eG1]
  refine ab_aload_n d_MO_name_5 rfl ?_
  refine ab_iload_n d_MO_name_6 rfl ?_
  refine ab_callV (d' := d - 1) (as := [vI (xs 1)]) (st := []) (r := _) (q_MO_isThere_0 (xs := xs) hlen hsl h80 h112) (fun o G2 h => ⟨_, h.1⟩) (by omega) m_MO_isThere ml_MO_507 im_MO_isThere se_MO_isThere c_MO h80 (Nat.le_of_ble_eq_true rfl) d_MO_name_7 rfl ?_
  intro v G2 hq
  obtain ⟨hv, hfk, hlen, hsl⟩ := hq
  cases hv
  have h80 := hfk.get (by decide) h80
  have h112 := hfk.get (by decide) h112
  have hfr := hfr.cl hfk (by decide)
  change ab_W _ _ _ G2 10 [some (vR 80), some (vI (xs 1)), some (vI (xs 2)), some (vI (xs 3))] [vI 0] _
  refine ab_if_eq (tgt := 43) d_MO_name_10 (by decide) (fun _ => ?_) (fun c => absurd c (by decide))
  refine ab_iconst (v := (-1)) d_MO_name_43 (by decide) ?_
  refine ab_goto (tgt := 63) d_MO_name_44 (by decide) ?_
  exact ab_iret (rt := .int) rfl rfl d_MO_name_63 (by rw [hQ]; exact ⟨rfl, hfr, hlen, hsl, h80⟩)
set_option maxRecDepth 100000 in
set_option maxHeartbeats 4000000 in
theorem lc_5 {X : ab_X} {d : Nat} {G : ab_G} {xs : Nat → Int32} (hlen : G.length = 149) (hsl : ab_slots G = 1832133) (h0 : G[0]? = some (ab_if 6 (xs))) (h18 : G[18]? = some (ab_ob 0 [vR 19, vR 20, vR 22, vR 30, vR 31, vR 36, vR 37, vR 46, vR 51, vR 60, vR 69, vR 70, vR 72, vR 74, vR 76, vR 78, vI 0, vI 0])) (h30 : G[30]? = some (.inl (3, 6, .inr (.inr (.inr (.inr (fun _ => none))))))) (h80 : G[80]? = some (ab_ob 12 (m_fv (vI 0) (vI 0) (vI 0) (vI 0) (vI 0) (vI 0) (vI 0) (vI 0) (vI 0) (vI 0) (vI 0) (vI 0) (vI (-1)) (vI 0) (vI 0) (vI 0) (vI 0) (vI 0) (vI 0) (vI 0) (vI 0) (vI 0) (vI 0) (vI 0) (vI 0) (vI 0) (vI 0) (vI 0) (vI 0) (vI 0) (vI 0) (vI 0) (vI 0) (vI 0) (vI 0)))) (h112 : G[112]? = some (ab_zf 6 ((fun _ => 0)))) (hd : 2 ≤ d) : ab_W X ab_LW d G 358 [some (vR 0), some (vR 18), some (vR 80), some (vR 148), some (vI 0), none, none] [] (fun o _ => o = .returned (some (vI 1))) := by
  obtain ⟨Q, hQ⟩ : ∃ z : Outcome → ab_G → Prop, z = (fun o _ => o = .returned (some (vI 1))) := ⟨_, rfl⟩
  rw [← hQ]
  have hfr : ab_fr [80] G G := ab_fr.rf
  refine ab_aload_n d_LA_law_358 rfl ?_
  refine ab_aload_n d_LA_law_359 rfl ?_
  refine ab_iload d_LA_law_360 rfl ?_
  refine ab_iconst (v := 1) d_LA_law_362 (by decide) ?_
  refine ab_iadd d_LA_law_363 ?_
  refine ab_topi (y := 1) (by decide) ?_
  refine ab_iald d_LA_law_364 h0 (by unfold vp_in; decide) ?_
  refine ab_topi (y := (xs 1)) rfl ?_
  refine ab_aload_n d_LA_law_365 rfl ?_
  refine ab_iload d_LA_law_366 rfl ?_
  refine ab_iconst (v := 2) d_LA_law_368 (by decide) ?_
  refine ab_iadd d_LA_law_369 ?_
  refine ab_topi (y := 2) (by decide) ?_
  refine ab_iald d_LA_law_370 h0 (by unfold vp_in; decide) ?_
  refine ab_topi (y := (xs 2)) rfl ?_
  refine ab_aload_n d_LA_law_371 rfl ?_
  refine ab_iload d_LA_law_372 rfl ?_
  refine ab_iconst (v := 3) d_LA_law_374 (by decide) ?_
  refine ab_iadd d_LA_law_375 ?_
  refine ab_topi (y := 3) (by decide) ?_
  refine ab_iald d_LA_law_376 h0 (by unfold vp_in; decide) ?_
  refine ab_topi (y := (xs 3)) rfl ?_
  refine ab_callV (d' := d - 1) (as := [vI (xs 1), vI (xs 2), vI (xs 3)]) (st := []) (r := _) (q_PW_name_0 (xs := xs) hlen hsl h18 h30 (by omega)) (fun o G2 h => ⟨_, h.1⟩) (by omega) m_PW_name ml_LA_64 im_PW_name se_PW_name c_PW h18 (Nat.le_of_ble_eq_true rfl) d_LA_law_377 rfl ?_
  intro v G1 hq
  obtain ⟨hv, hfk, hlen, hsl⟩ := hq
  cases hv
  have h0 := hfk.get (by decide) h0
  have h18 := hfk.get (by decide) h18
  have h30 := hfk.get (by decide) h30
  have h80 := hfk.get (by decide) h80
  have h112 := hfk.get (by decide) h112
  have hfr := hfr.cl hfk (by decide)
  change ab_W _ _ _ G1 380 [some (vR 0), some (vR 18), some (vR 80), some (vR 148), some (vI 0), none, none] [vI (-1)] _
  refine ab_aload_n d_LA_law_380 rfl ?_
  refine ab_aload_n d_LA_law_381 rfl ?_
  refine ab_iload d_LA_law_382 rfl ?_
  refine ab_iconst (v := 1) d_LA_law_384 (by decide) ?_
  refine ab_iadd d_LA_law_385 ?_
  refine ab_topi (y := 1) (by decide) ?_
  refine ab_iald d_LA_law_386 h0 (by unfold vp_in; decide) ?_
  refine ab_topi (y := (xs 1)) rfl ?_
  refine ab_aload_n d_LA_law_387 rfl ?_
  refine ab_iload d_LA_law_388 rfl ?_
  refine ab_iconst (v := 2) d_LA_law_390 (by decide) ?_
  refine ab_iadd d_LA_law_391 ?_
  refine ab_topi (y := 2) (by decide) ?_
  refine ab_iald d_LA_law_392 h0 (by unfold vp_in; decide) ?_
  refine ab_topi (y := (xs 2)) rfl ?_
  refine ab_aload_n d_LA_law_393 rfl ?_
  refine ab_iload d_LA_law_394 rfl ?_
  refine ab_iconst (v := 3) d_LA_law_396 (by decide) ?_
  refine ab_iadd d_LA_law_397 ?_
  refine ab_topi (y := 3) (by decide) ?_
  refine ab_iald d_LA_law_398 h0 (by unfold vp_in; decide) ?_
  refine ab_topi (y := (xs 3)) rfl ?_
  refine ab_callV (d' := d - 1) (as := [vI (xs 1), vI (xs 2), vI (xs 3)]) (st := [vI (-1)]) (r := _) (q_MO_name_0 (xs := xs) hlen hsl h80 h112 (by omega)) (fun o G2 h => ⟨_, h.1⟩) (by omega) m_MO_name ml_LA_68 im_MO_name se_MO_name c_MO h80 (Nat.le_of_ble_eq_true rfl) d_LA_law_399 rfl ?_
  intro v G2 hq
  obtain ⟨hv, hfk, hlen, hsl, h80⟩ := hq
  cases hv
  have h0 := hfk.get (by decide) h0
  have h18 := hfk.get (by decide) h18
  have h30 := hfk.get (by decide) h30
  have h112 := hfk.get (by decide) h112
  have hfr := hfr.cl hfk (by decide)
  change ab_W _ _ _ G2 402 [some (vR 0), some (vR 18), some (vR 80), some (vR 148), some (vI 0), none, none] [vI (-1), vI (-1)] _
  refine ab_icmp_eq (tgt := 931) d_LA_law_402 (by decide) (fun _ => ?_) (fun c => absurd c (by decide))
  refine ab_iinc (v := 6) d_LA_law_931 rfl (by decide) (Nat.le_of_ble_eq_true rfl) (Nat.le_of_ble_eq_true rfl) rfl ?_
  change ab_W _ _ _ G2 934 [some (vR 0), some (vR 18), some (vR 80), some (vR 148), some (vI 6), none, none] [] _
  refine ab_goto (tgt := 23) d_LA_law_934 (by decide) ?_
  refine ab_iload d_LA_law_23 rfl ?_
  refine ab_aload_n d_LA_law_25 rfl ?_
  refine ab_alen (v := 6) d_LA_law_26 h0 (by first | decide | rfl) ?_
  refine ab_bipush (v := 6) d_LA_law_27 (by decide) ?_
  refine ab_isub d_LA_law_29 ?_
  refine ab_topi (y := 0) (by decide) ?_
  refine ab_icmp_gt (tgt := 937) d_LA_law_30 (by decide) (fun _ => ?_) (fun c => absurd c (by decide))
  refine ab_iconst (v := 1) d_LA_law_937 (by decide) ?_
  exact ab_iret (rt := .boolean) rfl (by decide) d_LA_law_938 (by rw [hQ])
set_option maxRecDepth 100000 in
set_option maxHeartbeats 4000000 in
theorem q_PW_codeAt_0 {X : ab_X} {d : Nat} {G : ab_G}  (hlen : G.length = 149) (hsl : ab_slots G = 1832133) : ab_F X d y_PW_codeAt (.code y_PW_codeAt b_PW_codeAt 8 (some (.int))) [vR 32, vI 0, vI 0] G (fun o G2 => o = .returned (some (vI (-1))) ∧ ab_fr [] G G2 ∧ G2.length = 149 ∧ ab_slots G2 = 1832133) := by
  refine ab_F_of (by decide +kernel) (Nat.le_of_ble_eq_true rfl) ?_
  obtain ⟨Q, hQ⟩ : ∃ z : Outcome → ab_G → Prop, z = (fun o G2 => o = .returned (some (vI (-1))) ∧ ab_fr [] G G2 ∧ G2.length = 149 ∧ ab_slots G2 = 1832133) := ⟨_, rfl⟩
  rw [← hQ]
  change ab_W X (ab_pl y_PW_codeAt b_PW_codeAt 8 (some (.int))) d G 0 [some (vR 32), some (vI 0), some (vI 0), none, none, none, none, none] [] Q
  have hfr : ab_fr [] G G := ab_fr.rf
  refine ab_iload_n d_PW_codeAt_0 rfl ?_
  refine ab_if_lt (tgt := 15) d_PW_codeAt_1 (by decide) (fun c => absurd c (by decide)) (fun _ => ?_)
  refine ab_iload_n d_PW_codeAt_4 rfl ?_
  refine ab_iload_n d_PW_codeAt_5 rfl ?_
  refine ab_icmp_ge (tgt := 15) d_PW_codeAt_6 (by decide) (fun _ => ?_) (fun c => absurd c (by decide))
  refine ab_iconst (v := (-1)) d_PW_codeAt_15 (by decide) ?_
  exact ab_iret (rt := .int) rfl rfl d_PW_codeAt_16 (by rw [hQ]; exact ⟨rfl, hfr, hlen, hsl⟩)
set_option maxRecDepth 100000 in
set_option maxHeartbeats 4000000 in
theorem q_SU_isWordByte_0 {X : ab_X} {d : Nat} {G : ab_G}  (hlen : G.length = 149) (hsl : ab_slots G = 1832133) : ab_F X d y_SU_isWordByte (.code y_SU_isWordByte b_SU_isWordByte 2 (some (.boolean))) [vR 31, vI (-1)] G (fun o G2 => o = .returned (some (vI 0)) ∧ ab_fr [] G G2 ∧ G2.length = 149 ∧ ab_slots G2 = 1832133) := by
  refine ab_F_of (by decide +kernel) (Nat.le_of_ble_eq_true rfl) ?_
  obtain ⟨Q, hQ⟩ : ∃ z : Outcome → ab_G → Prop, z = (fun o G2 => o = .returned (some (vI 0)) ∧ ab_fr [] G G2 ∧ G2.length = 149 ∧ ab_slots G2 = 1832133) := ⟨_, rfl⟩
  rw [← hQ]
  change ab_W X (ab_pl y_SU_isWordByte b_SU_isWordByte 2 (some (.boolean))) d G 0 [some (vR 31), some (vI (-1))] [] Q
  have hfr : ab_fr [] G G := ab_fr.rf
  refine ab_iload_n d_SU_isWordByte_0 rfl ?_
  refine ab_if_lt (tgt := 28) d_SU_isWordByte_1 (by decide) (fun _ => ?_) (fun c => absurd c (by decide))
  refine ab_iconst (v := 0) d_SU_isWordByte_28 (by decide) ?_
  exact ab_iret (rt := .boolean) rfl (by decide) d_SU_isWordByte_29 (by rw [hQ]; exact ⟨rfl, hfr, hlen, hsl⟩)
set_option maxRecDepth 100000 in
set_option maxHeartbeats 4000000 in
theorem q_SU_isWordByte_1 {X : ab_X} {d : Nat} {G : ab_G}  (hlen : G.length = 149) (hsl : ab_slots G = 1832133) (h31 : G[31]? = some (ab_ob 9 [vR 32, vR 33, vR 34, vR 35, vI 0])) : ab_F X d y_SU_isWordByte (.code y_SU_isWordByte b_SU_isWordByte 2 (some (.boolean))) [vR 31, vI 0] G (fun o G2 => o = .returned (some (vI 0)) ∧ ab_fr [] G G2 ∧ G2.length = 149 ∧ ab_slots G2 = 1832133) := by
  refine ab_F_of (by decide +kernel) (Nat.le_of_ble_eq_true rfl) ?_
  obtain ⟨Q, hQ⟩ : ∃ z : Outcome → ab_G → Prop, z = (fun o G2 => o = .returned (some (vI 0)) ∧ ab_fr [] G G2 ∧ G2.length = 149 ∧ ab_slots G2 = 1832133) := ⟨_, rfl⟩
  rw [← hQ]
  change ab_W X (ab_pl y_SU_isWordByte b_SU_isWordByte 2 (some (.boolean))) d G 0 [some (vR 31), some (vI 0)] [] Q
  have hfr : ab_fr [] G G := ab_fr.rf
  refine ab_iload_n d_SU_isWordByte_0 rfl ?_
  refine ab_if_lt (tgt := 28) d_SU_isWordByte_1 (by decide) (fun c => absurd c (by decide)) (fun _ => ?_)
  refine ab_iload_n d_SU_isWordByte_4 rfl ?_
  refine ab_aload_n d_SU_isWordByte_5 rfl ?_
  refine ab_getf (fs := [vR 32, vR 33, vR 34, vR 35, vI 0]) f_SU_34 d_SU_isWordByte_6 h31 rfl ?_
  refine ab_icmp_ge (tgt := 28) d_SU_isWordByte_9 (by decide) (fun _ => ?_) (fun c => absurd c (by decide))
  refine ab_iconst (v := 0) d_SU_isWordByte_28 (by decide) ?_
  exact ab_iret (rt := .boolean) rfl (by decide) d_SU_isWordByte_29 (by rw [hQ]; exact ⟨rfl, hfr, hlen, hsl⟩)
set_option maxRecDepth 100000 in
set_option maxHeartbeats 4000000 in
theorem q_SU_holdingAt_0 {X : ab_X} {d : Nat} {G : ab_G}  (hlen : G.length = 149) (hsl : ab_slots G = 1832133) (h31 : G[31]? = some (ab_ob 9 [vR 32, vR 33, vR 34, vR 35, vI 0])) (hd : 1 ≤ d) : ab_F X d y_SU_holdingAt (.code y_SU_holdingAt b_SU_holdingAt 3 (some (.int))) [vR 31, vI 0] G (fun o G2 => o = .returned (some (vI 47)) ∧ ab_fr [] G G2 ∧ G2.length = 149 ∧ ab_slots G2 = 1832133) := by
  refine ab_F_of (by decide +kernel) (Nat.le_of_ble_eq_true rfl) ?_
  obtain ⟨Q, hQ⟩ : ∃ z : Outcome → ab_G → Prop, z = (fun o G2 => o = .returned (some (vI 47)) ∧ ab_fr [] G G2 ∧ G2.length = 149 ∧ ab_slots G2 = 1832133) := ⟨_, rfl⟩
  rw [← hQ]
  change ab_W X (ab_pl y_SU_holdingAt b_SU_holdingAt 3 (some (.int))) d G 0 [some (vR 31), some (vI 0), none] [] Q
  have hfr : ab_fr [] G G := ab_fr.rf
  refine ab_aload_n d_SU_holdingAt_0 rfl ?_
  refine ab_iload_n d_SU_holdingAt_1 rfl ?_
  refine ab_iconst (v := 1) d_SU_holdingAt_2 (by decide) ?_
  refine ab_isub d_SU_holdingAt_3 ?_
  refine ab_topi (y := (-1)) (by decide) ?_
  refine ab_callV (d' := d - 1) (as := [vI (-1)]) (st := []) (r := _) (q_SU_isWordByte_0  hlen hsl) (fun o G2 h => ⟨_, h.1⟩) (by omega) m_SU_isWordByte ml_SU_66 im_SU_isWordByte se_SU_isWordByte c_SU h31 (Nat.le_of_ble_eq_true rfl) d_SU_holdingAt_4 rfl ?_
  intro v G1 hq
  obtain ⟨hv, hfk, hlen, hsl⟩ := hq
  cases hv
  have h31 := hfk.get (by decide) h31
  have hfr := hfr.cl hfk (by decide)
  change ab_W _ _ _ G1 7 [some (vR 31), some (vI 0), none] [vI 0] _
  refine ab_aload_n d_SU_holdingAt_7 rfl ?_
  refine ab_iload_n d_SU_holdingAt_8 rfl ?_
  refine ab_callV (d' := d - 1) (as := [vI 0]) (st := [vI 0]) (r := _) (q_SU_isWordByte_1  hlen hsl h31) (fun o G2 h => ⟨_, h.1⟩) (by omega) m_SU_isWordByte ml_SU_66 im_SU_isWordByte se_SU_isWordByte c_SU h31 (Nat.le_of_ble_eq_true rfl) d_SU_holdingAt_9 rfl ?_
  intro v G2 hq
  obtain ⟨hv, hfk, hlen, hsl⟩ := hq
  cases hv
  have h31 := hfk.get (by decide) h31
  have hfr := hfr.cl hfk (by decide)
  change ab_W _ _ _ G2 12 [some (vR 31), some (vI 0), none] [vI 0, vI 0] _
  refine ab_icmp_eq (tgt := 20) d_SU_holdingAt_12 (by decide) (fun _ => ?_) (fun c => absurd c (by decide))
  refine ab_bipush (v := 32) d_SU_holdingAt_20 (by decide) ?_
  refine ab_istore_n d_SU_holdingAt_22 (Nat.le_of_ble_eq_true rfl) (Nat.le_of_ble_eq_true rfl) rfl ?_
  change ab_W _ _ _ G2 23 [some (vR 31), some (vI 0), some (vI 32)] [] _
  refine ab_iload_n d_SU_holdingAt_23 rfl ?_
  refine ab_iload_n d_SU_holdingAt_24 rfl ?_
  refine ab_if_ne (tgt := 32) d_SU_holdingAt_25 (by decide) (fun c => absurd c (by decide)) (fun _ => ?_)
  refine ab_iconst (v := 1) d_SU_holdingAt_28 (by decide) ?_
  refine ab_goto (tgt := 33) d_SU_holdingAt_29 (by decide) ?_
  refine ab_ior d_SU_holdingAt_33 ?_
  refine ab_topi (y := 33) (by decide) ?_
  refine ab_istore_n d_SU_holdingAt_34 (Nat.le_of_ble_eq_true rfl) (Nat.le_of_ble_eq_true rfl) rfl ?_
  change ab_W _ _ _ G2 35 [some (vR 31), some (vI 0), some (vI 33)] [] _
  refine ab_iload_n d_SU_holdingAt_35 rfl ?_
  refine ab_iload_n d_SU_holdingAt_36 rfl ?_
  refine ab_aload_n d_SU_holdingAt_37 rfl ?_
  refine ab_getf (fs := [vR 32, vR 33, vR 34, vR 35, vI 0]) f_SU_34 d_SU_holdingAt_38 h31 rfl ?_
  refine ab_icmp_ne (tgt := 48) d_SU_holdingAt_41 (by decide) (fun c => absurd c (by decide)) (fun _ => ?_)
  refine ab_iconst (v := 2) d_SU_holdingAt_44 (by decide) ?_
  refine ab_goto (tgt := 49) d_SU_holdingAt_45 (by decide) ?_
  refine ab_ior d_SU_holdingAt_49 ?_
  refine ab_topi (y := 35) (by decide) ?_
  refine ab_istore_n d_SU_holdingAt_50 (Nat.le_of_ble_eq_true rfl) (Nat.le_of_ble_eq_true rfl) rfl ?_
  change ab_W _ _ _ G2 51 [some (vR 31), some (vI 0), some (vI 35)] [] _
  refine ab_iload_n d_SU_holdingAt_51 rfl ?_
  refine ab_iload_n d_SU_holdingAt_52 rfl ?_
  refine ab_if_eq (tgt := 66) d_SU_holdingAt_53 (by decide) (fun _ => ?_) (fun c => absurd c (by decide))
  refine ab_iconst (v := 4) d_SU_holdingAt_66 (by decide) ?_
  refine ab_goto (tgt := 71) d_SU_holdingAt_67 (by decide) ?_
  refine ab_ior d_SU_holdingAt_71 ?_
  refine ab_topi (y := 39) (by decide) ?_
  refine ab_istore_n d_SU_holdingAt_72 (Nat.le_of_ble_eq_true rfl) (Nat.le_of_ble_eq_true rfl) rfl ?_
  change ab_W _ _ _ G2 73 [some (vR 31), some (vI 0), some (vI 39)] [] _
  refine ab_iload_n d_SU_holdingAt_73 rfl ?_
  refine ab_iload_n d_SU_holdingAt_74 rfl ?_
  refine ab_aload_n d_SU_holdingAt_75 rfl ?_
  refine ab_getf (fs := [vR 32, vR 33, vR 34, vR 35, vI 0]) f_SU_34 d_SU_holdingAt_76 h31 rfl ?_
  refine ab_icmp_eq (tgt := 90) d_SU_holdingAt_79 (by decide) (fun _ => ?_) (fun c => absurd c (by decide))
  refine ab_bipush (v := 8) d_SU_holdingAt_90 (by decide) ?_
  refine ab_goto (tgt := 96) d_SU_holdingAt_92 (by decide) ?_
  refine ab_ior d_SU_holdingAt_96 ?_
  refine ab_topi (y := 47) (by decide) ?_
  refine ab_istore_n d_SU_holdingAt_97 (Nat.le_of_ble_eq_true rfl) (Nat.le_of_ble_eq_true rfl) rfl ?_
  change ab_W _ _ _ G2 98 [some (vR 31), some (vI 0), some (vI 47)] [] _
  refine ab_iload_n d_SU_holdingAt_98 rfl ?_
  exact ab_iret (rt := .int) rfl rfl d_SU_holdingAt_99 (by rw [hQ]; exact ⟨rfl, hfr, hlen, hsl⟩)
