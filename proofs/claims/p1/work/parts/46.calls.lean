set_option maxRecDepth 100000 in
set_option maxHeartbeats 4000000 in
theorem lc_2d {X : ab_X} {d : Nat} {G : ab_G} {xs : Nat → Int32} (hlen : G.length = 149) (hsl : ab_slots G = 1890753) (h0 : G[0]? = some (ab_if 6 (xs))) (h18 : G[18]? = some (ab_ob 0 [vR 19, vR 20, vR 22, vR 30, vR 31, vR 36, vR 37, vR 46, vR 51, vR 60, vR 69, vR 70, vR 72, vR 74, vR 76, vR 78, vI 0, vI 0])) (h80 : G[80]? = some (ab_ob 12 (m_fv (vI 0) (vI 0) (vI 0) (vI 0) (vI 0) (vI 0) (vI 0) (vI 0) (vI 0) (vI 0) (vI 0) (vI 0) (vI (-1)) (vI 0) (vI 0) (vI 0) (vI 0) (vI 0) (vI 0) (vI 0) (vI 0) (vI 0) (vI 0) (vI 0) (vI 0) (vI 0) (vI 0) (vI 0) (vI 0) (vI 0) (vI 0) (vI 0) (vI 0) (vI 0) (vI 0)))) (c0 : 0 ≤ (xs 1)) (c1 : (xs 1) ≤ 5) (c2 : 0 ≤ (xs 2)) (c3 : 31 < (xs 2)) (hd : 8 ≤ d) : ab_W X ab_LW d G 228 [some (vR 0), some (vR 18), some (vR 80), some (vR 148), some (vI 0), none, none] [] (fun o _ => o = .returned (some (vI 1))) := by
  obtain ⟨Q, hQ⟩ : ∃ z : Outcome → ab_G → Prop, z = (fun o _ => o = .returned (some (vI 1))) := ⟨_, rfl⟩
  rw [← hQ]
  have hfr : ab_fr [80, 149] G G := ab_fr.rf
  refine ab_aload_n d_LA_law_228 rfl ?_
  refine ab_aload_n d_LA_law_229 rfl ?_
  refine ab_iload d_LA_law_230 rfl ?_
  refine ab_iconst (v := 1) d_LA_law_232 (by decide) ?_
  refine ab_iadd d_LA_law_233 ?_
  refine ab_topi (y := 1) (by decide) ?_
  refine ab_iald d_LA_law_234 h0 (by unfold vp_in; decide) ?_
  refine ab_topi (y := (xs 1)) rfl ?_
  refine ab_aload_n d_LA_law_235 rfl ?_
  refine ab_iload d_LA_law_236 rfl ?_
  refine ab_iconst (v := 2) d_LA_law_238 (by decide) ?_
  refine ab_iadd d_LA_law_239 ?_
  refine ab_topi (y := 2) (by decide) ?_
  refine ab_iald d_LA_law_240 h0 (by unfold vp_in; decide) ?_
  refine ab_topi (y := (xs 2)) rfl ?_
  refine ab_aload_n d_LA_law_241 rfl ?_
  refine ab_callSW (d' := d - 1) (as := [vR 18, vI (xs 1), vI (xs 2), vR 148]) (st := []) (q_LA_compile_3 (xs := xs) hlen hsl h18 c0 c1 c2 c3 (by omega)) (fun o G2 h => ⟨_, h.1⟩) (by omega) m_LA_compile mw_LA_46 st_LA_compile (Nat.le_of_ble_eq_true rfl) d_LA_law_242 rfl ?_
  intro v G1 hq
  obtain ⟨hv, hfk, hlen, hsl, h149⟩ := hq
  cases hv
  have h0 := hfk.get (by decide) h0
  have h18 := hfk.get (by decide) h18
  have h80 := hfk.get (by decide) h80
  have hfr := hfr.cl hfk (by decide)
  change ab_W _ _ _ G1 245 [some (vR 0), some (vR 18), some (vR 80), some (vR 148), some (vI 0), none, none] [vI 1] _
  refine ab_istore d_LA_law_245 (Nat.le_of_ble_eq_true rfl) (Nat.le_of_ble_eq_true rfl) rfl ?_
  change ab_W _ _ _ G1 247 [some (vR 0), some (vR 18), some (vR 80), some (vR 148), some (vI 0), some (vI 1), none] [] _
  refine ab_aload_n d_LA_law_247 rfl ?_
  refine ab_aload_n d_LA_law_248 rfl ?_
  refine ab_iload d_LA_law_249 rfl ?_
  refine ab_iconst (v := 1) d_LA_law_251 (by decide) ?_
  refine ab_iadd d_LA_law_252 ?_
  refine ab_topi (y := 1) (by decide) ?_
  refine ab_iald d_LA_law_253 h0 (by unfold vp_in; decide) ?_
  refine ab_topi (y := (xs 1)) rfl ?_
  refine ab_aload_n d_LA_law_254 rfl ?_
  refine ab_iload d_LA_law_255 rfl ?_
  refine ab_iconst (v := 2) d_LA_law_257 (by decide) ?_
  refine ab_iadd d_LA_law_258 ?_
  refine ab_topi (y := 2) (by decide) ?_
  refine ab_iald d_LA_law_259 h0 (by unfold vp_in; decide) ?_
  refine ab_topi (y := (xs 2)) rfl ?_
  refine ab_callV (d' := d - 1) (as := [vI (xs 1), vI (xs 2)]) (st := []) (r := _) (q_MO_compile_14 (xs := xs) hlen hsl h80 c0 c1 c2 c3) (fun o G2 h => ⟨_, h.1⟩) (by omega) m_MO_compile ml_LA_51 im_MO_compile se_MO_compile c_MO h80 (Nat.le_of_ble_eq_true rfl) d_LA_law_260 rfl ?_
  intro v G2 hq
  obtain ⟨hv, hfk, hlen, hsl, h80⟩ := hq
  cases hv
  have h0 := hfk.get (by decide) h0
  have h18 := hfk.get (by decide) h18
  have h149 := hfk.get (by decide) h149
  have hfr := hfr.cl hfk (by decide)
  change ab_W _ _ _ G2 263 [some (vR 0), some (vR 18), some (vR 80), some (vR 148), some (vI 0), some (vI 1), none] [vI 0] _
  refine ab_istore d_LA_law_263 (Nat.le_of_ble_eq_true rfl) (Nat.le_of_ble_eq_true rfl) rfl ?_
  change ab_W _ _ _ G2 265 [some (vR 0), some (vR 18), some (vR 80), some (vR 148), some (vI 0), some (vI 1), some (vI 0)] [] _
  refine ab_aload_n d_LA_law_265 rfl ?_
  refine ab_callV (d' := d - 1) (as := []) (st := []) (r := _) (q_MO_thrown_0  hlen hsl h80) (fun o G2 h => ⟨_, h.1⟩) (by omega) m_MO_thrown ml_LA_52 im_MO_thrown se_MO_thrown c_MO h80 (Nat.le_of_ble_eq_true rfl) d_LA_law_266 rfl ?_
  intro v G3 hq
  obtain ⟨hv, hfk, hlen, hsl⟩ := hq
  cases hv
  have h0 := hfk.get (by decide) h0
  have h18 := hfk.get (by decide) h18
  have h80 := hfk.get (by decide) h80
  have h149 := hfk.get (by decide) h149
  have hfr := hfr.cl hfk (by decide)
  change ab_W _ _ _ G3 269 [some (vR 0), some (vR 18), some (vR 80), some (vR 148), some (vI 0), some (vI 1), some (vI 0)] [vI 1] _
  refine ab_iload d_LA_law_269 rfl ?_
  refine ab_icmp_eq (tgt := 276) d_LA_law_271 (by decide) (fun _ => ?_) (fun c => absurd c (by decide))
  refine ab_iload d_LA_law_276 rfl ?_
  refine ab_if_ne (tgt := 293) d_LA_law_278 (by decide) (fun _ => ?_) (fun c => absurd c (by decide))
  refine ab_goto (tgt := 931) d_LA_law_293 (by decide) ?_
  refine ab_iinc (v := 6) d_LA_law_931 rfl (by decide) (Nat.le_of_ble_eq_true rfl) (Nat.le_of_ble_eq_true rfl) rfl ?_
  change ab_W _ _ _ G3 934 [some (vR 0), some (vR 18), some (vR 80), some (vR 148), some (vI 6), some (vI 1), some (vI 0)] [] _
  refine ab_goto (tgt := 23) d_LA_law_934 (by decide) ?_
  refine ab_iload d_LA_law_23 rfl ?_
  refine ab_aload_n d_LA_law_25 rfl ?_
  refine ab_alen (v := 6) d_LA_law_26 h0 (by first | decide | rfl) ?_
  refine ab_bipush (v := 6) d_LA_law_27 (by decide) ?_
  refine ab_isub d_LA_law_29 ?_
  refine ab_topi (y := 0) (by decide) ?_
  refine ab_icmp_gt (tgt := 937) d_LA_law_30 (by decide) (fun _ => ?_) (fun c => absurd c (by decide))
  refine ab_iconst (v := 1) d_LA_law_937 (by decide) ?_
  exact ab_iret (rt := .boolean) rfl (by decide) d_LA_law_938 (by rw [hQ])
set_option maxRecDepth 100000 in
set_option maxHeartbeats 4000000 in
theorem q_PW_compile_4 {X : ab_X} {d : Nat} {G : ab_G} {xs : Nat → Int32} (hlen : G.length = 149) (hsl : ab_slots G = 1890753) (h18 : G[18]? = some (ab_ob 0 [vR 19, vR 20, vR 22, vR 30, vR 31, vR 36, vR 37, vR 46, vR 51, vR 60, vR 69, vR 70, vR 72, vR 74, vR 76, vR 78, vI 0, vI 0])) (h20 : G[20]? = some (ab_ob 7 [vI 2000, vR 21, vI 0])) (h22 : G[22]? = some (ab_ob 6 [vR 23, vR 27, vI 0, vI 0, vI 0, vR 28, vR 29, vI 0, vI 0, vI 0])) (h23 : G[23]? = some (ab_ob 10 [vR 24, vR 26, vI 0, vI 0, vI 0, vI (-1), vR 1, vI 0])) (h30 : G[30]? = some (.inl (3, 6, .inr (.inr (.inr (.inr (fun _ => none))))))) (c0 : 0 ≤ (xs 1)) (c1 : (xs 1) ≤ 5) (c2 : 0 ≤ (xs 2)) (c3 : (xs 2) ≤ 31) (hd : 3 ≤ d) : ab_F X d y_PW_compile (.code y_PW_compile b_PW_compile 4 (some (.int))) [vR 18, vI (xs 1), vI (xs 2)] G (fun o G2 => o = .returned (some (vI 0)) ∧ ab_fr [18, 20, 22, 23, 30, 149, 150, 151, 152, 153, 154, 155, 156, 157] G G2 ∧ G2.length = 158 ∧ ab_slots G2 = 1893385 ∧ G2[18]? = some (ab_ob 0 [vR 19, vR 20, vR 22, vR 30, vR 31, vR 36, vR 37, vR 46, vR 51, vR 60, vR 69, vR 70, vR 72, vR 74, vR 76, vR 78, vI 1, vI 0]) ∧ G2[20]? = some (ab_ob 7 [vI 2000, vR 21, vI 0]) ∧ G2[22]? = some (ab_ob 6 [vR 23, vR (149), vI 0, vI (xs 2), vI 0, vR 28, vR 29, vI 0, vI 0, vI 0]) ∧ G2[23]? = some (ab_ob 10 [vR 24, vR 21, vI 0, vI 0, vI 0, vI (-1), vR 1, vI 0]) ∧ G2[30]? = some (.inl (3, 6, .inr (.inr (.inr (.inr (va_up (fun _ => none) (Int32.toNatClampNeg (xs 1)) (some 151))))))) ∧ G2[149]? = some (ab_ob 4 [vI 4, vI 0, vN, vI (-1), vI 0, vN, vR (150), vN, vI 0, vI 1, vI 0, vI 0, vI 0, vI 0, vI (-1)]) ∧ G2[150]? = some (ab_ob 4 [vI 5, vI 0, vN, vI (-1), vI 0, vN, vN, vN, vI 0, vI 1, vI 0, vI 0, vI 0, vI 0, vI (-1)]) ∧ G2[151]? = some (ab_ob 5 [vR (152), vR (153), vR (154), vI 2, vI 1, vI 0, vR (155), vI 0, vI 0, vI 2, vI 0, vI (xs 2), vI 1, vI 0, vR (156), vR (157)]) ∧ G2[152]? = some (ab_if 808 ((upd (upd (fun _ => 0) 0 9) 1 8))) ∧ G2[153]? = some (ab_if 808 ((upd (upd (fun _ => 0) 0 0) 1 0))) ∧ G2[154]? = some (ab_if 808 ((upd (upd (fun _ => 0) 0 0) 1 0))) ∧ G2[155]? = some (ab_if 32 ((fun _ => 0))) ∧ G2[156]? = some (ab_if 120 ((fun _ => 0))) ∧ G2[157]? = some (ab_if 10 ((fun _ => 0)))) := by
  refine ab_F_of (by decide +kernel) (Nat.le_of_ble_eq_true rfl) ?_
  obtain ⟨Q, hQ⟩ : ∃ z : Outcome → ab_G → Prop, z = (fun o G2 => o = .returned (some (vI 0)) ∧ ab_fr [18, 20, 22, 23, 30, 149, 150, 151, 152, 153, 154, 155, 156, 157] G G2 ∧ G2.length = 158 ∧ ab_slots G2 = 1893385 ∧ G2[18]? = some (ab_ob 0 [vR 19, vR 20, vR 22, vR 30, vR 31, vR 36, vR 37, vR 46, vR 51, vR 60, vR 69, vR 70, vR 72, vR 74, vR 76, vR 78, vI 1, vI 0]) ∧ G2[20]? = some (ab_ob 7 [vI 2000, vR 21, vI 0]) ∧ G2[22]? = some (ab_ob 6 [vR 23, vR (149), vI 0, vI (xs 2), vI 0, vR 28, vR 29, vI 0, vI 0, vI 0]) ∧ G2[23]? = some (ab_ob 10 [vR 24, vR 21, vI 0, vI 0, vI 0, vI (-1), vR 1, vI 0]) ∧ G2[30]? = some (.inl (3, 6, .inr (.inr (.inr (.inr (va_up (fun _ => none) (Int32.toNatClampNeg (xs 1)) (some 151))))))) ∧ G2[149]? = some (ab_ob 4 [vI 4, vI 0, vN, vI (-1), vI 0, vN, vR (150), vN, vI 0, vI 1, vI 0, vI 0, vI 0, vI 0, vI (-1)]) ∧ G2[150]? = some (ab_ob 4 [vI 5, vI 0, vN, vI (-1), vI 0, vN, vN, vN, vI 0, vI 1, vI 0, vI 0, vI 0, vI 0, vI (-1)]) ∧ G2[151]? = some (ab_ob 5 [vR (152), vR (153), vR (154), vI 2, vI 1, vI 0, vR (155), vI 0, vI 0, vI 2, vI 0, vI (xs 2), vI 1, vI 0, vR (156), vR (157)]) ∧ G2[152]? = some (ab_if 808 ((upd (upd (fun _ => 0) 0 9) 1 8))) ∧ G2[153]? = some (ab_if 808 ((upd (upd (fun _ => 0) 0 0) 1 0))) ∧ G2[154]? = some (ab_if 808 ((upd (upd (fun _ => 0) 0 0) 1 0))) ∧ G2[155]? = some (ab_if 32 ((fun _ => 0))) ∧ G2[156]? = some (ab_if 120 ((fun _ => 0))) ∧ G2[157]? = some (ab_if 10 ((fun _ => 0)))) := ⟨_, rfl⟩
  rw [← hQ]
  change ab_W X (ab_pl y_PW_compile b_PW_compile 4 (some (.int))) d G 0 [some (vR 18), some (vI (xs 1)), some (vI (xs 2)), none] [] Q
  have hfr : ab_fr [18, 20, 22, 23, 30, 149, 150, 151, 152, 153, 154, 155, 156, 157] G G := ab_fr.rf
  refine ab_iload_n d_PW_compile_0 rfl ?_
  refine ab_if_lt (tgt := 20) d_PW_compile_1 (by decide) (fun c4 => ?_) (fun c4 => ?_)
  · exfalso; have l0 := (show (0 : Int32).toInt = 0 by decide); have l1 := (show (5 : Int32).toInt = 5 by decide); have l2 := (show (31 : Int32).toInt = 31 by decide); simp only [Int32.le_iff_toInt_le, Int32.lt_iff_toInt_lt, ← Int32.toInt_inj] at c0 c1 c2 c3 c4; omega
  · refine ab_iload_n d_PW_compile_4 rfl ?_
    refine ab_bipush (v := 6) d_PW_compile_5 (by decide) ?_
    refine ab_icmp_ge (tgt := 20) d_PW_compile_7 (by decide) (fun c5 => ?_) (fun c5 => ?_)
    · exfalso; have l0 := (show (0 : Int32).toInt = 0 by decide); have l1 := (show (5 : Int32).toInt = 5 by decide); have l2 := (show (6 : Int32).toInt = 6 by decide); have l3 := (show (31 : Int32).toInt = 31 by decide); simp only [Int32.le_iff_toInt_le, Int32.lt_iff_toInt_lt, ← Int32.toInt_inj] at c0 c1 c2 c3 c4 c5; omega
    · refine ab_iload_n d_PW_compile_10 rfl ?_
      refine ab_if_lt (tgt := 20) d_PW_compile_11 (by decide) (fun c6 => ?_) (fun c6 => ?_)
      · exfalso; have l0 := (show (0 : Int32).toInt = 0 by decide); have l1 := (show (5 : Int32).toInt = 5 by decide); have l2 := (show (6 : Int32).toInt = 6 by decide); have l3 := (show (31 : Int32).toInt = 31 by decide); simp only [Int32.le_iff_toInt_le, Int32.lt_iff_toInt_lt, ← Int32.toInt_inj] at c0 c1 c2 c3 c4 c5 c6; omega
      · refine ab_iload_n d_PW_compile_14 rfl ?_
        refine ab_bipush (v := 31) d_PW_compile_15 (by decide) ?_
        refine ab_icmp_le (tgt := 30) d_PW_compile_17 (by decide) (fun c7 => ?_) (fun c7 => ?_)
        · refine ab_aload_n d_PW_compile_30 rfl ?_
          refine ab_getf (fs := [vR 19, vR 20, vR 22, vR 30, vR 31, vR 36, vR 37, vR 46, vR 51, vR 60, vR 69, vR 70, vR 72, vR 74, vR 76, vR 78, vI 0, vI 0]) f_PW_25 d_PW_compile_31 h18 rfl ?_
          refine ab_aload_n d_PW_compile_34 rfl ?_
          refine ab_getf (fs := [vR 19, vR 20, vR 22, vR 30, vR 31, vR 36, vR 37, vR 46, vR 51, vR 60, vR 69, vR 70, vR 72, vR 74, vR 76, vR 78, vI 0, vI 0]) f_PW_18 d_PW_compile_35 h18 rfl ?_
          refine ab_iload_n d_PW_compile_38 rfl ?_
          refine ab_callV (d' := d - 1) (as := [vR 20, vI (xs 2)]) (st := []) (r := _) (q_RD_read_0 (xs := xs) hlen hsl h20 h22 h23 (by omega)) (fun o G2 h => ⟨_, h.1⟩) (by omega) m_RD_read ml_PW_116 im_RD_read se_RD_read c_RD h22 (Nat.le_of_ble_eq_true rfl) d_PW_compile_39 rfl ?_
          intro v G1 hq
          obtain ⟨hv, hfk, hlen, hsl, h22, h23, h149, h150⟩ := hq
          cases hv
          have h18 := hfk.get (by decide) h18
          have h20 := hfk.get (by decide) h20
          have h30 := hfk.get (by decide) h30
          have hfr := hfr.cl hfk (by decide)
          change ab_W _ _ _ G1 42 [some (vR 18), some (vI (xs 1)), some (vI (xs 2)), none] [vR (149)] _
          refine ab_astore_n d_PW_compile_42 (Nat.le_of_ble_eq_true rfl) (Nat.le_of_ble_eq_true rfl) rfl ?_
          change ab_W _ _ _ G1 43 [some (vR 18), some (vI (xs 1)), some (vI (xs 2)), some (vR (149))] [] _
          refine ab_aload_n d_PW_compile_43 rfl ?_
          refine ab_getf (fs := [vR 19, vR 20, vR 22, vR 30, vR 31, vR 36, vR 37, vR 46, vR 51, vR 60, vR 69, vR 70, vR 72, vR 74, vR 76, vR 78, vI 0, vI 0]) f_PW_18 d_PW_compile_44 h18 rfl ?_
          refine ab_callV (d' := d - 1) (as := []) (st := []) (r := _) (q_RW_clear_0  hlen hsl h20) (fun o G2 h => ⟨_, h.1⟩) (by omega) m_RW_clear ml_PW_120 im_RW_clear se_RW_clear c_RW h20 (Nat.le_of_ble_eq_true rfl) d_PW_compile_47 rfl ?_
          intro v G2 hq
          obtain ⟨hv, hfk, hlen, hsl, h20⟩ := hq
          cases hv
          have h18 := hfk.get (by decide) h18
          have h22 := hfk.get (by decide) h22
          have h23 := hfk.get (by decide) h23
          have h30 := hfk.get (by decide) h30
          have h149 := hfk.get (by decide) h149
          have h150 := hfk.get (by decide) h150
          have hfr := hfr.cl hfk (by decide)
          change ab_W _ _ _ G2 50 [some (vR 18), some (vI (xs 1)), some (vI (xs 2)), some (vR (149))] [] _
          refine ab_aload_n d_PW_compile_50 rfl ?_
          refine ab_ifnonnull (tgt := 64) d_PW_compile_51 (by decide) ?_
          refine ab_aload_n d_PW_compile_64 rfl ?_
          refine ab_getf (fs := [vR 19, vR 20, vR 22, vR 30, vR 31, vR 36, vR 37, vR 46, vR 51, vR 60, vR 69, vR 70, vR 72, vR 74, vR 76, vR 78, vI 0, vI 0]) f_PW_31 d_PW_compile_65 h18 rfl ?_
          refine ab_iload_n d_PW_compile_68 rfl ?_
          refine ab_aald d_PW_compile_69 h30 (vp_in_iff.mpr (by have l0 := (show (0 : Int32).toInt = 0 by decide); have l1 := (show (5 : Int32).toInt = 5 by decide); have l2 := (show (6 : Int32).toInt = 6 by decide); have l3 := (show (31 : Int32).toInt = 31 by decide); simp only [Int32.le_iff_toInt_le, Int32.lt_iff_toInt_lt, ← Int32.toInt_inj] at c0 c1 c2 c3 c4 c5 c6 c7; constructor <;> omega)) ?_
          refine ab_topv (y := vN) rfl ?_
          refine ab_ifnonnullN d_PW_compile_70 ?_
          refine ab_aload_n d_PW_compile_73 rfl ?_
          refine ab_getf (fs := [vR 19, vR 20, vR 22, vR 30, vR 31, vR 36, vR 37, vR 46, vR 51, vR 60, vR 69, vR 70, vR 72, vR 74, vR 76, vR 78, vI 0, vI 0]) f_PW_31 d_PW_compile_74 h18 rfl ?_
          refine ab_iload_n d_PW_compile_77 rfl ?_
          refine ab_new (fs := [vN, vN, vN, vI 0, vI 0, vI 0, vN, vI 0, vI 0, vI 0, vI 0, vI 0, vI 0, vI 0, vN, vN]) k_PR rfl cl_PW_29 inst_PR ini_PR d_PW_compile_78 (by decide) (fun _ => rfl) (by rw [hlen]; decide) (by rw [hsl]; decide) ?_
          rw [hlen]
          obtain ⟨G3, eG3⟩ : ∃ z : ab_G, z = G2 ++ [ab_ob 5 [vN, vN, vN, vI 0, vI 0, vI 0, vN, vI 0, vI 0, vI 0, vI 0, vI 0, vI 0, vI 0, vN, vN]] := ⟨_, rfl⟩
          have h18 := ab_akeep eG3 h18
          have h20 := ab_akeep eG3 h20
          have h22 := ab_akeep eG3 h22
          have h23 := ab_akeep eG3 h23
          have h30 := ab_akeep eG3 h30
          have h149 := ab_akeep eG3 h149
          have h150 := ab_akeep eG3 h150
          have h151 := ab_anew1 eG3 hlen
          have hsl : ab_slots G3 = 1890799 := ab_asl (z := 16) eG3 hlen (by decide) hsl rfl (by decide)
          have hlen : G3.length = 152 := ab_alen1 eG3 hlen
          have hfr := hfr.ap eG3
          change ab_W _ _ _ (G2 ++ [ab_ob 5 [vN, vN, vN, vI 0, vI 0, vI 0, vN, vI 0, vI 0, vI 0, vI 0, vI 0, vI 0, vI 0, vN, vN]]) 81 [some (vR 18), some (vI (xs 1)), some (vI (xs 2)), some (vR (149))] [vR (151), vI (xs 1), vR 30] _
          rw [← eG3]
          refine ab_dup d_PW_compile_81 rfl ?_
          refine ab_callI (d' := d - 1) (as := []) (st := [vR (151), vI (xs 1), vR 30]) (q_PR_init_0  hlen hsl h151 (by omega)) (fun o G2 h => ⟨_, h.1⟩) (by omega) m_PR_init ml_PW_125 im_PR_init rfl (Nat.le_of_ble_eq_true rfl) d_PW_compile_82 rfl ?_
          intro v G4 hq
          obtain ⟨hv, hfk, hlen, hsl, h151, h152, h153, h154, h155, h156, h157⟩ := hq
          cases hv
          have h18 := hfk.get (by decide) h18
          have h20 := hfk.get (by decide) h20
          have h22 := hfk.get (by decide) h22
          have h23 := hfk.get (by decide) h23
          have h30 := hfk.get (by decide) h30
          have h149 := hfk.get (by decide) h149
          have h150 := hfk.get (by decide) h150
          have hfr := hfr.cl hfk (by decide)
          change ab_W _ _ _ G4 85 [some (vR 18), some (vI (xs 1)), some (vI (xs 2)), some (vR (149))] [vR (151), vI (xs 1), vR 30] _
          refine ab_aast d_PW_compile_85 h30 h151 (vp_in_iff.mpr (by have l0 := (show (0 : Int32).toInt = 0 by decide); have l1 := (show (5 : Int32).toInt = 5 by decide); have l2 := (show (6 : Int32).toInt = 6 by decide); have l3 := (show (31 : Int32).toInt = 31 by decide); simp only [Int32.le_iff_toInt_le, Int32.lt_iff_toInt_lt, ← Int32.toInt_inj] at c0 c1 c2 c3 c4 c5 c6 c7; constructor <;> omega)) (by decide) ?_
          obtain ⟨G5, eG5⟩ : ∃ z : ab_G, z = List.set G4 30 (.inl (3, 6, .inr (.inr (.inr (.inr (va_up (fun _ => none) (Int32.toNatClampNeg (xs 1)) (some 151))))))) := ⟨_, rfl⟩
          have h18 := ab_keep eG5 (by decide) h18
          have h20 := ab_keep eG5 (by decide) h20
          have h22 := ab_keep eG5 (by decide) h22
          have h23 := ab_keep eG5 (by decide) h23
          have h149 := ab_keep eG5 (by decide) h149
          have h150 := ab_keep eG5 (by decide) h150
          have h151 := ab_keep eG5 (by decide) h151
          have h152 := ab_keep eG5 (by decide) h152
          have h153 := ab_keep eG5 (by decide) h153
          have h154 := ab_keep eG5 (by decide) h154
          have h155 := ab_keep eG5 (by decide) h155
          have h156 := ab_keep eG5 (by decide) h156
          have h157 := ab_keep eG5 (by decide) h157
          have hlen := ab_klen eG5 hlen
          have hsl := ab_ksl 6 eG5 h30 rfl rfl hsl
          have hfr := hfr.wr eG5 (by decide)
          have h30 := ab_kept eG5 h30
          change ab_W _ _ _ (List.set G4 30 (.inl (3, 6, .inr (.inr (.inr (.inr (va_up (fun _ => none) (Int32.toNatClampNeg (xs 1)) (some 151)))))))) 86 [some (vR 18), some (vI (xs 1)), some (vI (xs 2)), some (vR (149))] [] _
          rw [← eG5]
          refine ab_aload_n d_PW_compile_86 rfl ?_
          refine ab_dup d_PW_compile_87 rfl ?_
          refine ab_getf (fs := [vR 19, vR 20, vR 22, vR 30, vR 31, vR 36, vR 37, vR 46, vR 51, vR 60, vR 69, vR 70, vR 72, vR 74, vR 76, vR 78, vI 0, vI 0]) f_PW_126 d_PW_compile_88 h18 rfl ?_
          refine ab_iconst (v := 1) d_PW_compile_91 (by decide) ?_
          refine ab_iadd d_PW_compile_92 ?_
          refine ab_topi (y := 1) (by decide) ?_
          refine ab_putf (fs := [vR 19, vR 20, vR 22, vR 30, vR 31, vR 36, vR 37, vR 46, vR 51, vR 60, vR 69, vR 70, vR 72, vR 74, vR 76, vR 78, vI 0, vI 0]) f_PW_126 (Or.inl rfl) d_PW_compile_93 h18 (Nat.le_of_ble_eq_true rfl) (fun _ => ⟨rfl, rfl⟩) (by decide) ?_
          obtain ⟨G6, eG6⟩ : ∃ z : ab_G, z = List.set G5 18 (ab_ob 0 [vR 19, vR 20, vR 22, vR 30, vR 31, vR 36, vR 37, vR 46, vR 51, vR 60, vR 69, vR 70, vR 72, vR 74, vR 76, vR 78, vI 1, vI 0]) := ⟨_, rfl⟩
          have h20 := ab_keep eG6 (by decide) h20
          have h22 := ab_keep eG6 (by decide) h22
          have h23 := ab_keep eG6 (by decide) h23
          have h30 := ab_keep eG6 (by decide) h30
          have h149 := ab_keep eG6 (by decide) h149
          have h150 := ab_keep eG6 (by decide) h150
          have h151 := ab_keep eG6 (by decide) h151
          have h152 := ab_keep eG6 (by decide) h152
          have h153 := ab_keep eG6 (by decide) h153
          have h154 := ab_keep eG6 (by decide) h154
          have h155 := ab_keep eG6 (by decide) h155
          have h156 := ab_keep eG6 (by decide) h156
          have h157 := ab_keep eG6 (by decide) h157
          have hlen := ab_klen eG6 hlen
          have hsl := ab_ksl 18 eG6 h18 rfl rfl hsl
          have hfr := hfr.wr eG6 (by decide)
          have h18 := ab_kept eG6 h18
          change ab_W _ _ _ (List.set G5 18 (ab_ob 0 [vR 19, vR 20, vR 22, vR 30, vR 31, vR 36, vR 37, vR 46, vR 51, vR 60, vR 69, vR 70, vR 72, vR 74, vR 76, vR 78, vI 1, vI 0])) 96 [some (vR 18), some (vI (xs 1)), some (vI (xs 2)), some (vR (149))] [] _
          rw [← eG6]
          refine ab_aload_n d_PW_compile_96 rfl ?_
          refine ab_getf (fs := [vR 19, vR 20, vR 22, vR 30, vR 31, vR 36, vR 37, vR 46, vR 51, vR 60, vR 69, vR 70, vR 72, vR 74, vR 76, vR 78, vI 1, vI 0]) f_PW_31 d_PW_compile_97 h18 rfl ?_
          refine ab_iload_n d_PW_compile_100 rfl ?_
          refine ab_aald d_PW_compile_101 h30 (vp_in_iff.mpr (by have l0 := (show (0 : Int32).toInt = 0 by decide); have l1 := (show (5 : Int32).toInt = 5 by decide); have l2 := (show (6 : Int32).toInt = 6 by decide); have l3 := (show (31 : Int32).toInt = 31 by decide); simp only [Int32.le_iff_toInt_le, Int32.lt_iff_toInt_lt, ← Int32.toInt_inj] at c0 c1 c2 c3 c4 c5 c6 c7; constructor <;> omega)) ?_
          refine ab_topv (y := vR 151) (by unfold va_up; rw [if_pos rfl]; rfl) ?_
          refine ab_aload_n d_PW_compile_102 rfl ?_
          refine ab_aload_n d_PW_compile_103 rfl ?_
          refine ab_getf (fs := [vR 19, vR 20, vR 22, vR 30, vR 31, vR 36, vR 37, vR 46, vR 51, vR 60, vR 69, vR 70, vR 72, vR 74, vR 76, vR 78, vI 1, vI 0]) f_PW_25 d_PW_compile_104 h18 rfl ?_
          refine ab_iload_n d_PW_compile_107 rfl ?_
          refine ab_aload_n d_PW_compile_108 rfl ?_
          refine ab_getf (fs := [vR 19, vR 20, vR 22, vR 30, vR 31, vR 36, vR 37, vR 46, vR 51, vR 60, vR 69, vR 70, vR 72, vR 74, vR 76, vR 78, vI 1, vI 0]) f_PW_126 d_PW_compile_109 h18 rfl ?_
          refine ab_callV (d' := d - 1) (as := [vR (149), vR 22, vI (xs 2), vI 1]) (st := []) (r := _) (q_PR_build_0 (xs := xs) hlen hsl h22 h149 h150 h151 h152 h153 h154 (by omega)) (fun o G2 h => ⟨_, h.1⟩) (by omega) m_PR_build ml_PW_129 im_PR_build se_PR_build c_PR h151 (Nat.le_of_ble_eq_true rfl) d_PW_compile_112 rfl ?_
          intro v G7 hq
          obtain ⟨hv, hfk, hlen, hsl, h151, h152, h153, h154⟩ := hq
          cases hv
          have h18 := hfk.get (by decide) h18
          have h20 := hfk.get (by decide) h20
          have h22 := hfk.get (by decide) h22
          have h23 := hfk.get (by decide) h23
          have h30 := hfk.get (by decide) h30
          have h149 := hfk.get (by decide) h149
          have h150 := hfk.get (by decide) h150
          have h155 := hfk.get (by decide) h155
          have h156 := hfk.get (by decide) h156
          have h157 := hfk.get (by decide) h157
          have hfr := hfr.cl hfk (by decide)
          change ab_W _ _ _ G7 115 [some (vR 18), some (vI (xs 1)), some (vI (xs 2)), some (vR (149))] [] _
          refine ab_aload_n d_PW_compile_115 rfl ?_
          refine ab_getf (fs := [vR 19, vR 20, vR 22, vR 30, vR 31, vR 36, vR 37, vR 46, vR 51, vR 60, vR 69, vR 70, vR 72, vR 74, vR 76, vR 78, vI 1, vI 0]) f_PW_31 d_PW_compile_116 h18 rfl ?_
          refine ab_iload_n d_PW_compile_119 rfl ?_
          refine ab_aald d_PW_compile_120 h30 (vp_in_iff.mpr (by have l0 := (show (0 : Int32).toInt = 0 by decide); have l1 := (show (5 : Int32).toInt = 5 by decide); have l2 := (show (6 : Int32).toInt = 6 by decide); have l3 := (show (31 : Int32).toInt = 31 by decide); simp only [Int32.le_iff_toInt_le, Int32.lt_iff_toInt_lt, ← Int32.toInt_inj] at c0 c1 c2 c3 c4 c5 c6 c7; constructor <;> omega)) ?_
          refine ab_topv (y := vR 151) (by unfold va_up; rw [if_pos rfl]; rfl) ?_
          refine ab_getf (fs := [vR (152), vR (153), vR (154), vI 2, vI 1, vI 0, vR (155), vI 0, vI 0, vI 2, vI 0, vI (xs 2), vI 1, vI 0, vR (156), vR (157)]) f_PW_133 d_PW_compile_121 h151 rfl ?_
          exact ab_iret (rt := .int) rfl rfl d_PW_compile_124 (by rw [hQ]; exact ⟨rfl, hfr, hlen, hsl, h18, h20, h22, h23, h30, h149, h150, h151, h152, h153, h154, h155, h156, h157⟩)
        · exfalso; have l0 := (show (0 : Int32).toInt = 0 by decide); have l1 := (show (5 : Int32).toInt = 5 by decide); have l2 := (show (6 : Int32).toInt = 6 by decide); have l3 := (show (31 : Int32).toInt = 31 by decide); simp only [Int32.le_iff_toInt_le, Int32.lt_iff_toInt_lt, ← Int32.toInt_inj] at c0 c1 c2 c3 c4 c5 c6 c7; omega
set_option maxRecDepth 100000 in
set_option maxHeartbeats 4000000 in
theorem q_LA_compile_4 {X : ab_X} {d : Nat} {G : ab_G} {xs : Nat → Int32} (hlen : G.length = 149) (hsl : ab_slots G = 1890753) (h18 : G[18]? = some (ab_ob 0 [vR 19, vR 20, vR 22, vR 30, vR 31, vR 36, vR 37, vR 46, vR 51, vR 60, vR 69, vR 70, vR 72, vR 74, vR 76, vR 78, vI 0, vI 0])) (h20 : G[20]? = some (ab_ob 7 [vI 2000, vR 21, vI 0])) (h22 : G[22]? = some (ab_ob 6 [vR 23, vR 27, vI 0, vI 0, vI 0, vR 28, vR 29, vI 0, vI 0, vI 0])) (h23 : G[23]? = some (ab_ob 10 [vR 24, vR 26, vI 0, vI 0, vI 0, vI (-1), vR 1, vI 0])) (h30 : G[30]? = some (.inl (3, 6, .inr (.inr (.inr (.inr (fun _ => none))))))) (h148 : G[148]? = some (.inl (2, 1, .inr (.inl (fun _ => 0))))) (c0 : 0 ≤ (xs 1)) (c1 : (xs 1) ≤ 5) (c2 : 0 ≤ (xs 2)) (c3 : (xs 2) ≤ 31) (hd : 4 ≤ d) : ab_F X d y_LA_compile (.codeWith y_LA_compile b_LA_compile 5 (some (.int)) [(0, 10, 13, 13)]) [vR 18, vI (xs 1), vI (xs 2), vR 148] G (fun o G2 => o = .returned (some (vI 0)) ∧ ab_fr [18, 20, 22, 23, 30, 148, 149, 150, 151, 152, 153, 154, 155, 156, 157] G G2 ∧ G2.length = 158 ∧ ab_slots G2 = 1893385 ∧ G2[18]? = some (ab_ob 0 [vR 19, vR 20, vR 22, vR 30, vR 31, vR 36, vR 37, vR 46, vR 51, vR 60, vR 69, vR 70, vR 72, vR 74, vR 76, vR 78, vI 1, vI 0]) ∧ G2[20]? = some (ab_ob 7 [vI 2000, vR 21, vI 0]) ∧ G2[22]? = some (ab_ob 6 [vR 23, vR (149), vI 0, vI (xs 2), vI 0, vR 28, vR 29, vI 0, vI 0, vI 0]) ∧ G2[23]? = some (ab_ob 10 [vR 24, vR 21, vI 0, vI 0, vI 0, vI (-1), vR 1, vI 0]) ∧ G2[30]? = some (.inl (3, 6, .inr (.inr (.inr (.inr (va_up (fun _ => none) (Int32.toNatClampNeg (xs 1)) (some 151))))))) ∧ G2[148]? = some (.inl (2, 1, .inr (.inl (vp_updL (fun _ => 0) 0 0)))) ∧ G2[149]? = some (ab_ob 4 [vI 4, vI 0, vN, vI (-1), vI 0, vN, vR (150), vN, vI 0, vI 1, vI 0, vI 0, vI 0, vI 0, vI (-1)]) ∧ G2[150]? = some (ab_ob 4 [vI 5, vI 0, vN, vI (-1), vI 0, vN, vN, vN, vI 0, vI 1, vI 0, vI 0, vI 0, vI 0, vI (-1)]) ∧ G2[151]? = some (ab_ob 5 [vR (152), vR (153), vR (154), vI 2, vI 1, vI 0, vR (155), vI 0, vI 0, vI 2, vI 0, vI (xs 2), vI 1, vI 0, vR (156), vR (157)]) ∧ G2[152]? = some (ab_if 808 ((upd (upd (fun _ => 0) 0 9) 1 8))) ∧ G2[153]? = some (ab_if 808 ((upd (upd (fun _ => 0) 0 0) 1 0))) ∧ G2[154]? = some (ab_if 808 ((upd (upd (fun _ => 0) 0 0) 1 0))) ∧ G2[155]? = some (ab_if 32 ((fun _ => 0))) ∧ G2[156]? = some (ab_if 120 ((fun _ => 0))) ∧ G2[157]? = some (ab_if 10 ((fun _ => 0)))) := by
  refine ab_F_ofW (by decide +kernel) (Nat.le_of_ble_eq_true rfl) ?_
  obtain ⟨Q, hQ⟩ : ∃ z : Outcome → ab_G → Prop, z = (fun o G2 => o = .returned (some (vI 0)) ∧ ab_fr [18, 20, 22, 23, 30, 148, 149, 150, 151, 152, 153, 154, 155, 156, 157] G G2 ∧ G2.length = 158 ∧ ab_slots G2 = 1893385 ∧ G2[18]? = some (ab_ob 0 [vR 19, vR 20, vR 22, vR 30, vR 31, vR 36, vR 37, vR 46, vR 51, vR 60, vR 69, vR 70, vR 72, vR 74, vR 76, vR 78, vI 1, vI 0]) ∧ G2[20]? = some (ab_ob 7 [vI 2000, vR 21, vI 0]) ∧ G2[22]? = some (ab_ob 6 [vR 23, vR (149), vI 0, vI (xs 2), vI 0, vR 28, vR 29, vI 0, vI 0, vI 0]) ∧ G2[23]? = some (ab_ob 10 [vR 24, vR 21, vI 0, vI 0, vI 0, vI (-1), vR 1, vI 0]) ∧ G2[30]? = some (.inl (3, 6, .inr (.inr (.inr (.inr (va_up (fun _ => none) (Int32.toNatClampNeg (xs 1)) (some 151))))))) ∧ G2[148]? = some (.inl (2, 1, .inr (.inl (vp_updL (fun _ => 0) 0 0)))) ∧ G2[149]? = some (ab_ob 4 [vI 4, vI 0, vN, vI (-1), vI 0, vN, vR (150), vN, vI 0, vI 1, vI 0, vI 0, vI 0, vI 0, vI (-1)]) ∧ G2[150]? = some (ab_ob 4 [vI 5, vI 0, vN, vI (-1), vI 0, vN, vN, vN, vI 0, vI 1, vI 0, vI 0, vI 0, vI 0, vI (-1)]) ∧ G2[151]? = some (ab_ob 5 [vR (152), vR (153), vR (154), vI 2, vI 1, vI 0, vR (155), vI 0, vI 0, vI 2, vI 0, vI (xs 2), vI 1, vI 0, vR (156), vR (157)]) ∧ G2[152]? = some (ab_if 808 ((upd (upd (fun _ => 0) 0 9) 1 8))) ∧ G2[153]? = some (ab_if 808 ((upd (upd (fun _ => 0) 0 0) 1 0))) ∧ G2[154]? = some (ab_if 808 ((upd (upd (fun _ => 0) 0 0) 1 0))) ∧ G2[155]? = some (ab_if 32 ((fun _ => 0))) ∧ G2[156]? = some (ab_if 120 ((fun _ => 0))) ∧ G2[157]? = some (ab_if 10 ((fun _ => 0)))) := ⟨_, rfl⟩
  rw [← hQ]
  change ab_W X (ab_plW y_LA_compile b_LA_compile 5 (some (.int)) [(0, 10, 13, 13)]) d G 0 [some (vR 18), some (vI (xs 1)), some (vI (xs 2)), some (vR 148), none] [] Q
  have hfr : ab_fr [18, 20, 22, 23, 30, 148, 149, 150, 151, 152, 153, 154, 155, 156, 157] G G := ab_fr.rf
  refine ab_aload_n d_LA_compile_0 rfl ?_
  refine ab_iconst (v := 0) d_LA_compile_1 (by decide) ?_
  refine ab_aload_n d_LA_compile_2 rfl ?_
  refine ab_iload_n d_LA_compile_3 rfl ?_
  refine ab_iload_n d_LA_compile_4 rfl ?_
  refine ab_callV (d' := d - 1) (as := [vI (xs 1), vI (xs 2)]) (st := [vI 0, vR 148]) (r := _) (q_PW_compile_4 (xs := xs) hlen hsl h18 h20 h22 h23 h30 c0 c1 c2 c3 (by omega)) (fun o G2 h => ⟨_, h.1⟩) (by omega) m_PW_compile ml_LA_7 im_PW_compile se_PW_compile c_PW h18 (Nat.le_of_ble_eq_true rfl) d_LA_compile_5 rfl ?_
  intro v G1 hq
  obtain ⟨hv, hfk, hlen, hsl, h18, h20, h22, h23, h30, h149, h150, h151, h152, h153, h154, h155, h156, h157⟩ := hq
  cases hv
  have h148 := hfk.get (by decide) h148
  have hfr := hfr.cl hfk (by decide)
  change ab_W _ _ _ G1 8 [some (vR 18), some (vI (xs 1)), some (vI (xs 2)), some (vR 148), none] [vI 0, vI 0, vR 148] _
  refine ab_i2l d_LA_compile_8 ?_
  refine ab_topl (y := 0) (by decide) ?_
  refine ab_last d_LA_compile_9 h148 (by unfold vp_in; decide) (by decide) ?_
  obtain ⟨G2, eG2⟩ : ∃ z : ab_G, z = List.set G1 148 (.inl (2, 1, .inr (.inl (vp_updL (fun _ => 0) 0 0)))) := ⟨_, rfl⟩
  have h18 := ab_keep eG2 (by decide) h18
  have h20 := ab_keep eG2 (by decide) h20
  have h22 := ab_keep eG2 (by decide) h22
  have h23 := ab_keep eG2 (by decide) h23
  have h30 := ab_keep eG2 (by decide) h30
  have h149 := ab_keep eG2 (by decide) h149
  have h150 := ab_keep eG2 (by decide) h150
  have h151 := ab_keep eG2 (by decide) h151
  have h152 := ab_keep eG2 (by decide) h152
  have h153 := ab_keep eG2 (by decide) h153
  have h154 := ab_keep eG2 (by decide) h154
  have h155 := ab_keep eG2 (by decide) h155
  have h156 := ab_keep eG2 (by decide) h156
  have h157 := ab_keep eG2 (by decide) h157
  have hlen := ab_klen eG2 hlen
  have hsl := ab_ksl 1 eG2 h148 rfl rfl hsl
  have hfr := hfr.wr eG2 (by decide)
  have h148 := ab_kept eG2 h148
  change ab_W _ _ _ (List.set G1 148 (.inl (2, 1, .inr (.inl (vp_updL (fun _ => 0) 0 0))))) 10 [some (vR 18), some (vI (xs 1)), some (vI (xs 2)), some (vR 148), none] [] _
  rw [← eG2]
  refine ab_goto (tgt := 17) d_LA_compile_10 (by decide) ?_
  refine ab_iconst (v := 0) d_LA_compile_17 (by decide) ?_
  exact ab_iret (rt := .int) rfl rfl d_LA_compile_18 (by rw [hQ]; exact ⟨rfl, hfr, hlen, hsl, h18, h20, h22, h23, h30, h148, h149, h150, h151, h152, h153, h154, h155, h156, h157⟩)
set_option maxRecDepth 100000 in
set_option maxHeartbeats 4000000 in
theorem q_MO_openRow_2 {X : ab_X} {d : Nat} {G : ab_G} {xs : Nat → Int32} (hlen : G.length = 158) (hsl : ab_slots G = 1893385) (h80 : G[80]? = some (ab_ob 12 (m_fv (vI 0) (vI 0) (vI 0) (vI 0) (vI 0) (vI 0) (vI 0) (vI 0) (vI 0) (vI 0) (vI ((xs 2) &&& 15)) (vI 0) (vI (-1)) (vI 0) (vI 0) (vI 0) (vI 0) (vI 0) (vI 0) (vI 0) (vI 0) (vI 0) (vI 0) (vI 0) (vI 0) (vI 0) (vI 0) (vI 0) (vI 0) (vI 0) (vI 0) (vI 0) (vI 0) (vI 0) (vI 0)))) (h105 : G[105]? = some (ab_if 32 ((fun _ => 0)))) (h109 : G[109]? = some (ab_if 32 ((fun _ => 0)))) : ab_F X d y_MO_openRow (.code y_MO_openRow b_MO_openRow 1 none) [vR 80] G (fun o G2 => o = .returned none ∧ ab_fr [105, 109] G G2 ∧ G2.length = 158 ∧ ab_slots G2 = 1893385 ∧ G2[105]? = some (ab_if 32 ((upd (fun _ => 0) 0 (-1)))) ∧ G2[109]? = some (ab_if 32 ((upd (fun _ => 0) 0 0)))) := by
  refine ab_F_of (by decide +kernel) (Nat.le_of_ble_eq_true rfl) ?_
  obtain ⟨Q, hQ⟩ : ∃ z : Outcome → ab_G → Prop, z = (fun o G2 => o = .returned none ∧ ab_fr [105, 109] G G2 ∧ G2.length = 158 ∧ ab_slots G2 = 1893385 ∧ G2[105]? = some (ab_if 32 ((upd (fun _ => 0) 0 (-1)))) ∧ G2[109]? = some (ab_if 32 ((upd (fun _ => 0) 0 0)))) := ⟨_, rfl⟩
  rw [← hQ]
  change ab_W X (ab_pl y_MO_openRow b_MO_openRow 1 none) d G 0 [some (vR 80)] [] Q
  have hfr : ab_fr [105, 109] G G := ab_fr.rf
  refine ab_aload_n d_MO_openRow_0 rfl ?_
  refine ab_getf (fs := (m_fv (vI 0) (vI 0) (vI 0) (vI 0) (vI 0) (vI 0) (vI 0) (vI 0) (vI 0) (vI 0) (vI ((xs 2) &&& 15)) (vI 0) (vI (-1)) (vI 0) (vI 0) (vI 0) (vI 0) (vI 0) (vI 0) (vI 0) (vI 0) (vI 0) (vI 0) (vI 0) (vI 0) (vI 0) (vI 0) (vI 0) (vI 0) (vI 0) (vI 0) (vI 0) (vI 0) (vI 0) (vI 0))) f_MO_88 d_MO_openRow_1 h80 rfl ?_
  refine ab_aload_n d_MO_openRow_4 rfl ?_
  refine ab_getf (fs := (m_fv (vI 0) (vI 0) (vI 0) (vI 0) (vI 0) (vI 0) (vI 0) (vI 0) (vI 0) (vI 0) (vI ((xs 2) &&& 15)) (vI 0) (vI (-1)) (vI 0) (vI 0) (vI 0) (vI 0) (vI 0) (vI 0) (vI 0) (vI 0) (vI 0) (vI 0) (vI 0) (vI 0) (vI 0) (vI 0) (vI 0) (vI 0) (vI 0) (vI 0) (vI 0) (vI 0) (vI 0) (vI 0))) f_MO_282 d_MO_openRow_5 h80 rfl ?_
  refine ab_iconst (v := (-1)) d_MO_openRow_8 (by decide) ?_
  refine ab_iast d_MO_openRow_9 h105 (by unfold vp_in; decide) (by decide) ?_
  obtain ⟨G1, eG1⟩ : ∃ z : ab_G, z = List.set G 105 (ab_if 32 ((upd (fun _ => 0) 0 (-1)))) := ⟨_, rfl⟩
  have h80 := ab_keep eG1 (by decide) h80
  have h109 := ab_keep eG1 (by decide) h109
  have hlen := ab_klen eG1 hlen
  have hsl := ab_ksl 32 eG1 h105 rfl rfl hsl
  have hfr := hfr.wr eG1 (by decide)
  have h105 := ab_kept eG1 h105
  change ab_W _ _ _ (List.set G 105 (ab_if 32 ((upd (fun _ => 0) 0 (-1))))) 10 [some (vR 80)] [] _
  rw [← eG1]
  refine ab_aload_n d_MO_openRow_10 rfl ?_
  refine ab_getf (fs := (m_fv (vI 0) (vI 0) (vI 0) (vI 0) (vI 0) (vI 0) (vI 0) (vI 0) (vI 0) (vI 0) (vI ((xs 2) &&& 15)) (vI 0) (vI (-1)) (vI 0) (vI 0) (vI 0) (vI 0) (vI 0) (vI 0) (vI 0) (vI 0) (vI 0) (vI 0) (vI 0) (vI 0) (vI 0) (vI 0) (vI 0) (vI 0) (vI 0) (vI 0) (vI 0) (vI 0) (vI 0) (vI 0))) f_MO_100 d_MO_openRow_11 h80 rfl ?_
  refine ab_aload_n d_MO_openRow_14 rfl ?_
  refine ab_getf (fs := (m_fv (vI 0) (vI 0) (vI 0) (vI 0) (vI 0) (vI 0) (vI 0) (vI 0) (vI 0) (vI 0) (vI ((xs 2) &&& 15)) (vI 0) (vI (-1)) (vI 0) (vI 0) (vI 0) (vI 0) (vI 0) (vI 0) (vI 0) (vI 0) (vI 0) (vI 0) (vI 0) (vI 0) (vI 0) (vI 0) (vI 0) (vI 0) (vI 0) (vI 0) (vI 0) (vI 0) (vI 0) (vI 0))) f_MO_282 d_MO_openRow_15 h80 rfl ?_
  refine ab_iconst (v := 0) d_MO_openRow_18 (by decide) ?_
  refine ab_iast d_MO_openRow_19 h109 (by unfold vp_in; decide) (by decide) ?_
  obtain ⟨G2, eG2⟩ : ∃ z : ab_G, z = List.set G1 109 (ab_if 32 ((upd (fun _ => 0) 0 0))) := ⟨_, rfl⟩
  have h80 := ab_keep eG2 (by decide) h80
  have h105 := ab_keep eG2 (by decide) h105
  have hlen := ab_klen eG2 hlen
  have hsl := ab_ksl 32 eG2 h109 rfl rfl hsl
  have hfr := hfr.wr eG2 (by decide)
  have h109 := ab_kept eG2 h109
  change ab_W _ _ _ (List.set G1 109 (ab_if 32 ((upd (fun _ => 0) 0 0)))) 20 [some (vR 80)] [] _
  rw [← eG2]
  exact ab_vret rfl d_MO_openRow_20 (by rw [hQ]; exact ⟨rfl, hfr, hlen, hsl, h105, h109⟩)
set_option maxRecDepth 100000 in
set_option maxHeartbeats 4000000 in
theorem q_MO_openGroup_1 {X : ab_X} {d : Nat} {G : ab_G} {xs : Nat → Int32} (hlen : G.length = 158) (hsl : ab_slots G = 1893385) (h80 : G[80]? = some (ab_ob 12 (m_fv (vI 0) (vI 0) (vI 0) (vI 0) (vI 0) (vI 0) (vI 0) (vI 0) (vI 0) (vI 0) (vI ((xs 2) &&& 15)) (vI 0) (vI (-1)) (vI 0) (vI 0) (vI 0) (vI 0) (vI 0) (vI 0) (vI 0) (vI 0) (vI 0) (vI 0) (vI 0) (vI 0) (vI 0) (vI 0) (vI 0) (vI 0) (vI 0) (vI 0) (vI 0) (vI 0) (vI 0) (vI 0)))) (h102 : G[102]? = some (ab_if 32 ((fun _ => 0)))) (h103 : G[103]? = some (ab_if 32 ((fun _ => 0)))) (h104 : G[104]? = some (ab_if 32 ((fun _ => 0)))) (h105 : G[105]? = some (ab_if 32 ((fun _ => 0)))) (h107 : G[107]? = some (ab_if 32 ((fun _ => 0)))) (h109 : G[109]? = some (ab_if 32 ((fun _ => 0)))) (hd : 1 ≤ d) : ab_F X d y_MO_openGroup (.code y_MO_openGroup b_MO_openGroup 4 none) [vR 80, vI (-1), vI ((xs 2) &&& 15), vI 0] G (fun o G2 => o = .returned none ∧ ab_fr [102, 103, 104, 105, 107, 109] G G2 ∧ G2.length = 158 ∧ ab_slots G2 = 1893385 ∧ G2[102]? = some (ab_if 32 ((upd (fun _ => 0) 0 (-1)))) ∧ G2[103]? = some (ab_if 32 ((upd (fun _ => 0) 0 ((xs 2) &&& 15)))) ∧ G2[104]? = some (ab_if 32 ((upd (fun _ => 0) 0 0))) ∧ G2[105]? = some (ab_if 32 ((upd (fun _ => 0) 0 (-1)))) ∧ G2[107]? = some (ab_if 32 ((upd (fun _ => 0) 0 (-1)))) ∧ G2[109]? = some (ab_if 32 ((upd (fun _ => 0) 0 0)))) := by
  refine ab_F_of (by decide +kernel) (Nat.le_of_ble_eq_true rfl) ?_
  obtain ⟨Q, hQ⟩ : ∃ z : Outcome → ab_G → Prop, z = (fun o G2 => o = .returned none ∧ ab_fr [102, 103, 104, 105, 107, 109] G G2 ∧ G2.length = 158 ∧ ab_slots G2 = 1893385 ∧ G2[102]? = some (ab_if 32 ((upd (fun _ => 0) 0 (-1)))) ∧ G2[103]? = some (ab_if 32 ((upd (fun _ => 0) 0 ((xs 2) &&& 15)))) ∧ G2[104]? = some (ab_if 32 ((upd (fun _ => 0) 0 0))) ∧ G2[105]? = some (ab_if 32 ((upd (fun _ => 0) 0 (-1)))) ∧ G2[107]? = some (ab_if 32 ((upd (fun _ => 0) 0 (-1)))) ∧ G2[109]? = some (ab_if 32 ((upd (fun _ => 0) 0 0)))) := ⟨_, rfl⟩
  rw [← hQ]
  change ab_W X (ab_pl y_MO_openGroup b_MO_openGroup 4 none) d G 0 [some (vR 80), some (vI (-1)), some (vI ((xs 2) &&& 15)), some (vI 0)] [] Q
  have hfr : ab_fr [102, 103, 104, 105, 107, 109] G G := ab_fr.rf
  refine ab_aload_n d_MO_openGroup_0 rfl ?_
  refine ab_getf (fs := (m_fv (vI 0) (vI 0) (vI 0) (vI 0) (vI 0) (vI 0) (vI 0) (vI 0) (vI 0) (vI 0) (vI ((xs 2) &&& 15)) (vI 0) (vI (-1)) (vI 0) (vI 0) (vI 0) (vI 0) (vI 0) (vI 0) (vI 0) (vI 0) (vI 0) (vI 0) (vI 0) (vI 0) (vI 0) (vI 0) (vI 0) (vI 0) (vI 0) (vI 0) (vI 0) (vI 0) (vI 0) (vI 0))) f_MO_79 d_MO_openGroup_1 h80 rfl ?_
  refine ab_aload_n d_MO_openGroup_4 rfl ?_
  refine ab_getf (fs := (m_fv (vI 0) (vI 0) (vI 0) (vI 0) (vI 0) (vI 0) (vI 0) (vI 0) (vI 0) (vI 0) (vI ((xs 2) &&& 15)) (vI 0) (vI (-1)) (vI 0) (vI 0) (vI 0) (vI 0) (vI 0) (vI 0) (vI 0) (vI 0) (vI 0) (vI 0) (vI 0) (vI 0) (vI 0) (vI 0) (vI 0) (vI 0) (vI 0) (vI 0) (vI 0) (vI 0) (vI 0) (vI 0))) f_MO_282 d_MO_openGroup_5 h80 rfl ?_
  refine ab_iload_n d_MO_openGroup_8 rfl ?_
  refine ab_iast d_MO_openGroup_9 h102 (by unfold vp_in; decide) (by decide) ?_
  obtain ⟨G1, eG1⟩ : ∃ z : ab_G, z = List.set G 102 (ab_if 32 ((upd (fun _ => 0) 0 (-1)))) := ⟨_, rfl⟩
  have h80 := ab_keep eG1 (by decide) h80
  have h103 := ab_keep eG1 (by decide) h103
  have h104 := ab_keep eG1 (by decide) h104
  have h105 := ab_keep eG1 (by decide) h105
  have h107 := ab_keep eG1 (by decide) h107
  have h109 := ab_keep eG1 (by decide) h109
  have hlen := ab_klen eG1 hlen
  have hsl := ab_ksl 32 eG1 h102 rfl rfl hsl
  have hfr := hfr.wr eG1 (by decide)
  have h102 := ab_kept eG1 h102
  change ab_W _ _ _ (List.set G 102 (ab_if 32 ((upd (fun _ => 0) 0 (-1))))) 10 [some (vR 80), some (vI (-1)), some (vI ((xs 2) &&& 15)), some (vI 0)] [] _
  rw [← eG1]
  refine ab_aload_n d_MO_openGroup_10 rfl ?_
  refine ab_getf (fs := (m_fv (vI 0) (vI 0) (vI 0) (vI 0) (vI 0) (vI 0) (vI 0) (vI 0) (vI 0) (vI 0) (vI ((xs 2) &&& 15)) (vI 0) (vI (-1)) (vI 0) (vI 0) (vI 0) (vI 0) (vI 0) (vI 0) (vI 0) (vI 0) (vI 0) (vI 0) (vI 0) (vI 0) (vI 0) (vI 0) (vI 0) (vI 0) (vI 0) (vI 0) (vI 0) (vI 0) (vI 0) (vI 0))) f_MO_82 d_MO_openGroup_11 h80 rfl ?_
  refine ab_aload_n d_MO_openGroup_14 rfl ?_
  refine ab_getf (fs := (m_fv (vI 0) (vI 0) (vI 0) (vI 0) (vI 0) (vI 0) (vI 0) (vI 0) (vI 0) (vI 0) (vI ((xs 2) &&& 15)) (vI 0) (vI (-1)) (vI 0) (vI 0) (vI 0) (vI 0) (vI 0) (vI 0) (vI 0) (vI 0) (vI 0) (vI 0) (vI 0) (vI 0) (vI 0) (vI 0) (vI 0) (vI 0) (vI 0) (vI 0) (vI 0) (vI 0) (vI 0) (vI 0))) f_MO_282 d_MO_openGroup_15 h80 rfl ?_
  refine ab_iload_n d_MO_openGroup_18 rfl ?_
  refine ab_iast d_MO_openGroup_19 h103 (by unfold vp_in; decide) (by decide) ?_
  obtain ⟨G2, eG2⟩ : ∃ z : ab_G, z = List.set G1 103 (ab_if 32 ((upd (fun _ => 0) 0 ((xs 2) &&& 15)))) := ⟨_, rfl⟩
  have h80 := ab_keep eG2 (by decide) h80
  have h102 := ab_keep eG2 (by decide) h102
  have h104 := ab_keep eG2 (by decide) h104
  have h105 := ab_keep eG2 (by decide) h105
  have h107 := ab_keep eG2 (by decide) h107
  have h109 := ab_keep eG2 (by decide) h109
  have hlen := ab_klen eG2 hlen
  have hsl := ab_ksl 32 eG2 h103 rfl rfl hsl
  have hfr := hfr.wr eG2 (by decide)
  have h103 := ab_kept eG2 h103
  change ab_W _ _ _ (List.set G1 103 (ab_if 32 ((upd (fun _ => 0) 0 ((xs 2) &&& 15))))) 20 [some (vR 80), some (vI (-1)), some (vI ((xs 2) &&& 15)), some (vI 0)] [] _
  rw [← eG2]
  refine ab_aload_n d_MO_openGroup_20 rfl ?_
  refine ab_getf (fs := (m_fv (vI 0) (vI 0) (vI 0) (vI 0) (vI 0) (vI 0) (vI 0) (vI 0) (vI 0) (vI 0) (vI ((xs 2) &&& 15)) (vI 0) (vI (-1)) (vI 0) (vI 0) (vI 0) (vI 0) (vI 0) (vI 0) (vI 0) (vI 0) (vI 0) (vI 0) (vI 0) (vI 0) (vI 0) (vI 0) (vI 0) (vI 0) (vI 0) (vI 0) (vI 0) (vI 0) (vI 0) (vI 0))) f_MO_85 d_MO_openGroup_21 h80 rfl ?_
  refine ab_aload_n d_MO_openGroup_24 rfl ?_
  refine ab_getf (fs := (m_fv (vI 0) (vI 0) (vI 0) (vI 0) (vI 0) (vI 0) (vI 0) (vI 0) (vI 0) (vI 0) (vI ((xs 2) &&& 15)) (vI 0) (vI (-1)) (vI 0) (vI 0) (vI 0) (vI 0) (vI 0) (vI 0) (vI 0) (vI 0) (vI 0) (vI 0) (vI 0) (vI 0) (vI 0) (vI 0) (vI 0) (vI 0) (vI 0) (vI 0) (vI 0) (vI 0) (vI 0) (vI 0))) f_MO_282 d_MO_openGroup_25 h80 rfl ?_
  refine ab_iload_n d_MO_openGroup_28 rfl ?_
  refine ab_iast d_MO_openGroup_29 h104 (by unfold vp_in; decide) (by decide) ?_
  obtain ⟨G3, eG3⟩ : ∃ z : ab_G, z = List.set G2 104 (ab_if 32 ((upd (fun _ => 0) 0 0))) := ⟨_, rfl⟩
  have h80 := ab_keep eG3 (by decide) h80
  have h102 := ab_keep eG3 (by decide) h102
  have h103 := ab_keep eG3 (by decide) h103
  have h105 := ab_keep eG3 (by decide) h105
  have h107 := ab_keep eG3 (by decide) h107
  have h109 := ab_keep eG3 (by decide) h109
  have hlen := ab_klen eG3 hlen
  have hsl := ab_ksl 32 eG3 h104 rfl rfl hsl
  have hfr := hfr.wr eG3 (by decide)
  have h104 := ab_kept eG3 h104
  change ab_W _ _ _ (List.set G2 104 (ab_if 32 ((upd (fun _ => 0) 0 0)))) 30 [some (vR 80), some (vI (-1)), some (vI ((xs 2) &&& 15)), some (vI 0)] [] _
  rw [← eG3]
  refine ab_aload_n d_MO_openGroup_30 rfl ?_
  refine ab_getf (fs := (m_fv (vI 0) (vI 0) (vI 0) (vI 0) (vI 0) (vI 0) (vI 0) (vI 0) (vI 0) (vI 0) (vI ((xs 2) &&& 15)) (vI 0) (vI (-1)) (vI 0) (vI 0) (vI 0) (vI 0) (vI 0) (vI 0) (vI 0) (vI 0) (vI 0) (vI 0) (vI 0) (vI 0) (vI 0) (vI 0) (vI 0) (vI 0) (vI 0) (vI 0) (vI 0) (vI 0) (vI 0) (vI 0))) f_MO_94 d_MO_openGroup_31 h80 rfl ?_
  refine ab_aload_n d_MO_openGroup_34 rfl ?_
  refine ab_getf (fs := (m_fv (vI 0) (vI 0) (vI 0) (vI 0) (vI 0) (vI 0) (vI 0) (vI 0) (vI 0) (vI 0) (vI ((xs 2) &&& 15)) (vI 0) (vI (-1)) (vI 0) (vI 0) (vI 0) (vI 0) (vI 0) (vI 0) (vI 0) (vI 0) (vI 0) (vI 0) (vI 0) (vI 0) (vI 0) (vI 0) (vI 0) (vI 0) (vI 0) (vI 0) (vI 0) (vI 0) (vI 0) (vI 0))) f_MO_282 d_MO_openGroup_35 h80 rfl ?_
  refine ab_iconst (v := (-1)) d_MO_openGroup_38 (by decide) ?_
  refine ab_iast d_MO_openGroup_39 h107 (by unfold vp_in; decide) (by decide) ?_
  obtain ⟨G4, eG4⟩ : ∃ z : ab_G, z = List.set G3 107 (ab_if 32 ((upd (fun _ => 0) 0 (-1)))) := ⟨_, rfl⟩
  have h80 := ab_keep eG4 (by decide) h80
  have h102 := ab_keep eG4 (by decide) h102
  have h103 := ab_keep eG4 (by decide) h103
  have h104 := ab_keep eG4 (by decide) h104
  have h105 := ab_keep eG4 (by decide) h105
  have h109 := ab_keep eG4 (by decide) h109
  have hlen := ab_klen eG4 hlen
  have hsl := ab_ksl 32 eG4 h107 rfl rfl hsl
  have hfr := hfr.wr eG4 (by decide)
  have h107 := ab_kept eG4 h107
  change ab_W _ _ _ (List.set G3 107 (ab_if 32 ((upd (fun _ => 0) 0 (-1))))) 40 [some (vR 80), some (vI (-1)), some (vI ((xs 2) &&& 15)), some (vI 0)] [] _
  rw [← eG4]
  refine ab_aload_n d_MO_openGroup_40 rfl ?_
  refine ab_callV (d' := d - 1) (as := []) (st := []) (r := _) (q_MO_openRow_2 (xs := xs) hlen hsl h80 h105 h109) (fun o G2 h => ⟨_, h.1⟩) (by omega) m_MO_openRow ml_MO_285 im_MO_openRow se_MO_openRow c_MO h80 (Nat.le_of_ble_eq_true rfl) d_MO_openGroup_41 rfl ?_
  intro v G5 hq
  obtain ⟨hv, hfk, hlen, hsl, h105, h109⟩ := hq
  cases hv
  have h80 := hfk.get (by decide) h80
  have h102 := hfk.get (by decide) h102
  have h103 := hfk.get (by decide) h103
  have h104 := hfk.get (by decide) h104
  have h107 := hfk.get (by decide) h107
  have hfr := hfr.cl hfk (by decide)
  change ab_W _ _ _ G5 44 [some (vR 80), some (vI (-1)), some (vI ((xs 2) &&& 15)), some (vI 0)] [] _
  exact ab_vret rfl d_MO_openGroup_44 (by rw [hQ]; exact ⟨rfl, hfr, hlen, hsl, h102, h103, h104, h105, h107, h109⟩)
set_option maxRecDepth 100000 in
set_option maxHeartbeats 4000000 in
theorem q_MO_node_2 {X : ab_X} {d : Nat} {G : ab_G} {xs : Nat → Int32} (hlen : G.length = 158) (hsl : ab_slots G = 1893385) (h80 : G[80]? = some (ab_ob 12 (m_fv (vI 0) (vI 0) (vI 0) (vI 0) (vI 0) (vI 0) (vI 0) (vI 0) (vI 0) (vI 0) (vI ((xs 2) &&& 15)) (vI 0) (vI (-1)) (vI 0) (vI 0) (vI 0) (vI 0) (vI 0) (vI 0) (vI 0) (vI 0) (vI 0) (vI 0) (vI 0) (vI 0) (vI 0) (vI 0) (vI 0) (vI 0) (vI 0) (vI 0) (vI 0) (vI 0) (vI 0) (vI 0)))) (h94 : G[94]? = some (ab_if 4200 ((fun _ => 0)))) (h95 : G[95]? = some (ab_if 4200 ((fun _ => 0)))) (h96 : G[96]? = some (ab_if 4200 ((fun _ => 0)))) (h97 : G[97]? = some (ab_if 4200 ((fun _ => 0)))) (h100 : G[100]? = some (.inl (2, 4200, .inr (.inl (fun _ => 0))))) : ab_F X d y_MO_node (.code y_MO_node b_MO_node 5 (some (.int))) [vR 80, vI 4, vI 0, vJ 0] G (fun o G2 => o = .returned (some (vI 0)) ∧ ab_fr [80, 94, 95, 96, 97, 100] G G2 ∧ G2.length = 158 ∧ ab_slots G2 = 1893385 ∧ G2[80]? = some (ab_ob 12 (m_fv (vI 0) (vI 0) (vI 0) (vI 0) (vI 0) (vI 0) (vI 0) (vI 0) (vI 1) (vI 0) (vI ((xs 2) &&& 15)) (vI 0) (vI (-1)) (vI 0) (vI 0) (vI 0) (vI 0) (vI 0) (vI 0) (vI 0) (vI 0) (vI 0) (vI 0) (vI 0) (vI 0) (vI 0) (vI 0) (vI 0) (vI 0) (vI 0) (vI 0) (vI 0) (vI 0) (vI 0) (vI 0))) ∧ G2[94]? = some (ab_if 4200 ((upd (fun _ => 0) 0 4))) ∧ G2[95]? = some (ab_if 4200 ((upd (fun _ => 0) 0 0))) ∧ G2[96]? = some (ab_if 4200 ((upd (fun _ => 0) 0 (-1)))) ∧ G2[97]? = some (ab_if 4200 ((upd (fun _ => 0) 0 (-1)))) ∧ G2[100]? = some (.inl (2, 4200, .inr (.inl (vp_updL (fun _ => 0) 0 0))))) := by
  refine ab_F_of (by decide +kernel) (Nat.le_of_ble_eq_true rfl) ?_
  obtain ⟨Q, hQ⟩ : ∃ z : Outcome → ab_G → Prop, z = (fun o G2 => o = .returned (some (vI 0)) ∧ ab_fr [80, 94, 95, 96, 97, 100] G G2 ∧ G2.length = 158 ∧ ab_slots G2 = 1893385 ∧ G2[80]? = some (ab_ob 12 (m_fv (vI 0) (vI 0) (vI 0) (vI 0) (vI 0) (vI 0) (vI 0) (vI 0) (vI 1) (vI 0) (vI ((xs 2) &&& 15)) (vI 0) (vI (-1)) (vI 0) (vI 0) (vI 0) (vI 0) (vI 0) (vI 0) (vI 0) (vI 0) (vI 0) (vI 0) (vI 0) (vI 0) (vI 0) (vI 0) (vI 0) (vI 0) (vI 0) (vI 0) (vI 0) (vI 0) (vI 0) (vI 0))) ∧ G2[94]? = some (ab_if 4200 ((upd (fun _ => 0) 0 4))) ∧ G2[95]? = some (ab_if 4200 ((upd (fun _ => 0) 0 0))) ∧ G2[96]? = some (ab_if 4200 ((upd (fun _ => 0) 0 (-1)))) ∧ G2[97]? = some (ab_if 4200 ((upd (fun _ => 0) 0 (-1)))) ∧ G2[100]? = some (.inl (2, 4200, .inr (.inl (vp_updL (fun _ => 0) 0 0))))) := ⟨_, rfl⟩
  rw [← hQ]
  change ab_W X (ab_pl y_MO_node b_MO_node 5 (some (.int))) d G 0 [some (vR 80), some (vI 4), some (vI 0), some (vJ 0), none] [] Q
  have hfr : ab_fr [80, 94, 95, 96, 97, 100] G G := ab_fr.rf
  refine ab_aload_n d_MO_node_0 rfl ?_
  refine ab_getf (fs := (m_fv (vI 0) (vI 0) (vI 0) (vI 0) (vI 0) (vI 0) (vI 0) (vI 0) (vI 0) (vI 0) (vI ((xs 2) &&& 15)) (vI 0) (vI (-1)) (vI 0) (vI 0) (vI 0) (vI 0) (vI 0) (vI 0) (vI 0) (vI 0) (vI 0) (vI 0) (vI 0) (vI 0) (vI 0) (vI 0) (vI 0) (vI 0) (vI 0) (vI 0) (vI 0) (vI 0) (vI 0) (vI 0))) f_MO_50 d_MO_node_1 h80 rfl ?_
  refine ab_aload_n d_MO_node_4 rfl ?_
  refine ab_getf (fs := (m_fv (vI 0) (vI 0) (vI 0) (vI 0) (vI 0) (vI 0) (vI 0) (vI 0) (vI 0) (vI 0) (vI ((xs 2) &&& 15)) (vI 0) (vI (-1)) (vI 0) (vI 0) (vI 0) (vI 0) (vI 0) (vI 0) (vI 0) (vI 0) (vI 0) (vI 0) (vI 0) (vI 0) (vI 0) (vI 0) (vI 0) (vI 0) (vI 0) (vI 0) (vI 0) (vI 0) (vI 0) (vI 0))) f_MO_264 d_MO_node_5 h80 rfl ?_
  refine ab_iload_n d_MO_node_8 rfl ?_
  refine ab_iast d_MO_node_9 h94 (by unfold vp_in; decide) (by decide) ?_
  obtain ⟨G1, eG1⟩ : ∃ z : ab_G, z = List.set G 94 (ab_if 4200 ((upd (fun _ => 0) 0 4))) := ⟨_, rfl⟩
  have h80 := ab_keep eG1 (by decide) h80
  have h95 := ab_keep eG1 (by decide) h95
  have h96 := ab_keep eG1 (by decide) h96
  have h97 := ab_keep eG1 (by decide) h97
  have h100 := ab_keep eG1 (by decide) h100
  have hlen := ab_klen eG1 hlen
  have hsl := ab_ksl 4200 eG1 h94 rfl rfl hsl
  have hfr := hfr.wr eG1 (by decide)
  have h94 := ab_kept eG1 h94
  change ab_W _ _ _ (List.set G 94 (ab_if 4200 ((upd (fun _ => 0) 0 4)))) 10 [some (vR 80), some (vI 4), some (vI 0), some (vJ 0), none] [] _
  rw [← eG1]
  refine ab_aload_n d_MO_node_10 rfl ?_
  refine ab_getf (fs := (m_fv (vI 0) (vI 0) (vI 0) (vI 0) (vI 0) (vI 0) (vI 0) (vI 0) (vI 0) (vI 0) (vI ((xs 2) &&& 15)) (vI 0) (vI (-1)) (vI 0) (vI 0) (vI 0) (vI 0) (vI 0) (vI 0) (vI 0) (vI 0) (vI 0) (vI 0) (vI 0) (vI 0) (vI 0) (vI 0) (vI 0) (vI 0) (vI 0) (vI 0) (vI 0) (vI 0) (vI 0) (vI 0))) f_MO_53 d_MO_node_11 h80 rfl ?_
  refine ab_aload_n d_MO_node_14 rfl ?_
  refine ab_getf (fs := (m_fv (vI 0) (vI 0) (vI 0) (vI 0) (vI 0) (vI 0) (vI 0) (vI 0) (vI 0) (vI 0) (vI ((xs 2) &&& 15)) (vI 0) (vI (-1)) (vI 0) (vI 0) (vI 0) (vI 0) (vI 0) (vI 0) (vI 0) (vI 0) (vI 0) (vI 0) (vI 0) (vI 0) (vI 0) (vI 0) (vI 0) (vI 0) (vI 0) (vI 0) (vI 0) (vI 0) (vI 0) (vI 0))) f_MO_264 d_MO_node_15 h80 rfl ?_
  refine ab_iload_n d_MO_node_18 rfl ?_
  refine ab_iast d_MO_node_19 h95 (by unfold vp_in; decide) (by decide) ?_
  obtain ⟨G2, eG2⟩ : ∃ z : ab_G, z = List.set G1 95 (ab_if 4200 ((upd (fun _ => 0) 0 0))) := ⟨_, rfl⟩
  have h80 := ab_keep eG2 (by decide) h80
  have h94 := ab_keep eG2 (by decide) h94
  have h96 := ab_keep eG2 (by decide) h96
  have h97 := ab_keep eG2 (by decide) h97
  have h100 := ab_keep eG2 (by decide) h100
  have hlen := ab_klen eG2 hlen
  have hsl := ab_ksl 4200 eG2 h95 rfl rfl hsl
  have hfr := hfr.wr eG2 (by decide)
  have h95 := ab_kept eG2 h95
  change ab_W _ _ _ (List.set G1 95 (ab_if 4200 ((upd (fun _ => 0) 0 0)))) 20 [some (vR 80), some (vI 4), some (vI 0), some (vJ 0), none] [] _
  rw [← eG2]
  refine ab_aload_n d_MO_node_20 rfl ?_
  refine ab_getf (fs := (m_fv (vI 0) (vI 0) (vI 0) (vI 0) (vI 0) (vI 0) (vI 0) (vI 0) (vI 0) (vI 0) (vI ((xs 2) &&& 15)) (vI 0) (vI (-1)) (vI 0) (vI 0) (vI 0) (vI 0) (vI 0) (vI 0) (vI 0) (vI 0) (vI 0) (vI 0) (vI 0) (vI 0) (vI 0) (vI 0) (vI 0) (vI 0) (vI 0) (vI 0) (vI 0) (vI 0) (vI 0) (vI 0))) f_MO_56 d_MO_node_21 h80 rfl ?_
  refine ab_aload_n d_MO_node_24 rfl ?_
  refine ab_getf (fs := (m_fv (vI 0) (vI 0) (vI 0) (vI 0) (vI 0) (vI 0) (vI 0) (vI 0) (vI 0) (vI 0) (vI ((xs 2) &&& 15)) (vI 0) (vI (-1)) (vI 0) (vI 0) (vI 0) (vI 0) (vI 0) (vI 0) (vI 0) (vI 0) (vI 0) (vI 0) (vI 0) (vI 0) (vI 0) (vI 0) (vI 0) (vI 0) (vI 0) (vI 0) (vI 0) (vI 0) (vI 0) (vI 0))) f_MO_264 d_MO_node_25 h80 rfl ?_
  refine ab_iconst (v := (-1)) d_MO_node_28 (by decide) ?_
  refine ab_iast d_MO_node_29 h96 (by unfold vp_in; decide) (by decide) ?_
  obtain ⟨G3, eG3⟩ : ∃ z : ab_G, z = List.set G2 96 (ab_if 4200 ((upd (fun _ => 0) 0 (-1)))) := ⟨_, rfl⟩
  have h80 := ab_keep eG3 (by decide) h80
  have h94 := ab_keep eG3 (by decide) h94
  have h95 := ab_keep eG3 (by decide) h95
  have h97 := ab_keep eG3 (by decide) h97
  have h100 := ab_keep eG3 (by decide) h100
  have hlen := ab_klen eG3 hlen
  have hsl := ab_ksl 4200 eG3 h96 rfl rfl hsl
  have hfr := hfr.wr eG3 (by decide)
  have h96 := ab_kept eG3 h96
  change ab_W _ _ _ (List.set G2 96 (ab_if 4200 ((upd (fun _ => 0) 0 (-1))))) 30 [some (vR 80), some (vI 4), some (vI 0), some (vJ 0), none] [] _
  rw [← eG3]
  refine ab_aload_n d_MO_node_30 rfl ?_
  refine ab_getf (fs := (m_fv (vI 0) (vI 0) (vI 0) (vI 0) (vI 0) (vI 0) (vI 0) (vI 0) (vI 0) (vI 0) (vI ((xs 2) &&& 15)) (vI 0) (vI (-1)) (vI 0) (vI 0) (vI 0) (vI 0) (vI 0) (vI 0) (vI 0) (vI 0) (vI 0) (vI 0) (vI 0) (vI 0) (vI 0) (vI 0) (vI 0) (vI 0) (vI 0) (vI 0) (vI 0) (vI 0) (vI 0) (vI 0))) f_MO_59 d_MO_node_31 h80 rfl ?_
  refine ab_aload_n d_MO_node_34 rfl ?_
  refine ab_getf (fs := (m_fv (vI 0) (vI 0) (vI 0) (vI 0) (vI 0) (vI 0) (vI 0) (vI 0) (vI 0) (vI 0) (vI ((xs 2) &&& 15)) (vI 0) (vI (-1)) (vI 0) (vI 0) (vI 0) (vI 0) (vI 0) (vI 0) (vI 0) (vI 0) (vI 0) (vI 0) (vI 0) (vI 0) (vI 0) (vI 0) (vI 0) (vI 0) (vI 0) (vI 0) (vI 0) (vI 0) (vI 0) (vI 0))) f_MO_264 d_MO_node_35 h80 rfl ?_
  refine ab_iconst (v := (-1)) d_MO_node_38 (by decide) ?_
  refine ab_iast d_MO_node_39 h97 (by unfold vp_in; decide) (by decide) ?_
  obtain ⟨G4, eG4⟩ : ∃ z : ab_G, z = List.set G3 97 (ab_if 4200 ((upd (fun _ => 0) 0 (-1)))) := ⟨_, rfl⟩
  have h80 := ab_keep eG4 (by decide) h80
  have h94 := ab_keep eG4 (by decide) h94
  have h95 := ab_keep eG4 (by decide) h95
  have h96 := ab_keep eG4 (by decide) h96
  have h100 := ab_keep eG4 (by decide) h100
  have hlen := ab_klen eG4 hlen
  have hsl := ab_ksl 4200 eG4 h97 rfl rfl hsl
  have hfr := hfr.wr eG4 (by decide)
  have h97 := ab_kept eG4 h97
  change ab_W _ _ _ (List.set G3 97 (ab_if 4200 ((upd (fun _ => 0) 0 (-1))))) 40 [some (vR 80), some (vI 4), some (vI 0), some (vJ 0), none] [] _
  rw [← eG4]
  refine ab_aload_n d_MO_node_40 rfl ?_
  refine ab_getf (fs := (m_fv (vI 0) (vI 0) (vI 0) (vI 0) (vI 0) (vI 0) (vI 0) (vI 0) (vI 0) (vI 0) (vI ((xs 2) &&& 15)) (vI 0) (vI (-1)) (vI 0) (vI 0) (vI 0) (vI 0) (vI 0) (vI 0) (vI 0) (vI 0) (vI 0) (vI 0) (vI 0) (vI 0) (vI 0) (vI 0) (vI 0) (vI 0) (vI 0) (vI 0) (vI 0) (vI 0) (vI 0) (vI 0))) f_MO_68 d_MO_node_41 h80 rfl ?_
  refine ab_aload_n d_MO_node_44 rfl ?_
  refine ab_getf (fs := (m_fv (vI 0) (vI 0) (vI 0) (vI 0) (vI 0) (vI 0) (vI 0) (vI 0) (vI 0) (vI 0) (vI ((xs 2) &&& 15)) (vI 0) (vI (-1)) (vI 0) (vI 0) (vI 0) (vI 0) (vI 0) (vI 0) (vI 0) (vI 0) (vI 0) (vI 0) (vI 0) (vI 0) (vI 0) (vI 0) (vI 0) (vI 0) (vI 0) (vI 0) (vI 0) (vI 0) (vI 0) (vI 0))) f_MO_264 d_MO_node_45 h80 rfl ?_
  refine ab_lload_n d_MO_node_48 rfl ?_
  refine ab_last d_MO_node_49 h100 (by unfold vp_in; decide) (by decide) ?_
  obtain ⟨G5, eG5⟩ : ∃ z : ab_G, z = List.set G4 100 (.inl (2, 4200, .inr (.inl (vp_updL (fun _ => 0) 0 0)))) := ⟨_, rfl⟩
  have h80 := ab_keep eG5 (by decide) h80
  have h94 := ab_keep eG5 (by decide) h94
  have h95 := ab_keep eG5 (by decide) h95
  have h96 := ab_keep eG5 (by decide) h96
  have h97 := ab_keep eG5 (by decide) h97
  have hlen := ab_klen eG5 hlen
  have hsl := ab_ksl 4200 eG5 h100 rfl rfl hsl
  have hfr := hfr.wr eG5 (by decide)
  have h100 := ab_kept eG5 h100
  change ab_W _ _ _ (List.set G4 100 (.inl (2, 4200, .inr (.inl (vp_updL (fun _ => 0) 0 0))))) 50 [some (vR 80), some (vI 4), some (vI 0), some (vJ 0), none] [] _
  rw [← eG5]
  refine ab_aload_n d_MO_node_50 rfl ?_
  refine ab_dup d_MO_node_51 rfl ?_
  refine ab_getf (fs := (m_fv (vI 0) (vI 0) (vI 0) (vI 0) (vI 0) (vI 0) (vI 0) (vI 0) (vI 0) (vI 0) (vI ((xs 2) &&& 15)) (vI 0) (vI (-1)) (vI 0) (vI 0) (vI 0) (vI 0) (vI 0) (vI 0) (vI 0) (vI 0) (vI 0) (vI 0) (vI 0) (vI 0) (vI 0) (vI 0) (vI 0) (vI 0) (vI 0) (vI 0) (vI 0) (vI 0) (vI 0) (vI 0))) f_MO_264 d_MO_node_52 h80 rfl ?_
  refine ab_iconst (v := 1) d_MO_node_55 (by decide) ?_
  refine ab_iadd d_MO_node_56 ?_
  refine ab_topi (y := 1) (by decide) ?_
  refine ab_putf (fs := (m_fv (vI 0) (vI 0) (vI 0) (vI 0) (vI 0) (vI 0) (vI 0) (vI 0) (vI 0) (vI 0) (vI ((xs 2) &&& 15)) (vI 0) (vI (-1)) (vI 0) (vI 0) (vI 0) (vI 0) (vI 0) (vI 0) (vI 0) (vI 0) (vI 0) (vI 0) (vI 0) (vI 0) (vI 0) (vI 0) (vI 0) (vI 0) (vI 0) (vI 0) (vI 0) (vI 0) (vI 0) (vI 0))) f_MO_264 (Or.inl rfl) d_MO_node_57 h80 (Nat.le_of_ble_eq_true rfl) (fun _ => ⟨rfl, rfl⟩) (by decide) ?_
  obtain ⟨G6, eG6⟩ : ∃ z : ab_G, z = List.set G5 80 (ab_ob 12 (m_fv (vI 0) (vI 0) (vI 0) (vI 0) (vI 0) (vI 0) (vI 0) (vI 0) (vI 1) (vI 0) (vI ((xs 2) &&& 15)) (vI 0) (vI (-1)) (vI 0) (vI 0) (vI 0) (vI 0) (vI 0) (vI 0) (vI 0) (vI 0) (vI 0) (vI 0) (vI 0) (vI 0) (vI 0) (vI 0) (vI 0) (vI 0) (vI 0) (vI 0) (vI 0) (vI 0) (vI 0) (vI 0))) := ⟨_, rfl⟩
  have h94 := ab_keep eG6 (by decide) h94
  have h95 := ab_keep eG6 (by decide) h95
  have h96 := ab_keep eG6 (by decide) h96
  have h97 := ab_keep eG6 (by decide) h97
  have h100 := ab_keep eG6 (by decide) h100
  have hlen := ab_klen eG6 hlen
  have hsl := ab_ksl 102 eG6 h80 rfl rfl hsl
  have hfr := hfr.wr eG6 (by decide)
  have h80 := ab_kept eG6 h80
  change ab_W _ _ _ (List.set G5 80 (ab_ob 12 (m_fv (vI 0) (vI 0) (vI 0) (vI 0) (vI 0) (vI 0) (vI 0) (vI 0) (vI 1) (vI 0) (vI ((xs 2) &&& 15)) (vI 0) (vI (-1)) (vI 0) (vI 0) (vI 0) (vI 0) (vI 0) (vI 0) (vI 0) (vI 0) (vI 0) (vI 0) (vI 0) (vI 0) (vI 0) (vI 0) (vI 0) (vI 0) (vI 0) (vI 0) (vI 0) (vI 0) (vI 0) (vI 0)))) 60 [some (vR 80), some (vI 4), some (vI 0), some (vJ 0), none] [] _
  rw [← eG6]
  refine ab_aload_n d_MO_node_60 rfl ?_
  refine ab_getf (fs := (m_fv (vI 0) (vI 0) (vI 0) (vI 0) (vI 0) (vI 0) (vI 0) (vI 0) (vI 1) (vI 0) (vI ((xs 2) &&& 15)) (vI 0) (vI (-1)) (vI 0) (vI 0) (vI 0) (vI 0) (vI 0) (vI 0) (vI 0) (vI 0) (vI 0) (vI 0) (vI 0) (vI 0) (vI 0) (vI 0) (vI 0) (vI 0) (vI 0) (vI 0) (vI 0) (vI 0) (vI 0) (vI 0))) f_MO_264 d_MO_node_61 h80 rfl ?_
  refine ab_iconst (v := 1) d_MO_node_64 (by decide) ?_
  refine ab_isub d_MO_node_65 ?_
  refine ab_topi (y := 0) (by decide) ?_
  exact ab_iret (rt := .int) rfl rfl d_MO_node_66 (by rw [hQ]; exact ⟨rfl, hfr, hlen, hsl, h80, h94, h95, h96, h97, h100⟩)
set_option maxRecDepth 100000 in
set_option maxHeartbeats 4000000 in
theorem q_MO_openRow_3 {X : ab_X} {d : Nat} {G : ab_G} {xs : Nat → Int32} (hlen : G.length = 158) (hsl : ab_slots G = 1893385) (h80 : G[80]? = some (ab_ob 12 (m_fv (vI 0) (vI 0) (vI 0) (vI 0) (vI 0) (vI 0) (vI 0) (vI 0) (vI 1) (vI 0) (vI ((xs 2) &&& 15)) (vI 0) (vI (-1)) (vI 0) (vI 0) (vI 0) (vI 0) (vI 0) (vI 0) (vI 0) (vI 0) (vI 0) (vI 0) (vI 0) (vI 0) (vI 0) (vI 0) (vI 0) (vI 0) (vI 0) (vI 0) (vI 0) (vI 0) (vI 0) (vI 0)))) (h105 : G[105]? = some (ab_if 32 ((upd (fun _ => 0) 0 (-1))))) (h109 : G[109]? = some (ab_if 32 ((upd (fun _ => 0) 0 0)))) : ab_F X d y_MO_openRow (.code y_MO_openRow b_MO_openRow 1 none) [vR 80] G (fun o G2 => o = .returned none ∧ ab_fr [105, 109] G G2 ∧ G2.length = 158 ∧ ab_slots G2 = 1893385 ∧ G2[105]? = some (ab_if 32 ((upd (upd (fun _ => 0) 0 (-1)) 0 (-1)))) ∧ G2[109]? = some (ab_if 32 ((upd (upd (fun _ => 0) 0 0) 0 0)))) := by
  refine ab_F_of (by decide +kernel) (Nat.le_of_ble_eq_true rfl) ?_
  obtain ⟨Q, hQ⟩ : ∃ z : Outcome → ab_G → Prop, z = (fun o G2 => o = .returned none ∧ ab_fr [105, 109] G G2 ∧ G2.length = 158 ∧ ab_slots G2 = 1893385 ∧ G2[105]? = some (ab_if 32 ((upd (upd (fun _ => 0) 0 (-1)) 0 (-1)))) ∧ G2[109]? = some (ab_if 32 ((upd (upd (fun _ => 0) 0 0) 0 0)))) := ⟨_, rfl⟩
  rw [← hQ]
  change ab_W X (ab_pl y_MO_openRow b_MO_openRow 1 none) d G 0 [some (vR 80)] [] Q
  have hfr : ab_fr [105, 109] G G := ab_fr.rf
  refine ab_aload_n d_MO_openRow_0 rfl ?_
  refine ab_getf (fs := (m_fv (vI 0) (vI 0) (vI 0) (vI 0) (vI 0) (vI 0) (vI 0) (vI 0) (vI 1) (vI 0) (vI ((xs 2) &&& 15)) (vI 0) (vI (-1)) (vI 0) (vI 0) (vI 0) (vI 0) (vI 0) (vI 0) (vI 0) (vI 0) (vI 0) (vI 0) (vI 0) (vI 0) (vI 0) (vI 0) (vI 0) (vI 0) (vI 0) (vI 0) (vI 0) (vI 0) (vI 0) (vI 0))) f_MO_88 d_MO_openRow_1 h80 rfl ?_
  refine ab_aload_n d_MO_openRow_4 rfl ?_
  refine ab_getf (fs := (m_fv (vI 0) (vI 0) (vI 0) (vI 0) (vI 0) (vI 0) (vI 0) (vI 0) (vI 1) (vI 0) (vI ((xs 2) &&& 15)) (vI 0) (vI (-1)) (vI 0) (vI 0) (vI 0) (vI 0) (vI 0) (vI 0) (vI 0) (vI 0) (vI 0) (vI 0) (vI 0) (vI 0) (vI 0) (vI 0) (vI 0) (vI 0) (vI 0) (vI 0) (vI 0) (vI 0) (vI 0) (vI 0))) f_MO_282 d_MO_openRow_5 h80 rfl ?_
  refine ab_iconst (v := (-1)) d_MO_openRow_8 (by decide) ?_
  refine ab_iast d_MO_openRow_9 h105 (by unfold vp_in; decide) (by decide) ?_
  obtain ⟨G1, eG1⟩ : ∃ z : ab_G, z = List.set G 105 (ab_if 32 ((upd (upd (fun _ => 0) 0 (-1)) 0 (-1)))) := ⟨_, rfl⟩
  have h80 := ab_keep eG1 (by decide) h80
  have h109 := ab_keep eG1 (by decide) h109
  have hlen := ab_klen eG1 hlen
  have hsl := ab_ksl 32 eG1 h105 rfl rfl hsl
  have hfr := hfr.wr eG1 (by decide)
  have h105 := ab_kept eG1 h105
  change ab_W _ _ _ (List.set G 105 (ab_if 32 ((upd (upd (fun _ => 0) 0 (-1)) 0 (-1))))) 10 [some (vR 80)] [] _
  rw [← eG1]
  refine ab_aload_n d_MO_openRow_10 rfl ?_
  refine ab_getf (fs := (m_fv (vI 0) (vI 0) (vI 0) (vI 0) (vI 0) (vI 0) (vI 0) (vI 0) (vI 1) (vI 0) (vI ((xs 2) &&& 15)) (vI 0) (vI (-1)) (vI 0) (vI 0) (vI 0) (vI 0) (vI 0) (vI 0) (vI 0) (vI 0) (vI 0) (vI 0) (vI 0) (vI 0) (vI 0) (vI 0) (vI 0) (vI 0) (vI 0) (vI 0) (vI 0) (vI 0) (vI 0) (vI 0))) f_MO_100 d_MO_openRow_11 h80 rfl ?_
  refine ab_aload_n d_MO_openRow_14 rfl ?_
  refine ab_getf (fs := (m_fv (vI 0) (vI 0) (vI 0) (vI 0) (vI 0) (vI 0) (vI 0) (vI 0) (vI 1) (vI 0) (vI ((xs 2) &&& 15)) (vI 0) (vI (-1)) (vI 0) (vI 0) (vI 0) (vI 0) (vI 0) (vI 0) (vI 0) (vI 0) (vI 0) (vI 0) (vI 0) (vI 0) (vI 0) (vI 0) (vI 0) (vI 0) (vI 0) (vI 0) (vI 0) (vI 0) (vI 0) (vI 0))) f_MO_282 d_MO_openRow_15 h80 rfl ?_
  refine ab_iconst (v := 0) d_MO_openRow_18 (by decide) ?_
  refine ab_iast d_MO_openRow_19 h109 (by unfold vp_in; decide) (by decide) ?_
  obtain ⟨G2, eG2⟩ : ∃ z : ab_G, z = List.set G1 109 (ab_if 32 ((upd (upd (fun _ => 0) 0 0) 0 0))) := ⟨_, rfl⟩
  have h80 := ab_keep eG2 (by decide) h80
  have h105 := ab_keep eG2 (by decide) h105
  have hlen := ab_klen eG2 hlen
  have hsl := ab_ksl 32 eG2 h109 rfl rfl hsl
  have hfr := hfr.wr eG2 (by decide)
  have h109 := ab_kept eG2 h109
  change ab_W _ _ _ (List.set G1 109 (ab_if 32 ((upd (upd (fun _ => 0) 0 0) 0 0)))) 20 [some (vR 80)] [] _
  rw [← eG2]
  exact ab_vret rfl d_MO_openRow_20 (by rw [hQ]; exact ⟨rfl, hfr, hlen, hsl, h105, h109⟩)
set_option maxRecDepth 100000 in
set_option maxHeartbeats 4000000 in
theorem q_MO_closeRow_1 {X : ab_X} {d : Nat} {G : ab_G} {xs : Nat → Int32} (hlen : G.length = 158) (hsl : ab_slots G = 1893385) (h80 : G[80]? = some (ab_ob 12 (m_fv (vI 0) (vI 0) (vI 0) (vI 0) (vI 0) (vI 0) (vI 0) (vI 0) (vI 0) (vI 0) (vI ((xs 2) &&& 15)) (vI 0) (vI (-1)) (vI 0) (vI 0) (vI 0) (vI 0) (vI 0) (vI 0) (vI 0) (vI 0) (vI 0) (vI 0) (vI 0) (vI 0) (vI 0) (vI 0) (vI 0) (vI 0) (vI 0) (vI 0) (vI 0) (vI 0) (vI 0) (vI 0)))) (h94 : G[94]? = some (ab_if 4200 ((fun _ => 0)))) (h95 : G[95]? = some (ab_if 4200 ((fun _ => 0)))) (h96 : G[96]? = some (ab_if 4200 ((fun _ => 0)))) (h97 : G[97]? = some (ab_if 4200 ((fun _ => 0)))) (h100 : G[100]? = some (.inl (2, 4200, .inr (.inl (fun _ => 0))))) (h105 : G[105]? = some (ab_if 32 ((upd (fun _ => 0) 0 (-1))))) (h107 : G[107]? = some (ab_if 32 ((upd (fun _ => 0) 0 (-1))))) (h108 : G[108]? = some (ab_if 32 ((fun _ => 0)))) (h109 : G[109]? = some (ab_if 32 ((upd (fun _ => 0) 0 0)))) (hd : 1 ≤ d) : ab_F X d y_MO_closeRow (.code y_MO_closeRow b_MO_closeRow 4 none) [vR 80] G (fun o G2 => o = .returned none ∧ ab_fr [80, 94, 95, 96, 97, 100, 105, 107, 108, 109] G G2 ∧ G2.length = 158 ∧ ab_slots G2 = 1893385 ∧ G2[80]? = some (ab_ob 12 (m_fv (vI 0) (vI 0) (vI 0) (vI 0) (vI 0) (vI 0) (vI 0) (vI 0) (vI 1) (vI 0) (vI ((xs 2) &&& 15)) (vI 0) (vI (-1)) (vI 0) (vI 0) (vI 0) (vI 0) (vI 0) (vI 0) (vI 0) (vI 0) (vI 0) (vI 0) (vI 0) (vI 0) (vI 0) (vI 0) (vI 0) (vI 0) (vI 0) (vI 0) (vI 0) (vI 0) (vI 0) (vI 0))) ∧ G2[94]? = some (ab_if 4200 ((upd (fun _ => 0) 0 4))) ∧ G2[95]? = some (ab_if 4200 ((upd (fun _ => 0) 0 0))) ∧ G2[96]? = some (ab_if 4200 ((upd (upd (fun _ => 0) 0 (-1)) 0 (-1)))) ∧ G2[97]? = some (ab_if 4200 ((upd (fun _ => 0) 0 (-1)))) ∧ G2[100]? = some (.inl (2, 4200, .inr (.inl (vp_updL (fun _ => 0) 0 0)))) ∧ G2[105]? = some (ab_if 32 ((upd (upd (fun _ => 0) 0 (-1)) 0 (-1)))) ∧ G2[107]? = some (ab_if 32 ((upd (upd (fun _ => 0) 0 (-1)) 0 0))) ∧ G2[108]? = some (ab_if 32 ((upd (fun _ => 0) 0 0))) ∧ G2[109]? = some (ab_if 32 ((upd (upd (fun _ => 0) 0 0) 0 0)))) := by
  refine ab_F_of (by decide +kernel) (Nat.le_of_ble_eq_true rfl) ?_
  obtain ⟨Q, hQ⟩ : ∃ z : Outcome → ab_G → Prop, z = (fun o G2 => o = .returned none ∧ ab_fr [80, 94, 95, 96, 97, 100, 105, 107, 108, 109] G G2 ∧ G2.length = 158 ∧ ab_slots G2 = 1893385 ∧ G2[80]? = some (ab_ob 12 (m_fv (vI 0) (vI 0) (vI 0) (vI 0) (vI 0) (vI 0) (vI 0) (vI 0) (vI 1) (vI 0) (vI ((xs 2) &&& 15)) (vI 0) (vI (-1)) (vI 0) (vI 0) (vI 0) (vI 0) (vI 0) (vI 0) (vI 0) (vI 0) (vI 0) (vI 0) (vI 0) (vI 0) (vI 0) (vI 0) (vI 0) (vI 0) (vI 0) (vI 0) (vI 0) (vI 0) (vI 0) (vI 0))) ∧ G2[94]? = some (ab_if 4200 ((upd (fun _ => 0) 0 4))) ∧ G2[95]? = some (ab_if 4200 ((upd (fun _ => 0) 0 0))) ∧ G2[96]? = some (ab_if 4200 ((upd (upd (fun _ => 0) 0 (-1)) 0 (-1)))) ∧ G2[97]? = some (ab_if 4200 ((upd (fun _ => 0) 0 (-1)))) ∧ G2[100]? = some (.inl (2, 4200, .inr (.inl (vp_updL (fun _ => 0) 0 0)))) ∧ G2[105]? = some (ab_if 32 ((upd (upd (fun _ => 0) 0 (-1)) 0 (-1)))) ∧ G2[107]? = some (ab_if 32 ((upd (upd (fun _ => 0) 0 (-1)) 0 0))) ∧ G2[108]? = some (ab_if 32 ((upd (fun _ => 0) 0 0))) ∧ G2[109]? = some (ab_if 32 ((upd (upd (fun _ => 0) 0 0) 0 0)))) := ⟨_, rfl⟩
  rw [← hQ]
  change ab_W X (ab_pl y_MO_closeRow b_MO_closeRow 4 none) d G 0 [some (vR 80), none, none, none] [] Q
  have hfr : ab_fr [80, 94, 95, 96, 97, 100, 105, 107, 108, 109] G G := ab_fr.rf
  refine ab_lconst (v := 0) d_MO_closeRow_0 (by decide) ?_
  refine ab_lstore_n d_MO_closeRow_1 (Nat.le_of_ble_eq_true rfl) (Nat.le_of_ble_eq_true rfl) rfl ?_
  change ab_W _ _ _ G 2 [some (vR 80), some (vJ 0), none, none] [] _
  refine ab_aload_n d_MO_closeRow_2 rfl ?_
  refine ab_getf (fs := (m_fv (vI 0) (vI 0) (vI 0) (vI 0) (vI 0) (vI 0) (vI 0) (vI 0) (vI 0) (vI 0) (vI ((xs 2) &&& 15)) (vI 0) (vI (-1)) (vI 0) (vI 0) (vI 0) (vI 0) (vI 0) (vI 0) (vI 0) (vI 0) (vI 0) (vI 0) (vI 0) (vI 0) (vI 0) (vI 0) (vI 0) (vI 0) (vI 0) (vI 0) (vI 0) (vI 0) (vI 0) (vI 0))) f_MO_88 d_MO_closeRow_3 h80 rfl ?_
  refine ab_aload_n d_MO_closeRow_6 rfl ?_
  refine ab_getf (fs := (m_fv (vI 0) (vI 0) (vI 0) (vI 0) (vI 0) (vI 0) (vI 0) (vI 0) (vI 0) (vI 0) (vI ((xs 2) &&& 15)) (vI 0) (vI (-1)) (vI 0) (vI 0) (vI 0) (vI 0) (vI 0) (vI 0) (vI 0) (vI 0) (vI 0) (vI 0) (vI 0) (vI 0) (vI 0) (vI 0) (vI 0) (vI 0) (vI 0) (vI 0) (vI 0) (vI 0) (vI 0) (vI 0))) f_MO_282 d_MO_closeRow_7 h80 rfl ?_
  refine ab_iald d_MO_closeRow_10 h105 (by unfold vp_in; decide) ?_
  refine ab_topi (y := (-1)) rfl ?_
  refine ab_istore_n d_MO_closeRow_11 (Nat.le_of_ble_eq_true rfl) (Nat.le_of_ble_eq_true rfl) rfl ?_
  change ab_W _ _ _ G 12 [some (vR 80), some (vJ 0), none, some (vI (-1))] [] _
  refine ab_iload_n d_MO_closeRow_12 rfl ?_
  refine ab_if_lt (tgt := 38) d_MO_closeRow_13 (by decide) (fun _ => ?_) (fun c => absurd c (by decide))
  refine ab_aload_n d_MO_closeRow_38 rfl ?_
  refine ab_iconst (v := 4) d_MO_closeRow_39 (by decide) ?_
  refine ab_iconst (v := 0) d_MO_closeRow_40 (by decide) ?_
  refine ab_lload_n d_MO_closeRow_41 rfl ?_
  refine ab_callV (d' := d - 1) (as := [vI 4, vI 0, vJ 0]) (st := []) (r := _) (q_MO_node_2 (xs := xs) hlen hsl h80 h94 h95 h96 h97 h100) (fun o G2 h => ⟨_, h.1⟩) (by omega) m_MO_node ml_MO_269 im_MO_node se_MO_node c_MO h80 (Nat.le_of_ble_eq_true rfl) d_MO_closeRow_42 rfl ?_
  intro v G1 hq
  obtain ⟨hv, hfk, hlen, hsl, h80, h94, h95, h96, h97, h100⟩ := hq
  cases hv
  have h105 := hfk.get (by decide) h105
  have h107 := hfk.get (by decide) h107
  have h108 := hfk.get (by decide) h108
  have h109 := hfk.get (by decide) h109
  have hfr := hfr.cl hfk (by decide)
  change ab_W _ _ _ G1 45 [some (vR 80), some (vJ 0), none, some (vI (-1))] [vI 0] _
  refine ab_istore_n d_MO_closeRow_45 (Nat.le_of_ble_eq_true rfl) (Nat.le_of_ble_eq_true rfl) rfl ?_
  change ab_W _ _ _ G1 46 [some (vR 80), some (vJ 0), none, some (vI 0)] [] _
  refine ab_aload_n d_MO_closeRow_46 rfl ?_
  refine ab_getf (fs := (m_fv (vI 0) (vI 0) (vI 0) (vI 0) (vI 0) (vI 0) (vI 0) (vI 0) (vI 1) (vI 0) (vI ((xs 2) &&& 15)) (vI 0) (vI (-1)) (vI 0) (vI 0) (vI 0) (vI 0) (vI 0) (vI 0) (vI 0) (vI 0) (vI 0) (vI 0) (vI 0) (vI 0) (vI 0) (vI 0) (vI 0) (vI 0) (vI 0) (vI 0) (vI 0) (vI 0) (vI 0) (vI 0))) f_MO_56 d_MO_closeRow_47 h80 rfl ?_
  refine ab_iload_n d_MO_closeRow_50 rfl ?_
  refine ab_aload_n d_MO_closeRow_51 rfl ?_
  refine ab_getf (fs := (m_fv (vI 0) (vI 0) (vI 0) (vI 0) (vI 0) (vI 0) (vI 0) (vI 0) (vI 1) (vI 0) (vI ((xs 2) &&& 15)) (vI 0) (vI (-1)) (vI 0) (vI 0) (vI 0) (vI 0) (vI 0) (vI 0) (vI 0) (vI 0) (vI 0) (vI 0) (vI 0) (vI 0) (vI 0) (vI 0) (vI 0) (vI 0) (vI 0) (vI 0) (vI 0) (vI 0) (vI 0) (vI 0))) f_MO_88 d_MO_closeRow_52 h80 rfl ?_
  refine ab_aload_n d_MO_closeRow_55 rfl ?_
  refine ab_getf (fs := (m_fv (vI 0) (vI 0) (vI 0) (vI 0) (vI 0) (vI 0) (vI 0) (vI 0) (vI 1) (vI 0) (vI ((xs 2) &&& 15)) (vI 0) (vI (-1)) (vI 0) (vI 0) (vI 0) (vI 0) (vI 0) (vI 0) (vI 0) (vI 0) (vI 0) (vI 0) (vI 0) (vI 0) (vI 0) (vI 0) (vI 0) (vI 0) (vI 0) (vI 0) (vI 0) (vI 0) (vI 0) (vI 0))) f_MO_282 d_MO_closeRow_56 h80 rfl ?_
  refine ab_iald d_MO_closeRow_59 h105 (by unfold vp_in; decide) ?_
  refine ab_topi (y := (-1)) rfl ?_
  refine ab_iast d_MO_closeRow_60 h96 (by unfold vp_in; decide) (by decide) ?_
  obtain ⟨G2, eG2⟩ : ∃ z : ab_G, z = List.set G1 96 (ab_if 4200 ((upd (upd (fun _ => 0) 0 (-1)) 0 (-1)))) := ⟨_, rfl⟩
  have h80 := ab_keep eG2 (by decide) h80
  have h94 := ab_keep eG2 (by decide) h94
  have h95 := ab_keep eG2 (by decide) h95
  have h97 := ab_keep eG2 (by decide) h97
  have h100 := ab_keep eG2 (by decide) h100
  have h105 := ab_keep eG2 (by decide) h105
  have h107 := ab_keep eG2 (by decide) h107
  have h108 := ab_keep eG2 (by decide) h108
  have h109 := ab_keep eG2 (by decide) h109
  have hlen := ab_klen eG2 hlen
  have hsl := ab_ksl 4200 eG2 h96 rfl rfl hsl
  have hfr := hfr.wr eG2 (by decide)
  have h96 := ab_kept eG2 h96
  change ab_W _ _ _ (List.set G1 96 (ab_if 4200 ((upd (upd (fun _ => 0) 0 (-1)) 0 (-1))))) 61 [some (vR 80), some (vJ 0), none, some (vI 0)] [] _
  rw [← eG2]
  refine ab_aload_n d_MO_closeRow_61 rfl ?_
  refine ab_getf (fs := (m_fv (vI 0) (vI 0) (vI 0) (vI 0) (vI 0) (vI 0) (vI 0) (vI 0) (vI 1) (vI 0) (vI ((xs 2) &&& 15)) (vI 0) (vI (-1)) (vI 0) (vI 0) (vI 0) (vI 0) (vI 0) (vI 0) (vI 0) (vI 0) (vI 0) (vI 0) (vI 0) (vI 0) (vI 0) (vI 0) (vI 0) (vI 0) (vI 0) (vI 0) (vI 0) (vI 0) (vI 0) (vI 0))) f_MO_94 d_MO_closeRow_62 h80 rfl ?_
  refine ab_aload_n d_MO_closeRow_65 rfl ?_
  refine ab_getf (fs := (m_fv (vI 0) (vI 0) (vI 0) (vI 0) (vI 0) (vI 0) (vI 0) (vI 0) (vI 1) (vI 0) (vI ((xs 2) &&& 15)) (vI 0) (vI (-1)) (vI 0) (vI 0) (vI 0) (vI 0) (vI 0) (vI 0) (vI 0) (vI 0) (vI 0) (vI 0) (vI 0) (vI 0) (vI 0) (vI 0) (vI 0) (vI 0) (vI 0) (vI 0) (vI 0) (vI 0) (vI 0) (vI 0))) f_MO_282 d_MO_closeRow_66 h80 rfl ?_
  refine ab_iald d_MO_closeRow_69 h107 (by unfold vp_in; decide) ?_
  refine ab_topi (y := (-1)) rfl ?_
  refine ab_if_ge (tgt := 86) d_MO_closeRow_70 (by decide) (fun c => absurd c (by decide)) (fun _ => ?_)
  refine ab_aload_n d_MO_closeRow_73 rfl ?_
  refine ab_getf (fs := (m_fv (vI 0) (vI 0) (vI 0) (vI 0) (vI 0) (vI 0) (vI 0) (vI 0) (vI 1) (vI 0) (vI ((xs 2) &&& 15)) (vI 0) (vI (-1)) (vI 0) (vI 0) (vI 0) (vI 0) (vI 0) (vI 0) (vI 0) (vI 0) (vI 0) (vI 0) (vI 0) (vI 0) (vI 0) (vI 0) (vI 0) (vI 0) (vI 0) (vI 0) (vI 0) (vI 0) (vI 0) (vI 0))) f_MO_94 d_MO_closeRow_74 h80 rfl ?_
  refine ab_aload_n d_MO_closeRow_77 rfl ?_
  refine ab_getf (fs := (m_fv (vI 0) (vI 0) (vI 0) (vI 0) (vI 0) (vI 0) (vI 0) (vI 0) (vI 1) (vI 0) (vI ((xs 2) &&& 15)) (vI 0) (vI (-1)) (vI 0) (vI 0) (vI 0) (vI 0) (vI 0) (vI 0) (vI 0) (vI 0) (vI 0) (vI 0) (vI 0) (vI 0) (vI 0) (vI 0) (vI 0) (vI 0) (vI 0) (vI 0) (vI 0) (vI 0) (vI 0) (vI 0))) f_MO_282 d_MO_closeRow_78 h80 rfl ?_
  refine ab_iload_n d_MO_closeRow_81 rfl ?_
  refine ab_iast d_MO_closeRow_82 h107 (by unfold vp_in; decide) (by decide) ?_
  obtain ⟨G3, eG3⟩ : ∃ z : ab_G, z = List.set G2 107 (ab_if 32 ((upd (upd (fun _ => 0) 0 (-1)) 0 0))) := ⟨_, rfl⟩
  have h80 := ab_keep eG3 (by decide) h80
  have h94 := ab_keep eG3 (by decide) h94
  have h95 := ab_keep eG3 (by decide) h95
  have h96 := ab_keep eG3 (by decide) h96
  have h97 := ab_keep eG3 (by decide) h97
  have h100 := ab_keep eG3 (by decide) h100
  have h105 := ab_keep eG3 (by decide) h105
  have h108 := ab_keep eG3 (by decide) h108
  have h109 := ab_keep eG3 (by decide) h109
  have hlen := ab_klen eG3 hlen
  have hsl := ab_ksl 32 eG3 h107 rfl rfl hsl
  have hfr := hfr.wr eG3 (by decide)
  have h107 := ab_kept eG3 h107
  change ab_W _ _ _ (List.set G2 107 (ab_if 32 ((upd (upd (fun _ => 0) 0 (-1)) 0 0)))) 83 [some (vR 80), some (vJ 0), none, some (vI 0)] [] _
  rw [← eG3]
  refine ab_goto (tgt := 101) d_MO_closeRow_83 (by decide) ?_
  refine ab_aload_n d_MO_closeRow_101 rfl ?_
  refine ab_getf (fs := (m_fv (vI 0) (vI 0) (vI 0) (vI 0) (vI 0) (vI 0) (vI 0) (vI 0) (vI 1) (vI 0) (vI ((xs 2) &&& 15)) (vI 0) (vI (-1)) (vI 0) (vI 0) (vI 0) (vI 0) (vI 0) (vI 0) (vI 0) (vI 0) (vI 0) (vI 0) (vI 0) (vI 0) (vI 0) (vI 0) (vI 0) (vI 0) (vI 0) (vI 0) (vI 0) (vI 0) (vI 0) (vI 0))) f_MO_97 d_MO_closeRow_102 h80 rfl ?_
  refine ab_aload_n d_MO_closeRow_105 rfl ?_
  refine ab_getf (fs := (m_fv (vI 0) (vI 0) (vI 0) (vI 0) (vI 0) (vI 0) (vI 0) (vI 0) (vI 1) (vI 0) (vI ((xs 2) &&& 15)) (vI 0) (vI (-1)) (vI 0) (vI 0) (vI 0) (vI 0) (vI 0) (vI 0) (vI 0) (vI 0) (vI 0) (vI 0) (vI 0) (vI 0) (vI 0) (vI 0) (vI 0) (vI 0) (vI 0) (vI 0) (vI 0) (vI 0) (vI 0) (vI 0))) f_MO_282 d_MO_closeRow_106 h80 rfl ?_
  refine ab_iload_n d_MO_closeRow_109 rfl ?_
  refine ab_iast d_MO_closeRow_110 h108 (by unfold vp_in; decide) (by decide) ?_
  obtain ⟨G4, eG4⟩ : ∃ z : ab_G, z = List.set G3 108 (ab_if 32 ((upd (fun _ => 0) 0 0))) := ⟨_, rfl⟩
  have h80 := ab_keep eG4 (by decide) h80
  have h94 := ab_keep eG4 (by decide) h94
  have h95 := ab_keep eG4 (by decide) h95
  have h96 := ab_keep eG4 (by decide) h96
  have h97 := ab_keep eG4 (by decide) h97
  have h100 := ab_keep eG4 (by decide) h100
  have h105 := ab_keep eG4 (by decide) h105
  have h107 := ab_keep eG4 (by decide) h107
  have h109 := ab_keep eG4 (by decide) h109
  have hlen := ab_klen eG4 hlen
  have hsl := ab_ksl 32 eG4 h108 rfl rfl hsl
  have hfr := hfr.wr eG4 (by decide)
  have h108 := ab_kept eG4 h108
  change ab_W _ _ _ (List.set G3 108 (ab_if 32 ((upd (fun _ => 0) 0 0)))) 111 [some (vR 80), some (vJ 0), none, some (vI 0)] [] _
  rw [← eG4]
  refine ab_aload_n d_MO_closeRow_111 rfl ?_
  refine ab_callV (d' := d - 1) (as := []) (st := []) (r := _) (q_MO_openRow_3 (xs := xs) hlen hsl h80 h105 h109) (fun o G2 h => ⟨_, h.1⟩) (by omega) m_MO_openRow ml_MO_285 im_MO_openRow se_MO_openRow c_MO h80 (Nat.le_of_ble_eq_true rfl) d_MO_closeRow_112 rfl ?_
  intro v G5 hq
  obtain ⟨hv, hfk, hlen, hsl, h105, h109⟩ := hq
  cases hv
  have h80 := hfk.get (by decide) h80
  have h94 := hfk.get (by decide) h94
  have h95 := hfk.get (by decide) h95
  have h96 := hfk.get (by decide) h96
  have h97 := hfk.get (by decide) h97
  have h100 := hfk.get (by decide) h100
  have h107 := hfk.get (by decide) h107
  have h108 := hfk.get (by decide) h108
  have hfr := hfr.cl hfk (by decide)
  change ab_W _ _ _ G5 115 [some (vR 80), some (vJ 0), none, some (vI 0)] [] _
  exact ab_vret rfl d_MO_closeRow_115 (by rw [hQ]; exact ⟨rfl, hfr, hlen, hsl, h80, h94, h95, h96, h97, h100, h105, h107, h108, h109⟩)
set_option maxRecDepth 100000 in
set_option maxHeartbeats 4000000 in
theorem q_MO_atMost_1 {X : ab_X} {d : Nat} {G : ab_G}  (hlen : G.length = 158) (hsl : ab_slots G = 1893385) : ab_F X d y_MO_atMost (.code y_MO_atMost b_MO_atMost 2 (some (.long))) [vJ 0] G (fun o G2 => o = .returned (some (vJ 0)) ∧ ab_fr [] G G2 ∧ G2.length = 158 ∧ ab_slots G2 = 1893385) := by
  refine ab_F_of (by decide +kernel) (Nat.le_of_ble_eq_true rfl) ?_
  obtain ⟨Q, hQ⟩ : ∃ z : Outcome → ab_G → Prop, z = (fun o G2 => o = .returned (some (vJ 0)) ∧ ab_fr [] G G2 ∧ G2.length = 158 ∧ ab_slots G2 = 1893385) := ⟨_, rfl⟩
  rw [← hQ]
  change ab_W X (ab_pl y_MO_atMost b_MO_atMost 2 (some (.long))) d G 0 [some (vJ 0), none] [] Q
  have hfr : ab_fr [] G G := ab_fr.rf
  refine ab_lload_n d_MO_atMost_0 rfl ?_
  refine ab_ldc2 (v := 1000000000000) d_MO_atMost_1 cn_MO_267 ?_
  refine ab_lcmp d_MO_atMost_4 ?_
  refine ab_topi (y := (-1)) (by decide +kernel) ?_
  refine ab_if_le (tgt := 14) d_MO_atMost_5 (by decide) (fun _ => ?_) (fun c => absurd c (by decide))
  refine ab_lload_n d_MO_atMost_14 rfl ?_
  exact ab_lret rfl d_MO_atMost_15 (by rw [hQ]; exact ⟨rfl, hfr, hlen, hsl⟩)
set_option maxRecDepth 100000 in
set_option maxHeartbeats 4000000 in
theorem q_MO_node_3 {X : ab_X} {d : Nat} {G : ab_G} {xs : Nat → Int32} (hlen : G.length = 158) (hsl : ab_slots G = 1893385) (h80 : G[80]? = some (ab_ob 12 (m_fv (vI 0) (vI 0) (vI 0) (vI 0) (vI 0) (vI 0) (vI 0) (vI 0) (vI 1) (vI 0) (vI ((xs 2) &&& 15)) (vI 0) (vI (-1)) (vI 0) (vI 0) (vI 0) (vI 0) (vI 0) (vI 0) (vI 0) (vI 0) (vI 0) (vI 0) (vI 0) (vI 0) (vI 0) (vI 0) (vI 0) (vI 0) (vI 0) (vI 0) (vI 0) (vI 0) (vI 0) (vI 0)))) (h94 : G[94]? = some (ab_if 4200 ((upd (fun _ => 0) 0 4)))) (h95 : G[95]? = some (ab_if 4200 ((upd (fun _ => 0) 0 0)))) (h96 : G[96]? = some (ab_if 4200 ((upd (upd (fun _ => 0) 0 (-1)) 0 (-1))))) (h97 : G[97]? = some (ab_if 4200 ((upd (fun _ => 0) 0 (-1))))) (h100 : G[100]? = some (.inl (2, 4200, .inr (.inl (vp_updL (fun _ => 0) 0 0))))) : ab_F X d y_MO_node (.code y_MO_node b_MO_node 5 (some (.int))) [vR 80, vI 5, vI 0, vJ 0] G (fun o G2 => o = .returned (some (vI 1)) ∧ ab_fr [80, 94, 95, 96, 97, 100] G G2 ∧ G2.length = 158 ∧ ab_slots G2 = 1893385 ∧ G2[80]? = some (ab_ob 12 (m_fv (vI 0) (vI 0) (vI 0) (vI 0) (vI 0) (vI 0) (vI 0) (vI 0) (vI 2) (vI 0) (vI ((xs 2) &&& 15)) (vI 0) (vI (-1)) (vI 0) (vI 0) (vI 0) (vI 0) (vI 0) (vI 0) (vI 0) (vI 0) (vI 0) (vI 0) (vI 0) (vI 0) (vI 0) (vI 0) (vI 0) (vI 0) (vI 0) (vI 0) (vI 0) (vI 0) (vI 0) (vI 0))) ∧ G2[94]? = some (ab_if 4200 ((upd (upd (fun _ => 0) 0 4) 1 5))) ∧ G2[95]? = some (ab_if 4200 ((upd (upd (fun _ => 0) 0 0) 1 0))) ∧ G2[96]? = some (ab_if 4200 ((upd (upd (upd (fun _ => 0) 0 (-1)) 0 (-1)) 1 (-1)))) ∧ G2[97]? = some (ab_if 4200 ((upd (upd (fun _ => 0) 0 (-1)) 1 (-1)))) ∧ G2[100]? = some (.inl (2, 4200, .inr (.inl (vp_updL (vp_updL (fun _ => 0) 0 0) 1 0))))) := by
  refine ab_F_of (by decide +kernel) (Nat.le_of_ble_eq_true rfl) ?_
  obtain ⟨Q, hQ⟩ : ∃ z : Outcome → ab_G → Prop, z = (fun o G2 => o = .returned (some (vI 1)) ∧ ab_fr [80, 94, 95, 96, 97, 100] G G2 ∧ G2.length = 158 ∧ ab_slots G2 = 1893385 ∧ G2[80]? = some (ab_ob 12 (m_fv (vI 0) (vI 0) (vI 0) (vI 0) (vI 0) (vI 0) (vI 0) (vI 0) (vI 2) (vI 0) (vI ((xs 2) &&& 15)) (vI 0) (vI (-1)) (vI 0) (vI 0) (vI 0) (vI 0) (vI 0) (vI 0) (vI 0) (vI 0) (vI 0) (vI 0) (vI 0) (vI 0) (vI 0) (vI 0) (vI 0) (vI 0) (vI 0) (vI 0) (vI 0) (vI 0) (vI 0) (vI 0))) ∧ G2[94]? = some (ab_if 4200 ((upd (upd (fun _ => 0) 0 4) 1 5))) ∧ G2[95]? = some (ab_if 4200 ((upd (upd (fun _ => 0) 0 0) 1 0))) ∧ G2[96]? = some (ab_if 4200 ((upd (upd (upd (fun _ => 0) 0 (-1)) 0 (-1)) 1 (-1)))) ∧ G2[97]? = some (ab_if 4200 ((upd (upd (fun _ => 0) 0 (-1)) 1 (-1)))) ∧ G2[100]? = some (.inl (2, 4200, .inr (.inl (vp_updL (vp_updL (fun _ => 0) 0 0) 1 0))))) := ⟨_, rfl⟩
  rw [← hQ]
  change ab_W X (ab_pl y_MO_node b_MO_node 5 (some (.int))) d G 0 [some (vR 80), some (vI 5), some (vI 0), some (vJ 0), none] [] Q
  have hfr : ab_fr [80, 94, 95, 96, 97, 100] G G := ab_fr.rf
  refine ab_aload_n d_MO_node_0 rfl ?_
  refine ab_getf (fs := (m_fv (vI 0) (vI 0) (vI 0) (vI 0) (vI 0) (vI 0) (vI 0) (vI 0) (vI 1) (vI 0) (vI ((xs 2) &&& 15)) (vI 0) (vI (-1)) (vI 0) (vI 0) (vI 0) (vI 0) (vI 0) (vI 0) (vI 0) (vI 0) (vI 0) (vI 0) (vI 0) (vI 0) (vI 0) (vI 0) (vI 0) (vI 0) (vI 0) (vI 0) (vI 0) (vI 0) (vI 0) (vI 0))) f_MO_50 d_MO_node_1 h80 rfl ?_
  refine ab_aload_n d_MO_node_4 rfl ?_
  refine ab_getf (fs := (m_fv (vI 0) (vI 0) (vI 0) (vI 0) (vI 0) (vI 0) (vI 0) (vI 0) (vI 1) (vI 0) (vI ((xs 2) &&& 15)) (vI 0) (vI (-1)) (vI 0) (vI 0) (vI 0) (vI 0) (vI 0) (vI 0) (vI 0) (vI 0) (vI 0) (vI 0) (vI 0) (vI 0) (vI 0) (vI 0) (vI 0) (vI 0) (vI 0) (vI 0) (vI 0) (vI 0) (vI 0) (vI 0))) f_MO_264 d_MO_node_5 h80 rfl ?_
  refine ab_iload_n d_MO_node_8 rfl ?_
  refine ab_iast d_MO_node_9 h94 (by unfold vp_in; decide) (by decide) ?_
  obtain ⟨G1, eG1⟩ : ∃ z : ab_G, z = List.set G 94 (ab_if 4200 ((upd (upd (fun _ => 0) 0 4) 1 5))) := ⟨_, rfl⟩
  have h80 := ab_keep eG1 (by decide) h80
  have h95 := ab_keep eG1 (by decide) h95
  have h96 := ab_keep eG1 (by decide) h96
  have h97 := ab_keep eG1 (by decide) h97
  have h100 := ab_keep eG1 (by decide) h100
  have hlen := ab_klen eG1 hlen
  have hsl := ab_ksl 4200 eG1 h94 rfl rfl hsl
  have hfr := hfr.wr eG1 (by decide)
  have h94 := ab_kept eG1 h94
  change ab_W _ _ _ (List.set G 94 (ab_if 4200 ((upd (upd (fun _ => 0) 0 4) 1 5)))) 10 [some (vR 80), some (vI 5), some (vI 0), some (vJ 0), none] [] _
  rw [← eG1]
  refine ab_aload_n d_MO_node_10 rfl ?_
  refine ab_getf (fs := (m_fv (vI 0) (vI 0) (vI 0) (vI 0) (vI 0) (vI 0) (vI 0) (vI 0) (vI 1) (vI 0) (vI ((xs 2) &&& 15)) (vI 0) (vI (-1)) (vI 0) (vI 0) (vI 0) (vI 0) (vI 0) (vI 0) (vI 0) (vI 0) (vI 0) (vI 0) (vI 0) (vI 0) (vI 0) (vI 0) (vI 0) (vI 0) (vI 0) (vI 0) (vI 0) (vI 0) (vI 0) (vI 0))) f_MO_53 d_MO_node_11 h80 rfl ?_
  refine ab_aload_n d_MO_node_14 rfl ?_
  refine ab_getf (fs := (m_fv (vI 0) (vI 0) (vI 0) (vI 0) (vI 0) (vI 0) (vI 0) (vI 0) (vI 1) (vI 0) (vI ((xs 2) &&& 15)) (vI 0) (vI (-1)) (vI 0) (vI 0) (vI 0) (vI 0) (vI 0) (vI 0) (vI 0) (vI 0) (vI 0) (vI 0) (vI 0) (vI 0) (vI 0) (vI 0) (vI 0) (vI 0) (vI 0) (vI 0) (vI 0) (vI 0) (vI 0) (vI 0))) f_MO_264 d_MO_node_15 h80 rfl ?_
  refine ab_iload_n d_MO_node_18 rfl ?_
  refine ab_iast d_MO_node_19 h95 (by unfold vp_in; decide) (by decide) ?_
  obtain ⟨G2, eG2⟩ : ∃ z : ab_G, z = List.set G1 95 (ab_if 4200 ((upd (upd (fun _ => 0) 0 0) 1 0))) := ⟨_, rfl⟩
  have h80 := ab_keep eG2 (by decide) h80
  have h94 := ab_keep eG2 (by decide) h94
  have h96 := ab_keep eG2 (by decide) h96
  have h97 := ab_keep eG2 (by decide) h97
  have h100 := ab_keep eG2 (by decide) h100
  have hlen := ab_klen eG2 hlen
  have hsl := ab_ksl 4200 eG2 h95 rfl rfl hsl
  have hfr := hfr.wr eG2 (by decide)
  have h95 := ab_kept eG2 h95
  change ab_W _ _ _ (List.set G1 95 (ab_if 4200 ((upd (upd (fun _ => 0) 0 0) 1 0)))) 20 [some (vR 80), some (vI 5), some (vI 0), some (vJ 0), none] [] _
  rw [← eG2]
  refine ab_aload_n d_MO_node_20 rfl ?_
  refine ab_getf (fs := (m_fv (vI 0) (vI 0) (vI 0) (vI 0) (vI 0) (vI 0) (vI 0) (vI 0) (vI 1) (vI 0) (vI ((xs 2) &&& 15)) (vI 0) (vI (-1)) (vI 0) (vI 0) (vI 0) (vI 0) (vI 0) (vI 0) (vI 0) (vI 0) (vI 0) (vI 0) (vI 0) (vI 0) (vI 0) (vI 0) (vI 0) (vI 0) (vI 0) (vI 0) (vI 0) (vI 0) (vI 0) (vI 0))) f_MO_56 d_MO_node_21 h80 rfl ?_
  refine ab_aload_n d_MO_node_24 rfl ?_
  refine ab_getf (fs := (m_fv (vI 0) (vI 0) (vI 0) (vI 0) (vI 0) (vI 0) (vI 0) (vI 0) (vI 1) (vI 0) (vI ((xs 2) &&& 15)) (vI 0) (vI (-1)) (vI 0) (vI 0) (vI 0) (vI 0) (vI 0) (vI 0) (vI 0) (vI 0) (vI 0) (vI 0) (vI 0) (vI 0) (vI 0) (vI 0) (vI 0) (vI 0) (vI 0) (vI 0) (vI 0) (vI 0) (vI 0) (vI 0))) f_MO_264 d_MO_node_25 h80 rfl ?_
  refine ab_iconst (v := (-1)) d_MO_node_28 (by decide) ?_
  refine ab_iast d_MO_node_29 h96 (by unfold vp_in; decide) (by decide) ?_
  obtain ⟨G3, eG3⟩ : ∃ z : ab_G, z = List.set G2 96 (ab_if 4200 ((upd (upd (upd (fun _ => 0) 0 (-1)) 0 (-1)) 1 (-1)))) := ⟨_, rfl⟩
  have h80 := ab_keep eG3 (by decide) h80
  have h94 := ab_keep eG3 (by decide) h94
  have h95 := ab_keep eG3 (by decide) h95
  have h97 := ab_keep eG3 (by decide) h97
  have h100 := ab_keep eG3 (by decide) h100
  have hlen := ab_klen eG3 hlen
  have hsl := ab_ksl 4200 eG3 h96 rfl rfl hsl
  have hfr := hfr.wr eG3 (by decide)
  have h96 := ab_kept eG3 h96
  change ab_W _ _ _ (List.set G2 96 (ab_if 4200 ((upd (upd (upd (fun _ => 0) 0 (-1)) 0 (-1)) 1 (-1))))) 30 [some (vR 80), some (vI 5), some (vI 0), some (vJ 0), none] [] _
  rw [← eG3]
  refine ab_aload_n d_MO_node_30 rfl ?_
  refine ab_getf (fs := (m_fv (vI 0) (vI 0) (vI 0) (vI 0) (vI 0) (vI 0) (vI 0) (vI 0) (vI 1) (vI 0) (vI ((xs 2) &&& 15)) (vI 0) (vI (-1)) (vI 0) (vI 0) (vI 0) (vI 0) (vI 0) (vI 0) (vI 0) (vI 0) (vI 0) (vI 0) (vI 0) (vI 0) (vI 0) (vI 0) (vI 0) (vI 0) (vI 0) (vI 0) (vI 0) (vI 0) (vI 0) (vI 0))) f_MO_59 d_MO_node_31 h80 rfl ?_
  refine ab_aload_n d_MO_node_34 rfl ?_
  refine ab_getf (fs := (m_fv (vI 0) (vI 0) (vI 0) (vI 0) (vI 0) (vI 0) (vI 0) (vI 0) (vI 1) (vI 0) (vI ((xs 2) &&& 15)) (vI 0) (vI (-1)) (vI 0) (vI 0) (vI 0) (vI 0) (vI 0) (vI 0) (vI 0) (vI 0) (vI 0) (vI 0) (vI 0) (vI 0) (vI 0) (vI 0) (vI 0) (vI 0) (vI 0) (vI 0) (vI 0) (vI 0) (vI 0) (vI 0))) f_MO_264 d_MO_node_35 h80 rfl ?_
  refine ab_iconst (v := (-1)) d_MO_node_38 (by decide) ?_
  refine ab_iast d_MO_node_39 h97 (by unfold vp_in; decide) (by decide) ?_
  obtain ⟨G4, eG4⟩ : ∃ z : ab_G, z = List.set G3 97 (ab_if 4200 ((upd (upd (fun _ => 0) 0 (-1)) 1 (-1)))) := ⟨_, rfl⟩
  have h80 := ab_keep eG4 (by decide) h80
  have h94 := ab_keep eG4 (by decide) h94
  have h95 := ab_keep eG4 (by decide) h95
  have h96 := ab_keep eG4 (by decide) h96
  have h100 := ab_keep eG4 (by decide) h100
  have hlen := ab_klen eG4 hlen
  have hsl := ab_ksl 4200 eG4 h97 rfl rfl hsl
  have hfr := hfr.wr eG4 (by decide)
  have h97 := ab_kept eG4 h97
  change ab_W _ _ _ (List.set G3 97 (ab_if 4200 ((upd (upd (fun _ => 0) 0 (-1)) 1 (-1))))) 40 [some (vR 80), some (vI 5), some (vI 0), some (vJ 0), none] [] _
  rw [← eG4]
  refine ab_aload_n d_MO_node_40 rfl ?_
  refine ab_getf (fs := (m_fv (vI 0) (vI 0) (vI 0) (vI 0) (vI 0) (vI 0) (vI 0) (vI 0) (vI 1) (vI 0) (vI ((xs 2) &&& 15)) (vI 0) (vI (-1)) (vI 0) (vI 0) (vI 0) (vI 0) (vI 0) (vI 0) (vI 0) (vI 0) (vI 0) (vI 0) (vI 0) (vI 0) (vI 0) (vI 0) (vI 0) (vI 0) (vI 0) (vI 0) (vI 0) (vI 0) (vI 0) (vI 0))) f_MO_68 d_MO_node_41 h80 rfl ?_
  refine ab_aload_n d_MO_node_44 rfl ?_
  refine ab_getf (fs := (m_fv (vI 0) (vI 0) (vI 0) (vI 0) (vI 0) (vI 0) (vI 0) (vI 0) (vI 1) (vI 0) (vI ((xs 2) &&& 15)) (vI 0) (vI (-1)) (vI 0) (vI 0) (vI 0) (vI 0) (vI 0) (vI 0) (vI 0) (vI 0) (vI 0) (vI 0) (vI 0) (vI 0) (vI 0) (vI 0) (vI 0) (vI 0) (vI 0) (vI 0) (vI 0) (vI 0) (vI 0) (vI 0))) f_MO_264 d_MO_node_45 h80 rfl ?_
  refine ab_lload_n d_MO_node_48 rfl ?_
  refine ab_last d_MO_node_49 h100 (by unfold vp_in; decide) (by decide) ?_
  obtain ⟨G5, eG5⟩ : ∃ z : ab_G, z = List.set G4 100 (.inl (2, 4200, .inr (.inl (vp_updL (vp_updL (fun _ => 0) 0 0) 1 0)))) := ⟨_, rfl⟩
  have h80 := ab_keep eG5 (by decide) h80
  have h94 := ab_keep eG5 (by decide) h94
  have h95 := ab_keep eG5 (by decide) h95
  have h96 := ab_keep eG5 (by decide) h96
  have h97 := ab_keep eG5 (by decide) h97
  have hlen := ab_klen eG5 hlen
  have hsl := ab_ksl 4200 eG5 h100 rfl rfl hsl
  have hfr := hfr.wr eG5 (by decide)
  have h100 := ab_kept eG5 h100
  change ab_W _ _ _ (List.set G4 100 (.inl (2, 4200, .inr (.inl (vp_updL (vp_updL (fun _ => 0) 0 0) 1 0))))) 50 [some (vR 80), some (vI 5), some (vI 0), some (vJ 0), none] [] _
  rw [← eG5]
  refine ab_aload_n d_MO_node_50 rfl ?_
  refine ab_dup d_MO_node_51 rfl ?_
  refine ab_getf (fs := (m_fv (vI 0) (vI 0) (vI 0) (vI 0) (vI 0) (vI 0) (vI 0) (vI 0) (vI 1) (vI 0) (vI ((xs 2) &&& 15)) (vI 0) (vI (-1)) (vI 0) (vI 0) (vI 0) (vI 0) (vI 0) (vI 0) (vI 0) (vI 0) (vI 0) (vI 0) (vI 0) (vI 0) (vI 0) (vI 0) (vI 0) (vI 0) (vI 0) (vI 0) (vI 0) (vI 0) (vI 0) (vI 0))) f_MO_264 d_MO_node_52 h80 rfl ?_
  refine ab_iconst (v := 1) d_MO_node_55 (by decide) ?_
  refine ab_iadd d_MO_node_56 ?_
  refine ab_topi (y := 2) (by decide) ?_
  refine ab_putf (fs := (m_fv (vI 0) (vI 0) (vI 0) (vI 0) (vI 0) (vI 0) (vI 0) (vI 0) (vI 1) (vI 0) (vI ((xs 2) &&& 15)) (vI 0) (vI (-1)) (vI 0) (vI 0) (vI 0) (vI 0) (vI 0) (vI 0) (vI 0) (vI 0) (vI 0) (vI 0) (vI 0) (vI 0) (vI 0) (vI 0) (vI 0) (vI 0) (vI 0) (vI 0) (vI 0) (vI 0) (vI 0) (vI 0))) f_MO_264 (Or.inl rfl) d_MO_node_57 h80 (Nat.le_of_ble_eq_true rfl) (fun _ => ⟨rfl, rfl⟩) (by decide) ?_
  obtain ⟨G6, eG6⟩ : ∃ z : ab_G, z = List.set G5 80 (ab_ob 12 (m_fv (vI 0) (vI 0) (vI 0) (vI 0) (vI 0) (vI 0) (vI 0) (vI 0) (vI 2) (vI 0) (vI ((xs 2) &&& 15)) (vI 0) (vI (-1)) (vI 0) (vI 0) (vI 0) (vI 0) (vI 0) (vI 0) (vI 0) (vI 0) (vI 0) (vI 0) (vI 0) (vI 0) (vI 0) (vI 0) (vI 0) (vI 0) (vI 0) (vI 0) (vI 0) (vI 0) (vI 0) (vI 0))) := ⟨_, rfl⟩
  have h94 := ab_keep eG6 (by decide) h94
  have h95 := ab_keep eG6 (by decide) h95
  have h96 := ab_keep eG6 (by decide) h96
  have h97 := ab_keep eG6 (by decide) h97
  have h100 := ab_keep eG6 (by decide) h100
  have hlen := ab_klen eG6 hlen
  have hsl := ab_ksl 102 eG6 h80 rfl rfl hsl
  have hfr := hfr.wr eG6 (by decide)
  have h80 := ab_kept eG6 h80
  change ab_W _ _ _ (List.set G5 80 (ab_ob 12 (m_fv (vI 0) (vI 0) (vI 0) (vI 0) (vI 0) (vI 0) (vI 0) (vI 0) (vI 2) (vI 0) (vI ((xs 2) &&& 15)) (vI 0) (vI (-1)) (vI 0) (vI 0) (vI 0) (vI 0) (vI 0) (vI 0) (vI 0) (vI 0) (vI 0) (vI 0) (vI 0) (vI 0) (vI 0) (vI 0) (vI 0) (vI 0) (vI 0) (vI 0) (vI 0) (vI 0) (vI 0) (vI 0)))) 60 [some (vR 80), some (vI 5), some (vI 0), some (vJ 0), none] [] _
  rw [← eG6]
  refine ab_aload_n d_MO_node_60 rfl ?_
  refine ab_getf (fs := (m_fv (vI 0) (vI 0) (vI 0) (vI 0) (vI 0) (vI 0) (vI 0) (vI 0) (vI 2) (vI 0) (vI ((xs 2) &&& 15)) (vI 0) (vI (-1)) (vI 0) (vI 0) (vI 0) (vI 0) (vI 0) (vI 0) (vI 0) (vI 0) (vI 0) (vI 0) (vI 0) (vI 0) (vI 0) (vI 0) (vI 0) (vI 0) (vI 0) (vI 0) (vI 0) (vI 0) (vI 0) (vI 0))) f_MO_264 d_MO_node_61 h80 rfl ?_
  refine ab_iconst (v := 1) d_MO_node_64 (by decide) ?_
  refine ab_isub d_MO_node_65 ?_
  refine ab_topi (y := 1) (by decide) ?_
  exact ab_iret (rt := .int) rfl rfl d_MO_node_66 (by rw [hQ]; exact ⟨rfl, hfr, hlen, hsl, h80, h94, h95, h96, h97, h100⟩)
