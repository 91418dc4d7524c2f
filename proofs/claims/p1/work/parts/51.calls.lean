set_option maxRecDepth 100000 in
set_option maxHeartbeats 4000000 in
theorem s_MO_compile_135_30 {X : ab_X} {d : Nat} {G : ab_G} {Q : Outcome → ab_G → Prop} {xs : Nat → Int32} {f126_0 : Nat → Int32} {f127_0 : Nat → Int32} (hlen : G.length = 158) (hsl : ab_slots G = 1893385) (h80 : G[80]? = some (ab_ob 12 (m_fv (vI 0) (vI 0) (vI 0) (vI 0) (vI 0) (vI 0) (vI 0) (vI 0) (vI 2) (vI 0) (vI ((xs 2) &&& 15)) (vI 0) (vI (-1)) (vI 0) (vI 0) (vI 0) (vI 0) (vI 0) (vI 0) (vI (xs 1)) (vI 0) (vI 0) (vI 0) (vI 0) (vI 0) (vI 0) (vI 0) (vI 0) (vI 0) (vI 0) (vI 0) (vI 0) (vI 0) (vI 0) (vI 0)))) (h100 : G[100]? = some (.inl (2, 4200, .inr (.inl (vp_updL (vp_updL (fun _ => 0) 0 0) 1 0))))) (h110 : G[110]? = some (ab_if 120 ((fun _ => 0)))) (h113 : G[113]? = some (ab_if 6 ((fun _ => 0)))) (h117 : G[117]? = some (ab_if 6 ((upd (fun _ => 0) (Int32.toNatClampNeg (xs 1)) 0)))) (h118 : G[118]? = some (ab_if 75000 ((fun _ => 0)))) (h119 : G[119]? = some (ab_if 75000 ((fun _ => 0)))) (h120 : G[120]? = some (ab_if 75000 ((fun _ => 0)))) (h126 : G[126]? = some (ab_if 720 (f126_0))) (h127 : G[127]? = some (ab_if 60 (f127_0))) (h128 : G[128]? = some (ab_if 300 ((fun _ => 0)))) (h129 : G[129]? = some (ab_if 300 ((fun _ => 0)))) (h130 : G[130]? = some (ab_if 300 ((fun _ => 0)))) (h131 : G[131]? = some (ab_if 300 ((fun _ => 0)))) (h132 : G[132]? = some (ab_if 300 ((fun _ => 0)))) (h133 : G[133]? = some (ab_if 40000 ((fun _ => 0)))) (c0 : 0 ≤ (xs 1)) (c1 : (xs 1) ≤ 5) (c2 : 0 ≤ (xs 2)) (c3 : (xs 2) ≤ 31) (c4 : ¬ ((xs 1) < 0)) (c5 : ¬ (5 < (xs 1))) (c6 : ¬ ((xs 2) < 0)) (c7 : (xs 2) ≤ 31) (hd : 2 ≤ d) (hk : ∀ o G2, (o = .returned (some (vI 0)) ∧ ab_fr [80, 113, 117, 118, 119, 120, 126, 127, 128, 129, 130, 131, 132, 133] G G2 ∧ G2.length = 158 ∧ ab_slots G2 = 1893385 ∧ G2[80]? = some (ab_ob 12 (m_fv (vI 0) (vI 0) (vI 0) (vI 0) (vI 0) (vI 0) (vI 0) (vI 0) (vI 2) (vI 0) (vI ((xs 2) &&& 15)) (vI 0) (vI (-1)) (vI 0) (vI 0) (vI 0) (vI 0) (vI 0) (vI 0) (vI (xs 1)) (vI 0) (vI 0) (vI 1) (vI 0) (vI 0) (vI 0) (vI 0) (vI 0) (vI 0) (vI 0) (vI 0) (vI 0) (vI 0) (vI 0) (vI 0))) ∧ G2[113]? = some (ab_if 6 ((upd (fun _ => 0) (Int32.toNatClampNeg (xs 1)) 0))) ∧ G2[117]? = some (ab_if 6 ((upd (upd (upd (fun _ => 0) (Int32.toNatClampNeg (xs 1)) 0) (Int32.toNatClampNeg (xs 1)) 1) (Int32.toNatClampNeg (xs 1)) 2))) ∧ G2[118]? = some (ab_if 75000 ((upd (upd (fun _ => 0) (Int32.toNatClampNeg (12500 * (xs 1))) 0) (Int32.toNatClampNeg ((12500 * (xs 1)) + 1)) 6))) ∧ G2[119]? = some (ab_if 75000 ((upd (upd (fun _ => 0) (Int32.toNatClampNeg (12500 * (xs 1))) (-1)) (Int32.toNatClampNeg ((12500 * (xs 1)) + 1)) (-1)))) ∧ G2[120]? = some (ab_if 75000 ((upd (upd (fun _ => 0) (Int32.toNatClampNeg (12500 * (xs 1))) 0) (Int32.toNatClampNeg ((12500 * (xs 1)) + 1)) 0))) ∧ (∃ g : Nat → Int32, G2[126]? = some (ab_if 720 (g))) ∧ (∃ g : Nat → Int32, G2[127]? = some (ab_if 60 (g))) ∧ G2[128]? = some (ab_if 300 ((upd (fun _ => 0) 0 1))) ∧ G2[129]? = some (ab_if 300 ((upd (fun _ => 0) 0 0))) ∧ G2[130]? = some (ab_if 300 ((upd (fun _ => 0) 0 0))) ∧ G2[131]? = some (ab_if 300 ((upd (fun _ => 0) 0 0))) ∧ G2[132]? = some (ab_if 300 ((upd (fun _ => 0) 0 0))) ∧ G2[133]? = some (ab_if 40000 ((upd (fun _ => 0) 0 0)))) → Q o G2) : ab_W X (ab_pl y_MO_compile b_MO_compile 6 (some (.int))) d G 135 [some (vR 80), some (vI (xs 1)), some (vI (xs 2)), some (vI 1), some (vI 6), none] [] Q := by
  have hfr : ab_fr [80, 113, 117, 118, 119, 120, 126, 127, 128, 129, 130, 131, 132, 133] G G := ab_fr.rf
  have hpk : ab_fr [80, 110, 111, 126, 127] G G := ab_fr.rf
  refine ab_iload d_MO_compile_135 rfl ?_
  refine ab_bipush (v := 10) d_MO_compile_137 (by decide) ?_
  refine ab_icmp_ge (tgt := 232) d_MO_compile_139 (by decide) (fun c => absurd c (by decide)) (fun _ => ?_)
  refine ab_aload_n d_MO_compile_142 rfl ?_
  refine ab_getf (fs := (m_fv (vI 0) (vI 0) (vI 0) (vI 0) (vI 0) (vI 0) (vI 0) (vI 0) (vI 2) (vI 0) (vI ((xs 2) &&& 15)) (vI 0) (vI (-1)) (vI 0) (vI 0) (vI 0) (vI 0) (vI 0) (vI 0) (vI (xs 1)) (vI 0) (vI 0) (vI 0) (vI 0) (vI 0) (vI 0) (vI 0) (vI 0) (vI 0) (vI 0) (vI 0) (vI 0) (vI 0) (vI 0) (vI 0))) f_MO_155 d_MO_compile_143 h80 rfl ?_
  refine ab_bipush (v := 10) d_MO_compile_146 (by decide) ?_
  refine ab_iload_n d_MO_compile_148 rfl ?_
  refine ab_imul d_MO_compile_149 ?_
  refine ab_iload d_MO_compile_150 rfl ?_
  refine ab_iadd d_MO_compile_152 ?_
  refine ab_iload d_MO_compile_153 rfl ?_
  refine ab_if_le (tgt := 177) d_MO_compile_155 (by decide) (fun c => absurd c (by decide)) (fun _ => ?_)
  refine ab_iload d_MO_compile_158 rfl ?_
  refine ab_aload_n d_MO_compile_160 rfl ?_
  refine ab_getf (fs := (m_fv (vI 0) (vI 0) (vI 0) (vI 0) (vI 0) (vI 0) (vI 0) (vI 0) (vI 2) (vI 0) (vI ((xs 2) &&& 15)) (vI 0) (vI (-1)) (vI 0) (vI 0) (vI 0) (vI 0) (vI 0) (vI 0) (vI (xs 1)) (vI 0) (vI 0) (vI 0) (vI 0) (vI 0) (vI 0) (vI 0) (vI 0) (vI 0) (vI 0) (vI 0) (vI 0) (vI 0) (vI 0) (vI 0))) f_MO_395 d_MO_compile_161 h80 rfl ?_
  refine ab_icmp_gt (tgt := 177) d_MO_compile_164 (by decide) (fun _ => ?_) (fun c => absurd c (by decide))
  refine ab_iconst (v := 0) d_MO_compile_177 (by decide) ?_
  refine ab_iast d_MO_compile_178 h127 (vp_in_iff.mpr (by have l0 := (show (0 : Int32).toInt = 0 by decide); have l1 := (show (5 : Int32).toInt = 5 by decide); have l2 := (show (6 : Int32).toInt = 6 by decide); have l3 := (show (10 : Int32).toInt = 10 by decide); have l4 := (show (31 : Int32).toInt = 31 by decide); simp only [Int32.le_iff_toInt_le, Int32.lt_iff_toInt_lt, ← Int32.toInt_inj] at c0 c1 c2 c3 c4 c5 c6 c7; have e0 : Int32.toInt (10 * (xs 1)) = Int32.toInt 10 * Int32.toInt (xs 1) := i32_mul (by simp only [l0, l1, l2, l3, l4]; omega) (by simp only [l0, l1, l2, l3, l4]; omega); have e1 : Int32.toInt ((10 * (xs 1)) + 6) = Int32.toInt (10 * (xs 1)) + Int32.toInt 6 := i32_add (by simp only [l0, l1, l2, l3, l4, e0]; omega) (by simp only [l0, l1, l2, l3, l4, e0]; omega); (try simp only [l0, l1, l2, l3, l4] at e0 e1); constructor <;> omega)) (by decide) ?_
  obtain ⟨G1, eG1⟩ : ∃ z : ab_G, z = List.set G 127 (ab_if 60 ((upd f127_0 (Int32.toNatClampNeg ((10 * (xs 1)) + 6)) 0))) := ⟨_, rfl⟩
  have h80 := ab_keep eG1 (by decide) h80
  have h110 := ab_keep eG1 (by decide) h110
  have h126 := ab_keep eG1 (by decide) h126
  have hlen := ab_klen eG1 hlen
  have hsl := ab_ksl 60 eG1 h127 rfl rfl hsl
  have hfr := hfr.wr eG1 (by decide)
  have hpk := hpk.wr eG1 (by decide)
  have h127 := ab_kept eG1 h127
  change ab_W _ _ _ (List.set G 127 (ab_if 60 ((upd f127_0 (Int32.toNatClampNeg ((10 * (xs 1)) + 6)) 0)))) 179 [some (vR 80), some (vI (xs 1)), some (vI (xs 2)), some (vI 1), some (vI 6), none] [] _
  rw [← eG1]
  obtain ⟨f127_1, h127⟩ : ∃ g : Nat → Int32, G1[127]? = some (ab_if 60 (g)) := ⟨_, h127⟩
  refine ab_iconst (v := 0) d_MO_compile_179 (by decide) ?_
  refine ab_istore d_MO_compile_180 (Nat.le_of_ble_eq_true rfl) (Nat.le_of_ble_eq_true rfl) rfl ?_
  change ab_W _ _ _ G1 182 [some (vR 80), some (vI (xs 1)), some (vI (xs 2)), some (vI 1), some (vI 6), some (vI 0)] [] _
  refine ab_iload d_MO_compile_182 rfl ?_
  refine ab_bipush (v := 12) d_MO_compile_184 (by decide) ?_
  refine ab_icmp_ge (tgt := 226) d_MO_compile_186 (by decide) (fun c => absurd c (by decide)) (fun _ => ?_)
  refine ab_aload_n d_MO_compile_189 rfl ?_
  refine ab_getf (fs := (m_fv (vI 0) (vI 0) (vI 0) (vI 0) (vI 0) (vI 0) (vI 0) (vI 0) (vI 2) (vI 0) (vI ((xs 2) &&& 15)) (vI 0) (vI (-1)) (vI 0) (vI 0) (vI 0) (vI 0) (vI 0) (vI 0) (vI (xs 1)) (vI 0) (vI 0) (vI 0) (vI 0) (vI 0) (vI 0) (vI 0) (vI 0) (vI 0) (vI 0) (vI 0) (vI 0) (vI 0) (vI 0) (vI 0))) f_MO_152 d_MO_compile_190 h80 rfl ?_
  refine ab_bipush (v := 120) d_MO_compile_193 (by decide) ?_
  refine ab_iload_n d_MO_compile_195 rfl ?_
  refine ab_imul d_MO_compile_196 ?_
  refine ab_bipush (v := 12) d_MO_compile_197 (by decide) ?_
  refine ab_iload d_MO_compile_199 rfl ?_
  refine ab_imul d_MO_compile_201 ?_
  refine ab_topi (y := 72) (by decide) ?_
  refine ab_iadd d_MO_compile_202 ?_
  refine ab_iload d_MO_compile_203 rfl ?_
  refine ab_iadd d_MO_compile_205 ?_
  refine ab_topi (y := ((120 * (xs 1)) + 72)) (Int32.add_zero _) ?_
  refine ab_aload_n d_MO_compile_206 rfl ?_
  refine ab_getf (fs := (m_fv (vI 0) (vI 0) (vI 0) (vI 0) (vI 0) (vI 0) (vI 0) (vI 0) (vI 2) (vI 0) (vI ((xs 2) &&& 15)) (vI 0) (vI (-1)) (vI 0) (vI 0) (vI 0) (vI 0) (vI 0) (vI 0) (vI (xs 1)) (vI 0) (vI 0) (vI 0) (vI 0) (vI 0) (vI 0) (vI 0) (vI 0) (vI 0) (vI 0) (vI 0) (vI 0) (vI 0) (vI 0) (vI 0))) f_MO_103 d_MO_compile_207 h80 rfl ?_
  refine ab_bipush (v := 12) d_MO_compile_210 (by decide) ?_
  refine ab_iload d_MO_compile_212 rfl ?_
  refine ab_imul d_MO_compile_214 ?_
  refine ab_topi (y := 72) (by decide) ?_
  refine ab_iload d_MO_compile_215 rfl ?_
  refine ab_iadd d_MO_compile_217 ?_
  refine ab_topi (y := 72) (by decide) ?_
  refine ab_iald d_MO_compile_218 h110 (by unfold vp_in; decide) ?_
  refine ab_topi (y := 0) rfl ?_
  refine ab_iast d_MO_compile_219 h126 (vp_in_iff.mpr (by have l0 := (show (0 : Int32).toInt = 0 by decide); have l1 := (show (5 : Int32).toInt = 5 by decide); have l2 := (show (31 : Int32).toInt = 31 by decide); have l3 := (show (72 : Int32).toInt = 72 by decide); have l4 := (show (120 : Int32).toInt = 120 by decide); simp only [Int32.le_iff_toInt_le, Int32.lt_iff_toInt_lt, ← Int32.toInt_inj] at c0 c1 c2 c3 c4 c5 c6 c7; have e0 : Int32.toInt (120 * (xs 1)) = Int32.toInt 120 * Int32.toInt (xs 1) := i32_mul (by simp only [l0, l1, l2, l3, l4]; omega) (by simp only [l0, l1, l2, l3, l4]; omega); have e1 : Int32.toInt ((120 * (xs 1)) + 72) = Int32.toInt (120 * (xs 1)) + Int32.toInt 72 := i32_add (by simp only [l0, l1, l2, l3, l4, e0]; omega) (by simp only [l0, l1, l2, l3, l4, e0]; omega); (try simp only [l0, l1, l2, l3, l4] at e0 e1); constructor <;> omega)) (by decide) ?_
  obtain ⟨G2, eG2⟩ : ∃ z : ab_G, z = List.set G1 126 (ab_if 720 ((upd f126_0 (Int32.toNatClampNeg ((120 * (xs 1)) + 72)) 0))) := ⟨_, rfl⟩
  have h80 := ab_keep eG2 (by decide) h80
  have h110 := ab_keep eG2 (by decide) h110
  have h127 := ab_keep eG2 (by decide) h127
  have hlen := ab_klen eG2 hlen
  have hsl := ab_ksl 720 eG2 h126 rfl rfl hsl
  have hfr := hfr.wr eG2 (by decide)
  have hpk := hpk.wr eG2 (by decide)
  have h126 := ab_kept eG2 h126
  change ab_W _ _ _ (List.set G1 126 (ab_if 720 ((upd f126_0 (Int32.toNatClampNeg ((120 * (xs 1)) + 72)) 0)))) 220 [some (vR 80), some (vI (xs 1)), some (vI (xs 2)), some (vI 1), some (vI 6), some (vI 0)] [] _
  rw [← eG2]
  obtain ⟨f126_2, h126⟩ : ∃ g : Nat → Int32, G2[126]? = some (ab_if 720 (g)) := ⟨_, h126⟩
  refine ab_iinc (v := 1) d_MO_compile_220 rfl (by decide) (Nat.le_of_ble_eq_true rfl) (Nat.le_of_ble_eq_true rfl) rfl ?_
  change ab_W _ _ _ G2 223 [some (vR 80), some (vI (xs 1)), some (vI (xs 2)), some (vI 1), some (vI 6), some (vI 1)] [] _
  refine ab_goto (tgt := 182) d_MO_compile_223 (by decide) ?_
  refine ab_iload d_MO_compile_182 rfl ?_
  refine ab_bipush (v := 12) d_MO_compile_184 (by decide) ?_
  refine ab_icmp_ge (tgt := 226) d_MO_compile_186 (by decide) (fun c => absurd c (by decide)) (fun _ => ?_)
  refine ab_aload_n d_MO_compile_189 rfl ?_
  refine ab_getf (fs := (m_fv (vI 0) (vI 0) (vI 0) (vI 0) (vI 0) (vI 0) (vI 0) (vI 0) (vI 2) (vI 0) (vI ((xs 2) &&& 15)) (vI 0) (vI (-1)) (vI 0) (vI 0) (vI 0) (vI 0) (vI 0) (vI 0) (vI (xs 1)) (vI 0) (vI 0) (vI 0) (vI 0) (vI 0) (vI 0) (vI 0) (vI 0) (vI 0) (vI 0) (vI 0) (vI 0) (vI 0) (vI 0) (vI 0))) f_MO_152 d_MO_compile_190 h80 rfl ?_
  refine ab_bipush (v := 120) d_MO_compile_193 (by decide) ?_
  refine ab_iload_n d_MO_compile_195 rfl ?_
  refine ab_imul d_MO_compile_196 ?_
  refine ab_bipush (v := 12) d_MO_compile_197 (by decide) ?_
  refine ab_iload d_MO_compile_199 rfl ?_
  refine ab_imul d_MO_compile_201 ?_
  refine ab_topi (y := 72) (by decide) ?_
  refine ab_iadd d_MO_compile_202 ?_
  refine ab_iload d_MO_compile_203 rfl ?_
  refine ab_iadd d_MO_compile_205 ?_
  refine ab_aload_n d_MO_compile_206 rfl ?_
  refine ab_getf (fs := (m_fv (vI 0) (vI 0) (vI 0) (vI 0) (vI 0) (vI 0) (vI 0) (vI 0) (vI 2) (vI 0) (vI ((xs 2) &&& 15)) (vI 0) (vI (-1)) (vI 0) (vI 0) (vI 0) (vI 0) (vI 0) (vI 0) (vI (xs 1)) (vI 0) (vI 0) (vI 0) (vI 0) (vI 0) (vI 0) (vI 0) (vI 0) (vI 0) (vI 0) (vI 0) (vI 0) (vI 0) (vI 0) (vI 0))) f_MO_103 d_MO_compile_207 h80 rfl ?_
  refine ab_bipush (v := 12) d_MO_compile_210 (by decide) ?_
  refine ab_iload d_MO_compile_212 rfl ?_
  refine ab_imul d_MO_compile_214 ?_
  refine ab_topi (y := 72) (by decide) ?_
  refine ab_iload d_MO_compile_215 rfl ?_
  refine ab_iadd d_MO_compile_217 ?_
  refine ab_topi (y := 73) (by decide) ?_
  refine ab_iald d_MO_compile_218 h110 (by unfold vp_in; decide) ?_
  refine ab_topi (y := 0) rfl ?_
  refine ab_iast d_MO_compile_219 h126 (vp_in_iff.mpr (by have l0 := (show (0 : Int32).toInt = 0 by decide); have l1 := (show (1 : Int32).toInt = 1 by decide); have l2 := (show (5 : Int32).toInt = 5 by decide); have l3 := (show (31 : Int32).toInt = 31 by decide); have l4 := (show (72 : Int32).toInt = 72 by decide); have l5 := (show (120 : Int32).toInt = 120 by decide); simp only [Int32.le_iff_toInt_le, Int32.lt_iff_toInt_lt, ← Int32.toInt_inj] at c0 c1 c2 c3 c4 c5 c6 c7; have e0 : Int32.toInt (120 * (xs 1)) = Int32.toInt 120 * Int32.toInt (xs 1) := i32_mul (by simp only [l0, l1, l2, l3, l4, l5]; omega) (by simp only [l0, l1, l2, l3, l4, l5]; omega); have e1 : Int32.toInt ((120 * (xs 1)) + 72) = Int32.toInt (120 * (xs 1)) + Int32.toInt 72 := i32_add (by simp only [l0, l1, l2, l3, l4, l5, e0]; omega) (by simp only [l0, l1, l2, l3, l4, l5, e0]; omega); have e2 : Int32.toInt (((120 * (xs 1)) + 72) + 1) = Int32.toInt ((120 * (xs 1)) + 72) + Int32.toInt 1 := i32_add (by simp only [l0, l1, l2, l3, l4, l5, e0, e1]; omega) (by simp only [l0, l1, l2, l3, l4, l5, e0, e1]; omega); (try simp only [l0, l1, l2, l3, l4, l5] at e0 e1 e2); constructor <;> omega)) (by decide) ?_
  obtain ⟨G3, eG3⟩ : ∃ z : ab_G, z = List.set G2 126 (ab_if 720 ((upd f126_2 (Int32.toNatClampNeg (((120 * (xs 1)) + 72) + 1)) 0))) := ⟨_, rfl⟩
  have h80 := ab_keep eG3 (by decide) h80
  have h110 := ab_keep eG3 (by decide) h110
  have h127 := ab_keep eG3 (by decide) h127
  have hlen := ab_klen eG3 hlen
  have hsl := ab_ksl 720 eG3 h126 rfl rfl hsl
  have hfr := hfr.wr eG3 (by decide)
  have hpk := hpk.wr eG3 (by decide)
  have h126 := ab_kept eG3 h126
  change ab_W _ _ _ (List.set G2 126 (ab_if 720 ((upd f126_2 (Int32.toNatClampNeg (((120 * (xs 1)) + 72) + 1)) 0)))) 220 [some (vR 80), some (vI (xs 1)), some (vI (xs 2)), some (vI 1), some (vI 6), some (vI 1)] [] _
  rw [← eG3]
  obtain ⟨f126_3, h126⟩ : ∃ g : Nat → Int32, G3[126]? = some (ab_if 720 (g)) := ⟨_, h126⟩
  refine ab_iinc (v := 2) d_MO_compile_220 rfl (by decide) (Nat.le_of_ble_eq_true rfl) (Nat.le_of_ble_eq_true rfl) rfl ?_
  change ab_W _ _ _ G3 223 [some (vR 80), some (vI (xs 1)), some (vI (xs 2)), some (vI 1), some (vI 6), some (vI 2)] [] _
  refine ab_goto (tgt := 182) d_MO_compile_223 (by decide) ?_
  refine ab_iload d_MO_compile_182 rfl ?_
  refine ab_bipush (v := 12) d_MO_compile_184 (by decide) ?_
  refine ab_icmp_ge (tgt := 226) d_MO_compile_186 (by decide) (fun c => absurd c (by decide)) (fun _ => ?_)
  refine ab_aload_n d_MO_compile_189 rfl ?_
  refine ab_getf (fs := (m_fv (vI 0) (vI 0) (vI 0) (vI 0) (vI 0) (vI 0) (vI 0) (vI 0) (vI 2) (vI 0) (vI ((xs 2) &&& 15)) (vI 0) (vI (-1)) (vI 0) (vI 0) (vI 0) (vI 0) (vI 0) (vI 0) (vI (xs 1)) (vI 0) (vI 0) (vI 0) (vI 0) (vI 0) (vI 0) (vI 0) (vI 0) (vI 0) (vI 0) (vI 0) (vI 0) (vI 0) (vI 0) (vI 0))) f_MO_152 d_MO_compile_190 h80 rfl ?_
  refine ab_bipush (v := 120) d_MO_compile_193 (by decide) ?_
  refine ab_iload_n d_MO_compile_195 rfl ?_
  refine ab_imul d_MO_compile_196 ?_
  refine ab_bipush (v := 12) d_MO_compile_197 (by decide) ?_
  refine ab_iload d_MO_compile_199 rfl ?_
  refine ab_imul d_MO_compile_201 ?_
  refine ab_topi (y := 72) (by decide) ?_
  refine ab_iadd d_MO_compile_202 ?_
  refine ab_iload d_MO_compile_203 rfl ?_
  refine ab_iadd d_MO_compile_205 ?_
  refine ab_aload_n d_MO_compile_206 rfl ?_
  refine ab_getf (fs := (m_fv (vI 0) (vI 0) (vI 0) (vI 0) (vI 0) (vI 0) (vI 0) (vI 0) (vI 2) (vI 0) (vI ((xs 2) &&& 15)) (vI 0) (vI (-1)) (vI 0) (vI 0) (vI 0) (vI 0) (vI 0) (vI 0) (vI (xs 1)) (vI 0) (vI 0) (vI 0) (vI 0) (vI 0) (vI 0) (vI 0) (vI 0) (vI 0) (vI 0) (vI 0) (vI 0) (vI 0) (vI 0) (vI 0))) f_MO_103 d_MO_compile_207 h80 rfl ?_
  refine ab_bipush (v := 12) d_MO_compile_210 (by decide) ?_
  refine ab_iload d_MO_compile_212 rfl ?_
  refine ab_imul d_MO_compile_214 ?_
  refine ab_topi (y := 72) (by decide) ?_
  refine ab_iload d_MO_compile_215 rfl ?_
  refine ab_iadd d_MO_compile_217 ?_
  refine ab_topi (y := 74) (by decide) ?_
  refine ab_iald d_MO_compile_218 h110 (by unfold vp_in; decide) ?_
  refine ab_topi (y := 0) rfl ?_
  refine ab_iast d_MO_compile_219 h126 (vp_in_iff.mpr (by have l0 := (show (0 : Int32).toInt = 0 by decide); have l1 := (show (2 : Int32).toInt = 2 by decide); have l2 := (show (5 : Int32).toInt = 5 by decide); have l3 := (show (31 : Int32).toInt = 31 by decide); have l4 := (show (72 : Int32).toInt = 72 by decide); have l5 := (show (120 : Int32).toInt = 120 by decide); simp only [Int32.le_iff_toInt_le, Int32.lt_iff_toInt_lt, ← Int32.toInt_inj] at c0 c1 c2 c3 c4 c5 c6 c7; have e0 : Int32.toInt (120 * (xs 1)) = Int32.toInt 120 * Int32.toInt (xs 1) := i32_mul (by simp only [l0, l1, l2, l3, l4, l5]; omega) (by simp only [l0, l1, l2, l3, l4, l5]; omega); have e1 : Int32.toInt ((120 * (xs 1)) + 72) = Int32.toInt (120 * (xs 1)) + Int32.toInt 72 := i32_add (by simp only [l0, l1, l2, l3, l4, l5, e0]; omega) (by simp only [l0, l1, l2, l3, l4, l5, e0]; omega); have e2 : Int32.toInt (((120 * (xs 1)) + 72) + 2) = Int32.toInt ((120 * (xs 1)) + 72) + Int32.toInt 2 := i32_add (by simp only [l0, l1, l2, l3, l4, l5, e0, e1]; omega) (by simp only [l0, l1, l2, l3, l4, l5, e0, e1]; omega); (try simp only [l0, l1, l2, l3, l4, l5] at e0 e1 e2); constructor <;> omega)) (by decide) ?_
  obtain ⟨G4, eG4⟩ : ∃ z : ab_G, z = List.set G3 126 (ab_if 720 ((upd f126_3 (Int32.toNatClampNeg (((120 * (xs 1)) + 72) + 2)) 0))) := ⟨_, rfl⟩
  have h80 := ab_keep eG4 (by decide) h80
  have h110 := ab_keep eG4 (by decide) h110
  have h127 := ab_keep eG4 (by decide) h127
  have hlen := ab_klen eG4 hlen
  have hsl := ab_ksl 720 eG4 h126 rfl rfl hsl
  have hfr := hfr.wr eG4 (by decide)
  have hpk := hpk.wr eG4 (by decide)
  have h126 := ab_kept eG4 h126
  change ab_W _ _ _ (List.set G3 126 (ab_if 720 ((upd f126_3 (Int32.toNatClampNeg (((120 * (xs 1)) + 72) + 2)) 0)))) 220 [some (vR 80), some (vI (xs 1)), some (vI (xs 2)), some (vI 1), some (vI 6), some (vI 2)] [] _
  rw [← eG4]
  obtain ⟨f126_4, h126⟩ : ∃ g : Nat → Int32, G4[126]? = some (ab_if 720 (g)) := ⟨_, h126⟩
  refine ab_iinc (v := 3) d_MO_compile_220 rfl (by decide) (Nat.le_of_ble_eq_true rfl) (Nat.le_of_ble_eq_true rfl) rfl ?_
  change ab_W _ _ _ G4 223 [some (vR 80), some (vI (xs 1)), some (vI (xs 2)), some (vI 1), some (vI 6), some (vI 3)] [] _
  refine ab_goto (tgt := 182) d_MO_compile_223 (by decide) ?_
  refine ab_iload d_MO_compile_182 rfl ?_
  refine ab_bipush (v := 12) d_MO_compile_184 (by decide) ?_
  refine ab_icmp_ge (tgt := 226) d_MO_compile_186 (by decide) (fun c => absurd c (by decide)) (fun _ => ?_)
  refine ab_aload_n d_MO_compile_189 rfl ?_
  refine ab_getf (fs := (m_fv (vI 0) (vI 0) (vI 0) (vI 0) (vI 0) (vI 0) (vI 0) (vI 0) (vI 2) (vI 0) (vI ((xs 2) &&& 15)) (vI 0) (vI (-1)) (vI 0) (vI 0) (vI 0) (vI 0) (vI 0) (vI 0) (vI (xs 1)) (vI 0) (vI 0) (vI 0) (vI 0) (vI 0) (vI 0) (vI 0) (vI 0) (vI 0) (vI 0) (vI 0) (vI 0) (vI 0) (vI 0) (vI 0))) f_MO_152 d_MO_compile_190 h80 rfl ?_
  refine ab_bipush (v := 120) d_MO_compile_193 (by decide) ?_
  refine ab_iload_n d_MO_compile_195 rfl ?_
  refine ab_imul d_MO_compile_196 ?_
  refine ab_bipush (v := 12) d_MO_compile_197 (by decide) ?_
  refine ab_iload d_MO_compile_199 rfl ?_
  refine ab_imul d_MO_compile_201 ?_
  refine ab_topi (y := 72) (by decide) ?_
  refine ab_iadd d_MO_compile_202 ?_
  refine ab_iload d_MO_compile_203 rfl ?_
  refine ab_iadd d_MO_compile_205 ?_
  refine ab_aload_n d_MO_compile_206 rfl ?_
  refine ab_getf (fs := (m_fv (vI 0) (vI 0) (vI 0) (vI 0) (vI 0) (vI 0) (vI 0) (vI 0) (vI 2) (vI 0) (vI ((xs 2) &&& 15)) (vI 0) (vI (-1)) (vI 0) (vI 0) (vI 0) (vI 0) (vI 0) (vI 0) (vI (xs 1)) (vI 0) (vI 0) (vI 0) (vI 0) (vI 0) (vI 0) (vI 0) (vI 0) (vI 0) (vI 0) (vI 0) (vI 0) (vI 0) (vI 0) (vI 0))) f_MO_103 d_MO_compile_207 h80 rfl ?_
  refine ab_bipush (v := 12) d_MO_compile_210 (by decide) ?_
  refine ab_iload d_MO_compile_212 rfl ?_
  refine ab_imul d_MO_compile_214 ?_
  refine ab_topi (y := 72) (by decide) ?_
  refine ab_iload d_MO_compile_215 rfl ?_
  refine ab_iadd d_MO_compile_217 ?_
  refine ab_topi (y := 75) (by decide) ?_
  refine ab_iald d_MO_compile_218 h110 (by unfold vp_in; decide) ?_
  refine ab_topi (y := 0) rfl ?_
  refine ab_iast d_MO_compile_219 h126 (vp_in_iff.mpr (by have l0 := (show (0 : Int32).toInt = 0 by decide); have l1 := (show (3 : Int32).toInt = 3 by decide); have l2 := (show (5 : Int32).toInt = 5 by decide); have l3 := (show (31 : Int32).toInt = 31 by decide); have l4 := (show (72 : Int32).toInt = 72 by decide); have l5 := (show (120 : Int32).toInt = 120 by decide); simp only [Int32.le_iff_toInt_le, Int32.lt_iff_toInt_lt, ← Int32.toInt_inj] at c0 c1 c2 c3 c4 c5 c6 c7; have e0 : Int32.toInt (120 * (xs 1)) = Int32.toInt 120 * Int32.toInt (xs 1) := i32_mul (by simp only [l0, l1, l2, l3, l4, l5]; omega) (by simp only [l0, l1, l2, l3, l4, l5]; omega); have e1 : Int32.toInt ((120 * (xs 1)) + 72) = Int32.toInt (120 * (xs 1)) + Int32.toInt 72 := i32_add (by simp only [l0, l1, l2, l3, l4, l5, e0]; omega) (by simp only [l0, l1, l2, l3, l4, l5, e0]; omega); have e2 : Int32.toInt (((120 * (xs 1)) + 72) + 3) = Int32.toInt ((120 * (xs 1)) + 72) + Int32.toInt 3 := i32_add (by simp only [l0, l1, l2, l3, l4, l5, e0, e1]; omega) (by simp only [l0, l1, l2, l3, l4, l5, e0, e1]; omega); (try simp only [l0, l1, l2, l3, l4, l5] at e0 e1 e2); constructor <;> omega)) (by decide) ?_
  obtain ⟨G5, eG5⟩ : ∃ z : ab_G, z = List.set G4 126 (ab_if 720 ((upd f126_4 (Int32.toNatClampNeg (((120 * (xs 1)) + 72) + 3)) 0))) := ⟨_, rfl⟩
  have h80 := ab_keep eG5 (by decide) h80
  have h110 := ab_keep eG5 (by decide) h110
  have h127 := ab_keep eG5 (by decide) h127
  have hlen := ab_klen eG5 hlen
  have hsl := ab_ksl 720 eG5 h126 rfl rfl hsl
  have hfr := hfr.wr eG5 (by decide)
  have hpk := hpk.wr eG5 (by decide)
  have h126 := ab_kept eG5 h126
  change ab_W _ _ _ (List.set G4 126 (ab_if 720 ((upd f126_4 (Int32.toNatClampNeg (((120 * (xs 1)) + 72) + 3)) 0)))) 220 [some (vR 80), some (vI (xs 1)), some (vI (xs 2)), some (vI 1), some (vI 6), some (vI 3)] [] _
  rw [← eG5]
  obtain ⟨f126_5, h126⟩ : ∃ g : Nat → Int32, G5[126]? = some (ab_if 720 (g)) := ⟨_, h126⟩
  refine ab_iinc (v := 4) d_MO_compile_220 rfl (by decide) (Nat.le_of_ble_eq_true rfl) (Nat.le_of_ble_eq_true rfl) rfl ?_
  change ab_W _ _ _ G5 223 [some (vR 80), some (vI (xs 1)), some (vI (xs 2)), some (vI 1), some (vI 6), some (vI 4)] [] _
  refine ab_goto (tgt := 182) d_MO_compile_223 (by decide) ?_
  refine ab_iload d_MO_compile_182 rfl ?_
  refine ab_bipush (v := 12) d_MO_compile_184 (by decide) ?_
  refine ab_icmp_ge (tgt := 226) d_MO_compile_186 (by decide) (fun c => absurd c (by decide)) (fun _ => ?_)
  refine ab_aload_n d_MO_compile_189 rfl ?_
  refine ab_getf (fs := (m_fv (vI 0) (vI 0) (vI 0) (vI 0) (vI 0) (vI 0) (vI 0) (vI 0) (vI 2) (vI 0) (vI ((xs 2) &&& 15)) (vI 0) (vI (-1)) (vI 0) (vI 0) (vI 0) (vI 0) (vI 0) (vI 0) (vI (xs 1)) (vI 0) (vI 0) (vI 0) (vI 0) (vI 0) (vI 0) (vI 0) (vI 0) (vI 0) (vI 0) (vI 0) (vI 0) (vI 0) (vI 0) (vI 0))) f_MO_152 d_MO_compile_190 h80 rfl ?_
  refine ab_bipush (v := 120) d_MO_compile_193 (by decide) ?_
  refine ab_iload_n d_MO_compile_195 rfl ?_
  refine ab_imul d_MO_compile_196 ?_
  refine ab_bipush (v := 12) d_MO_compile_197 (by decide) ?_
  refine ab_iload d_MO_compile_199 rfl ?_
  refine ab_imul d_MO_compile_201 ?_
  refine ab_topi (y := 72) (by decide) ?_
  refine ab_iadd d_MO_compile_202 ?_
  refine ab_iload d_MO_compile_203 rfl ?_
  refine ab_iadd d_MO_compile_205 ?_
  refine ab_aload_n d_MO_compile_206 rfl ?_
  refine ab_getf (fs := (m_fv (vI 0) (vI 0) (vI 0) (vI 0) (vI 0) (vI 0) (vI 0) (vI 0) (vI 2) (vI 0) (vI ((xs 2) &&& 15)) (vI 0) (vI (-1)) (vI 0) (vI 0) (vI 0) (vI 0) (vI 0) (vI 0) (vI (xs 1)) (vI 0) (vI 0) (vI 0) (vI 0) (vI 0) (vI 0) (vI 0) (vI 0) (vI 0) (vI 0) (vI 0) (vI 0) (vI 0) (vI 0) (vI 0))) f_MO_103 d_MO_compile_207 h80 rfl ?_
  refine ab_bipush (v := 12) d_MO_compile_210 (by decide) ?_
  refine ab_iload d_MO_compile_212 rfl ?_
  refine ab_imul d_MO_compile_214 ?_
  refine ab_topi (y := 72) (by decide) ?_
  refine ab_iload d_MO_compile_215 rfl ?_
  refine ab_iadd d_MO_compile_217 ?_
  refine ab_topi (y := 76) (by decide) ?_
  refine ab_iald d_MO_compile_218 h110 (by unfold vp_in; decide) ?_
  refine ab_topi (y := 0) rfl ?_
  refine ab_iast d_MO_compile_219 h126 (vp_in_iff.mpr (by have l0 := (show (0 : Int32).toInt = 0 by decide); have l1 := (show (4 : Int32).toInt = 4 by decide); have l2 := (show (5 : Int32).toInt = 5 by decide); have l3 := (show (31 : Int32).toInt = 31 by decide); have l4 := (show (72 : Int32).toInt = 72 by decide); have l5 := (show (120 : Int32).toInt = 120 by decide); simp only [Int32.le_iff_toInt_le, Int32.lt_iff_toInt_lt, ← Int32.toInt_inj] at c0 c1 c2 c3 c4 c5 c6 c7; have e0 : Int32.toInt (120 * (xs 1)) = Int32.toInt 120 * Int32.toInt (xs 1) := i32_mul (by simp only [l0, l1, l2, l3, l4, l5]; omega) (by simp only [l0, l1, l2, l3, l4, l5]; omega); have e1 : Int32.toInt ((120 * (xs 1)) + 72) = Int32.toInt (120 * (xs 1)) + Int32.toInt 72 := i32_add (by simp only [l0, l1, l2, l3, l4, l5, e0]; omega) (by simp only [l0, l1, l2, l3, l4, l5, e0]; omega); have e2 : Int32.toInt (((120 * (xs 1)) + 72) + 4) = Int32.toInt ((120 * (xs 1)) + 72) + Int32.toInt 4 := i32_add (by simp only [l0, l1, l2, l3, l4, l5, e0, e1]; omega) (by simp only [l0, l1, l2, l3, l4, l5, e0, e1]; omega); (try simp only [l0, l1, l2, l3, l4, l5] at e0 e1 e2); constructor <;> omega)) (by decide) ?_
  obtain ⟨G6, eG6⟩ : ∃ z : ab_G, z = List.set G5 126 (ab_if 720 ((upd f126_5 (Int32.toNatClampNeg (((120 * (xs 1)) + 72) + 4)) 0))) := ⟨_, rfl⟩
  have h80 := ab_keep eG6 (by decide) h80
  have h110 := ab_keep eG6 (by decide) h110
  have h127 := ab_keep eG6 (by decide) h127
  have hlen := ab_klen eG6 hlen
  have hsl := ab_ksl 720 eG6 h126 rfl rfl hsl
  have hfr := hfr.wr eG6 (by decide)
  have hpk := hpk.wr eG6 (by decide)
  have h126 := ab_kept eG6 h126
  change ab_W _ _ _ (List.set G5 126 (ab_if 720 ((upd f126_5 (Int32.toNatClampNeg (((120 * (xs 1)) + 72) + 4)) 0)))) 220 [some (vR 80), some (vI (xs 1)), some (vI (xs 2)), some (vI 1), some (vI 6), some (vI 4)] [] _
  rw [← eG6]
  obtain ⟨f126_6, h126⟩ : ∃ g : Nat → Int32, G6[126]? = some (ab_if 720 (g)) := ⟨_, h126⟩
  refine ab_iinc (v := 5) d_MO_compile_220 rfl (by decide) (Nat.le_of_ble_eq_true rfl) (Nat.le_of_ble_eq_true rfl) rfl ?_
  change ab_W _ _ _ G6 223 [some (vR 80), some (vI (xs 1)), some (vI (xs 2)), some (vI 1), some (vI 6), some (vI 5)] [] _
  refine ab_goto (tgt := 182) d_MO_compile_223 (by decide) ?_
  refine ab_iload d_MO_compile_182 rfl ?_
  refine ab_bipush (v := 12) d_MO_compile_184 (by decide) ?_
  refine ab_icmp_ge (tgt := 226) d_MO_compile_186 (by decide) (fun c => absurd c (by decide)) (fun _ => ?_)
  refine ab_aload_n d_MO_compile_189 rfl ?_
  refine ab_getf (fs := (m_fv (vI 0) (vI 0) (vI 0) (vI 0) (vI 0) (vI 0) (vI 0) (vI 0) (vI 2) (vI 0) (vI ((xs 2) &&& 15)) (vI 0) (vI (-1)) (vI 0) (vI 0) (vI 0) (vI 0) (vI 0) (vI 0) (vI (xs 1)) (vI 0) (vI 0) (vI 0) (vI 0) (vI 0) (vI 0) (vI 0) (vI 0) (vI 0) (vI 0) (vI 0) (vI 0) (vI 0) (vI 0) (vI 0))) f_MO_152 d_MO_compile_190 h80 rfl ?_
  refine ab_bipush (v := 120) d_MO_compile_193 (by decide) ?_
  refine ab_iload_n d_MO_compile_195 rfl ?_
  refine ab_imul d_MO_compile_196 ?_
  refine ab_bipush (v := 12) d_MO_compile_197 (by decide) ?_
  refine ab_iload d_MO_compile_199 rfl ?_
  refine ab_imul d_MO_compile_201 ?_
  refine ab_topi (y := 72) (by decide) ?_
  refine ab_iadd d_MO_compile_202 ?_
  refine ab_iload d_MO_compile_203 rfl ?_
  refine ab_iadd d_MO_compile_205 ?_
  refine ab_aload_n d_MO_compile_206 rfl ?_
  refine ab_getf (fs := (m_fv (vI 0) (vI 0) (vI 0) (vI 0) (vI 0) (vI 0) (vI 0) (vI 0) (vI 2) (vI 0) (vI ((xs 2) &&& 15)) (vI 0) (vI (-1)) (vI 0) (vI 0) (vI 0) (vI 0) (vI 0) (vI 0) (vI (xs 1)) (vI 0) (vI 0) (vI 0) (vI 0) (vI 0) (vI 0) (vI 0) (vI 0) (vI 0) (vI 0) (vI 0) (vI 0) (vI 0) (vI 0) (vI 0))) f_MO_103 d_MO_compile_207 h80 rfl ?_
  refine ab_bipush (v := 12) d_MO_compile_210 (by decide) ?_
  refine ab_iload d_MO_compile_212 rfl ?_
  refine ab_imul d_MO_compile_214 ?_
  refine ab_topi (y := 72) (by decide) ?_
  refine ab_iload d_MO_compile_215 rfl ?_
  refine ab_iadd d_MO_compile_217 ?_
  refine ab_topi (y := 77) (by decide) ?_
  refine ab_iald d_MO_compile_218 h110 (by unfold vp_in; decide) ?_
  refine ab_topi (y := 0) rfl ?_
  refine ab_iast d_MO_compile_219 h126 (vp_in_iff.mpr (by have l0 := (show (0 : Int32).toInt = 0 by decide); have l1 := (show (5 : Int32).toInt = 5 by decide); have l2 := (show (31 : Int32).toInt = 31 by decide); have l3 := (show (72 : Int32).toInt = 72 by decide); have l4 := (show (120 : Int32).toInt = 120 by decide); simp only [Int32.le_iff_toInt_le, Int32.lt_iff_toInt_lt, ← Int32.toInt_inj] at c0 c1 c2 c3 c4 c5 c6 c7; have e0 : Int32.toInt (120 * (xs 1)) = Int32.toInt 120 * Int32.toInt (xs 1) := i32_mul (by simp only [l0, l1, l2, l3, l4]; omega) (by simp only [l0, l1, l2, l3, l4]; omega); have e1 : Int32.toInt ((120 * (xs 1)) + 72) = Int32.toInt (120 * (xs 1)) + Int32.toInt 72 := i32_add (by simp only [l0, l1, l2, l3, l4, e0]; omega) (by simp only [l0, l1, l2, l3, l4, e0]; omega); have e2 : Int32.toInt (((120 * (xs 1)) + 72) + 5) = Int32.toInt ((120 * (xs 1)) + 72) + Int32.toInt 5 := i32_add (by simp only [l0, l1, l2, l3, l4, e0, e1]; omega) (by simp only [l0, l1, l2, l3, l4, e0, e1]; omega); (try simp only [l0, l1, l2, l3, l4] at e0 e1 e2); constructor <;> omega)) (by decide) ?_
  obtain ⟨G7, eG7⟩ : ∃ z : ab_G, z = List.set G6 126 (ab_if 720 ((upd f126_6 (Int32.toNatClampNeg (((120 * (xs 1)) + 72) + 5)) 0))) := ⟨_, rfl⟩
  have h80 := ab_keep eG7 (by decide) h80
  have h110 := ab_keep eG7 (by decide) h110
  have h127 := ab_keep eG7 (by decide) h127
  have hlen := ab_klen eG7 hlen
  have hsl := ab_ksl 720 eG7 h126 rfl rfl hsl
  have hfr := hfr.wr eG7 (by decide)
  have hpk := hpk.wr eG7 (by decide)
  have h126 := ab_kept eG7 h126
  change ab_W _ _ _ (List.set G6 126 (ab_if 720 ((upd f126_6 (Int32.toNatClampNeg (((120 * (xs 1)) + 72) + 5)) 0)))) 220 [some (vR 80), some (vI (xs 1)), some (vI (xs 2)), some (vI 1), some (vI 6), some (vI 5)] [] _
  rw [← eG7]
  obtain ⟨f126_7, h126⟩ : ∃ g : Nat → Int32, G7[126]? = some (ab_if 720 (g)) := ⟨_, h126⟩
  refine ab_iinc (v := 6) d_MO_compile_220 rfl (by decide) (Nat.le_of_ble_eq_true rfl) (Nat.le_of_ble_eq_true rfl) rfl ?_
  change ab_W _ _ _ G7 223 [some (vR 80), some (vI (xs 1)), some (vI (xs 2)), some (vI 1), some (vI 6), some (vI 6)] [] _
  refine ab_goto (tgt := 182) d_MO_compile_223 (by decide) ?_
  refine ab_iload d_MO_compile_182 rfl ?_
  refine ab_bipush (v := 12) d_MO_compile_184 (by decide) ?_
  refine ab_icmp_ge (tgt := 226) d_MO_compile_186 (by decide) (fun c => absurd c (by decide)) (fun _ => ?_)
  refine ab_aload_n d_MO_compile_189 rfl ?_
  refine ab_getf (fs := (m_fv (vI 0) (vI 0) (vI 0) (vI 0) (vI 0) (vI 0) (vI 0) (vI 0) (vI 2) (vI 0) (vI ((xs 2) &&& 15)) (vI 0) (vI (-1)) (vI 0) (vI 0) (vI 0) (vI 0) (vI 0) (vI 0) (vI (xs 1)) (vI 0) (vI 0) (vI 0) (vI 0) (vI 0) (vI 0) (vI 0) (vI 0) (vI 0) (vI 0) (vI 0) (vI 0) (vI 0) (vI 0) (vI 0))) f_MO_152 d_MO_compile_190 h80 rfl ?_
  refine ab_bipush (v := 120) d_MO_compile_193 (by decide) ?_
  refine ab_iload_n d_MO_compile_195 rfl ?_
  refine ab_imul d_MO_compile_196 ?_
  refine ab_bipush (v := 12) d_MO_compile_197 (by decide) ?_
  refine ab_iload d_MO_compile_199 rfl ?_
  refine ab_imul d_MO_compile_201 ?_
  refine ab_topi (y := 72) (by decide) ?_
  refine ab_iadd d_MO_compile_202 ?_
  refine ab_iload d_MO_compile_203 rfl ?_
  refine ab_iadd d_MO_compile_205 ?_
  refine ab_aload_n d_MO_compile_206 rfl ?_
  refine ab_getf (fs := (m_fv (vI 0) (vI 0) (vI 0) (vI 0) (vI 0) (vI 0) (vI 0) (vI 0) (vI 2) (vI 0) (vI ((xs 2) &&& 15)) (vI 0) (vI (-1)) (vI 0) (vI 0) (vI 0) (vI 0) (vI 0) (vI 0) (vI (xs 1)) (vI 0) (vI 0) (vI 0) (vI 0) (vI 0) (vI 0) (vI 0) (vI 0) (vI 0) (vI 0) (vI 0) (vI 0) (vI 0) (vI 0) (vI 0))) f_MO_103 d_MO_compile_207 h80 rfl ?_
  refine ab_bipush (v := 12) d_MO_compile_210 (by decide) ?_
  refine ab_iload d_MO_compile_212 rfl ?_
  refine ab_imul d_MO_compile_214 ?_
  refine ab_topi (y := 72) (by decide) ?_
  refine ab_iload d_MO_compile_215 rfl ?_
  refine ab_iadd d_MO_compile_217 ?_
  refine ab_topi (y := 78) (by decide) ?_
  refine ab_iald d_MO_compile_218 h110 (by unfold vp_in; decide) ?_
  refine ab_topi (y := 0) rfl ?_
  refine ab_iast d_MO_compile_219 h126 (vp_in_iff.mpr (by have l0 := (show (0 : Int32).toInt = 0 by decide); have l1 := (show (5 : Int32).toInt = 5 by decide); have l2 := (show (6 : Int32).toInt = 6 by decide); have l3 := (show (31 : Int32).toInt = 31 by decide); have l4 := (show (72 : Int32).toInt = 72 by decide); have l5 := (show (120 : Int32).toInt = 120 by decide); simp only [Int32.le_iff_toInt_le, Int32.lt_iff_toInt_lt, ← Int32.toInt_inj] at c0 c1 c2 c3 c4 c5 c6 c7; have e0 : Int32.toInt (120 * (xs 1)) = Int32.toInt 120 * Int32.toInt (xs 1) := i32_mul (by simp only [l0, l1, l2, l3, l4, l5]; omega) (by simp only [l0, l1, l2, l3, l4, l5]; omega); have e1 : Int32.toInt ((120 * (xs 1)) + 72) = Int32.toInt (120 * (xs 1)) + Int32.toInt 72 := i32_add (by simp only [l0, l1, l2, l3, l4, l5, e0]; omega) (by simp only [l0, l1, l2, l3, l4, l5, e0]; omega); have e2 : Int32.toInt (((120 * (xs 1)) + 72) + 6) = Int32.toInt ((120 * (xs 1)) + 72) + Int32.toInt 6 := i32_add (by simp only [l0, l1, l2, l3, l4, l5, e0, e1]; omega) (by simp only [l0, l1, l2, l3, l4, l5, e0, e1]; omega); (try simp only [l0, l1, l2, l3, l4, l5] at e0 e1 e2); constructor <;> omega)) (by decide) ?_
  obtain ⟨G8, eG8⟩ : ∃ z : ab_G, z = List.set G7 126 (ab_if 720 ((upd f126_7 (Int32.toNatClampNeg (((120 * (xs 1)) + 72) + 6)) 0))) := ⟨_, rfl⟩
  have h80 := ab_keep eG8 (by decide) h80
  have h110 := ab_keep eG8 (by decide) h110
  have h127 := ab_keep eG8 (by decide) h127
  have hlen := ab_klen eG8 hlen
  have hsl := ab_ksl 720 eG8 h126 rfl rfl hsl
  have hfr := hfr.wr eG8 (by decide)
  have hpk := hpk.wr eG8 (by decide)
  have h126 := ab_kept eG8 h126
  change ab_W _ _ _ (List.set G7 126 (ab_if 720 ((upd f126_7 (Int32.toNatClampNeg (((120 * (xs 1)) + 72) + 6)) 0)))) 220 [some (vR 80), some (vI (xs 1)), some (vI (xs 2)), some (vI 1), some (vI 6), some (vI 6)] [] _
  rw [← eG8]
  obtain ⟨f126_8, h126⟩ : ∃ g : Nat → Int32, G8[126]? = some (ab_if 720 (g)) := ⟨_, h126⟩
  refine ab_iinc (v := 7) d_MO_compile_220 rfl (by decide) (Nat.le_of_ble_eq_true rfl) (Nat.le_of_ble_eq_true rfl) rfl ?_
  change ab_W _ _ _ G8 223 [some (vR 80), some (vI (xs 1)), some (vI (xs 2)), some (vI 1), some (vI 6), some (vI 7)] [] _
  refine ab_goto (tgt := 182) d_MO_compile_223 (by decide) ?_
  refine ab_iload d_MO_compile_182 rfl ?_
  refine ab_bipush (v := 12) d_MO_compile_184 (by decide) ?_
  refine ab_icmp_ge (tgt := 226) d_MO_compile_186 (by decide) (fun c => absurd c (by decide)) (fun _ => ?_)
  refine ab_aload_n d_MO_compile_189 rfl ?_
  refine ab_getf (fs := (m_fv (vI 0) (vI 0) (vI 0) (vI 0) (vI 0) (vI 0) (vI 0) (vI 0) (vI 2) (vI 0) (vI ((xs 2) &&& 15)) (vI 0) (vI (-1)) (vI 0) (vI 0) (vI 0) (vI 0) (vI 0) (vI 0) (vI (xs 1)) (vI 0) (vI 0) (vI 0) (vI 0) (vI 0) (vI 0) (vI 0) (vI 0) (vI 0) (vI 0) (vI 0) (vI 0) (vI 0) (vI 0) (vI 0))) f_MO_152 d_MO_compile_190 h80 rfl ?_
  refine ab_bipush (v := 120) d_MO_compile_193 (by decide) ?_
  refine ab_iload_n d_MO_compile_195 rfl ?_
  refine ab_imul d_MO_compile_196 ?_
  refine ab_bipush (v := 12) d_MO_compile_197 (by decide) ?_
  refine ab_iload d_MO_compile_199 rfl ?_
  refine ab_imul d_MO_compile_201 ?_
  refine ab_topi (y := 72) (by decide) ?_
  refine ab_iadd d_MO_compile_202 ?_
  refine ab_iload d_MO_compile_203 rfl ?_
  refine ab_iadd d_MO_compile_205 ?_
  refine ab_aload_n d_MO_compile_206 rfl ?_
  refine ab_getf (fs := (m_fv (vI 0) (vI 0) (vI 0) (vI 0) (vI 0) (vI 0) (vI 0) (vI 0) (vI 2) (vI 0) (vI ((xs 2) &&& 15)) (vI 0) (vI (-1)) (vI 0) (vI 0) (vI 0) (vI 0) (vI 0) (vI 0) (vI (xs 1)) (vI 0) (vI 0) (vI 0) (vI 0) (vI 0) (vI 0) (vI 0) (vI 0) (vI 0) (vI 0) (vI 0) (vI 0) (vI 0) (vI 0) (vI 0))) f_MO_103 d_MO_compile_207 h80 rfl ?_
  refine ab_bipush (v := 12) d_MO_compile_210 (by decide) ?_
  refine ab_iload d_MO_compile_212 rfl ?_
  refine ab_imul d_MO_compile_214 ?_
  refine ab_topi (y := 72) (by decide) ?_
  refine ab_iload d_MO_compile_215 rfl ?_
  refine ab_iadd d_MO_compile_217 ?_
  refine ab_topi (y := 79) (by decide) ?_
  refine ab_iald d_MO_compile_218 h110 (by unfold vp_in; decide) ?_
  refine ab_topi (y := 0) rfl ?_
  refine ab_iast d_MO_compile_219 h126 (vp_in_iff.mpr (by have l0 := (show (0 : Int32).toInt = 0 by decide); have l1 := (show (5 : Int32).toInt = 5 by decide); have l2 := (show (7 : Int32).toInt = 7 by decide); have l3 := (show (31 : Int32).toInt = 31 by decide); have l4 := (show (72 : Int32).toInt = 72 by decide); have l5 := (show (120 : Int32).toInt = 120 by decide); simp only [Int32.le_iff_toInt_le, Int32.lt_iff_toInt_lt, ← Int32.toInt_inj] at c0 c1 c2 c3 c4 c5 c6 c7; have e0 : Int32.toInt (120 * (xs 1)) = Int32.toInt 120 * Int32.toInt (xs 1) := i32_mul (by simp only [l0, l1, l2, l3, l4, l5]; omega) (by simp only [l0, l1, l2, l3, l4, l5]; omega); have e1 : Int32.toInt ((120 * (xs 1)) + 72) = Int32.toInt (120 * (xs 1)) + Int32.toInt 72 := i32_add (by simp only [l0, l1, l2, l3, l4, l5, e0]; omega) (by simp only [l0, l1, l2, l3, l4, l5, e0]; omega); have e2 : Int32.toInt (((120 * (xs 1)) + 72) + 7) = Int32.toInt ((120 * (xs 1)) + 72) + Int32.toInt 7 := i32_add (by simp only [l0, l1, l2, l3, l4, l5, e0, e1]; omega) (by simp only [l0, l1, l2, l3, l4, l5, e0, e1]; omega); (try simp only [l0, l1, l2, l3, l4, l5] at e0 e1 e2); constructor <;> omega)) (by decide) ?_
  obtain ⟨G9, eG9⟩ : ∃ z : ab_G, z = List.set G8 126 (ab_if 720 ((upd f126_8 (Int32.toNatClampNeg (((120 * (xs 1)) + 72) + 7)) 0))) := ⟨_, rfl⟩
  have h80 := ab_keep eG9 (by decide) h80
  have h110 := ab_keep eG9 (by decide) h110
  have h127 := ab_keep eG9 (by decide) h127
  have hlen := ab_klen eG9 hlen
  have hsl := ab_ksl 720 eG9 h126 rfl rfl hsl
  have hfr := hfr.wr eG9 (by decide)
  have hpk := hpk.wr eG9 (by decide)
  have h126 := ab_kept eG9 h126
  change ab_W _ _ _ (List.set G8 126 (ab_if 720 ((upd f126_8 (Int32.toNatClampNeg (((120 * (xs 1)) + 72) + 7)) 0)))) 220 [some (vR 80), some (vI (xs 1)), some (vI (xs 2)), some (vI 1), some (vI 6), some (vI 7)] [] _
  rw [← eG9]
  obtain ⟨f126_9, h126⟩ : ∃ g : Nat → Int32, G9[126]? = some (ab_if 720 (g)) := ⟨_, h126⟩
  refine ab_iinc (v := 8) d_MO_compile_220 rfl (by decide) (Nat.le_of_ble_eq_true rfl) (Nat.le_of_ble_eq_true rfl) rfl ?_
  change ab_W _ _ _ G9 223 [some (vR 80), some (vI (xs 1)), some (vI (xs 2)), some (vI 1), some (vI 6), some (vI 8)] [] _
  refine ab_goto (tgt := 182) d_MO_compile_223 (by decide) ?_
  refine ab_iload d_MO_compile_182 rfl ?_
  refine ab_bipush (v := 12) d_MO_compile_184 (by decide) ?_
  refine ab_icmp_ge (tgt := 226) d_MO_compile_186 (by decide) (fun c => absurd c (by decide)) (fun _ => ?_)
  refine ab_aload_n d_MO_compile_189 rfl ?_
  refine ab_getf (fs := (m_fv (vI 0) (vI 0) (vI 0) (vI 0) (vI 0) (vI 0) (vI 0) (vI 0) (vI 2) (vI 0) (vI ((xs 2) &&& 15)) (vI 0) (vI (-1)) (vI 0) (vI 0) (vI 0) (vI 0) (vI 0) (vI 0) (vI (xs 1)) (vI 0) (vI 0) (vI 0) (vI 0) (vI 0) (vI 0) (vI 0) (vI 0) (vI 0) (vI 0) (vI 0) (vI 0) (vI 0) (vI 0) (vI 0))) f_MO_152 d_MO_compile_190 h80 rfl ?_
  refine ab_bipush (v := 120) d_MO_compile_193 (by decide) ?_
  refine ab_iload_n d_MO_compile_195 rfl ?_
  refine ab_imul d_MO_compile_196 ?_
  refine ab_bipush (v := 12) d_MO_compile_197 (by decide) ?_
  refine ab_iload d_MO_compile_199 rfl ?_
  refine ab_imul d_MO_compile_201 ?_
  refine ab_topi (y := 72) (by decide) ?_
  refine ab_iadd d_MO_compile_202 ?_
  refine ab_iload d_MO_compile_203 rfl ?_
  refine ab_iadd d_MO_compile_205 ?_
  refine ab_aload_n d_MO_compile_206 rfl ?_
  refine ab_getf (fs := (m_fv (vI 0) (vI 0) (vI 0) (vI 0) (vI 0) (vI 0) (vI 0) (vI 0) (vI 2) (vI 0) (vI ((xs 2) &&& 15)) (vI 0) (vI (-1)) (vI 0) (vI 0) (vI 0) (vI 0) (vI 0) (vI 0) (vI (xs 1)) (vI 0) (vI 0) (vI 0) (vI 0) (vI 0) (vI 0) (vI 0) (vI 0) (vI 0) (vI 0) (vI 0) (vI 0) (vI 0) (vI 0) (vI 0))) f_MO_103 d_MO_compile_207 h80 rfl ?_
  refine ab_bipush (v := 12) d_MO_compile_210 (by decide) ?_
  refine ab_iload d_MO_compile_212 rfl ?_
  refine ab_imul d_MO_compile_214 ?_
  refine ab_topi (y := 72) (by decide) ?_
  refine ab_iload d_MO_compile_215 rfl ?_
  refine ab_iadd d_MO_compile_217 ?_
  refine ab_topi (y := 80) (by decide) ?_
  refine ab_iald d_MO_compile_218 h110 (by unfold vp_in; decide) ?_
  refine ab_topi (y := 0) rfl ?_
  refine ab_iast d_MO_compile_219 h126 (vp_in_iff.mpr (by have l0 := (show (0 : Int32).toInt = 0 by decide); have l1 := (show (5 : Int32).toInt = 5 by decide); have l2 := (show (8 : Int32).toInt = 8 by decide); have l3 := (show (31 : Int32).toInt = 31 by decide); have l4 := (show (72 : Int32).toInt = 72 by decide); have l5 := (show (120 : Int32).toInt = 120 by decide); simp only [Int32.le_iff_toInt_le, Int32.lt_iff_toInt_lt, ← Int32.toInt_inj] at c0 c1 c2 c3 c4 c5 c6 c7; have e0 : Int32.toInt (120 * (xs 1)) = Int32.toInt 120 * Int32.toInt (xs 1) := i32_mul (by simp only [l0, l1, l2, l3, l4, l5]; omega) (by simp only [l0, l1, l2, l3, l4, l5]; omega); have e1 : Int32.toInt ((120 * (xs 1)) + 72) = Int32.toInt (120 * (xs 1)) + Int32.toInt 72 := i32_add (by simp only [l0, l1, l2, l3, l4, l5, e0]; omega) (by simp only [l0, l1, l2, l3, l4, l5, e0]; omega); have e2 : Int32.toInt (((120 * (xs 1)) + 72) + 8) = Int32.toInt ((120 * (xs 1)) + 72) + Int32.toInt 8 := i32_add (by simp only [l0, l1, l2, l3, l4, l5, e0, e1]; omega) (by simp only [l0, l1, l2, l3, l4, l5, e0, e1]; omega); (try simp only [l0, l1, l2, l3, l4, l5] at e0 e1 e2); constructor <;> omega)) (by decide) ?_
  obtain ⟨G10, eG10⟩ : ∃ z : ab_G, z = List.set G9 126 (ab_if 720 ((upd f126_9 (Int32.toNatClampNeg (((120 * (xs 1)) + 72) + 8)) 0))) := ⟨_, rfl⟩
  have h80 := ab_keep eG10 (by decide) h80
  have h110 := ab_keep eG10 (by decide) h110
  have h127 := ab_keep eG10 (by decide) h127
  have hlen := ab_klen eG10 hlen
  have hsl := ab_ksl 720 eG10 h126 rfl rfl hsl
  have hfr := hfr.wr eG10 (by decide)
  have hpk := hpk.wr eG10 (by decide)
  have h126 := ab_kept eG10 h126
  change ab_W _ _ _ (List.set G9 126 (ab_if 720 ((upd f126_9 (Int32.toNatClampNeg (((120 * (xs 1)) + 72) + 8)) 0)))) 220 [some (vR 80), some (vI (xs 1)), some (vI (xs 2)), some (vI 1), some (vI 6), some (vI 8)] [] _
  rw [← eG10]
  obtain ⟨f126_10, h126⟩ : ∃ g : Nat → Int32, G10[126]? = some (ab_if 720 (g)) := ⟨_, h126⟩
  refine ab_iinc (v := 9) d_MO_compile_220 rfl (by decide) (Nat.le_of_ble_eq_true rfl) (Nat.le_of_ble_eq_true rfl) rfl ?_
  change ab_W _ _ _ G10 223 [some (vR 80), some (vI (xs 1)), some (vI (xs 2)), some (vI 1), some (vI 6), some (vI 9)] [] _
  refine ab_goto (tgt := 182) d_MO_compile_223 (by decide) ?_
  refine ab_iload d_MO_compile_182 rfl ?_
  refine ab_bipush (v := 12) d_MO_compile_184 (by decide) ?_
  refine ab_icmp_ge (tgt := 226) d_MO_compile_186 (by decide) (fun c => absurd c (by decide)) (fun _ => ?_)
  refine ab_aload_n d_MO_compile_189 rfl ?_
  refine ab_getf (fs := (m_fv (vI 0) (vI 0) (vI 0) (vI 0) (vI 0) (vI 0) (vI 0) (vI 0) (vI 2) (vI 0) (vI ((xs 2) &&& 15)) (vI 0) (vI (-1)) (vI 0) (vI 0) (vI 0) (vI 0) (vI 0) (vI 0) (vI (xs 1)) (vI 0) (vI 0) (vI 0) (vI 0) (vI 0) (vI 0) (vI 0) (vI 0) (vI 0) (vI 0) (vI 0) (vI 0) (vI 0) (vI 0) (vI 0))) f_MO_152 d_MO_compile_190 h80 rfl ?_
  refine ab_bipush (v := 120) d_MO_compile_193 (by decide) ?_
  refine ab_iload_n d_MO_compile_195 rfl ?_
  refine ab_imul d_MO_compile_196 ?_
  refine ab_bipush (v := 12) d_MO_compile_197 (by decide) ?_
  refine ab_iload d_MO_compile_199 rfl ?_
  refine ab_imul d_MO_compile_201 ?_
  refine ab_topi (y := 72) (by decide) ?_
  refine ab_iadd d_MO_compile_202 ?_
  refine ab_iload d_MO_compile_203 rfl ?_
  refine ab_iadd d_MO_compile_205 ?_
  refine ab_aload_n d_MO_compile_206 rfl ?_
  refine ab_getf (fs := (m_fv (vI 0) (vI 0) (vI 0) (vI 0) (vI 0) (vI 0) (vI 0) (vI 0) (vI 2) (vI 0) (vI ((xs 2) &&& 15)) (vI 0) (vI (-1)) (vI 0) (vI 0) (vI 0) (vI 0) (vI 0) (vI 0) (vI (xs 1)) (vI 0) (vI 0) (vI 0) (vI 0) (vI 0) (vI 0) (vI 0) (vI 0) (vI 0) (vI 0) (vI 0) (vI 0) (vI 0) (vI 0) (vI 0))) f_MO_103 d_MO_compile_207 h80 rfl ?_
  refine ab_bipush (v := 12) d_MO_compile_210 (by decide) ?_
  refine ab_iload d_MO_compile_212 rfl ?_
  refine ab_imul d_MO_compile_214 ?_
  refine ab_topi (y := 72) (by decide) ?_
  refine ab_iload d_MO_compile_215 rfl ?_
  refine ab_iadd d_MO_compile_217 ?_
  refine ab_topi (y := 81) (by decide) ?_
  refine ab_iald d_MO_compile_218 h110 (by unfold vp_in; decide) ?_
  refine ab_topi (y := 0) rfl ?_
  refine ab_iast d_MO_compile_219 h126 (vp_in_iff.mpr (by have l0 := (show (0 : Int32).toInt = 0 by decide); have l1 := (show (5 : Int32).toInt = 5 by decide); have l2 := (show (9 : Int32).toInt = 9 by decide); have l3 := (show (31 : Int32).toInt = 31 by decide); have l4 := (show (72 : Int32).toInt = 72 by decide); have l5 := (show (120 : Int32).toInt = 120 by decide); simp only [Int32.le_iff_toInt_le, Int32.lt_iff_toInt_lt, ← Int32.toInt_inj] at c0 c1 c2 c3 c4 c5 c6 c7; have e0 : Int32.toInt (120 * (xs 1)) = Int32.toInt 120 * Int32.toInt (xs 1) := i32_mul (by simp only [l0, l1, l2, l3, l4, l5]; omega) (by simp only [l0, l1, l2, l3, l4, l5]; omega); have e1 : Int32.toInt ((120 * (xs 1)) + 72) = Int32.toInt (120 * (xs 1)) + Int32.toInt 72 := i32_add (by simp only [l0, l1, l2, l3, l4, l5, e0]; omega) (by simp only [l0, l1, l2, l3, l4, l5, e0]; omega); have e2 : Int32.toInt (((120 * (xs 1)) + 72) + 9) = Int32.toInt ((120 * (xs 1)) + 72) + Int32.toInt 9 := i32_add (by simp only [l0, l1, l2, l3, l4, l5, e0, e1]; omega) (by simp only [l0, l1, l2, l3, l4, l5, e0, e1]; omega); (try simp only [l0, l1, l2, l3, l4, l5] at e0 e1 e2); constructor <;> omega)) (by decide) ?_
  obtain ⟨G11, eG11⟩ : ∃ z : ab_G, z = List.set G10 126 (ab_if 720 ((upd f126_10 (Int32.toNatClampNeg (((120 * (xs 1)) + 72) + 9)) 0))) := ⟨_, rfl⟩
  have h80 := ab_keep eG11 (by decide) h80
  have h110 := ab_keep eG11 (by decide) h110
  have h127 := ab_keep eG11 (by decide) h127
  have hlen := ab_klen eG11 hlen
  have hsl := ab_ksl 720 eG11 h126 rfl rfl hsl
  have hfr := hfr.wr eG11 (by decide)
  have hpk := hpk.wr eG11 (by decide)
  have h126 := ab_kept eG11 h126
  change ab_W _ _ _ (List.set G10 126 (ab_if 720 ((upd f126_10 (Int32.toNatClampNeg (((120 * (xs 1)) + 72) + 9)) 0)))) 220 [some (vR 80), some (vI (xs 1)), some (vI (xs 2)), some (vI 1), some (vI 6), some (vI 9)] [] _
  rw [← eG11]
  obtain ⟨f126_11, h126⟩ : ∃ g : Nat → Int32, G11[126]? = some (ab_if 720 (g)) := ⟨_, h126⟩
  refine ab_iinc (v := 10) d_MO_compile_220 rfl (by decide) (Nat.le_of_ble_eq_true rfl) (Nat.le_of_ble_eq_true rfl) rfl ?_
  change ab_W _ _ _ G11 223 [some (vR 80), some (vI (xs 1)), some (vI (xs 2)), some (vI 1), some (vI 6), some (vI 10)] [] _
  refine ab_goto (tgt := 182) d_MO_compile_223 (by decide) ?_
  refine ab_iload d_MO_compile_182 rfl ?_
  refine ab_bipush (v := 12) d_MO_compile_184 (by decide) ?_
  refine ab_icmp_ge (tgt := 226) d_MO_compile_186 (by decide) (fun c => absurd c (by decide)) (fun _ => ?_)
  refine ab_aload_n d_MO_compile_189 rfl ?_
  refine ab_getf (fs := (m_fv (vI 0) (vI 0) (vI 0) (vI 0) (vI 0) (vI 0) (vI 0) (vI 0) (vI 2) (vI 0) (vI ((xs 2) &&& 15)) (vI 0) (vI (-1)) (vI 0) (vI 0) (vI 0) (vI 0) (vI 0) (vI 0) (vI (xs 1)) (vI 0) (vI 0) (vI 0) (vI 0) (vI 0) (vI 0) (vI 0) (vI 0) (vI 0) (vI 0) (vI 0) (vI 0) (vI 0) (vI 0) (vI 0))) f_MO_152 d_MO_compile_190 h80 rfl ?_
  refine ab_bipush (v := 120) d_MO_compile_193 (by decide) ?_
  refine ab_iload_n d_MO_compile_195 rfl ?_
  refine ab_imul d_MO_compile_196 ?_
  refine ab_bipush (v := 12) d_MO_compile_197 (by decide) ?_
  refine ab_iload d_MO_compile_199 rfl ?_
  refine ab_imul d_MO_compile_201 ?_
  refine ab_topi (y := 72) (by decide) ?_
  refine ab_iadd d_MO_compile_202 ?_
  refine ab_iload d_MO_compile_203 rfl ?_
  refine ab_iadd d_MO_compile_205 ?_
  refine ab_aload_n d_MO_compile_206 rfl ?_
  refine ab_getf (fs := (m_fv (vI 0) (vI 0) (vI 0) (vI 0) (vI 0) (vI 0) (vI 0) (vI 0) (vI 2) (vI 0) (vI ((xs 2) &&& 15)) (vI 0) (vI (-1)) (vI 0) (vI 0) (vI 0) (vI 0) (vI 0) (vI 0) (vI (xs 1)) (vI 0) (vI 0) (vI 0) (vI 0) (vI 0) (vI 0) (vI 0) (vI 0) (vI 0) (vI 0) (vI 0) (vI 0) (vI 0) (vI 0) (vI 0))) f_MO_103 d_MO_compile_207 h80 rfl ?_
  refine ab_bipush (v := 12) d_MO_compile_210 (by decide) ?_
  refine ab_iload d_MO_compile_212 rfl ?_
  refine ab_imul d_MO_compile_214 ?_
  refine ab_topi (y := 72) (by decide) ?_
  refine ab_iload d_MO_compile_215 rfl ?_
  refine ab_iadd d_MO_compile_217 ?_
  refine ab_topi (y := 82) (by decide) ?_
  refine ab_iald d_MO_compile_218 h110 (by unfold vp_in; decide) ?_
  refine ab_topi (y := 0) rfl ?_
  refine ab_iast d_MO_compile_219 h126 (vp_in_iff.mpr (by have l0 := (show (0 : Int32).toInt = 0 by decide); have l1 := (show (5 : Int32).toInt = 5 by decide); have l2 := (show (10 : Int32).toInt = 10 by decide); have l3 := (show (31 : Int32).toInt = 31 by decide); have l4 := (show (72 : Int32).toInt = 72 by decide); have l5 := (show (120 : Int32).toInt = 120 by decide); simp only [Int32.le_iff_toInt_le, Int32.lt_iff_toInt_lt, ← Int32.toInt_inj] at c0 c1 c2 c3 c4 c5 c6 c7; have e0 : Int32.toInt (120 * (xs 1)) = Int32.toInt 120 * Int32.toInt (xs 1) := i32_mul (by simp only [l0, l1, l2, l3, l4, l5]; omega) (by simp only [l0, l1, l2, l3, l4, l5]; omega); have e1 : Int32.toInt ((120 * (xs 1)) + 72) = Int32.toInt (120 * (xs 1)) + Int32.toInt 72 := i32_add (by simp only [l0, l1, l2, l3, l4, l5, e0]; omega) (by simp only [l0, l1, l2, l3, l4, l5, e0]; omega); have e2 : Int32.toInt (((120 * (xs 1)) + 72) + 10) = Int32.toInt ((120 * (xs 1)) + 72) + Int32.toInt 10 := i32_add (by simp only [l0, l1, l2, l3, l4, l5, e0, e1]; omega) (by simp only [l0, l1, l2, l3, l4, l5, e0, e1]; omega); (try simp only [l0, l1, l2, l3, l4, l5] at e0 e1 e2); constructor <;> omega)) (by decide) ?_
  obtain ⟨G12, eG12⟩ : ∃ z : ab_G, z = List.set G11 126 (ab_if 720 ((upd f126_11 (Int32.toNatClampNeg (((120 * (xs 1)) + 72) + 10)) 0))) := ⟨_, rfl⟩
  have h80 := ab_keep eG12 (by decide) h80
  have h110 := ab_keep eG12 (by decide) h110
  have h127 := ab_keep eG12 (by decide) h127
  have hlen := ab_klen eG12 hlen
  have hsl := ab_ksl 720 eG12 h126 rfl rfl hsl
  have hfr := hfr.wr eG12 (by decide)
  have hpk := hpk.wr eG12 (by decide)
  have h126 := ab_kept eG12 h126
  change ab_W _ _ _ (List.set G11 126 (ab_if 720 ((upd f126_11 (Int32.toNatClampNeg (((120 * (xs 1)) + 72) + 10)) 0)))) 220 [some (vR 80), some (vI (xs 1)), some (vI (xs 2)), some (vI 1), some (vI 6), some (vI 10)] [] _
  rw [← eG12]
  obtain ⟨f126_12, h126⟩ : ∃ g : Nat → Int32, G12[126]? = some (ab_if 720 (g)) := ⟨_, h126⟩
  refine ab_iinc (v := 11) d_MO_compile_220 rfl (by decide) (Nat.le_of_ble_eq_true rfl) (Nat.le_of_ble_eq_true rfl) rfl ?_
  change ab_W _ _ _ G12 223 [some (vR 80), some (vI (xs 1)), some (vI (xs 2)), some (vI 1), some (vI 6), some (vI 11)] [] _
  refine ab_goto (tgt := 182) d_MO_compile_223 (by decide) ?_
  refine ab_iload d_MO_compile_182 rfl ?_
  refine ab_bipush (v := 12) d_MO_compile_184 (by decide) ?_
  refine ab_icmp_ge (tgt := 226) d_MO_compile_186 (by decide) (fun c => absurd c (by decide)) (fun _ => ?_)
  refine ab_aload_n d_MO_compile_189 rfl ?_
  refine ab_getf (fs := (m_fv (vI 0) (vI 0) (vI 0) (vI 0) (vI 0) (vI 0) (vI 0) (vI 0) (vI 2) (vI 0) (vI ((xs 2) &&& 15)) (vI 0) (vI (-1)) (vI 0) (vI 0) (vI 0) (vI 0) (vI 0) (vI 0) (vI (xs 1)) (vI 0) (vI 0) (vI 0) (vI 0) (vI 0) (vI 0) (vI 0) (vI 0) (vI 0) (vI 0) (vI 0) (vI 0) (vI 0) (vI 0) (vI 0))) f_MO_152 d_MO_compile_190 h80 rfl ?_
  refine ab_bipush (v := 120) d_MO_compile_193 (by decide) ?_
  refine ab_iload_n d_MO_compile_195 rfl ?_
  refine ab_imul d_MO_compile_196 ?_
  refine ab_bipush (v := 12) d_MO_compile_197 (by decide) ?_
  refine ab_iload d_MO_compile_199 rfl ?_
  refine ab_imul d_MO_compile_201 ?_
  refine ab_topi (y := 72) (by decide) ?_
  refine ab_iadd d_MO_compile_202 ?_
  refine ab_iload d_MO_compile_203 rfl ?_
  refine ab_iadd d_MO_compile_205 ?_
  refine ab_aload_n d_MO_compile_206 rfl ?_
  refine ab_getf (fs := (m_fv (vI 0) (vI 0) (vI 0) (vI 0) (vI 0) (vI 0) (vI 0) (vI 0) (vI 2) (vI 0) (vI ((xs 2) &&& 15)) (vI 0) (vI (-1)) (vI 0) (vI 0) (vI 0) (vI 0) (vI 0) (vI 0) (vI (xs 1)) (vI 0) (vI 0) (vI 0) (vI 0) (vI 0) (vI 0) (vI 0) (vI 0) (vI 0) (vI 0) (vI 0) (vI 0) (vI 0) (vI 0) (vI 0))) f_MO_103 d_MO_compile_207 h80 rfl ?_
  refine ab_bipush (v := 12) d_MO_compile_210 (by decide) ?_
  refine ab_iload d_MO_compile_212 rfl ?_
  refine ab_imul d_MO_compile_214 ?_
  refine ab_topi (y := 72) (by decide) ?_
  refine ab_iload d_MO_compile_215 rfl ?_
  refine ab_iadd d_MO_compile_217 ?_
  refine ab_topi (y := 83) (by decide) ?_
  refine ab_iald d_MO_compile_218 h110 (by unfold vp_in; decide) ?_
  refine ab_topi (y := 0) rfl ?_
  refine ab_iast d_MO_compile_219 h126 (vp_in_iff.mpr (by have l0 := (show (0 : Int32).toInt = 0 by decide); have l1 := (show (5 : Int32).toInt = 5 by decide); have l2 := (show (11 : Int32).toInt = 11 by decide); have l3 := (show (31 : Int32).toInt = 31 by decide); have l4 := (show (72 : Int32).toInt = 72 by decide); have l5 := (show (120 : Int32).toInt = 120 by decide); simp only [Int32.le_iff_toInt_le, Int32.lt_iff_toInt_lt, ← Int32.toInt_inj] at c0 c1 c2 c3 c4 c5 c6 c7; have e0 : Int32.toInt (120 * (xs 1)) = Int32.toInt 120 * Int32.toInt (xs 1) := i32_mul (by simp only [l0, l1, l2, l3, l4, l5]; omega) (by simp only [l0, l1, l2, l3, l4, l5]; omega); have e1 : Int32.toInt ((120 * (xs 1)) + 72) = Int32.toInt (120 * (xs 1)) + Int32.toInt 72 := i32_add (by simp only [l0, l1, l2, l3, l4, l5, e0]; omega) (by simp only [l0, l1, l2, l3, l4, l5, e0]; omega); have e2 : Int32.toInt (((120 * (xs 1)) + 72) + 11) = Int32.toInt ((120 * (xs 1)) + 72) + Int32.toInt 11 := i32_add (by simp only [l0, l1, l2, l3, l4, l5, e0, e1]; omega) (by simp only [l0, l1, l2, l3, l4, l5, e0, e1]; omega); (try simp only [l0, l1, l2, l3, l4, l5] at e0 e1 e2); constructor <;> omega)) (by decide) ?_
  obtain ⟨G13, eG13⟩ : ∃ z : ab_G, z = List.set G12 126 (ab_if 720 ((upd f126_12 (Int32.toNatClampNeg (((120 * (xs 1)) + 72) + 11)) 0))) := ⟨_, rfl⟩
  have h80 := ab_keep eG13 (by decide) h80
  have h110 := ab_keep eG13 (by decide) h110
  have h127 := ab_keep eG13 (by decide) h127
  have hlen := ab_klen eG13 hlen
  have hsl := ab_ksl 720 eG13 h126 rfl rfl hsl
  have hfr := hfr.wr eG13 (by decide)
  have hpk := hpk.wr eG13 (by decide)
  have h126 := ab_kept eG13 h126
  change ab_W _ _ _ (List.set G12 126 (ab_if 720 ((upd f126_12 (Int32.toNatClampNeg (((120 * (xs 1)) + 72) + 11)) 0)))) 220 [some (vR 80), some (vI (xs 1)), some (vI (xs 2)), some (vI 1), some (vI 6), some (vI 11)] [] _
  rw [← eG13]
  obtain ⟨f126_13, h126⟩ : ∃ g : Nat → Int32, G13[126]? = some (ab_if 720 (g)) := ⟨_, h126⟩
  refine ab_iinc (v := 12) d_MO_compile_220 rfl (by decide) (Nat.le_of_ble_eq_true rfl) (Nat.le_of_ble_eq_true rfl) rfl ?_
  change ab_W _ _ _ G13 223 [some (vR 80), some (vI (xs 1)), some (vI (xs 2)), some (vI 1), some (vI 6), some (vI 12)] [] _
  refine ab_goto (tgt := 182) d_MO_compile_223 (by decide) ?_
  refine ab_iload d_MO_compile_182 rfl ?_
  refine ab_bipush (v := 12) d_MO_compile_184 (by decide) ?_
  refine ab_icmp_ge (tgt := 226) d_MO_compile_186 (by decide) (fun _ => ?_) (fun c => absurd c (by decide))
  have h100 := hpk.get (by decide) h100
  have h113 := hpk.get (by decide) h113
  have h117 := hpk.get (by decide) h117
  have h118 := hpk.get (by decide) h118
  have h119 := hpk.get (by decide) h119
  have h120 := hpk.get (by decide) h120
  have h128 := hpk.get (by decide) h128
  have h129 := hpk.get (by decide) h129
  have h130 := hpk.get (by decide) h130
  have h131 := hpk.get (by decide) h131
  have h132 := hpk.get (by decide) h132
  have h133 := hpk.get (by decide) h133
  refine ab_iinc (v := 7) d_MO_compile_226 rfl (by decide) (Nat.le_of_ble_eq_true rfl) (Nat.le_of_ble_eq_true rfl) rfl ?_
  change ab_W _ _ _ G13 229 [some (vR 80), some (vI (xs 1)), some (vI (xs 2)), some (vI 1), some (vI 7), some (vI 12)] [] _
  refine ab_goto (tgt := 135) d_MO_compile_229 (by decide) ?_
  refine ab_less (L' := [some (vR 80), some (vI (xs 1)), some (vI (xs 2)), some (vI 1), some (vI 7), none]) (fun i v h => by rcases i with _ | _ | _ | _ | _ | _ | i <;> first | exact h | (simp at h)) ?_
  refine s_MO_compile_135_29 (xs := xs) (f126_0 := f126_13) (f127_0 := f127_1) hlen hsl h80 h100 h110 h113 h117 h118 h119 h120 h126 h127 h128 h129 h130 h131 h132 h133 c0 c1 c2 c3 c4 c5 c6 c7 (by omega) (fun o Gz hq => ?_)
  obtain ⟨hv, hfk, hlen, hsl, h80, h113, h117, h118, h119, h120, ⟨f126_14, h126⟩, ⟨f127_15, h127⟩, h128, h129, h130, h131, h132, h133⟩ := hq
  have h100 := hfk.get (by decide) h100
  have h110 := hfk.get (by decide) h110
  have hfr := hfr.cl hfk (by decide)
  exact hk _ _ ⟨hv, hfr, hlen, hsl, h80, h113, h117, h118, h119, h120, ⟨_, h126⟩, ⟨_, h127⟩, h128, h129, h130, h131, h132, h133⟩
