set_option maxRecDepth 100000 in
set_option maxHeartbeats 4000000 in
theorem q_SU_take_0 {X : ab_X} {d : Nat} {G : ab_G}  (hlen : G.length = 149) (hsl : ab_slots G = 1832133) (h20 : G[20]? = some (ab_ob 7 [vI 2000, vR 21, vI 0])) (h21 : G[21]? = some (ab_if 32 ((fun _ => 0)))) (h31 : G[31]? = some (ab_ob 9 [vR 32, vR 33, vR 34, vR 35, vI 0])) (h32 : G[32]? = some (ab_if 32 ((fun _ => 0)))) (h33 : G[33]? = some (ab_if 33 ((upd (fun _ => 0) 0 (-1))))) (h34 : G[34]? = some (ab_if 33 ((fun _ => 0)))) (h35 : G[35]? = some (ab_if 33 ((upd (fun _ => 0) 0 47)))) (hd : 2 ≤ d) : ab_F X d y_SU_take (.code y_SU_take b_SU_take 4 none) [vR 31, vR 20] G (fun o G2 => o = .returned none ∧ ab_fr [31, 32, 33, 34, 35] G G2 ∧ G2.length = 149 ∧ ab_slots G2 = 1832133 ∧ G2[31]? = some (ab_ob 9 [vR 32, vR 33, vR 34, vR 35, vI 0]) ∧ G2[32]? = some (ab_if 32 ((va_cpy (fun _ => 0) (fun _ => 0) (Int32.toNatClampNeg 0) (Int32.toNatClampNeg 0) (Int32.toNatClampNeg 0)))) ∧ G2[33]? = some (ab_if 33 ((upd (upd (fun _ => 0) 0 (-1)) 0 (-1)))) ∧ G2[34]? = some (ab_if 33 ((upd (fun _ => 0) 0 0))) ∧ G2[35]? = some (ab_if 33 ((upd (upd (fun _ => 0) 0 47) 0 47)))) := by
  refine ab_F_of (by decide +kernel) (Nat.le_of_ble_eq_true rfl) ?_
  obtain ⟨Q, hQ⟩ : ∃ z : Outcome → ab_G → Prop, z = (fun o G2 => o = .returned none ∧ ab_fr [31, 32, 33, 34, 35] G G2 ∧ G2.length = 149 ∧ ab_slots G2 = 1832133 ∧ G2[31]? = some (ab_ob 9 [vR 32, vR 33, vR 34, vR 35, vI 0]) ∧ G2[32]? = some (ab_if 32 ((va_cpy (fun _ => 0) (fun _ => 0) (Int32.toNatClampNeg 0) (Int32.toNatClampNeg 0) (Int32.toNatClampNeg 0)))) ∧ G2[33]? = some (ab_if 33 ((upd (upd (fun _ => 0) 0 (-1)) 0 (-1)))) ∧ G2[34]? = some (ab_if 33 ((upd (fun _ => 0) 0 0))) ∧ G2[35]? = some (ab_if 33 ((upd (upd (fun _ => 0) 0 47) 0 47)))) := ⟨_, rfl⟩
  rw [← hQ]
  change ab_W X (ab_pl y_SU_take b_SU_take 4 none) d G 0 [some (vR 31), some (vR 20), none, none] [] Q
  have hfr : ab_fr [31, 32, 33, 34, 35] G G := ab_fr.rf
  refine ab_aload_n d_SU_take_0 rfl ?_
  refine ab_aload_n d_SU_take_1 rfl ?_
  refine ab_getf (fs := [vI 2000, vR 21, vI 0]) f_SU_28 d_SU_take_2 h20 rfl ?_
  refine ab_putf (fs := [vR 32, vR 33, vR 34, vR 35, vI 0]) f_SU_34 (Or.inl rfl) d_SU_take_5 h31 (Nat.le_of_ble_eq_true rfl) (fun _ => ⟨rfl, rfl⟩) (by decide) ?_
  obtain ⟨G1, eG1⟩ : ∃ z : ab_G, z = List.set G 31 (ab_ob 9 [vR 32, vR 33, vR 34, vR 35, vI 0]) := ⟨_, rfl⟩
  have h20 := ab_keep eG1 (by decide) h20
  have h21 := ab_keep eG1 (by decide) h21
  have h32 := ab_keep eG1 (by decide) h32
  have h33 := ab_keep eG1 (by decide) h33
  have h34 := ab_keep eG1 (by decide) h34
  have h35 := ab_keep eG1 (by decide) h35
  have hlen := ab_klen eG1 hlen
  have hsl := ab_ksl 5 eG1 h31 rfl rfl hsl
  have hfr := hfr.wr eG1 (by decide)
  have h31 := ab_kept eG1 h31
  change ab_W _ _ _ (List.set G 31 (ab_ob 9 [vR 32, vR 33, vR 34, vR 35, vI 0])) 8 [some (vR 31), some (vR 20), none, none] [] _
  rw [← eG1]
  refine ab_aload_n d_SU_take_8 rfl ?_
  refine ab_getf (fs := [vR 32, vR 33, vR 34, vR 35, vI 0]) f_SU_34 d_SU_take_9 h31 rfl ?_
  refine ab_aload_n d_SU_take_12 rfl ?_
  refine ab_getf (fs := [vR 32, vR 33, vR 34, vR 35, vI 0]) f_SU_9 d_SU_take_13 h31 rfl ?_
  refine ab_alen (v := 32) d_SU_take_16 h32 (by first | decide | rfl) ?_
  refine ab_icmp_le (tgt := 75) d_SU_take_17 (by decide) (fun _ => ?_) (fun c => absurd c (by decide))
  refine ab_aload_n d_SU_take_75 rfl ?_
  refine ab_getf (fs := [vI 2000, vR 21, vI 0]) f_SU_46 d_SU_take_76 h20 rfl ?_
  refine ab_iconst (v := 0) d_SU_take_79 (by decide) ?_
  refine ab_aload_n d_SU_take_80 rfl ?_
  refine ab_getf (fs := [vR 32, vR 33, vR 34, vR 35, vI 0]) f_SU_9 d_SU_take_81 h31 rfl ?_
  refine ab_iconst (v := 0) d_SU_take_84 (by decide) ?_
  refine ab_aload_n d_SU_take_85 rfl ?_
  refine ab_getf (fs := [vR 32, vR 33, vR 34, vR 35, vI 0]) f_SU_34 d_SU_take_86 h31 rfl ?_
  refine ab_copy mj_SU_49 cp_nat cp_st ini_SY d_SU_take_89 h21 h32 (by decide) (by decide) (by decide) (by decide) (by decide) (by decide) (Nat.le_of_ble_eq_true rfl) (by omega) ?_
  obtain ⟨G2, eG2⟩ : ∃ z : ab_G, z = List.set G1 32 (ab_if 32 ((va_cpy (fun _ => 0) (fun _ => 0) (Int32.toNatClampNeg 0) (Int32.toNatClampNeg 0) (Int32.toNatClampNeg 0)))) := ⟨_, rfl⟩
  have h20 := ab_keep eG2 (by decide) h20
  have h21 := ab_keep eG2 (by decide) h21
  have h31 := ab_keep eG2 (by decide) h31
  have h33 := ab_keep eG2 (by decide) h33
  have h34 := ab_keep eG2 (by decide) h34
  have h35 := ab_keep eG2 (by decide) h35
  have hlen := ab_klen eG2 hlen
  have hsl := ab_ksl 32 eG2 h32 rfl rfl hsl
  have hfr := hfr.wr eG2 (by decide)
  have h32 := ab_kept eG2 h32
  change ab_W _ _ _ (List.set G1 32 (ab_if 32 ((va_cpy (fun _ => 0) (fun _ => 0) (Int32.toNatClampNeg 0) (Int32.toNatClampNeg 0) (Int32.toNatClampNeg 0))))) 92 [some (vR 31), some (vR 20), none, none] [] _
  rw [← eG2]
  refine ab_iconst (v := 0) d_SU_take_92 (by decide) ?_
  refine ab_istore_n d_SU_take_93 (Nat.le_of_ble_eq_true rfl) (Nat.le_of_ble_eq_true rfl) rfl ?_
  change ab_W _ _ _ G2 94 [some (vR 31), some (vR 20), some (vI 0), none] [] _
  refine ab_iconst (v := 0) d_SU_take_94 (by decide) ?_
  refine ab_istore_n d_SU_take_95 (Nat.le_of_ble_eq_true rfl) (Nat.le_of_ble_eq_true rfl) rfl ?_
  change ab_W _ _ _ G2 96 [some (vR 31), some (vR 20), some (vI 0), some (vI 0)] [] _
  refine ab_iload_n d_SU_take_96 rfl ?_
  refine ab_aload_n d_SU_take_97 rfl ?_
  refine ab_getf (fs := [vR 32, vR 33, vR 34, vR 35, vI 0]) f_SU_34 d_SU_take_98 h31 rfl ?_
  refine ab_icmp_gt (tgt := 176) d_SU_take_101 (by decide) (fun c => absurd c (by decide)) (fun _ => ?_)
  refine ab_aload_n d_SU_take_104 rfl ?_
  refine ab_getf (fs := [vR 32, vR 33, vR 34, vR 35, vI 0]) f_SU_15 d_SU_take_105 h31 rfl ?_
  refine ab_iload_n d_SU_take_108 rfl ?_
  refine ab_aload_n d_SU_take_109 rfl ?_
  refine ab_getf (fs := [vR 32, vR 33, vR 34, vR 35, vI 0]) f_SU_9 d_SU_take_110 h31 rfl ?_
  refine ab_iload_n d_SU_take_113 rfl ?_
  refine ab_aload_n d_SU_take_114 rfl ?_
  refine ab_getf (fs := [vR 32, vR 33, vR 34, vR 35, vI 0]) f_SU_34 d_SU_take_115 h31 rfl ?_
  refine ab_callS (d' := d - 1) (as := [vR 32, vI 0, vI 0]) (st := [vI 0, vR 33]) (q_PW_codeAt_0  hlen hsl) (fun o G2 h => ⟨_, h.1⟩) (by omega) m_PW_codeAt ml_SU_55 st_PW_codeAt (Nat.le_of_ble_eq_true rfl) d_SU_take_118 rfl ?_
  intro v G3 hq
  obtain ⟨hv, hfk, hlen, hsl⟩ := hq
  cases hv
  have h20 := hfk.get (by decide) h20
  have h21 := hfk.get (by decide) h21
  have h31 := hfk.get (by decide) h31
  have h32 := hfk.get (by decide) h32
  have h33 := hfk.get (by decide) h33
  have h34 := hfk.get (by decide) h34
  have h35 := hfk.get (by decide) h35
  have hfr := hfr.cl hfk (by decide)
  change ab_W _ _ _ G3 121 [some (vR 31), some (vR 20), some (vI 0), some (vI 0)] [vI (-1), vI 0, vR 33] _
  refine ab_iast d_SU_take_121 h33 (by unfold vp_in; decide) (by decide) ?_
  obtain ⟨G4, eG4⟩ : ∃ z : ab_G, z = List.set G3 33 (ab_if 33 ((upd (upd (fun _ => 0) 0 (-1)) 0 (-1)))) := ⟨_, rfl⟩
  have h20 := ab_keep eG4 (by decide) h20
  have h21 := ab_keep eG4 (by decide) h21
  have h31 := ab_keep eG4 (by decide) h31
  have h32 := ab_keep eG4 (by decide) h32
  have h34 := ab_keep eG4 (by decide) h34
  have h35 := ab_keep eG4 (by decide) h35
  have hlen := ab_klen eG4 hlen
  have hsl := ab_ksl 33 eG4 h33 rfl rfl hsl
  have hfr := hfr.wr eG4 (by decide)
  have h33 := ab_kept eG4 h33
  change ab_W _ _ _ (List.set G3 33 (ab_if 33 ((upd (upd (fun _ => 0) 0 (-1)) 0 (-1))))) 122 [some (vR 31), some (vR 20), some (vI 0), some (vI 0)] [] _
  rw [← eG4]
  refine ab_aload_n d_SU_take_122 rfl ?_
  refine ab_getf (fs := [vR 32, vR 33, vR 34, vR 35, vI 0]) f_SU_15 d_SU_take_123 h31 rfl ?_
  refine ab_iload_n d_SU_take_126 rfl ?_
  refine ab_iald d_SU_take_127 h33 (by unfold vp_in; decide) ?_
  refine ab_topi (y := (-1)) rfl ?_
  refine ab_iconst (v := (-1)) d_SU_take_128 (by decide) ?_
  refine ab_icmp_ne (tgt := 142) d_SU_take_129 (by decide) (fun c => absurd c (by decide)) (fun _ => ?_)
  refine ab_iload_n d_SU_take_132 rfl ?_
  refine ab_iconst (v := 1) d_SU_take_133 (by decide) ?_
  refine ab_isub d_SU_take_134 ?_
  refine ab_topi (y := (-1)) (by decide) ?_
  refine ab_iconst (v := 0) d_SU_take_135 (by decide) ?_
  refine ab_mmax mj_SU_43 mm_max_st ini_MA mm_max_cd d_SU_take_136 (Nat.le_of_ble_eq_true rfl) (by omega) ?_
  refine ab_topi (y := 0) (by decide) ?_
  refine ab_goto (tgt := 151) d_SU_take_139 (by decide) ?_
  refine ab_istore_n d_SU_take_151 (Nat.le_of_ble_eq_true rfl) (Nat.le_of_ble_eq_true rfl) rfl ?_
  change ab_W _ _ _ G4 152 [some (vR 31), some (vR 20), some (vI 0), some (vI 0)] [] _
  refine ab_aload_n d_SU_take_152 rfl ?_
  refine ab_getf (fs := [vR 32, vR 33, vR 34, vR 35, vI 0]) f_SU_18 d_SU_take_153 h31 rfl ?_
  refine ab_iload_n d_SU_take_156 rfl ?_
  refine ab_iload_n d_SU_take_157 rfl ?_
  refine ab_iast d_SU_take_158 h34 (by unfold vp_in; decide) (by decide) ?_
  obtain ⟨G5, eG5⟩ : ∃ z : ab_G, z = List.set G4 34 (ab_if 33 ((upd (fun _ => 0) 0 0))) := ⟨_, rfl⟩
  have h20 := ab_keep eG5 (by decide) h20
  have h21 := ab_keep eG5 (by decide) h21
  have h31 := ab_keep eG5 (by decide) h31
  have h32 := ab_keep eG5 (by decide) h32
  have h33 := ab_keep eG5 (by decide) h33
  have h35 := ab_keep eG5 (by decide) h35
  have hlen := ab_klen eG5 hlen
  have hsl := ab_ksl 33 eG5 h34 rfl rfl hsl
  have hfr := hfr.wr eG5 (by decide)
  have h34 := ab_kept eG5 h34
  change ab_W _ _ _ (List.set G4 34 (ab_if 33 ((upd (fun _ => 0) 0 0)))) 159 [some (vR 31), some (vR 20), some (vI 0), some (vI 0)] [] _
  rw [← eG5]
  refine ab_aload_n d_SU_take_159 rfl ?_
  refine ab_getf (fs := [vR 32, vR 33, vR 34, vR 35, vI 0]) f_SU_21 d_SU_take_160 h31 rfl ?_
  refine ab_iload_n d_SU_take_163 rfl ?_
  refine ab_aload_n d_SU_take_164 rfl ?_
  refine ab_iload_n d_SU_take_165 rfl ?_
  refine ab_callV (d' := d - 1) (as := [vI 0]) (st := [vI 0, vR 35]) (r := _) (q_SU_holdingAt_0  hlen hsl h31 (by omega)) (fun o G2 h => ⟨_, h.1⟩) (by omega) m_SU_holdingAt ml_SU_24 im_SU_holdingAt se_SU_holdingAt c_SU h31 (Nat.le_of_ble_eq_true rfl) d_SU_take_166 rfl ?_
  intro v G6 hq
  obtain ⟨hv, hfk, hlen, hsl⟩ := hq
  cases hv
  have h20 := hfk.get (by decide) h20
  have h21 := hfk.get (by decide) h21
  have h31 := hfk.get (by decide) h31
  have h32 := hfk.get (by decide) h32
  have h33 := hfk.get (by decide) h33
  have h34 := hfk.get (by decide) h34
  have h35 := hfk.get (by decide) h35
  have hfr := hfr.cl hfk (by decide)
  change ab_W _ _ _ G6 169 [some (vR 31), some (vR 20), some (vI 0), some (vI 0)] [vI 47, vI 0, vR 35] _
  refine ab_iast d_SU_take_169 h35 (by unfold vp_in; decide) (by decide) ?_
  obtain ⟨G7, eG7⟩ : ∃ z : ab_G, z = List.set G6 35 (ab_if 33 ((upd (upd (fun _ => 0) 0 47) 0 47))) := ⟨_, rfl⟩
  have h20 := ab_keep eG7 (by decide) h20
  have h21 := ab_keep eG7 (by decide) h21
  have h31 := ab_keep eG7 (by decide) h31
  have h32 := ab_keep eG7 (by decide) h32
  have h33 := ab_keep eG7 (by decide) h33
  have h34 := ab_keep eG7 (by decide) h34
  have hlen := ab_klen eG7 hlen
  have hsl := ab_ksl 33 eG7 h35 rfl rfl hsl
  have hfr := hfr.wr eG7 (by decide)
  have h35 := ab_kept eG7 h35
  change ab_W _ _ _ (List.set G6 35 (ab_if 33 ((upd (upd (fun _ => 0) 0 47) 0 47)))) 170 [some (vR 31), some (vR 20), some (vI 0), some (vI 0)] [] _
  rw [← eG7]
  refine ab_iinc (v := 1) d_SU_take_170 rfl (by decide) (Nat.le_of_ble_eq_true rfl) (Nat.le_of_ble_eq_true rfl) rfl ?_
  change ab_W _ _ _ G7 173 [some (vR 31), some (vR 20), some (vI 0), some (vI 1)] [] _
  refine ab_goto (tgt := 96) d_SU_take_173 (by decide) ?_
  refine ab_iload_n d_SU_take_96 rfl ?_
  refine ab_aload_n d_SU_take_97 rfl ?_
  refine ab_getf (fs := [vR 32, vR 33, vR 34, vR 35, vI 0]) f_SU_34 d_SU_take_98 h31 rfl ?_
  refine ab_icmp_gt (tgt := 176) d_SU_take_101 (by decide) (fun _ => ?_) (fun c => absurd c (by decide))
  exact ab_vret rfl d_SU_take_176 (by rw [hQ]; exact ⟨rfl, hfr, hlen, hsl, h31, h32, h33, h34, h35⟩)
set_option maxRecDepth 100000 in
set_option maxHeartbeats 4000000 in
theorem q_RW_clear_1 {X : ab_X} {d : Nat} {G : ab_G}  (hlen : G.length = 149) (hsl : ab_slots G = 1832133) (h20 : G[20]? = some (ab_ob 7 [vI 2000, vR 21, vI 0])) : ab_F X d y_RW_clear (.code y_RW_clear b_RW_clear 1 none) [vR 20] G (fun o G2 => o = .returned none ∧ ab_fr [20] G G2 ∧ G2.length = 149 ∧ ab_slots G2 = 1832133 ∧ G2[20]? = some (ab_ob 7 [vI 2000, vR 21, vI 0])) := by
  refine ab_F_of (by decide +kernel) (Nat.le_of_ble_eq_true rfl) ?_
  obtain ⟨Q, hQ⟩ : ∃ z : Outcome → ab_G → Prop, z = (fun o G2 => o = .returned none ∧ ab_fr [20] G G2 ∧ G2.length = 149 ∧ ab_slots G2 = 1832133 ∧ G2[20]? = some (ab_ob 7 [vI 2000, vR 21, vI 0])) := ⟨_, rfl⟩
  rw [← hQ]
  change ab_W X (ab_pl y_RW_clear b_RW_clear 1 none) d G 0 [some (vR 20)] [] Q
  have hfr : ab_fr [20] G G := ab_fr.rf
  refine ab_aload_n d_RW_clear_0 rfl ?_
  refine ab_iconst (v := 0) d_RW_clear_1 (by decide) ?_
  refine ab_putf (fs := [vI 2000, vR 21, vI 0]) f_RW_19 (Or.inl rfl) d_RW_clear_2 h20 (Nat.le_of_ble_eq_true rfl) (fun _ => ⟨rfl, rfl⟩) (by decide) ?_
  obtain ⟨G1, eG1⟩ : ∃ z : ab_G, z = List.set G 20 (ab_ob 7 [vI 2000, vR 21, vI 0]) := ⟨_, rfl⟩
  have hlen := ab_klen eG1 hlen
  have hsl := ab_ksl 3 eG1 h20 rfl rfl hsl
  have hfr := hfr.wr eG1 (by decide)
  have h20 := ab_kept eG1 h20
  change ab_W _ _ _ (List.set G 20 (ab_ob 7 [vI 2000, vR 21, vI 0])) 5 [some (vR 20)] [] _
  rw [← eG1]
  exact ab_vret rfl d_RW_clear_5 (by rw [hQ]; exact ⟨rfl, hfr, hlen, hsl, h20⟩)
set_option maxRecDepth 100000 in
set_option maxHeartbeats 4000000 in
theorem q_PW_subject_0 {X : ab_X} {d : Nat} {G : ab_G}  (hlen : G.length = 149) (hsl : ab_slots G = 1832133) (h18 : G[18]? = some (ab_ob 0 [vR 19, vR 20, vR 22, vR 30, vR 31, vR 36, vR 37, vR 46, vR 51, vR 60, vR 69, vR 70, vR 72, vR 74, vR 76, vR 78, vI 0, vI 0])) (h20 : G[20]? = some (ab_ob 7 [vI 2000, vR 21, vI 0])) (h21 : G[21]? = some (ab_if 32 ((fun _ => 0)))) (h31 : G[31]? = some (ab_ob 9 [vR 32, vR 33, vR 34, vR 35, vI 0])) (h32 : G[32]? = some (ab_if 32 ((fun _ => 0)))) (h33 : G[33]? = some (ab_if 33 ((upd (fun _ => 0) 0 (-1))))) (h34 : G[34]? = some (ab_if 33 ((fun _ => 0)))) (h35 : G[35]? = some (ab_if 33 ((upd (fun _ => 0) 0 47)))) (hd : 3 ≤ d) : ab_F X d y_PW_subject (.code y_PW_subject b_PW_subject 1 (some (.int))) [vR 18] G (fun o G2 => o = .returned (some (vI 0)) ∧ ab_fr [20, 31, 32, 33, 34, 35] G G2 ∧ G2.length = 149 ∧ ab_slots G2 = 1832133 ∧ G2[20]? = some (ab_ob 7 [vI 2000, vR 21, vI 0]) ∧ G2[31]? = some (ab_ob 9 [vR 32, vR 33, vR 34, vR 35, vI 0]) ∧ G2[32]? = some (ab_if 32 ((va_cpy (fun _ => 0) (fun _ => 0) (Int32.toNatClampNeg 0) (Int32.toNatClampNeg 0) (Int32.toNatClampNeg 0)))) ∧ G2[33]? = some (ab_if 33 ((upd (upd (fun _ => 0) 0 (-1)) 0 (-1)))) ∧ G2[34]? = some (ab_if 33 ((upd (fun _ => 0) 0 0))) ∧ G2[35]? = some (ab_if 33 ((upd (upd (fun _ => 0) 0 47) 0 47)))) := by
  refine ab_F_of (by decide +kernel) (Nat.le_of_ble_eq_true rfl) ?_
  obtain ⟨Q, hQ⟩ : ∃ z : Outcome → ab_G → Prop, z = (fun o G2 => o = .returned (some (vI 0)) ∧ ab_fr [20, 31, 32, 33, 34, 35] G G2 ∧ G2.length = 149 ∧ ab_slots G2 = 1832133 ∧ G2[20]? = some (ab_ob 7 [vI 2000, vR 21, vI 0]) ∧ G2[31]? = some (ab_ob 9 [vR 32, vR 33, vR 34, vR 35, vI 0]) ∧ G2[32]? = some (ab_if 32 ((va_cpy (fun _ => 0) (fun _ => 0) (Int32.toNatClampNeg 0) (Int32.toNatClampNeg 0) (Int32.toNatClampNeg 0)))) ∧ G2[33]? = some (ab_if 33 ((upd (upd (fun _ => 0) 0 (-1)) 0 (-1)))) ∧ G2[34]? = some (ab_if 33 ((upd (fun _ => 0) 0 0))) ∧ G2[35]? = some (ab_if 33 ((upd (upd (fun _ => 0) 0 47) 0 47)))) := ⟨_, rfl⟩
  rw [← hQ]
  change ab_W X (ab_pl y_PW_subject b_PW_subject 1 (some (.int))) d G 0 [some (vR 18)] [] Q
  have hfr : ab_fr [20, 31, 32, 33, 34, 35] G G := ab_fr.rf
  refine ab_aload_n d_PW_subject_0 rfl ?_
  refine ab_getf (fs := [vR 19, vR 20, vR 22, vR 30, vR 31, vR 36, vR 37, vR 46, vR 51, vR 60, vR 69, vR 70, vR 72, vR 74, vR 76, vR 78, vI 0, vI 0]) f_PW_38 d_PW_subject_1 h18 rfl ?_
  refine ab_aload_n d_PW_subject_4 rfl ?_
  refine ab_getf (fs := [vR 19, vR 20, vR 22, vR 30, vR 31, vR 36, vR 37, vR 46, vR 51, vR 60, vR 69, vR 70, vR 72, vR 74, vR 76, vR 78, vI 0, vI 0]) f_PW_18 d_PW_subject_5 h18 rfl ?_
  refine ab_callV (d' := d - 1) (as := [vR 20]) (st := []) (r := _) (q_SU_take_0  hlen hsl h20 h21 h31 h32 h33 h34 h35 (by omega)) (fun o G2 h => ⟨_, h.1⟩) (by omega) m_SU_take ml_PW_160 im_SU_take se_SU_take c_SU h31 (Nat.le_of_ble_eq_true rfl) d_PW_subject_8 rfl ?_
  intro v G1 hq
  obtain ⟨hv, hfk, hlen, hsl, h31, h32, h33, h34, h35⟩ := hq
  cases hv
  have h18 := hfk.get (by decide) h18
  have h20 := hfk.get (by decide) h20
  have h21 := hfk.get (by decide) h21
  have hfr := hfr.cl hfk (by decide)
  change ab_W _ _ _ G1 11 [some (vR 18)] [] _
  refine ab_aload_n d_PW_subject_11 rfl ?_
  refine ab_getf (fs := [vR 19, vR 20, vR 22, vR 30, vR 31, vR 36, vR 37, vR 46, vR 51, vR 60, vR 69, vR 70, vR 72, vR 74, vR 76, vR 78, vI 0, vI 0]) f_PW_18 d_PW_subject_12 h18 rfl ?_
  refine ab_callV (d' := d - 1) (as := []) (st := []) (r := _) (q_RW_clear_1  hlen hsl h20) (fun o G2 h => ⟨_, h.1⟩) (by omega) m_RW_clear ml_PW_120 im_RW_clear se_RW_clear c_RW h20 (Nat.le_of_ble_eq_true rfl) d_PW_subject_15 rfl ?_
  intro v G2 hq
  obtain ⟨hv, hfk, hlen, hsl, h20⟩ := hq
  cases hv
  have h18 := hfk.get (by decide) h18
  have h21 := hfk.get (by decide) h21
  have h31 := hfk.get (by decide) h31
  have h32 := hfk.get (by decide) h32
  have h33 := hfk.get (by decide) h33
  have h34 := hfk.get (by decide) h34
  have h35 := hfk.get (by decide) h35
  have hfr := hfr.cl hfk (by decide)
  change ab_W _ _ _ G2 18 [some (vR 18)] [] _
  refine ab_aload_n d_PW_subject_18 rfl ?_
  refine ab_getf (fs := [vR 19, vR 20, vR 22, vR 30, vR 31, vR 36, vR 37, vR 46, vR 51, vR 60, vR 69, vR 70, vR 72, vR 74, vR 76, vR 78, vI 0, vI 0]) f_PW_38 d_PW_subject_19 h18 rfl ?_
  refine ab_getf (fs := [vR 32, vR 33, vR 34, vR 35, vI 0]) f_PW_164 d_PW_subject_22 h31 rfl ?_
  exact ab_iret (rt := .int) rfl rfl d_PW_subject_25 (by rw [hQ]; exact ⟨rfl, hfr, hlen, hsl, h20, h31, h32, h33, h34, h35⟩)
set_option maxRecDepth 100000 in
set_option maxHeartbeats 4000000 in
theorem q_MO_subject_0 {X : ab_X} {d : Nat} {G : ab_G}  (hlen : G.length = 149) (hsl : ab_slots G = 1832133) (h80 : G[80]? = some (ab_ob 12 (m_fv (vI 0) (vI 0) (vI 0) (vI 0) (vI 0) (vI 0) (vI 0) (vI 0) (vI 0) (vI 0) (vI 0) (vI 0) (vI (-1)) (vI 0) (vI 0) (vI 0) (vI 0) (vI 0) (vI 0) (vI 0) (vI 0) (vI 0) (vI 0) (vI 0) (vI 0) (vI 0) (vI 0) (vI 0) (vI 0) (vI 0) (vI 0) (vI 0) (vI 0) (vI 0) (vI 0)))) : ab_F X d y_MO_subject (.code y_MO_subject b_MO_subject 2 (some (.int))) [vR 80] G (fun o G2 => o = .returned (some (vI 0)) ∧ ab_fr [80] G G2 ∧ G2.length = 149 ∧ ab_slots G2 = 1832133 ∧ G2[80]? = some (ab_ob 12 (m_fv (vI 0) (vI 0) (vI 0) (vI 0) (vI 0) (vI 0) (vI 0) (vI 0) (vI 0) (vI 0) (vI 0) (vI 0) (vI (-1)) (vI 0) (vI 0) (vI 0) (vI 0) (vI 0) (vI 0) (vI 0) (vI 0) (vI 0) (vI 0) (vI 0) (vI 0) (vI 0) (vI 0) (vI 0) (vI 0) (vI 0) (vI 0) (vI 0) (vI 0) (vI 0) (vI 0)))) := by
  refine ab_F_of (by decide +kernel) (Nat.le_of_ble_eq_true rfl) ?_
  obtain ⟨Q, hQ⟩ : ∃ z : Outcome → ab_G → Prop, z = (fun o G2 => o = .returned (some (vI 0)) ∧ ab_fr [80] G G2 ∧ G2.length = 149 ∧ ab_slots G2 = 1832133 ∧ G2[80]? = some (ab_ob 12 (m_fv (vI 0) (vI 0) (vI 0) (vI 0) (vI 0) (vI 0) (vI 0) (vI 0) (vI 0) (vI 0) (vI 0) (vI 0) (vI (-1)) (vI 0) (vI 0) (vI 0) (vI 0) (vI 0) (vI 0) (vI 0) (vI 0) (vI 0) (vI 0) (vI 0) (vI 0) (vI 0) (vI 0) (vI 0) (vI 0) (vI 0) (vI 0) (vI 0) (vI 0) (vI 0) (vI 0)))) := ⟨_, rfl⟩
  rw [← hQ]
  change ab_W X (ab_pl y_MO_subject b_MO_subject 2 (some (.int))) d G 0 [some (vR 80), none] [] Q
  have hfr : ab_fr [80] G G := ab_fr.rf
  refine ab_aload_n d_MO_subject_0 rfl ?_
  refine ab_iconst (v := 0) d_MO_subject_1 (by decide) ?_
  refine ab_putf (fs := (m_fv (vI 0) (vI 0) (vI 0) (vI 0) (vI 0) (vI 0) (vI 0) (vI 0) (vI 0) (vI 0) (vI 0) (vI 0) (vI (-1)) (vI 0) (vI 0) (vI 0) (vI 0) (vI 0) (vI 0) (vI 0) (vI 0) (vI 0) (vI 0) (vI 0) (vI 0) (vI 0) (vI 0) (vI 0) (vI 0) (vI 0) (vI 0) (vI 0) (vI 0) (vI 0) (vI 0))) f_MO_220 (Or.inl rfl) d_MO_subject_2 h80 (Nat.le_of_ble_eq_true rfl) (fun _ => ⟨rfl, rfl⟩) (by decide) ?_
  obtain ⟨G1, eG1⟩ : ∃ z : ab_G, z = List.set G 80 (ab_ob 12 (m_fv (vI 0) (vI 0) (vI 0) (vI 0) (vI 0) (vI 0) (vI 0) (vI 0) (vI 0) (vI 0) (vI 0) (vI 0) (vI (-1)) (vI 0) (vI 0) (vI 0) (vI 0) (vI 0) (vI 0) (vI 0) (vI 0) (vI 0) (vI 0) (vI 0) (vI 0) (vI 0) (vI 0) (vI 0) (vI 0) (vI 0) (vI 0) (vI 0) (vI 0) (vI 0) (vI 0))) := ⟨_, rfl⟩
  have hlen := ab_klen eG1 hlen
  have hsl := ab_ksl 102 eG1 h80 rfl rfl hsl
  have hfr := hfr.wr eG1 (by decide)
  have h80 := ab_kept eG1 h80
  change ab_W _ _ _ (List.set G 80 (ab_ob 12 (m_fv (vI 0) (vI 0) (vI 0) (vI 0) (vI 0) (vI 0) (vI 0) (vI 0) (vI 0) (vI 0) (vI 0) (vI 0) (vI (-1)) (vI 0) (vI 0) (vI 0) (vI 0) (vI 0) (vI 0) (vI 0) (vI 0) (vI 0) (vI 0) (vI 0) (vI 0) (vI 0) (vI 0) (vI 0) (vI 0) (vI 0) (vI 0) (vI 0) (vI 0) (vI 0) (vI 0)))) 5 [some (vR 80), none] [] _
  rw [← eG1]
  refine ab_aload_n d_MO_subject_5 rfl ?_
  refine ab_aload_n d_MO_subject_6 rfl ?_
  refine ab_getf (fs := (m_fv (vI 0) (vI 0) (vI 0) (vI 0) (vI 0) (vI 0) (vI 0) (vI 0) (vI 0) (vI 0) (vI 0) (vI 0) (vI (-1)) (vI 0) (vI 0) (vI 0) (vI 0) (vI 0) (vI 0) (vI 0) (vI 0) (vI 0) (vI 0) (vI 0) (vI 0) (vI 0) (vI 0) (vI 0) (vI 0) (vI 0) (vI 0) (vI 0) (vI 0) (vI 0) (vI 0))) f_MO_223 d_MO_subject_7 h80 rfl ?_
  refine ab_putf (fs := (m_fv (vI 0) (vI 0) (vI 0) (vI 0) (vI 0) (vI 0) (vI 0) (vI 0) (vI 0) (vI 0) (vI 0) (vI 0) (vI (-1)) (vI 0) (vI 0) (vI 0) (vI 0) (vI 0) (vI 0) (vI 0) (vI 0) (vI 0) (vI 0) (vI 0) (vI 0) (vI 0) (vI 0) (vI 0) (vI 0) (vI 0) (vI 0) (vI 0) (vI 0) (vI 0) (vI 0))) f_MO_510 (Or.inl rfl) d_MO_subject_10 h80 (Nat.le_of_ble_eq_true rfl) (fun _ => ⟨rfl, rfl⟩) (by decide) ?_
  obtain ⟨G2, eG2⟩ : ∃ z : ab_G, z = List.set G1 80 (ab_ob 12 (m_fv (vI 0) (vI 0) (vI 0) (vI 0) (vI 0) (vI 0) (vI 0) (vI 0) (vI 0) (vI 0) (vI 0) (vI 0) (vI (-1)) (vI 0) (vI 0) (vI 0) (vI 0) (vI 0) (vI 0) (vI 0) (vI 0) (vI 0) (vI 0) (vI 0) (vI 0) (vI 0) (vI 0) (vI 0) (vI 0) (vI 0) (vI 0) (vI 0) (vI 0) (vI 0) (vI 0))) := ⟨_, rfl⟩
  have hlen := ab_klen eG2 hlen
  have hsl := ab_ksl 102 eG2 h80 rfl rfl hsl
  have hfr := hfr.wr eG2 (by decide)
  have h80 := ab_kept eG2 h80
  change ab_W _ _ _ (List.set G1 80 (ab_ob 12 (m_fv (vI 0) (vI 0) (vI 0) (vI 0) (vI 0) (vI 0) (vI 0) (vI 0) (vI 0) (vI 0) (vI 0) (vI 0) (vI (-1)) (vI 0) (vI 0) (vI 0) (vI 0) (vI 0) (vI 0) (vI 0) (vI 0) (vI 0) (vI 0) (vI 0) (vI 0) (vI 0) (vI 0) (vI 0) (vI 0) (vI 0) (vI 0) (vI 0) (vI 0) (vI 0) (vI 0)))) 13 [some (vR 80), none] [] _
  rw [← eG2]
  refine ab_iconst (v := 0) d_MO_subject_13 (by decide) ?_
  refine ab_istore_n d_MO_subject_14 (Nat.le_of_ble_eq_true rfl) (Nat.le_of_ble_eq_true rfl) rfl ?_
  change ab_W _ _ _ G2 15 [some (vR 80), some (vI 0)] [] _
  refine ab_iload_n d_MO_subject_15 rfl ?_
  refine ab_aload_n d_MO_subject_16 rfl ?_
  refine ab_getf (fs := (m_fv (vI 0) (vI 0) (vI 0) (vI 0) (vI 0) (vI 0) (vI 0) (vI 0) (vI 0) (vI 0) (vI 0) (vI 0) (vI (-1)) (vI 0) (vI 0) (vI 0) (vI 0) (vI 0) (vI 0) (vI 0) (vI 0) (vI 0) (vI 0) (vI 0) (vI 0) (vI 0) (vI 0) (vI 0) (vI 0) (vI 0) (vI 0) (vI 0) (vI 0) (vI 0) (vI 0))) f_MO_510 d_MO_subject_17 h80 rfl ?_
  refine ab_icmp_ge (tgt := 41) d_MO_subject_20 (by decide) (fun _ => ?_) (fun c => absurd c (by decide))
  refine ab_aload_n d_MO_subject_41 rfl ?_
  refine ab_iconst (v := 0) d_MO_subject_42 (by decide) ?_
  refine ab_putf (fs := (m_fv (vI 0) (vI 0) (vI 0) (vI 0) (vI 0) (vI 0) (vI 0) (vI 0) (vI 0) (vI 0) (vI 0) (vI 0) (vI (-1)) (vI 0) (vI 0) (vI 0) (vI 0) (vI 0) (vI 0) (vI 0) (vI 0) (vI 0) (vI 0) (vI 0) (vI 0) (vI 0) (vI 0) (vI 0) (vI 0) (vI 0) (vI 0) (vI 0) (vI 0) (vI 0) (vI 0))) f_MO_223 (Or.inl rfl) d_MO_subject_43 h80 (Nat.le_of_ble_eq_true rfl) (fun _ => ⟨rfl, rfl⟩) (by decide) ?_
  obtain ⟨G3, eG3⟩ : ∃ z : ab_G, z = List.set G2 80 (ab_ob 12 (m_fv (vI 0) (vI 0) (vI 0) (vI 0) (vI 0) (vI 0) (vI 0) (vI 0) (vI 0) (vI 0) (vI 0) (vI 0) (vI (-1)) (vI 0) (vI 0) (vI 0) (vI 0) (vI 0) (vI 0) (vI 0) (vI 0) (vI 0) (vI 0) (vI 0) (vI 0) (vI 0) (vI 0) (vI 0) (vI 0) (vI 0) (vI 0) (vI 0) (vI 0) (vI 0) (vI 0))) := ⟨_, rfl⟩
  have hlen := ab_klen eG3 hlen
  have hsl := ab_ksl 102 eG3 h80 rfl rfl hsl
  have hfr := hfr.wr eG3 (by decide)
  have h80 := ab_kept eG3 h80
  change ab_W _ _ _ (List.set G2 80 (ab_ob 12 (m_fv (vI 0) (vI 0) (vI 0) (vI 0) (vI 0) (vI 0) (vI 0) (vI 0) (vI 0) (vI 0) (vI 0) (vI 0) (vI (-1)) (vI 0) (vI 0) (vI 0) (vI 0) (vI 0) (vI 0) (vI 0) (vI 0) (vI 0) (vI 0) (vI 0) (vI 0) (vI 0) (vI 0) (vI 0) (vI 0) (vI 0) (vI 0) (vI 0) (vI 0) (vI 0) (vI 0)))) 46 [some (vR 80), some (vI 0)] [] _
  rw [← eG3]
  refine ab_aload_n d_MO_subject_46 rfl ?_
  refine ab_getf (fs := (m_fv (vI 0) (vI 0) (vI 0) (vI 0) (vI 0) (vI 0) (vI 0) (vI 0) (vI 0) (vI 0) (vI 0) (vI 0) (vI (-1)) (vI 0) (vI 0) (vI 0) (vI 0) (vI 0) (vI 0) (vI 0) (vI 0) (vI 0) (vI 0) (vI 0) (vI 0) (vI 0) (vI 0) (vI 0) (vI 0) (vI 0) (vI 0) (vI 0) (vI 0) (vI 0) (vI 0))) f_MO_510 d_MO_subject_47 h80 rfl ?_
  exact ab_iret (rt := .int) rfl rfl d_MO_subject_50 (by rw [hQ]; exact ⟨rfl, hfr, hlen, hsl, h80⟩)
set_option maxRecDepth 100000 in
set_option maxHeartbeats 4000000 in
theorem lc_6 {X : ab_X} {d : Nat} {G : ab_G} {xs : Nat → Int32} (hlen : G.length = 149) (hsl : ab_slots G = 1832133) (h0 : G[0]? = some (ab_if 6 (xs))) (h18 : G[18]? = some (ab_ob 0 [vR 19, vR 20, vR 22, vR 30, vR 31, vR 36, vR 37, vR 46, vR 51, vR 60, vR 69, vR 70, vR 72, vR 74, vR 76, vR 78, vI 0, vI 0])) (h20 : G[20]? = some (ab_ob 7 [vI 2000, vR 21, vI 0])) (h21 : G[21]? = some (ab_if 32 ((fun _ => 0)))) (h31 : G[31]? = some (ab_ob 9 [vR 32, vR 33, vR 34, vR 35, vI 0])) (h32 : G[32]? = some (ab_if 32 ((fun _ => 0)))) (h33 : G[33]? = some (ab_if 33 ((upd (fun _ => 0) 0 (-1))))) (h34 : G[34]? = some (ab_if 33 ((fun _ => 0)))) (h35 : G[35]? = some (ab_if 33 ((upd (fun _ => 0) 0 47)))) (h80 : G[80]? = some (ab_ob 12 (m_fv (vI 0) (vI 0) (vI 0) (vI 0) (vI 0) (vI 0) (vI 0) (vI 0) (vI 0) (vI 0) (vI 0) (vI 0) (vI (-1)) (vI 0) (vI 0) (vI 0) (vI 0) (vI 0) (vI 0) (vI 0) (vI 0) (vI 0) (vI 0) (vI 0) (vI 0) (vI 0) (vI 0) (vI 0) (vI 0) (vI 0) (vI 0) (vI 0) (vI 0) (vI 0) (vI 0)))) (hd : 4 ≤ d) : ab_W X ab_LW d G 407 [some (vR 0), some (vR 18), some (vR 80), some (vR 148), some (vI 0), none, none] [] (fun o _ => o = .returned (some (vI 1))) := by
  obtain ⟨Q, hQ⟩ : ∃ z : Outcome → ab_G → Prop, z = (fun o _ => o = .returned (some (vI 1))) := ⟨_, rfl⟩
  rw [← hQ]
  have hfr : ab_fr [20, 31, 32, 33, 34, 35, 80] G G := ab_fr.rf
  refine ab_aload_n d_LA_law_407 rfl ?_
  refine ab_callV (d' := d - 1) (as := []) (st := []) (r := _) (q_PW_subject_0  hlen hsl h18 h20 h21 h31 h32 h33 h34 h35 (by omega)) (fun o G2 h => ⟨_, h.1⟩) (by omega) m_PW_subject ml_LA_69 im_PW_subject se_PW_subject c_PW h18 (Nat.le_of_ble_eq_true rfl) d_LA_law_408 rfl ?_
  intro v G1 hq
  obtain ⟨hv, hfk, hlen, hsl, h20, h31, h32, h33, h34, h35⟩ := hq
  cases hv
  have h0 := hfk.get (by decide) h0
  have h18 := hfk.get (by decide) h18
  have h21 := hfk.get (by decide) h21
  have h80 := hfk.get (by decide) h80
  have hfr := hfr.cl hfk (by decide)
  change ab_W _ _ _ G1 411 [some (vR 0), some (vR 18), some (vR 80), some (vR 148), some (vI 0), none, none] [vI 0] _
  refine ab_aload_n d_LA_law_411 rfl ?_
  refine ab_callV (d' := d - 1) (as := []) (st := [vI 0]) (r := _) (q_MO_subject_0  hlen hsl h80) (fun o G2 h => ⟨_, h.1⟩) (by omega) m_MO_subject ml_LA_72 im_MO_subject se_MO_subject c_MO h80 (Nat.le_of_ble_eq_true rfl) d_LA_law_412 rfl ?_
  intro v G2 hq
  obtain ⟨hv, hfk, hlen, hsl, h80⟩ := hq
  cases hv
  have h0 := hfk.get (by decide) h0
  have h18 := hfk.get (by decide) h18
  have h20 := hfk.get (by decide) h20
  have h21 := hfk.get (by decide) h21
  have h31 := hfk.get (by decide) h31
  have h32 := hfk.get (by decide) h32
  have h33 := hfk.get (by decide) h33
  have h34 := hfk.get (by decide) h34
  have h35 := hfk.get (by decide) h35
  have hfr := hfr.cl hfk (by decide)
  change ab_W _ _ _ G2 415 [some (vR 0), some (vR 18), some (vR 80), some (vR 148), some (vI 0), none, none] [vI 0, vI 0] _
  refine ab_icmp_eq (tgt := 931) d_LA_law_415 (by decide) (fun _ => ?_) (fun c => absurd c (by decide))
  refine ab_iinc (v := 6) d_LA_law_931 rfl (by decide) (Nat.le_of_ble_eq_true rfl) (Nat.le_of_ble_eq_true rfl) rfl ?_
  change ab_W _ _ _ G2 934 [some (vR 0), some (vR 18), some (vR 80), some (vR 148), some (vI 6), none, none] [] _
  refine ab_goto (tgt := 23) d_LA_law_934 (by decide) ?_
  refine ab_iload d_LA_law_23 rfl ?_
  refine ab_aload_n d_LA_law_25 rfl ?_
  refine ab_alen (v := 6) d_LA_law_26 h0 (by first | decide | rfl) ?_
  refine ab_bipush (v := 6) d_LA_law_27 (by decide) ?_
  refine ab_isub d_LA_law_29 ?_
  refine ab_topi (y := 0) (by decide) ?_
  refine ab_icmp_gt (tgt := 937) d_LA_law_30 (by decide) (fun _ => ?_) (fun c => absurd c (by decide))
  refine ab_iconst (v := 1) d_LA_law_937 (by decide) ?_
  exact ab_iret (rt := .boolean) rfl (by decide) d_LA_law_938 (by rw [hQ])
set_option maxRecDepth 100000 in
set_option maxHeartbeats 4000000 in
theorem q_PW_match_0 {X : ab_X} {d : Nat} {G : ab_G} {xs : Nat → Int32} (hlen : G.length = 149) (hsl : ab_slots G = 1832133) (h18 : G[18]? = some (ab_ob 0 [vR 19, vR 20, vR 22, vR 30, vR 31, vR 36, vR 37, vR 46, vR 51, vR 60, vR 69, vR 70, vR 72, vR 74, vR 76, vR 78, vI 0, vI 0])) (h30 : G[30]? = some (.inl (3, 6, .inr (.inr (.inr (.inr (fun _ => none))))))) (hd : 6 ≤ d) : ab_F X d y_PW_match (.code y_PW_match b_PW_match 7 (some (.int))) [vR 18, vI (xs 1), vI (xs 2), vI (xs 3), vI (xs 4)] G (fun o G2 => o = .threw 149 ∧ ab_fr [149] G G2 ∧ G2.length = 150 ∧ ab_slots G2 = 1832139 ∧ G2[149]? = some (ab_ob 13 [])) := by
  refine ab_F_of (by decide +kernel) (Nat.le_of_ble_eq_true rfl) ?_
  obtain ⟨Q, hQ⟩ : ∃ z : Outcome → ab_G → Prop, z = (fun o G2 => o = .threw 149 ∧ ab_fr [149] G G2 ∧ G2.length = 150 ∧ ab_slots G2 = 1832139 ∧ G2[149]? = some (ab_ob 13 [])) := ⟨_, rfl⟩
  rw [← hQ]
  change ab_W X (ab_pl y_PW_match b_PW_match 7 (some (.int))) d G 0 [some (vR 18), some (vI (xs 1)), some (vI (xs 2)), some (vI (xs 3)), some (vI (xs 4)), none, none] [] Q
  have hfr : ab_fr [149] G G := ab_fr.rf
  refine ab_aload_n d_PW_match_0 rfl ?_
  refine ab_iload_n d_PW_match_1 rfl ?_
  refine ab_callV (d' := d - 1) (as := [vI (xs 1)]) (st := []) (r := _) (q_PW_programAt_0 (xs := xs) hlen hsl h18 h30) (fun o G2 h => ⟨_, h.1⟩) (by omega) m_PW_programAt ml_PW_148 im_PW_programAt se_PW_programAt c_PW h18 (Nat.le_of_ble_eq_true rfl) d_PW_match_2 rfl ?_
  intro v G1 hq
  obtain ⟨hv, hfk, hlen, hsl⟩ := hq
  cases hv
  have h18 := hfk.get (by decide) h18
  have h30 := hfk.get (by decide) h30
  have hfr := hfr.cl hfk (by decide)
  change ab_W _ _ _ G1 5 [some (vR 18), some (vI (xs 1)), some (vI (xs 2)), some (vI (xs 3)), some (vI (xs 4)), none, none] [vN] _
  refine ab_astoreN d_PW_match_5 (Nat.le_of_ble_eq_true rfl) (Nat.le_of_ble_eq_true rfl) rfl ?_
  change ab_W _ _ _ G1 7 [some (vR 18), some (vI (xs 1)), some (vI (xs 2)), some (vI (xs 3)), some (vI (xs 4)), some (vN), none] [] _
  refine ab_aloadN d_PW_match_7 rfl ?_
  refine ab_ifnullN (tgt := 30) d_PW_match_9 (by decide) ?_
  refine ab_throw (tx := "no pattern there, or no such how or machine") (by decide) (fun c h => h) cl_PW_109 inst_IA ini_IA tw_PW_113 d_PW_match_30 d_PW_match_33 d_PW_match_34 d_PW_match_36 d_PW_match_39 (by omega) (by rw [hlen]; decide) (by rw [hsl]; decide) ?_
  rw [hlen]
  obtain ⟨G2, eG2⟩ : ∃ z : ab_G, z = G1 ++ [ab_ob 13 []] := ⟨_, rfl⟩
  have h18 := ab_akeep eG2 h18
  have h30 := ab_akeep eG2 h30
  have h149 := ab_anew1 eG2 hlen
  have hsl : ab_slots G2 = 1832139 := ab_asl (z := 6) eG2 hlen (by decide) hsl rfl (by decide)
  have hlen : G2.length = 150 := ab_alen1 eG2 hlen
  have hfr := hfr.ap eG2
  rw [← eG2, hQ]
  exact ⟨rfl, hfr, hlen, hsl, h149⟩
set_option maxRecDepth 100000 in
set_option maxHeartbeats 4000000 in
theorem q_LA_match_0 {X : ab_X} {d : Nat} {G : ab_G} {xs : Nat → Int32} (hlen : G.length = 149) (hsl : ab_slots G = 1832133) (h18 : G[18]? = some (ab_ob 0 [vR 19, vR 20, vR 22, vR 30, vR 31, vR 36, vR 37, vR 46, vR 51, vR 60, vR 69, vR 70, vR 72, vR 74, vR 76, vR 78, vI 0, vI 0])) (h30 : G[30]? = some (.inl (3, 6, .inr (.inr (.inr (.inr (fun _ => none))))))) (hd : 7 ≤ d) : ab_F X d y_LA_match (.codeWith y_LA_match b_LA_match 7 (some (.int)) [(0, 14, 17, 13)]) [vR 18, vI (xs 1), vI (xs 2), vI (xs 3), vI (xs 4), vR 148] G (fun o G2 => o = .returned (some (vI 1)) ∧ ab_fr [149] G G2 ∧ G2.length = 150 ∧ ab_slots G2 = 1832139 ∧ G2[149]? = some (ab_ob 13 [])) := by
  refine ab_F_ofW (by decide +kernel) (Nat.le_of_ble_eq_true rfl) ?_
  obtain ⟨Q, hQ⟩ : ∃ z : Outcome → ab_G → Prop, z = (fun o G2 => o = .returned (some (vI 1)) ∧ ab_fr [149] G G2 ∧ G2.length = 150 ∧ ab_slots G2 = 1832139 ∧ G2[149]? = some (ab_ob 13 [])) := ⟨_, rfl⟩
  rw [← hQ]
  change ab_W X (ab_plW y_LA_match b_LA_match 7 (some (.int)) [(0, 14, 17, 13)]) d G 0 [some (vR 18), some (vI (xs 1)), some (vI (xs 2)), some (vI (xs 3)), some (vI (xs 4)), some (vR 148), none] [] Q
  have hfr : ab_fr [149] G G := ab_fr.rf
  refine ab_aload d_LA_match_0 rfl ?_
  refine ab_iconst (v := 0) d_LA_match_2 (by decide) ?_
  refine ab_aload_n d_LA_match_3 rfl ?_
  refine ab_iload_n d_LA_match_4 rfl ?_
  refine ab_iload_n d_LA_match_5 rfl ?_
  refine ab_iload_n d_LA_match_6 rfl ?_
  refine ab_iload d_LA_match_7 rfl ?_
  refine ab_callVT (d' := d - 1) (hp := 17) (ct := 13) (as := [vI (xs 1), vI (xs 2), vI (xs 3), vI (xs 4)]) (st := [vI 0, vR 148]) (q_PW_match_0 (xs := xs) hlen hsl h18 h30 (by omega)) (fun o G2 h => ⟨_, h.1, h.2.2.2.2⟩) (by omega) m_PW_match mw_LA_15 im_PW_match se_PW_match c_PW h18 (Nat.le_of_ble_eq_true rfl) d_LA_match_9 rfl (fun c hc => ab_hx hc (by decide)) (by decide) cl_LA_13 cast_IA ?_
  intro v G1 hq
  obtain ⟨hv, hfk, hlen, hsl, h149⟩ := hq
  cases hv
  have h18 := hfk.get (by decide) h18
  have h30 := hfk.get (by decide) h30
  have hfr := hfr.cl hfk (by decide)
  change ab_W _ _ _ G1 17 [some (vR 18), some (vI (xs 1)), some (vI (xs 2)), some (vI (xs 3)), some (vI (xs 4)), some (vR 148), none] [vR 149] _
  refine ab_astore d_LA_match_17 (Nat.le_of_ble_eq_true rfl) (Nat.le_of_ble_eq_true rfl) rfl ?_
  change ab_W _ _ _ G1 19 [some (vR 18), some (vI (xs 1)), some (vI (xs 2)), some (vI (xs 3)), some (vI (xs 4)), some (vR 148), some (vR 149)] [] _
  refine ab_iconst (v := 1) d_LA_match_19 (by decide) ?_
  exact ab_iret (rt := .int) rfl rfl d_LA_match_20 (by rw [hQ]; exact ⟨rfl, hfr, hlen, hsl, h149⟩)
set_option maxRecDepth 100000 in
set_option maxHeartbeats 4000000 in
theorem q_MO_isThere_1 {X : ab_X} {d : Nat} {G : ab_G} {xs : Nat → Int32} (hlen : G.length = 150) (hsl : ab_slots G = 1832139) (h80 : G[80]? = some (ab_ob 12 (m_fv (vI 0) (vI 0) (vI 0) (vI 0) (vI 0) (vI 0) (vI 0) (vI 0) (vI 0) (vI 0) (vI 0) (vI 0) (vI (-1)) (vI 0) (vI 0) (vI 0) (vI 0) (vI 0) (vI 0) (vI 0) (vI 0) (vI 0) (vI 0) (vI 0) (vI 0) (vI 0) (vI 0) (vI 0) (vI 0) (vI 0) (vI 0) (vI 0) (vI 0) (vI 0) (vI 0)))) (h112 : G[112]? = some (ab_zf 6 ((fun _ => 0)))) : ab_F X d y_MO_isThere (.code y_MO_isThere b_MO_isThere 2 (some (.boolean))) [vR 80, vI (xs 1)] G (fun o G2 => o = .returned (some (vI 0)) ∧ ab_fr [] G G2 ∧ G2.length = 150 ∧ ab_slots G2 = 1832139) := by
  refine ab_F_of (by decide +kernel) (Nat.le_of_ble_eq_true rfl) ?_
  obtain ⟨Q, hQ⟩ : ∃ z : Outcome → ab_G → Prop, z = (fun o G2 => o = .returned (some (vI 0)) ∧ ab_fr [] G G2 ∧ G2.length = 150 ∧ ab_slots G2 = 1832139) := ⟨_, rfl⟩
  rw [← hQ]
  change ab_W X (ab_pl y_MO_isThere b_MO_isThere 2 (some (.boolean))) d G 0 [some (vR 80), some (vI (xs 1))] [] Q
  have hfr : ab_fr [] G G := ab_fr.rf
  refine ab_iload_n d_MO_isThere_0 rfl ?_
  refine ab_if_lt (tgt := 23) d_MO_isThere_1 (by decide) (fun c0 => ?_) (fun c0 => ?_)
  · refine ab_iconst (v := 0) d_MO_isThere_23 (by decide) ?_
    exact ab_iret (rt := .boolean) rfl (by decide) d_MO_isThere_24 (by rw [hQ]; exact ⟨rfl, hfr, hlen, hsl⟩)
  · refine ab_iload_n d_MO_isThere_4 rfl ?_
    refine ab_bipush (v := 6) d_MO_isThere_5 (by decide) ?_
    refine ab_icmp_ge (tgt := 23) d_MO_isThere_7 (by decide) (fun c1 => ?_) (fun c1 => ?_)
    · refine ab_iconst (v := 0) d_MO_isThere_23 (by decide) ?_
      exact ab_iret (rt := .boolean) rfl (by decide) d_MO_isThere_24 (by rw [hQ]; exact ⟨rfl, hfr, hlen, hsl⟩)
    · refine ab_aload_n d_MO_isThere_10 rfl ?_
      refine ab_getf (fs := (m_fv (vI 0) (vI 0) (vI 0) (vI 0) (vI 0) (vI 0) (vI 0) (vI 0) (vI 0) (vI 0) (vI 0) (vI 0) (vI (-1)) (vI 0) (vI 0) (vI 0) (vI 0) (vI 0) (vI 0) (vI 0) (vI 0) (vI 0) (vI 0) (vI 0) (vI 0) (vI 0) (vI 0) (vI 0) (vI 0) (vI 0) (vI 0) (vI 0) (vI 0) (vI 0) (vI 0))) f_MO_109 d_MO_isThere_11 h80 rfl ?_
      refine ab_iload_n d_MO_isThere_14 rfl ?_
      refine ab_zald d_MO_isThere_15 h112 (vp_in_iff.mpr (by have l0 := (show (0 : Int32).toInt = 0 by decide); have l1 := (show (6 : Int32).toInt = 6 by decide); simp only [Int32.le_iff_toInt_le, Int32.lt_iff_toInt_lt, ← Int32.toInt_inj] at c0 c1; constructor <;> omega)) ?_
      refine ab_topi (y := 0) rfl ?_
      refine ab_if_eq (tgt := 23) d_MO_isThere_16 (by decide) (fun _ => ?_) (fun c => absurd c (by decide))
      refine ab_iconst (v := 0) d_MO_isThere_23 (by decide) ?_
      exact ab_iret (rt := .boolean) rfl (by decide) d_MO_isThere_24 (by rw [hQ]; exact ⟨rfl, hfr, hlen, hsl⟩)
set_option maxRecDepth 100000 in
set_option maxHeartbeats 4000000 in
theorem q_MO_match_0 {X : ab_X} {d : Nat} {G : ab_G} {xs : Nat → Int32} (hlen : G.length = 150) (hsl : ab_slots G = 1832139) (h80 : G[80]? = some (ab_ob 12 (m_fv (vI 0) (vI 0) (vI 0) (vI 0) (vI 0) (vI 0) (vI 0) (vI 0) (vI 0) (vI 0) (vI 0) (vI 0) (vI (-1)) (vI 0) (vI 0) (vI 0) (vI 0) (vI 0) (vI 0) (vI 0) (vI 0) (vI 0) (vI 0) (vI 0) (vI 0) (vI 0) (vI 0) (vI 0) (vI 0) (vI 0) (vI 0) (vI 0) (vI 0) (vI 0) (vI 0)))) (h112 : G[112]? = some (ab_zf 6 ((fun _ => 0)))) (hd : 1 ≤ d) : ab_F X d y_MO_match (.code y_MO_match b_MO_match 6 (some (.int))) [vR 80, vI (xs 1), vI (xs 2), vI (xs 3), vI (xs 4)] G (fun o G2 => o = .returned (some (vI 0)) ∧ ab_fr [80] G G2 ∧ G2.length = 150 ∧ ab_slots G2 = 1832139 ∧ G2[80]? = some (ab_ob 12 (m_fv (vI 1) (vI 0) (vI 0) (vI 0) (vI 0) (vI 0) (vI 0) (vI 0) (vI 0) (vI 0) (vI 0) (vI 0) (vI (-1)) (vI 0) (vI 0) (vI 0) (vI 0) (vI 0) (vI 0) (vI 0) (vI 0) (vI 0) (vI 0) (vI 0) (vI 0) (vI 0) (vI 0) (vI 0) (vI 0) (vI 0) (vI 0) (vI 0) (vI 0) (vI 0) (vI 0)))) := by
  refine ab_F_of (by decide +kernel) (Nat.le_of_ble_eq_true rfl) ?_
  obtain ⟨Q, hQ⟩ : ∃ z : Outcome → ab_G → Prop, z = (fun o G2 => o = .returned (some (vI 0)) ∧ ab_fr [80] G G2 ∧ G2.length = 150 ∧ ab_slots G2 = 1832139 ∧ G2[80]? = some (ab_ob 12 (m_fv (vI 1) (vI 0) (vI 0) (vI 0) (vI 0) (vI 0) (vI 0) (vI 0) (vI 0) (vI 0) (vI 0) (vI 0) (vI (-1)) (vI 0) (vI 0) (vI 0) (vI 0) (vI 0) (vI 0) (vI 0) (vI 0) (vI 0) (vI 0) (vI 0) (vI 0) (vI 0) (vI 0) (vI 0) (vI 0) (vI 0) (vI 0) (vI 0) (vI 0) (vI 0) (vI 0)))) := ⟨_, rfl⟩
  rw [← hQ]
  change ab_W X (ab_pl y_MO_match b_MO_match 6 (some (.int))) d G 0 [some (vR 80), some (vI (xs 1)), some (vI (xs 2)), some (vI (xs 3)), some (vI (xs 4)), none] [] Q
  have hfr : ab_fr [80] G G := ab_fr.rf
  refine ab_aload_n d_MO_match_0 rfl ?_
  refine ab_aload_n d_MO_match_1 rfl ?_
  refine ab_iload_n d_MO_match_2 rfl ?_
  refine ab_callV (d' := d - 1) (as := [vI (xs 1)]) (st := [vR 80]) (r := _) (q_MO_isThere_1 (xs := xs) hlen hsl h80 h112) (fun o G2 h => ⟨_, h.1⟩) (by omega) m_MO_isThere ml_MO_507 im_MO_isThere se_MO_isThere c_MO h80 (Nat.le_of_ble_eq_true rfl) d_MO_match_3 rfl ?_
  intro v G1 hq
  obtain ⟨hv, hfk, hlen, hsl⟩ := hq
  cases hv
  have h80 := hfk.get (by decide) h80
  have h112 := hfk.get (by decide) h112
  have hfr := hfr.cl hfk (by decide)
  change ab_W _ _ _ G1 6 [some (vR 80), some (vI (xs 1)), some (vI (xs 2)), some (vI (xs 3)), some (vI (xs 4)), none] [vI 0, vR 80] _
  refine ab_if_eq (tgt := 41) d_MO_match_6 (by decide) (fun _ => ?_) (fun c => absurd c (by decide))
  refine ab_iconst (v := 1) d_MO_match_41 (by decide) ?_
  refine ab_goto (tgt := 46) d_MO_match_42 (by decide) ?_
  refine ab_putf (fs := (m_fv (vI 0) (vI 0) (vI 0) (vI 0) (vI 0) (vI 0) (vI 0) (vI 0) (vI 0) (vI 0) (vI 0) (vI 0) (vI (-1)) (vI 0) (vI 0) (vI 0) (vI 0) (vI 0) (vI 0) (vI 0) (vI 0) (vI 0) (vI 0) (vI 0) (vI 0) (vI 0) (vI 0) (vI 0) (vI 0) (vI 0) (vI 0) (vI 0) (vI 0) (vI 0) (vI 0))) f_MO_220 (Or.inl rfl) d_MO_match_46 h80 (Nat.le_of_ble_eq_true rfl) (fun _ => ⟨rfl, rfl⟩) (by decide) ?_
  obtain ⟨G2, eG2⟩ : ∃ z : ab_G, z = List.set G1 80 (ab_ob 12 (m_fv (vI 1) (vI 0) (vI 0) (vI 0) (vI 0) (vI 0) (vI 0) (vI 0) (vI 0) (vI 0) (vI 0) (vI 0) (vI (-1)) (vI 0) (vI 0) (vI 0) (vI 0) (vI 0) (vI 0) (vI 0) (vI 0) (vI 0) (vI 0) (vI 0) (vI 0) (vI 0) (vI 0) (vI 0) (vI 0) (vI 0) (vI 0) (vI 0) (vI 0) (vI 0) (vI 0))) := ⟨_, rfl⟩
  have h112 := ab_keep eG2 (by decide) h112
  have hlen := ab_klen eG2 hlen
  have hsl := ab_ksl 102 eG2 h80 rfl rfl hsl
  have hfr := hfr.wr eG2 (by decide)
  have h80 := ab_kept eG2 h80
  change ab_W _ _ _ (List.set G1 80 (ab_ob 12 (m_fv (vI 1) (vI 0) (vI 0) (vI 0) (vI 0) (vI 0) (vI 0) (vI 0) (vI 0) (vI 0) (vI 0) (vI 0) (vI (-1)) (vI 0) (vI 0) (vI 0) (vI 0) (vI 0) (vI 0) (vI 0) (vI 0) (vI 0) (vI 0) (vI 0) (vI 0) (vI 0) (vI 0) (vI 0) (vI 0) (vI 0) (vI 0) (vI 0) (vI 0) (vI 0) (vI 0)))) 49 [some (vR 80), some (vI (xs 1)), some (vI (xs 2)), some (vI (xs 3)), some (vI (xs 4)), none] [] _
  rw [← eG2]
  refine ab_aload_n d_MO_match_49 rfl ?_
  refine ab_getf (fs := (m_fv (vI 1) (vI 0) (vI 0) (vI 0) (vI 0) (vI 0) (vI 0) (vI 0) (vI 0) (vI 0) (vI 0) (vI 0) (vI (-1)) (vI 0) (vI 0) (vI 0) (vI 0) (vI 0) (vI 0) (vI 0) (vI 0) (vI 0) (vI 0) (vI 0) (vI 0) (vI 0) (vI 0) (vI 0) (vI 0) (vI 0) (vI 0) (vI 0) (vI 0) (vI 0) (vI 0))) f_MO_220 d_MO_match_50 h80 rfl ?_
  refine ab_if_le (tgt := 58) d_MO_match_53 (by decide) (fun c => absurd c (by decide)) (fun _ => ?_)
  refine ab_iconst (v := 0) d_MO_match_56 (by decide) ?_
  exact ab_iret (rt := .int) rfl rfl d_MO_match_57 (by rw [hQ]; exact ⟨rfl, hfr, hlen, hsl, h80⟩)
set_option maxRecDepth 100000 in
set_option maxHeartbeats 4000000 in
theorem lc_7 {X : ab_X} {d : Nat} {G : ab_G} {xs : Nat → Int32} (hlen : G.length = 149) (hsl : ab_slots G = 1832133) (h0 : G[0]? = some (ab_if 6 (xs))) (h18 : G[18]? = some (ab_ob 0 [vR 19, vR 20, vR 22, vR 30, vR 31, vR 36, vR 37, vR 46, vR 51, vR 60, vR 69, vR 70, vR 72, vR 74, vR 76, vR 78, vI 0, vI 0])) (h30 : G[30]? = some (.inl (3, 6, .inr (.inr (.inr (.inr (fun _ => none))))))) (h80 : G[80]? = some (ab_ob 12 (m_fv (vI 0) (vI 0) (vI 0) (vI 0) (vI 0) (vI 0) (vI 0) (vI 0) (vI 0) (vI 0) (vI 0) (vI 0) (vI (-1)) (vI 0) (vI 0) (vI 0) (vI 0) (vI 0) (vI 0) (vI 0) (vI 0) (vI 0) (vI 0) (vI 0) (vI 0) (vI 0) (vI 0) (vI 0) (vI 0) (vI 0) (vI 0) (vI 0) (vI 0) (vI 0) (vI 0)))) (h112 : G[112]? = some (ab_zf 6 ((fun _ => 0)))) (hd : 8 ≤ d) : ab_W X ab_LW d G 420 [some (vR 0), some (vR 18), some (vR 80), some (vR 148), some (vI 0), none, none] [] (fun o _ => o = .returned (some (vI 1))) := by
  obtain ⟨Q, hQ⟩ : ∃ z : Outcome → ab_G → Prop, z = (fun o _ => o = .returned (some (vI 1))) := ⟨_, rfl⟩
  rw [← hQ]
  have hfr : ab_fr [80, 149] G G := ab_fr.rf
  refine ab_aload_n d_LA_law_420 rfl ?_
  refine ab_aload_n d_LA_law_421 rfl ?_
  refine ab_iload d_LA_law_422 rfl ?_
  refine ab_iconst (v := 1) d_LA_law_424 (by decide) ?_
  refine ab_iadd d_LA_law_425 ?_
  refine ab_topi (y := 1) (by decide) ?_
  refine ab_iald d_LA_law_426 h0 (by unfold vp_in; decide) ?_
  refine ab_topi (y := (xs 1)) rfl ?_
  refine ab_aload_n d_LA_law_427 rfl ?_
  refine ab_iload d_LA_law_428 rfl ?_
  refine ab_iconst (v := 2) d_LA_law_430 (by decide) ?_
  refine ab_iadd d_LA_law_431 ?_
  refine ab_topi (y := 2) (by decide) ?_
  refine ab_iald d_LA_law_432 h0 (by unfold vp_in; decide) ?_
  refine ab_topi (y := (xs 2)) rfl ?_
  refine ab_aload_n d_LA_law_433 rfl ?_
  refine ab_iload d_LA_law_434 rfl ?_
  refine ab_iconst (v := 3) d_LA_law_436 (by decide) ?_
  refine ab_iadd d_LA_law_437 ?_
  refine ab_topi (y := 3) (by decide) ?_
  refine ab_iald d_LA_law_438 h0 (by unfold vp_in; decide) ?_
  refine ab_topi (y := (xs 3)) rfl ?_
  refine ab_aload_n d_LA_law_439 rfl ?_
  refine ab_iload d_LA_law_440 rfl ?_
  refine ab_iconst (v := 4) d_LA_law_442 (by decide) ?_
  refine ab_iadd d_LA_law_443 ?_
  refine ab_topi (y := 4) (by decide) ?_
  refine ab_iald d_LA_law_444 h0 (by unfold vp_in; decide) ?_
  refine ab_topi (y := (xs 4)) rfl ?_
  refine ab_aload_n d_LA_law_445 rfl ?_
  refine ab_callSW (d' := d - 1) (as := [vR 18, vI (xs 1), vI (xs 2), vI (xs 3), vI (xs 4), vR 148]) (st := []) (q_LA_match_0 (xs := xs) hlen hsl h18 h30 (by omega)) (fun o G2 h => ⟨_, h.1⟩) (by omega) m_LA_match mw_LA_73 st_LA_match (Nat.le_of_ble_eq_true rfl) d_LA_law_446 rfl ?_
  intro v G1 hq
  obtain ⟨hv, hfk, hlen, hsl, h149⟩ := hq
  cases hv
  have h0 := hfk.get (by decide) h0
  have h18 := hfk.get (by decide) h18
  have h30 := hfk.get (by decide) h30
  have h80 := hfk.get (by decide) h80
  have h112 := hfk.get (by decide) h112
  have hfr := hfr.cl hfk (by decide)
  change ab_W _ _ _ G1 449 [some (vR 0), some (vR 18), some (vR 80), some (vR 148), some (vI 0), none, none] [vI 1] _
  refine ab_istore d_LA_law_449 (Nat.le_of_ble_eq_true rfl) (Nat.le_of_ble_eq_true rfl) rfl ?_
  change ab_W _ _ _ G1 451 [some (vR 0), some (vR 18), some (vR 80), some (vR 148), some (vI 0), some (vI 1), none] [] _
  refine ab_aload_n d_LA_law_451 rfl ?_
  refine ab_aload_n d_LA_law_452 rfl ?_
  refine ab_iload d_LA_law_453 rfl ?_
  refine ab_iconst (v := 1) d_LA_law_455 (by decide) ?_
  refine ab_iadd d_LA_law_456 ?_
  refine ab_topi (y := 1) (by decide) ?_
  refine ab_iald d_LA_law_457 h0 (by unfold vp_in; decide) ?_
  refine ab_topi (y := (xs 1)) rfl ?_
  refine ab_aload_n d_LA_law_458 rfl ?_
  refine ab_iload d_LA_law_459 rfl ?_
  refine ab_iconst (v := 2) d_LA_law_461 (by decide) ?_
  refine ab_iadd d_LA_law_462 ?_
  refine ab_topi (y := 2) (by decide) ?_
  refine ab_iald d_LA_law_463 h0 (by unfold vp_in; decide) ?_
  refine ab_topi (y := (xs 2)) rfl ?_
  refine ab_aload_n d_LA_law_464 rfl ?_
  refine ab_iload d_LA_law_465 rfl ?_
  refine ab_iconst (v := 3) d_LA_law_467 (by decide) ?_
  refine ab_iadd d_LA_law_468 ?_
  refine ab_topi (y := 3) (by decide) ?_
  refine ab_iald d_LA_law_469 h0 (by unfold vp_in; decide) ?_
  refine ab_topi (y := (xs 3)) rfl ?_
  refine ab_aload_n d_LA_law_470 rfl ?_
  refine ab_iload d_LA_law_471 rfl ?_
  refine ab_iconst (v := 4) d_LA_law_473 (by decide) ?_
  refine ab_iadd d_LA_law_474 ?_
  refine ab_topi (y := 4) (by decide) ?_
  refine ab_iald d_LA_law_475 h0 (by unfold vp_in; decide) ?_
  refine ab_topi (y := (xs 4)) rfl ?_
  refine ab_callV (d' := d - 1) (as := [vI (xs 1), vI (xs 2), vI (xs 3), vI (xs 4)]) (st := []) (r := _) (q_MO_match_0 (xs := xs) hlen hsl h80 h112 (by omega)) (fun o G2 h => ⟨_, h.1⟩) (by omega) m_MO_match ml_LA_76 im_MO_match se_MO_match c_MO h80 (Nat.le_of_ble_eq_true rfl) d_LA_law_476 rfl ?_
  intro v G2 hq
  obtain ⟨hv, hfk, hlen, hsl, h80⟩ := hq
  cases hv
  have h0 := hfk.get (by decide) h0
  have h18 := hfk.get (by decide) h18
  have h30 := hfk.get (by decide) h30
  have h112 := hfk.get (by decide) h112
  have h149 := hfk.get (by decide) h149
  have hfr := hfr.cl hfk (by decide)
  change ab_W _ _ _ G2 479 [some (vR 0), some (vR 18), some (vR 80), some (vR 148), some (vI 0), some (vI 1), none] [vI 0] _
  refine ab_istore d_LA_law_479 (Nat.le_of_ble_eq_true rfl) (Nat.le_of_ble_eq_true rfl) rfl ?_
  change ab_W _ _ _ G2 481 [some (vR 0), some (vR 18), some (vR 80), some (vR 148), some (vI 0), some (vI 1), some (vI 0)] [] _
  refine ab_aload_n d_LA_law_481 rfl ?_
  refine ab_callV (d' := d - 1) (as := []) (st := []) (r := _) (q_MO_thrown_0  hlen hsl h80) (fun o G2 h => ⟨_, h.1⟩) (by omega) m_MO_thrown ml_LA_52 im_MO_thrown se_MO_thrown c_MO h80 (Nat.le_of_ble_eq_true rfl) d_LA_law_482 rfl ?_
  intro v G3 hq
  obtain ⟨hv, hfk, hlen, hsl⟩ := hq
  cases hv
  have h0 := hfk.get (by decide) h0
  have h18 := hfk.get (by decide) h18
  have h30 := hfk.get (by decide) h30
  have h80 := hfk.get (by decide) h80
  have h112 := hfk.get (by decide) h112
  have h149 := hfk.get (by decide) h149
  have hfr := hfr.cl hfk (by decide)
  change ab_W _ _ _ G3 485 [some (vR 0), some (vR 18), some (vR 80), some (vR 148), some (vI 0), some (vI 1), some (vI 0)] [vI 1] _
  refine ab_iload d_LA_law_485 rfl ?_
  refine ab_icmp_eq (tgt := 492) d_LA_law_487 (by decide) (fun _ => ?_) (fun c => absurd c (by decide))
  refine ab_iload d_LA_law_492 rfl ?_
  refine ab_if_ne (tgt := 509) d_LA_law_494 (by decide) (fun _ => ?_) (fun c => absurd c (by decide))
  refine ab_goto (tgt := 931) d_LA_law_509 (by decide) ?_
  refine ab_iinc (v := 6) d_LA_law_931 rfl (by decide) (Nat.le_of_ble_eq_true rfl) (Nat.le_of_ble_eq_true rfl) rfl ?_
  change ab_W _ _ _ G3 934 [some (vR 0), some (vR 18), some (vR 80), some (vR 148), some (vI 6), some (vI 1), some (vI 0)] [] _
  refine ab_goto (tgt := 23) d_LA_law_934 (by decide) ?_
  refine ab_iload d_LA_law_23 rfl ?_
  refine ab_aload_n d_LA_law_25 rfl ?_
  refine ab_alen (v := 6) d_LA_law_26 h0 (by first | decide | rfl) ?_
  refine ab_bipush (v := 6) d_LA_law_27 (by decide) ?_
  refine ab_isub d_LA_law_29 ?_
  refine ab_topi (y := 0) (by decide) ?_
  refine ab_icmp_gt (tgt := 937) d_LA_law_30 (by decide) (fun _ => ?_) (fun c => absurd c (by decide))
  refine ab_iconst (v := 1) d_LA_law_937 (by decide) ?_
  exact ab_iret (rt := .boolean) rfl (by decide) d_LA_law_938 (by rw [hQ])
set_option maxRecDepth 100000 in
set_option maxHeartbeats 4000000 in
theorem q_PW_group_0 {X : ab_X} {d : Nat} {G : ab_G} {xs : Nat → Int32} (hlen : G.length = 149) (hsl : ab_slots G = 1832133) (h18 : G[18]? = some (ab_ob 0 [vR 19, vR 20, vR 22, vR 30, vR 31, vR 36, vR 37, vR 46, vR 51, vR 60, vR 69, vR 70, vR 72, vR 74, vR 76, vR 78, vI 0, vI 0])) (h69 : G[69]? = some (ab_if 20 ((fun j => if j < 20 then (-1) else 0)))) : ab_F X d y_PW_group (.code y_PW_group b_PW_group 3 (some (.int))) [vR 18, vI (xs 1), vI (xs 2)] G (fun o G2 => o = .returned (some (vI (-1))) ∧ ab_fr [] G G2 ∧ G2.length = 149 ∧ ab_slots G2 = 1832133) := by
  refine ab_F_of (by decide +kernel) (Nat.le_of_ble_eq_true rfl) ?_
  obtain ⟨Q, hQ⟩ : ∃ z : Outcome → ab_G → Prop, z = (fun o G2 => o = .returned (some (vI (-1))) ∧ ab_fr [] G G2 ∧ G2.length = 149 ∧ ab_slots G2 = 1832133) := ⟨_, rfl⟩
  rw [← hQ]
  change ab_W X (ab_pl y_PW_group b_PW_group 3 (some (.int))) d G 0 [some (vR 18), some (vI (xs 1)), some (vI (xs 2))] [] Q
  have hfr : ab_fr [] G G := ab_fr.rf
  refine ab_iload_n d_PW_group_0 rfl ?_
  refine ab_if_lt (tgt := 19) d_PW_group_1 (by decide) (fun c0 => ?_) (fun c0 => ?_)
  · refine ab_iconst (v := (-1)) d_PW_group_19 (by decide) ?_
    exact ab_iret (rt := .int) rfl rfl d_PW_group_20 (by rw [hQ]; exact ⟨rfl, hfr, hlen, hsl⟩)
  · refine ab_iload_n d_PW_group_4 rfl ?_
    refine ab_bipush (v := 9) d_PW_group_5 (by decide) ?_
    refine ab_icmp_gt (tgt := 19) d_PW_group_7 (by decide) (fun c1 => ?_) (fun c1 => ?_)
    · refine ab_iconst (v := (-1)) d_PW_group_19 (by decide) ?_
      exact ab_iret (rt := .int) rfl rfl d_PW_group_20 (by rw [hQ]; exact ⟨rfl, hfr, hlen, hsl⟩)
    · refine ab_iload_n d_PW_group_10 rfl ?_
      refine ab_if_lt (tgt := 19) d_PW_group_11 (by decide) (fun c2 => ?_) (fun c2 => ?_)
      · refine ab_iconst (v := (-1)) d_PW_group_19 (by decide) ?_
        exact ab_iret (rt := .int) rfl rfl d_PW_group_20 (by rw [hQ]; exact ⟨rfl, hfr, hlen, hsl⟩)
      · refine ab_iload_n d_PW_group_14 rfl ?_
        refine ab_iconst (v := 1) d_PW_group_15 (by decide) ?_
        refine ab_icmp_le (tgt := 21) d_PW_group_16 (by decide) (fun c3 => ?_) (fun c3 => ?_)
        · refine ab_aload_n d_PW_group_21 rfl ?_
          refine ab_getf (fs := [vR 19, vR 20, vR 22, vR 30, vR 31, vR 36, vR 37, vR 46, vR 51, vR 60, vR 69, vR 70, vR 72, vR 74, vR 76, vR 78, vI 0, vI 0]) f_PW_73 d_PW_group_22 h18 rfl ?_
          refine ab_iconst (v := 2) d_PW_group_25 (by decide) ?_
          refine ab_iload_n d_PW_group_26 rfl ?_
          refine ab_imul d_PW_group_27 ?_
          refine ab_iload_n d_PW_group_28 rfl ?_
          refine ab_iadd d_PW_group_29 ?_
          refine ab_iald d_PW_group_30 h69 (vp_in_iff.mpr (by have l0 := (show (0 : Int32).toInt = 0 by decide); have l1 := (show (1 : Int32).toInt = 1 by decide); have l2 := (show (2 : Int32).toInt = 2 by decide); have l3 := (show (9 : Int32).toInt = 9 by decide); simp only [Int32.le_iff_toInt_le, Int32.lt_iff_toInt_lt, ← Int32.toInt_inj] at c0 c1 c2 c3; have e0 : Int32.toInt (2 * (xs 1)) = Int32.toInt 2 * Int32.toInt (xs 1) := i32_mul (by simp only [l0, l1, l2, l3]; omega) (by simp only [l0, l1, l2, l3]; omega); have e1 : Int32.toInt ((2 * (xs 1)) + (xs 2)) = Int32.toInt (2 * (xs 1)) + Int32.toInt (xs 2) := i32_add (by simp only [l0, l1, l2, l3, e0]; omega) (by simp only [l0, l1, l2, l3, e0]; omega); (try simp only [l0, l1, l2, l3] at e0 e1); constructor <;> omega)) ?_
          refine ab_topi (y := (-1)) (if_pos (by rw [← Int32.toNat_toInt]; have l0 := (show (0 : Int32).toInt = 0 by decide); have l1 := (show (1 : Int32).toInt = 1 by decide); have l2 := (show (2 : Int32).toInt = 2 by decide); have l3 := (show (9 : Int32).toInt = 9 by decide); simp only [Int32.le_iff_toInt_le, Int32.lt_iff_toInt_lt, ← Int32.toInt_inj] at c0 c1 c2 c3; have e0 : Int32.toInt (2 * (xs 1)) = Int32.toInt 2 * Int32.toInt (xs 1) := i32_mul (by simp only [l0, l1, l2, l3]; omega) (by simp only [l0, l1, l2, l3]; omega); have e1 : Int32.toInt ((2 * (xs 1)) + (xs 2)) = Int32.toInt (2 * (xs 1)) + Int32.toInt (xs 2) := i32_add (by simp only [l0, l1, l2, l3, e0]; omega) (by simp only [l0, l1, l2, l3, e0]; omega); (try simp only [l0, l1, l2, l3] at e0 e1); omega)) ?_
          exact ab_iret (rt := .int) rfl rfl d_PW_group_31 (by rw [hQ]; exact ⟨rfl, hfr, hlen, hsl⟩)
        · refine ab_iconst (v := (-1)) d_PW_group_19 (by decide) ?_
          exact ab_iret (rt := .int) rfl rfl d_PW_group_20 (by rw [hQ]; exact ⟨rfl, hfr, hlen, hsl⟩)
set_option maxRecDepth 100000 in
set_option maxHeartbeats 4000000 in
theorem q_MO_group_0 {X : ab_X} {d : Nat} {G : ab_G} {xs : Nat → Int32} (hlen : G.length = 149) (hsl : ab_slots G = 1832133) (h80 : G[80]? = some (ab_ob 12 (m_fv (vI 0) (vI 0) (vI 0) (vI 0) (vI 0) (vI 0) (vI 0) (vI 0) (vI 0) (vI 0) (vI 0) (vI 0) (vI (-1)) (vI 0) (vI 0) (vI 0) (vI 0) (vI 0) (vI 0) (vI 0) (vI 0) (vI 0) (vI 0) (vI 0) (vI 0) (vI 0) (vI 0) (vI 0) (vI 0) (vI 0) (vI 0) (vI 0) (vI 0) (vI 0) (vI 0)))) : ab_F X d y_MO_group (.code y_MO_group b_MO_group 3 (some (.int))) [vR 80, vI (xs 1), vI (xs 2)] G (fun o G2 => o = .returned (some (vI (-1))) ∧ ab_fr [80] G G2 ∧ G2.length = 149 ∧ ab_slots G2 = 1832133 ∧ G2[80]? = some (ab_ob 12 (m_fv (vI 0) (vI 0) (vI 0) (vI 0) (vI 0) (vI 0) (vI 0) (vI 0) (vI 0) (vI 0) (vI 0) (vI 0) (vI (-1)) (vI 0) (vI 0) (vI 0) (vI 0) (vI 0) (vI 0) (vI 0) (vI 0) (vI 0) (vI 0) (vI 0) (vI 0) (vI 0) (vI 0) (vI 0) (vI 0) (vI 0) (vI 0) (vI 0) (vI 0) (vI 0) (vI 0)))) := by
  refine ab_F_of (by decide +kernel) (Nat.le_of_ble_eq_true rfl) ?_
  obtain ⟨Q, hQ⟩ : ∃ z : Outcome → ab_G → Prop, z = (fun o G2 => o = .returned (some (vI (-1))) ∧ ab_fr [80] G G2 ∧ G2.length = 149 ∧ ab_slots G2 = 1832133 ∧ G2[80]? = some (ab_ob 12 (m_fv (vI 0) (vI 0) (vI 0) (vI 0) (vI 0) (vI 0) (vI 0) (vI 0) (vI 0) (vI 0) (vI 0) (vI 0) (vI (-1)) (vI 0) (vI 0) (vI 0) (vI 0) (vI 0) (vI 0) (vI 0) (vI 0) (vI 0) (vI 0) (vI 0) (vI 0) (vI 0) (vI 0) (vI 0) (vI 0) (vI 0) (vI 0) (vI 0) (vI 0) (vI 0) (vI 0)))) := ⟨_, rfl⟩
  rw [← hQ]
  change ab_W X (ab_pl y_MO_group b_MO_group 3 (some (.int))) d G 0 [some (vR 80), some (vI (xs 1)), some (vI (xs 2))] [] Q
  have hfr : ab_fr [80] G G := ab_fr.rf
  refine ab_aload_n d_MO_group_0 rfl ?_
  refine ab_iconst (v := 0) d_MO_group_1 (by decide) ?_
  refine ab_putf (fs := (m_fv (vI 0) (vI 0) (vI 0) (vI 0) (vI 0) (vI 0) (vI 0) (vI 0) (vI 0) (vI 0) (vI 0) (vI 0) (vI (-1)) (vI 0) (vI 0) (vI 0) (vI 0) (vI 0) (vI 0) (vI 0) (vI 0) (vI 0) (vI 0) (vI 0) (vI 0) (vI 0) (vI 0) (vI 0) (vI 0) (vI 0) (vI 0) (vI 0) (vI 0) (vI 0) (vI 0))) f_MO_220 (Or.inl rfl) d_MO_group_2 h80 (Nat.le_of_ble_eq_true rfl) (fun _ => ⟨rfl, rfl⟩) (by decide) ?_
  obtain ⟨G1, eG1⟩ : ∃ z : ab_G, z = List.set G 80 (ab_ob 12 (m_fv (vI 0) (vI 0) (vI 0) (vI 0) (vI 0) (vI 0) (vI 0) (vI 0) (vI 0) (vI 0) (vI 0) (vI 0) (vI (-1)) (vI 0) (vI 0) (vI 0) (vI 0) (vI 0) (vI 0) (vI 0) (vI 0) (vI 0) (vI 0) (vI 0) (vI 0) (vI 0) (vI 0) (vI 0) (vI 0) (vI 0) (vI 0) (vI 0) (vI 0) (vI 0) (vI 0))) := ⟨_, rfl⟩
  have hlen := ab_klen eG1 hlen
  have hsl := ab_ksl 102 eG1 h80 rfl rfl hsl
  have hfr := hfr.wr eG1 (by decide)
  have h80 := ab_kept eG1 h80
  change ab_W _ _ _ (List.set G 80 (ab_ob 12 (m_fv (vI 0) (vI 0) (vI 0) (vI 0) (vI 0) (vI 0) (vI 0) (vI 0) (vI 0) (vI 0) (vI 0) (vI 0) (vI (-1)) (vI 0) (vI 0) (vI 0) (vI 0) (vI 0) (vI 0) (vI 0) (vI 0) (vI 0) (vI 0) (vI 0) (vI 0) (vI 0) (vI 0) (vI 0) (vI 0) (vI 0) (vI 0) (vI 0) (vI 0) (vI 0) (vI 0)))) 5 [some (vR 80), some (vI (xs 1)), some (vI (xs 2))] [] _
  rw [← eG1]
  refine ab_aload_n d_MO_group_5 rfl ?_
  refine ab_getf (fs := (m_fv (vI 0) (vI 0) (vI 0) (vI 0) (vI 0) (vI 0) (vI 0) (vI 0) (vI 0) (vI 0) (vI 0) (vI 0) (vI (-1)) (vI 0) (vI 0) (vI 0) (vI 0) (vI 0) (vI 0) (vI 0) (vI 0) (vI 0) (vI 0) (vI 0) (vI 0) (vI 0) (vI 0) (vI 0) (vI 0) (vI 0) (vI 0) (vI 0) (vI 0) (vI 0) (vI 0))) f_MO_563 d_MO_group_6 h80 rfl ?_
  refine ab_if_eq (tgt := 33) d_MO_group_9 (by decide) (fun _ => ?_) (fun c => absurd c (by decide))
  refine ab_iconst (v := (-1)) d_MO_group_33 (by decide) ?_
  refine ab_goto (tgt := 47) d_MO_group_34 (by decide) ?_
  exact ab_iret (rt := .int) rfl rfl d_MO_group_47 (by rw [hQ]; exact ⟨rfl, hfr, hlen, hsl, h80⟩)
set_option maxRecDepth 100000 in
set_option maxHeartbeats 4000000 in
theorem lc_8 {X : ab_X} {d : Nat} {G : ab_G} {xs : Nat → Int32} (hlen : G.length = 149) (hsl : ab_slots G = 1832133) (h0 : G[0]? = some (ab_if 6 (xs))) (h18 : G[18]? = some (ab_ob 0 [vR 19, vR 20, vR 22, vR 30, vR 31, vR 36, vR 37, vR 46, vR 51, vR 60, vR 69, vR 70, vR 72, vR 74, vR 76, vR 78, vI 0, vI 0])) (h69 : G[69]? = some (ab_if 20 ((fun j => if j < 20 then (-1) else 0)))) (h80 : G[80]? = some (ab_ob 12 (m_fv (vI 0) (vI 0) (vI 0) (vI 0) (vI 0) (vI 0) (vI 0) (vI 0) (vI 0) (vI 0) (vI 0) (vI 0) (vI (-1)) (vI 0) (vI 0) (vI 0) (vI 0) (vI 0) (vI 0) (vI 0) (vI 0) (vI 0) (vI 0) (vI 0) (vI 0) (vI 0) (vI 0) (vI 0) (vI 0) (vI 0) (vI 0) (vI 0) (vI 0) (vI 0) (vI 0)))) (hd : 1 ≤ d) : ab_W X ab_LW d G 512 [some (vR 0), some (vR 18), some (vR 80), some (vR 148), some (vI 0), none, none] [] (fun o _ => o = .returned (some (vI 1))) := by
  obtain ⟨Q, hQ⟩ : ∃ z : Outcome → ab_G → Prop, z = (fun o _ => o = .returned (some (vI 1))) := ⟨_, rfl⟩
  rw [← hQ]
  have hfr : ab_fr [80] G G := ab_fr.rf
  refine ab_aload_n d_LA_law_512 rfl ?_
  refine ab_aload_n d_LA_law_513 rfl ?_
  refine ab_iload d_LA_law_514 rfl ?_
  refine ab_iconst (v := 1) d_LA_law_516 (by decide) ?_
  refine ab_iadd d_LA_law_517 ?_
  refine ab_topi (y := 1) (by decide) ?_
  refine ab_iald d_LA_law_518 h0 (by unfold vp_in; decide) ?_
  refine ab_topi (y := (xs 1)) rfl ?_
  refine ab_aload_n d_LA_law_519 rfl ?_
  refine ab_iload d_LA_law_520 rfl ?_
  refine ab_iconst (v := 2) d_LA_law_522 (by decide) ?_
  refine ab_iadd d_LA_law_523 ?_
  refine ab_topi (y := 2) (by decide) ?_
  refine ab_iald d_LA_law_524 h0 (by unfold vp_in; decide) ?_
  refine ab_topi (y := (xs 2)) rfl ?_
  refine ab_callV (d' := d - 1) (as := [vI (xs 1), vI (xs 2)]) (st := []) (r := _) (q_PW_group_0 (xs := xs) hlen hsl h18 h69) (fun o G2 h => ⟨_, h.1⟩) (by omega) m_PW_group ml_LA_77 im_PW_group se_PW_group c_PW h18 (Nat.le_of_ble_eq_true rfl) d_LA_law_525 rfl ?_
  intro v G1 hq
  obtain ⟨hv, hfk, hlen, hsl⟩ := hq
  cases hv
  have h0 := hfk.get (by decide) h0
  have h18 := hfk.get (by decide) h18
  have h69 := hfk.get (by decide) h69
  have h80 := hfk.get (by decide) h80
  have hfr := hfr.cl hfk (by decide)
  change ab_W _ _ _ G1 528 [some (vR 0), some (vR 18), some (vR 80), some (vR 148), some (vI 0), none, none] [vI (-1)] _
  refine ab_aload_n d_LA_law_528 rfl ?_
  refine ab_aload_n d_LA_law_529 rfl ?_
  refine ab_iload d_LA_law_530 rfl ?_
  refine ab_iconst (v := 1) d_LA_law_532 (by decide) ?_
  refine ab_iadd d_LA_law_533 ?_
  refine ab_topi (y := 1) (by decide) ?_
  refine ab_iald d_LA_law_534 h0 (by unfold vp_in; decide) ?_
  refine ab_topi (y := (xs 1)) rfl ?_
  refine ab_aload_n d_LA_law_535 rfl ?_
  refine ab_iload d_LA_law_536 rfl ?_
  refine ab_iconst (v := 2) d_LA_law_538 (by decide) ?_
  refine ab_iadd d_LA_law_539 ?_
  refine ab_topi (y := 2) (by decide) ?_
  refine ab_iald d_LA_law_540 h0 (by unfold vp_in; decide) ?_
  refine ab_topi (y := (xs 2)) rfl ?_
  refine ab_callV (d' := d - 1) (as := [vI (xs 1), vI (xs 2)]) (st := [vI (-1)]) (r := _) (q_MO_group_0 (xs := xs) hlen hsl h80) (fun o G2 h => ⟨_, h.1⟩) (by omega) m_MO_group ml_LA_80 im_MO_group se_MO_group c_MO h80 (Nat.le_of_ble_eq_true rfl) d_LA_law_541 rfl ?_
  intro v G2 hq
  obtain ⟨hv, hfk, hlen, hsl, h80⟩ := hq
  cases hv
  have h0 := hfk.get (by decide) h0
  have h18 := hfk.get (by decide) h18
  have h69 := hfk.get (by decide) h69
  have hfr := hfr.cl hfk (by decide)
  change ab_W _ _ _ G2 544 [some (vR 0), some (vR 18), some (vR 80), some (vR 148), some (vI 0), none, none] [vI (-1), vI (-1)] _
  refine ab_icmp_eq (tgt := 931) d_LA_law_544 (by decide) (fun _ => ?_) (fun c => absurd c (by decide))
  refine ab_iinc (v := 6) d_LA_law_931 rfl (by decide) (Nat.le_of_ble_eq_true rfl) (Nat.le_of_ble_eq_true rfl) rfl ?_
  change ab_W _ _ _ G2 934 [some (vR 0), some (vR 18), some (vR 80), some (vR 148), some (vI 6), none, none] [] _
  refine ab_goto (tgt := 23) d_LA_law_934 (by decide) ?_
  refine ab_iload d_LA_law_23 rfl ?_
  refine ab_aload_n d_LA_law_25 rfl ?_
  refine ab_alen (v := 6) d_LA_law_26 h0 (by first | decide | rfl) ?_
  refine ab_bipush (v := 6) d_LA_law_27 (by decide) ?_
  refine ab_isub d_LA_law_29 ?_
  refine ab_topi (y := 0) (by decide) ?_
  refine ab_icmp_gt (tgt := 937) d_LA_law_30 (by decide) (fun _ => ?_) (fun c => absurd c (by decide))
  refine ab_iconst (v := 1) d_LA_law_937 (by decide) ?_
  exact ab_iret (rt := .boolean) rfl (by decide) d_LA_law_938 (by rw [hQ])
set_option maxRecDepth 100000 in
set_option maxHeartbeats 4000000 in
theorem q_PW_all_0 {X : ab_X} {d : Nat} {G : ab_G} {xs : Nat → Int32} (hlen : G.length = 149) (hsl : ab_slots G = 1832133) (h18 : G[18]? = some (ab_ob 0 [vR 19, vR 20, vR 22, vR 30, vR 31, vR 36, vR 37, vR 46, vR 51, vR 60, vR 69, vR 70, vR 72, vR 74, vR 76, vR 78, vI 0, vI 0])) (h30 : G[30]? = some (.inl (3, 6, .inr (.inr (.inr (.inr (fun _ => none))))))) (hd : 6 ≤ d) : ab_F X d y_PW_all (.code y_PW_all b_PW_all 5 (some (.int))) [vR 18, vI (xs 1)] G (fun o G2 => o = .threw 149 ∧ ab_fr [149] G G2 ∧ G2.length = 150 ∧ ab_slots G2 = 1832139 ∧ G2[149]? = some (ab_ob 13 [])) := by
  refine ab_F_of (by decide +kernel) (Nat.le_of_ble_eq_true rfl) ?_
  obtain ⟨Q, hQ⟩ : ∃ z : Outcome → ab_G → Prop, z = (fun o G2 => o = .threw 149 ∧ ab_fr [149] G G2 ∧ G2.length = 150 ∧ ab_slots G2 = 1832139 ∧ G2[149]? = some (ab_ob 13 [])) := ⟨_, rfl⟩
  rw [← hQ]
  change ab_W X (ab_pl y_PW_all b_PW_all 5 (some (.int))) d G 0 [some (vR 18), some (vI (xs 1)), none, none, none] [] Q
  have hfr : ab_fr [149] G G := ab_fr.rf
  refine ab_aload_n d_PW_all_0 rfl ?_
  refine ab_iload_n d_PW_all_1 rfl ?_
  refine ab_callV (d' := d - 1) (as := [vI (xs 1)]) (st := []) (r := _) (q_PW_programAt_0 (xs := xs) hlen hsl h18 h30) (fun o G2 h => ⟨_, h.1⟩) (by omega) m_PW_programAt ml_PW_148 im_PW_programAt se_PW_programAt c_PW h18 (Nat.le_of_ble_eq_true rfl) d_PW_all_2 rfl ?_
  intro v G1 hq
  obtain ⟨hv, hfk, hlen, hsl⟩ := hq
  cases hv
  have h18 := hfk.get (by decide) h18
  have h30 := hfk.get (by decide) h30
  have hfr := hfr.cl hfk (by decide)
  change ab_W _ _ _ G1 5 [some (vR 18), some (vI (xs 1)), none, none, none] [vN] _
  refine ab_astore_nN d_PW_all_5 (Nat.le_of_ble_eq_true rfl) (Nat.le_of_ble_eq_true rfl) rfl ?_
  change ab_W _ _ _ G1 6 [some (vR 18), some (vI (xs 1)), some (vN), none, none] [] _
  refine ab_aload_nN d_PW_all_6 rfl ?_
  refine ab_ifnonnullN d_PW_all_7 ?_
  refine ab_throw (tx := "no pattern there") (by decide) (fun c h => h) cl_PW_109 inst_IA ini_IA tw_PW_113 d_PW_all_10 d_PW_all_13 d_PW_all_14 d_PW_all_16 d_PW_all_19 (by omega) (by rw [hlen]; decide) (by rw [hsl]; decide) ?_
  rw [hlen]
  obtain ⟨G2, eG2⟩ : ∃ z : ab_G, z = G1 ++ [ab_ob 13 []] := ⟨_, rfl⟩
  have h18 := ab_akeep eG2 h18
  have h30 := ab_akeep eG2 h30
  have h149 := ab_anew1 eG2 hlen
  have hsl : ab_slots G2 = 1832139 := ab_asl (z := 6) eG2 hlen (by decide) hsl rfl (by decide)
  have hlen : G2.length = 150 := ab_alen1 eG2 hlen
  have hfr := hfr.ap eG2
  rw [← eG2, hQ]
  exact ⟨rfl, hfr, hlen, hsl, h149⟩
set_option maxRecDepth 100000 in
set_option maxHeartbeats 4000000 in
theorem q_LA_all_0 {X : ab_X} {d : Nat} {G : ab_G} {xs : Nat → Int32} (hlen : G.length = 149) (hsl : ab_slots G = 1832133) (h18 : G[18]? = some (ab_ob 0 [vR 19, vR 20, vR 22, vR 30, vR 31, vR 36, vR 37, vR 46, vR 51, vR 60, vR 69, vR 70, vR 72, vR 74, vR 76, vR 78, vI 0, vI 0])) (h30 : G[30]? = some (.inl (3, 6, .inr (.inr (.inr (.inr (fun _ => none))))))) (hd : 7 ≤ d) : ab_F X d y_LA_all (.codeWith y_LA_all b_LA_all 4 (some (.int)) [(0, 9, 12, 13)]) [vR 18, vI (xs 1), vR 148] G (fun o G2 => o = .returned (some (vI 1)) ∧ ab_fr [149] G G2 ∧ G2.length = 150 ∧ ab_slots G2 = 1832139 ∧ G2[149]? = some (ab_ob 13 [])) := by
  refine ab_F_ofW (by decide +kernel) (Nat.le_of_ble_eq_true rfl) ?_
  obtain ⟨Q, hQ⟩ : ∃ z : Outcome → ab_G → Prop, z = (fun o G2 => o = .returned (some (vI 1)) ∧ ab_fr [149] G G2 ∧ G2.length = 150 ∧ ab_slots G2 = 1832139 ∧ G2[149]? = some (ab_ob 13 [])) := ⟨_, rfl⟩
  rw [← hQ]
  change ab_W X (ab_plW y_LA_all b_LA_all 4 (some (.int)) [(0, 9, 12, 13)]) d G 0 [some (vR 18), some (vI (xs 1)), some (vR 148), none] [] Q
  have hfr : ab_fr [149] G G := ab_fr.rf
  refine ab_aload_n d_LA_all_0 rfl ?_
  refine ab_iconst (v := 0) d_LA_all_1 (by decide) ?_
  refine ab_aload_n d_LA_all_2 rfl ?_
  refine ab_iload_n d_LA_all_3 rfl ?_
  refine ab_callVT (d' := d - 1) (hp := 12) (ct := 13) (as := [vI (xs 1)]) (st := [vI 0, vR 148]) (q_PW_all_0 (xs := xs) hlen hsl h18 h30 (by omega)) (fun o G2 h => ⟨_, h.1, h.2.2.2.2⟩) (by omega) m_PW_all mw_LA_19 im_PW_all se_PW_all c_PW h18 (Nat.le_of_ble_eq_true rfl) d_LA_all_4 rfl (fun c hc => ab_hx hc (by decide)) (by decide) cl_LA_13 cast_IA ?_
  intro v G1 hq
  obtain ⟨hv, hfk, hlen, hsl, h149⟩ := hq
  cases hv
  have h18 := hfk.get (by decide) h18
  have h30 := hfk.get (by decide) h30
  have hfr := hfr.cl hfk (by decide)
  change ab_W _ _ _ G1 12 [some (vR 18), some (vI (xs 1)), some (vR 148), none] [vR 149] _
  refine ab_astore_n d_LA_all_12 (Nat.le_of_ble_eq_true rfl) (Nat.le_of_ble_eq_true rfl) rfl ?_
  change ab_W _ _ _ G1 13 [some (vR 18), some (vI (xs 1)), some (vR 148), some (vR 149)] [] _
  refine ab_iconst (v := 1) d_LA_all_13 (by decide) ?_
  exact ab_iret (rt := .int) rfl rfl d_LA_all_14 (by rw [hQ]; exact ⟨rfl, hfr, hlen, hsl, h149⟩)
set_option maxRecDepth 100000 in
set_option maxHeartbeats 4000000 in
theorem q_MO_all_0 {X : ab_X} {d : Nat} {G : ab_G} {xs : Nat → Int32} (hlen : G.length = 150) (hsl : ab_slots G = 1832139) (h80 : G[80]? = some (ab_ob 12 (m_fv (vI 0) (vI 0) (vI 0) (vI 0) (vI 0) (vI 0) (vI 0) (vI 0) (vI 0) (vI 0) (vI 0) (vI 0) (vI (-1)) (vI 0) (vI 0) (vI 0) (vI 0) (vI 0) (vI 0) (vI 0) (vI 0) (vI 0) (vI 0) (vI 0) (vI 0) (vI 0) (vI 0) (vI 0) (vI 0) (vI 0) (vI 0) (vI 0) (vI 0) (vI 0) (vI 0)))) (h112 : G[112]? = some (ab_zf 6 ((fun _ => 0)))) (hd : 1 ≤ d) : ab_F X d y_MO_all (.code y_MO_all b_MO_all 2 (some (.int))) [vR 80, vI (xs 1)] G (fun o G2 => o = .returned (some (vI 0)) ∧ ab_fr [80] G G2 ∧ G2.length = 150 ∧ ab_slots G2 = 1832139 ∧ G2[80]? = some (ab_ob 12 (m_fv (vI 1) (vI 0) (vI 0) (vI 0) (vI 0) (vI 0) (vI 0) (vI 0) (vI 0) (vI 0) (vI 0) (vI 0) (vI (-1)) (vI 0) (vI 0) (vI 0) (vI 0) (vI 0) (vI 0) (vI 0) (vI 0) (vI 0) (vI 0) (vI 0) (vI 0) (vI 0) (vI 0) (vI 0) (vI 0) (vI 0) (vI 0) (vI 0) (vI 0) (vI 0) (vI 0)))) := by
  refine ab_F_of (by decide +kernel) (Nat.le_of_ble_eq_true rfl) ?_
  obtain ⟨Q, hQ⟩ : ∃ z : Outcome → ab_G → Prop, z = (fun o G2 => o = .returned (some (vI 0)) ∧ ab_fr [80] G G2 ∧ G2.length = 150 ∧ ab_slots G2 = 1832139 ∧ G2[80]? = some (ab_ob 12 (m_fv (vI 1) (vI 0) (vI 0) (vI 0) (vI 0) (vI 0) (vI 0) (vI 0) (vI 0) (vI 0) (vI 0) (vI 0) (vI (-1)) (vI 0) (vI 0) (vI 0) (vI 0) (vI 0) (vI 0) (vI 0) (vI 0) (vI 0) (vI 0) (vI 0) (vI 0) (vI 0) (vI 0) (vI 0) (vI 0) (vI 0) (vI 0) (vI 0) (vI 0) (vI 0) (vI 0)))) := ⟨_, rfl⟩
  rw [← hQ]
  change ab_W X (ab_pl y_MO_all b_MO_all 2 (some (.int))) d G 0 [some (vR 80), some (vI (xs 1))] [] Q
  have hfr : ab_fr [80] G G := ab_fr.rf
  refine ab_aload_n d_MO_all_0 rfl ?_
  refine ab_aload_n d_MO_all_1 rfl ?_
  refine ab_iload_n d_MO_all_2 rfl ?_
  refine ab_callV (d' := d - 1) (as := [vI (xs 1)]) (st := [vR 80]) (r := _) (q_MO_isThere_1 (xs := xs) hlen hsl h80 h112) (fun o G2 h => ⟨_, h.1⟩) (by omega) m_MO_isThere ml_MO_507 im_MO_isThere se_MO_isThere c_MO h80 (Nat.le_of_ble_eq_true rfl) d_MO_all_3 rfl ?_
  intro v G1 hq
  obtain ⟨hv, hfk, hlen, hsl⟩ := hq
  cases hv
  have h80 := hfk.get (by decide) h80
  have h112 := hfk.get (by decide) h112
  have hfr := hfr.cl hfk (by decide)
  change ab_W _ _ _ G1 6 [some (vR 80), some (vI (xs 1))] [vI 0, vR 80] _
  refine ab_if_eq (tgt := 13) d_MO_all_6 (by decide) (fun _ => ?_) (fun c => absurd c (by decide))
  refine ab_iconst (v := 1) d_MO_all_13 (by decide) ?_
  refine ab_putf (fs := (m_fv (vI 0) (vI 0) (vI 0) (vI 0) (vI 0) (vI 0) (vI 0) (vI 0) (vI 0) (vI 0) (vI 0) (vI 0) (vI (-1)) (vI 0) (vI 0) (vI 0) (vI 0) (vI 0) (vI 0) (vI 0) (vI 0) (vI 0) (vI 0) (vI 0) (vI 0) (vI 0) (vI 0) (vI 0) (vI 0) (vI 0) (vI 0) (vI 0) (vI 0) (vI 0) (vI 0))) f_MO_220 (Or.inl rfl) d_MO_all_14 h80 (Nat.le_of_ble_eq_true rfl) (fun _ => ⟨rfl, rfl⟩) (by decide) ?_
  obtain ⟨G2, eG2⟩ : ∃ z : ab_G, z = List.set G1 80 (ab_ob 12 (m_fv (vI 1) (vI 0) (vI 0) (vI 0) (vI 0) (vI 0) (vI 0) (vI 0) (vI 0) (vI 0) (vI 0) (vI 0) (vI (-1)) (vI 0) (vI 0) (vI 0) (vI 0) (vI 0) (vI 0) (vI 0) (vI 0) (vI 0) (vI 0) (vI 0) (vI 0) (vI 0) (vI 0) (vI 0) (vI 0) (vI 0) (vI 0) (vI 0) (vI 0) (vI 0) (vI 0))) := ⟨_, rfl⟩
  have h112 := ab_keep eG2 (by decide) h112
  have hlen := ab_klen eG2 hlen
  have hsl := ab_ksl 102 eG2 h80 rfl rfl hsl
  have hfr := hfr.wr eG2 (by decide)
  have h80 := ab_kept eG2 h80
  change ab_W _ _ _ (List.set G1 80 (ab_ob 12 (m_fv (vI 1) (vI 0) (vI 0) (vI 0) (vI 0) (vI 0) (vI 0) (vI 0) (vI 0) (vI 0) (vI 0) (vI 0) (vI (-1)) (vI 0) (vI 0) (vI 0) (vI 0) (vI 0) (vI 0) (vI 0) (vI 0) (vI 0) (vI 0) (vI 0) (vI 0) (vI 0) (vI 0) (vI 0) (vI 0) (vI 0) (vI 0) (vI 0) (vI 0) (vI 0) (vI 0)))) 17 [some (vR 80), some (vI (xs 1))] [] _
  rw [← eG2]
  refine ab_aload_n d_MO_all_17 rfl ?_
  refine ab_getf (fs := (m_fv (vI 1) (vI 0) (vI 0) (vI 0) (vI 0) (vI 0) (vI 0) (vI 0) (vI 0) (vI 0) (vI 0) (vI 0) (vI (-1)) (vI 0) (vI 0) (vI 0) (vI 0) (vI 0) (vI 0) (vI 0) (vI 0) (vI 0) (vI 0) (vI 0) (vI 0) (vI 0) (vI 0) (vI 0) (vI 0) (vI 0) (vI 0) (vI 0) (vI 0) (vI 0) (vI 0))) f_MO_220 d_MO_all_18 h80 rfl ?_
  refine ab_if_le (tgt := 26) d_MO_all_21 (by decide) (fun c => absurd c (by decide)) (fun _ => ?_)
  refine ab_iconst (v := 0) d_MO_all_24 (by decide) ?_
  exact ab_iret (rt := .int) rfl rfl d_MO_all_25 (by rw [hQ]; exact ⟨rfl, hfr, hlen, hsl, h80⟩)
set_option maxRecDepth 100000 in
set_option maxHeartbeats 4000000 in
theorem lc_9 {X : ab_X} {d : Nat} {G : ab_G} {xs : Nat → Int32} (hlen : G.length = 149) (hsl : ab_slots G = 1832133) (h0 : G[0]? = some (ab_if 6 (xs))) (h18 : G[18]? = some (ab_ob 0 [vR 19, vR 20, vR 22, vR 30, vR 31, vR 36, vR 37, vR 46, vR 51, vR 60, vR 69, vR 70, vR 72, vR 74, vR 76, vR 78, vI 0, vI 0])) (h30 : G[30]? = some (.inl (3, 6, .inr (.inr (.inr (.inr (fun _ => none))))))) (h80 : G[80]? = some (ab_ob 12 (m_fv (vI 0) (vI 0) (vI 0) (vI 0) (vI 0) (vI 0) (vI 0) (vI 0) (vI 0) (vI 0) (vI 0) (vI 0) (vI (-1)) (vI 0) (vI 0) (vI 0) (vI 0) (vI 0) (vI 0) (vI 0) (vI 0) (vI 0) (vI 0) (vI 0) (vI 0) (vI 0) (vI 0) (vI 0) (vI 0) (vI 0) (vI 0) (vI 0) (vI 0) (vI 0) (vI 0)))) (h112 : G[112]? = some (ab_zf 6 ((fun _ => 0)))) (hd : 8 ≤ d) : ab_W X ab_LW d G 549 [some (vR 0), some (vR 18), some (vR 80), some (vR 148), some (vI 0), none, none] [] (fun o _ => o = .returned (some (vI 1))) := by
  obtain ⟨Q, hQ⟩ : ∃ z : Outcome → ab_G → Prop, z = (fun o _ => o = .returned (some (vI 1))) := ⟨_, rfl⟩
  rw [← hQ]
  have hfr : ab_fr [80, 149] G G := ab_fr.rf
  refine ab_aload_n d_LA_law_549 rfl ?_
  refine ab_aload_n d_LA_law_550 rfl ?_
  refine ab_iload d_LA_law_551 rfl ?_
  refine ab_iconst (v := 1) d_LA_law_553 (by decide) ?_
  refine ab_iadd d_LA_law_554 ?_
  refine ab_topi (y := 1) (by decide) ?_
  refine ab_iald d_LA_law_555 h0 (by unfold vp_in; decide) ?_
  refine ab_topi (y := (xs 1)) rfl ?_
  refine ab_aload_n d_LA_law_556 rfl ?_
  refine ab_callSW (d' := d - 1) (as := [vR 18, vI (xs 1), vR 148]) (st := []) (q_LA_all_0 (xs := xs) hlen hsl h18 h30 (by omega)) (fun o G2 h => ⟨_, h.1⟩) (by omega) m_LA_all mw_LA_81 st_LA_all (Nat.le_of_ble_eq_true rfl) d_LA_law_557 rfl ?_
  intro v G1 hq
  obtain ⟨hv, hfk, hlen, hsl, h149⟩ := hq
  cases hv
  have h0 := hfk.get (by decide) h0
  have h18 := hfk.get (by decide) h18
  have h30 := hfk.get (by decide) h30
  have h80 := hfk.get (by decide) h80
  have h112 := hfk.get (by decide) h112
  have hfr := hfr.cl hfk (by decide)
  change ab_W _ _ _ G1 560 [some (vR 0), some (vR 18), some (vR 80), some (vR 148), some (vI 0), none, none] [vI 1] _
  refine ab_istore d_LA_law_560 (Nat.le_of_ble_eq_true rfl) (Nat.le_of_ble_eq_true rfl) rfl ?_
  change ab_W _ _ _ G1 562 [some (vR 0), some (vR 18), some (vR 80), some (vR 148), some (vI 0), some (vI 1), none] [] _
  refine ab_aload_n d_LA_law_562 rfl ?_
  refine ab_aload_n d_LA_law_563 rfl ?_
  refine ab_iload d_LA_law_564 rfl ?_
  refine ab_iconst (v := 1) d_LA_law_566 (by decide) ?_
  refine ab_iadd d_LA_law_567 ?_
  refine ab_topi (y := 1) (by decide) ?_
  refine ab_iald d_LA_law_568 h0 (by unfold vp_in; decide) ?_
  refine ab_topi (y := (xs 1)) rfl ?_
  refine ab_callV (d' := d - 1) (as := [vI (xs 1)]) (st := []) (r := _) (q_MO_all_0 (xs := xs) hlen hsl h80 h112 (by omega)) (fun o G2 h => ⟨_, h.1⟩) (by omega) m_MO_all ml_LA_84 im_MO_all se_MO_all c_MO h80 (Nat.le_of_ble_eq_true rfl) d_LA_law_569 rfl ?_
  intro v G2 hq
  obtain ⟨hv, hfk, hlen, hsl, h80⟩ := hq
  cases hv
  have h0 := hfk.get (by decide) h0
  have h18 := hfk.get (by decide) h18
  have h30 := hfk.get (by decide) h30
  have h112 := hfk.get (by decide) h112
  have h149 := hfk.get (by decide) h149
  have hfr := hfr.cl hfk (by decide)
  change ab_W _ _ _ G2 572 [some (vR 0), some (vR 18), some (vR 80), some (vR 148), some (vI 0), some (vI 1), none] [vI 0] _
  refine ab_istore d_LA_law_572 (Nat.le_of_ble_eq_true rfl) (Nat.le_of_ble_eq_true rfl) rfl ?_
  change ab_W _ _ _ G2 574 [some (vR 0), some (vR 18), some (vR 80), some (vR 148), some (vI 0), some (vI 1), some (vI 0)] [] _
  refine ab_aload_n d_LA_law_574 rfl ?_
  refine ab_callV (d' := d - 1) (as := []) (st := []) (r := _) (q_MO_thrown_0  hlen hsl h80) (fun o G2 h => ⟨_, h.1⟩) (by omega) m_MO_thrown ml_LA_52 im_MO_thrown se_MO_thrown c_MO h80 (Nat.le_of_ble_eq_true rfl) d_LA_law_575 rfl ?_
  intro v G3 hq
  obtain ⟨hv, hfk, hlen, hsl⟩ := hq
  cases hv
  have h0 := hfk.get (by decide) h0
  have h18 := hfk.get (by decide) h18
  have h30 := hfk.get (by decide) h30
  have h80 := hfk.get (by decide) h80
  have h112 := hfk.get (by decide) h112
  have h149 := hfk.get (by decide) h149
  have hfr := hfr.cl hfk (by decide)
  change ab_W _ _ _ G3 578 [some (vR 0), some (vR 18), some (vR 80), some (vR 148), some (vI 0), some (vI 1), some (vI 0)] [vI 1] _
  refine ab_iload d_LA_law_578 rfl ?_
  refine ab_icmp_eq (tgt := 585) d_LA_law_580 (by decide) (fun _ => ?_) (fun c => absurd c (by decide))
  refine ab_iload d_LA_law_585 rfl ?_
  refine ab_if_ne (tgt := 602) d_LA_law_587 (by decide) (fun _ => ?_) (fun c => absurd c (by decide))
  refine ab_goto (tgt := 931) d_LA_law_602 (by decide) ?_
  refine ab_iinc (v := 6) d_LA_law_931 rfl (by decide) (Nat.le_of_ble_eq_true rfl) (Nat.le_of_ble_eq_true rfl) rfl ?_
  change ab_W _ _ _ G3 934 [some (vR 0), some (vR 18), some (vR 80), some (vR 148), some (vI 6), some (vI 1), some (vI 0)] [] _
  refine ab_goto (tgt := 23) d_LA_law_934 (by decide) ?_
  refine ab_iload d_LA_law_23 rfl ?_
  refine ab_aload_n d_LA_law_25 rfl ?_
  refine ab_alen (v := 6) d_LA_law_26 h0 (by first | decide | rfl) ?_
  refine ab_bipush (v := 6) d_LA_law_27 (by decide) ?_
  refine ab_isub d_LA_law_29 ?_
  refine ab_topi (y := 0) (by decide) ?_
  refine ab_icmp_gt (tgt := 937) d_LA_law_30 (by decide) (fun _ => ?_) (fun c => absurd c (by decide))
  refine ab_iconst (v := 1) d_LA_law_937 (by decide) ?_
  exact ab_iret (rt := .boolean) rfl (by decide) d_LA_law_938 (by rw [hQ])
set_option maxRecDepth 100000 in
set_option maxHeartbeats 4000000 in
theorem q_PW_pairAt_0 {X : ab_X} {d : Nat} {G : ab_G} {xs : Nat → Int32} (hlen : G.length = 149) (hsl : ab_slots G = 1832133) (h70 : G[70]? = some (ab_ob 7 [vI 4002, vR 71, vI 0])) : ab_F X d y_PW_pairAt (.code y_PW_pairAt b_PW_pairAt 4 (some (.int))) [vR 70, vI (xs 1), vI (xs 2)] G (fun o G2 => o = .returned (some (vI (-1))) ∧ ab_fr [] G G2 ∧ G2.length = 149 ∧ ab_slots G2 = 1832133) := by
  refine ab_F_of (by decide +kernel) (Nat.le_of_ble_eq_true rfl) ?_
  obtain ⟨Q, hQ⟩ : ∃ z : Outcome → ab_G → Prop, z = (fun o G2 => o = .returned (some (vI (-1))) ∧ ab_fr [] G G2 ∧ G2.length = 149 ∧ ab_slots G2 = 1832133) := ⟨_, rfl⟩
  rw [← hQ]
  change ab_W X (ab_pl y_PW_pairAt b_PW_pairAt 4 (some (.int))) d G 0 [some (vR 70), some (vI (xs 1)), some (vI (xs 2)), none] [] Q
  have hfr : ab_fr [] G G := ab_fr.rf
  refine ab_iload_n d_PW_pairAt_0 rfl ?_
  refine ab_if_lt (tgt := 27) d_PW_pairAt_1 (by decide) (fun c0 => ?_) (fun c0 => ?_)
  · refine ab_iconst (v := 0) d_PW_pairAt_27 (by decide) ?_
    refine ab_istore_n d_PW_pairAt_28 (Nat.le_of_ble_eq_true rfl) (Nat.le_of_ble_eq_true rfl) rfl ?_
    change ab_W _ _ _ G 29 [some (vR 70), some (vI (xs 1)), some (vI (xs 2)), some (vI 0)] [] _
    refine ab_iload_n d_PW_pairAt_29 rfl ?_
    refine ab_if_eq (tgt := 45) d_PW_pairAt_30 (by decide) (fun _ => ?_) (fun c => absurd c (by decide))
    refine ab_iconst (v := (-1)) d_PW_pairAt_45 (by decide) ?_
    exact ab_iret (rt := .int) rfl rfl d_PW_pairAt_46 (by rw [hQ]; exact ⟨rfl, hfr, hlen, hsl⟩)
  · refine ab_iload_n d_PW_pairAt_4 rfl ?_
    refine ab_aload_n d_PW_pairAt_5 rfl ?_
    refine ab_getf (fs := [vI 4002, vR 71, vI 0]) f_PW_101 d_PW_pairAt_6 h70 rfl ?_
    refine ab_iconst (v := 2) d_PW_pairAt_9 (by decide) ?_
    refine ab_idiv d_PW_pairAt_10 (by decide) ?_
    refine ab_topi (y := 0) (by decide) ?_
    refine ab_icmp_ge (tgt := 27) d_PW_pairAt_11 (by decide) (fun c1 => ?_) (fun c1 => ?_)
    · refine ab_iconst (v := 0) d_PW_pairAt_27 (by decide) ?_
      refine ab_istore_n d_PW_pairAt_28 (Nat.le_of_ble_eq_true rfl) (Nat.le_of_ble_eq_true rfl) rfl ?_
      change ab_W _ _ _ G 29 [some (vR 70), some (vI (xs 1)), some (vI (xs 2)), some (vI 0)] [] _
      refine ab_iload_n d_PW_pairAt_29 rfl ?_
      refine ab_if_eq (tgt := 45) d_PW_pairAt_30 (by decide) (fun _ => ?_) (fun c => absurd c (by decide))
      refine ab_iconst (v := (-1)) d_PW_pairAt_45 (by decide) ?_
      exact ab_iret (rt := .int) rfl rfl d_PW_pairAt_46 (by rw [hQ]; exact ⟨rfl, hfr, hlen, hsl⟩)
    · exfalso; have l0 := (show (0 : Int32).toInt = 0 by decide); simp only [Int32.le_iff_toInt_le, Int32.lt_iff_toInt_lt, ← Int32.toInt_inj] at c0 c1; omega
